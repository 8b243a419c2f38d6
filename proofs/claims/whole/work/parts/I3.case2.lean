/-! THE LAW: its cases -/
set_option maxHeartbeats 4000000 in
set_option maxRecDepth 100000 in
theorem lw_case21 {p : Program} {l : Launch} {e : Env} {s : State} {m : MethodId} {below : List Frame} {meth : Method} {c : Code} {H : Heap} {locs : List Loc} {cells slots : Nat} {Q : State → Prop} {b L K : Nat} {N0 : Nat} {D : va_G} {ca : Nat → ClassId} {M : zM} {xs : Nat → Int32} {i4 : Int32} {ls : Array Slot} (X : lwX p s m c b D ca) (hX : va_X b L xs s s.heap) (hbl : b < s.heap.size) (hN : N0 = s.heap.size) (hK1 : 240 < K) (hK2 : K < 100000) (hin : ∀ j : Int32, 0 ≤ j.toInt → j.toInt < 5 → vp_in (i4 + j) L) (hR1 : cells ≤ 601024) (hR2 : slots ≤ 7293034) (hl : lv_has ls 7 [(0, .ref b), (1, .ref (N0 + 0)), (2, .ref (N0 + 139)), (3, .ref (N0 + 177)), (4, .int i4)]) (hs0 : lwS N0 D ca K M H) (hS : va_S (z_A N0) s.heap H locs) (kk : ∀ (M1 : zM) (H1 : Heap) (locs1 : List Loc), lwS N0 D ca (K + 1) M1 H1 → va_S (z_A N0) s.heap H1 locs1 → W p l e room_1 s m #[Value.ref b] below meth c H1 locs1 cells slots Q (F0 m 1308 ls [])) : W p l e room_1 s m #[Value.ref b] below meth c H locs cells slots Q (F0 m 835 ls []) := by
  obtain ⟨hx, hb, hml, hown, hta, hCx⟩ := id X
  obtain ⟨hH, hShp, f, o, g, hC, hM, hR⟩ := hs0
  have hbA : ¬ z_A N0 b := by rw [hN]; exact Nat.not_le.mpr hbl
  refine lv_aload_n hx hb d_law_835 rfl (lv_at hl 1 rfl) ?_
  refine lv_aload_n hx hb d_law_836 rfl (lv_at hl 0 rfl) ?_
  refine lv_iload hx hb d_law_837 (lv_at hl 4 rfl) ?_
  refine lv_iconst (v := 1) hx hb d_law_839 (by decide) ?_
  refine lv_iadd hx hb d_law_840 ?_
  refine va_sld hx hb hX hbl hbA hS (hin 1 (by decide) (by decide)) d_law_841 ?_
  refine lw_call (N0 := N0) (a := 0) (ci := 11) (C := z_C11) (T := z_T11) (N := 18) (i1 := 923) (i2 := 924) (i3 := 925) (as := [.int (xs (i4 + 1).toNatClampNeg)]) (rest := []) X zg_CG_off (Zm.kI (st_off K hK1 hK2 (xs (i4 + 1).toNatClampNeg) M f o g hC hM hR) (Or.inl rfl)) (by decide) rfl rfl (hC.1 0 (by decide) (by decide) (by decide)) rfl (by decide +kernel) (by decide +kernel) (by decide +kernel) hH hS hShp (fun r M1 hp => hShp.c hp.1.1 hp.1.2.1) hl.1 rfl (by decide) d_law_842 hR1 hR2 (fun r M1 H1 locs1 hp hH1 hS1 => ?_)
  obtain ⟨⟨hc1, hsm1, v, rfl, hz2⟩, x, hvx⟩ := hp
  have hv : v = .int x := Option.some.inj hvx
  subst hv
  have hShp1 := hShp.c hc1 hsm1
  have hS := hS1
  have hM1 := hM.smc hsm1
  show W p l e room_1 s m #[Value.ref b] below meth c H1 locs1 cells slots Q (F0 m 845 ls [.int x])
  refine lv_aload_n hx hb d_law_845 rfl (lv_at hl 2 rfl) ?_
  refine lv_aload_n hx hb d_law_846 rfl (lv_at hl 0 rfl) ?_
  refine lv_iload hx hb d_law_847 (lv_at hl 4 rfl) ?_
  refine lv_iconst (v := 1) hx hb d_law_849 (by decide) ?_
  refine lv_iadd hx hb d_law_850 ?_
  refine va_sld hx hb hX hbl hbA hS (hin 1 (by decide) (by decide)) d_law_851 ?_
  refine lw_call (N0 := N0) (a := 139) (ci := 12) (C := z_C12) (T := z_T12) (N := 50) (i1 := 1715) (i2 := 1716) (i3 := 1717) (as := [.int (xs (i4 + 1).toNatClampNeg)]) (rest := [.int x]) X zg_MO_off hz2 (by decide) rfl rfl hM1.1 rfl (by decide +kernel) (by decide +kernel) (by decide +kernel) hH1 hS hShp1 (fun r M2 hp => by obtain ⟨-, f9, o9, g9, p1, p2, p3, p4, p5⟩ := hp; exact hShp.m p1 p2 p4 p5) hl.1 rfl (Nat.le_of_ble_eq_true rfl) d_law_852 hR1 hR2 (fun r M2 H2 locs2 hp hH2 hS2 => ?_)
  obtain ⟨rfl, f9, o9, g9, p1, p2, p3, p4, p5⟩ := hp
  show W p l e room_1 s m #[Value.ref b] below meth c H2 locs2 cells slots Q (F0 m 855 ls [.int x, .int x])
  refine lv_icmp_eq (tgt := 1308) hx hb d_law_855 (by decide) (fun _ => ?_) (fun q => absurd rfl q)
  exact kk M2 H2 locs2 ⟨hH2, hShp.m p1 p2 p4 p5, f9, o9, g9, p1, p2, p3⟩ hS2

set_option maxHeartbeats 4000000 in
set_option maxRecDepth 100000 in
theorem lw_case22 {p : Program} {l : Launch} {e : Env} {s : State} {m : MethodId} {below : List Frame} {meth : Method} {c : Code} {H : Heap} {locs : List Loc} {cells slots : Nat} {Q : State → Prop} {b L K : Nat} {N0 : Nat} {D : va_G} {ca : Nat → ClassId} {M : zM} {xs : Nat → Int32} {i4 : Int32} {ls : Array Slot} (X : lwX p s m c b D ca) (hX : va_X b L xs s s.heap) (hbl : b < s.heap.size) (hN : N0 = s.heap.size) (hK1 : 240 < K) (hK2 : K < 100000) (hin : ∀ j : Int32, 0 ≤ j.toInt → j.toInt < 5 → vp_in (i4 + j) L) (hR1 : cells ≤ 601024) (hR2 : slots ≤ 7293034) (hl : lv_has ls 7 [(0, .ref b), (1, .ref (N0 + 0)), (2, .ref (N0 + 139)), (3, .ref (N0 + 177)), (4, .int i4)]) (hs0 : lwS N0 D ca K M H) (hS : va_S (z_A N0) s.heap H locs) (kk : ∀ (M1 : zM) (H1 : Heap) (locs1 : List Loc), lwS N0 D ca (K + 1) M1 H1 → va_S (z_A N0) s.heap H1 locs1 → W p l e room_1 s m #[Value.ref b] below meth c H1 locs1 cells slots Q (F0 m 1308 ls [])) : W p l e room_1 s m #[Value.ref b] below meth c H locs cells slots Q (F0 m 860 ls []) := by
  obtain ⟨hx, hb, hml, hown, hta, hCx⟩ := id X
  obtain ⟨hH, hShp, f, o, g, hC, hM, hR⟩ := hs0
  have hbA : ¬ z_A N0 b := by rw [hN]; exact Nat.not_le.mpr hbl
  refine lv_aload_n hx hb d_law_860 rfl (lv_at hl 1 rfl) ?_
  refine lv_aload_n hx hb d_law_861 rfl (lv_at hl 0 rfl) ?_
  refine lv_iload hx hb d_law_862 (lv_at hl 4 rfl) ?_
  refine lv_iconst (v := 1) hx hb d_law_864 (by decide) ?_
  refine lv_iadd hx hb d_law_865 ?_
  refine va_sld hx hb hX hbl hbA hS (hin 1 (by decide) (by decide)) d_law_866 ?_
  refine lv_aload_n hx hb d_law_867 rfl (lv_at hl 0 rfl) ?_
  refine lv_iload hx hb d_law_868 (lv_at hl 4 rfl) ?_
  refine lv_iconst (v := 2) hx hb d_law_870 (by decide) ?_
  refine lv_iadd hx hb d_law_871 ?_
  refine va_sld hx hb hX hbl hbA hS (hin 2 (by decide) (by decide)) d_law_872 ?_
  refine lw_call (N0 := N0) (a := 0) (ci := 11) (C := z_C11) (T := z_T11) (N := 18) (i1 := 931) (i2 := 932) (i3 := 933) (as := [.int (xs (i4 + 1).toNatClampNeg), .int (xs (i4 + 2).toNatClampNeg)]) (rest := []) X zg_CG_about (Zm.kI (st_about K hK1 hK2 (xs (i4 + 1).toNatClampNeg) (xs (i4 + 2).toNatClampNeg) M f o g hC hM hR) (Or.inl rfl)) (by decide) rfl rfl (hC.1 0 (by decide) (by decide) (by decide)) rfl (by decide +kernel) (by decide +kernel) (by decide +kernel) hH hS hShp (fun r M1 hp => hShp.c hp.1.1 hp.1.2.1) hl.1 rfl (by decide) d_law_873 hR1 hR2 (fun r M1 H1 locs1 hp hH1 hS1 => ?_)
  obtain ⟨⟨hc1, hsm1, v, rfl, hz2⟩, x, hvx⟩ := hp
  have hv : v = .int x := Option.some.inj hvx
  subst hv
  have hShp1 := hShp.c hc1 hsm1
  have hS := hS1
  have hM1 := hM.smc hsm1
  show W p l e room_1 s m #[Value.ref b] below meth c H1 locs1 cells slots Q (F0 m 876 ls [.int x])
  refine lv_aload_n hx hb d_law_876 rfl (lv_at hl 2 rfl) ?_
  refine lv_aload_n hx hb d_law_877 rfl (lv_at hl 0 rfl) ?_
  refine lv_iload hx hb d_law_878 (lv_at hl 4 rfl) ?_
  refine lv_iconst (v := 1) hx hb d_law_880 (by decide) ?_
  refine lv_iadd hx hb d_law_881 ?_
  refine va_sld hx hb hX hbl hbA hS (hin 1 (by decide) (by decide)) d_law_882 ?_
  refine lv_aload_n hx hb d_law_883 rfl (lv_at hl 0 rfl) ?_
  refine lv_iload hx hb d_law_884 (lv_at hl 4 rfl) ?_
  refine lv_iconst (v := 2) hx hb d_law_886 (by decide) ?_
  refine lv_iadd hx hb d_law_887 ?_
  refine va_sld hx hb hX hbl hbA hS (hin 2 (by decide) (by decide)) d_law_888 ?_
  refine lw_call (N0 := N0) (a := 139) (ci := 12) (C := z_C12) (T := z_T12) (N := 50) (i1 := 1723) (i2 := 1724) (i3 := 1725) (as := [.int (xs (i4 + 1).toNatClampNeg), .int (xs (i4 + 2).toNatClampNeg)]) (rest := [.int x]) X zg_MO_about hz2 (by decide) rfl rfl hM1.1 rfl (by decide +kernel) (by decide +kernel) (by decide +kernel) hH1 hS hShp1 (fun r M2 hp => by obtain ⟨-, f9, o9, g9, p1, p2, p3, p4, p5⟩ := hp; exact hShp.m p1 p2 p4 p5) hl.1 rfl (Nat.le_of_ble_eq_true rfl) d_law_889 hR1 hR2 (fun r M2 H2 locs2 hp hH2 hS2 => ?_)
  obtain ⟨rfl, f9, o9, g9, p1, p2, p3, p4, p5⟩ := hp
  show W p l e room_1 s m #[Value.ref b] below meth c H2 locs2 cells slots Q (F0 m 892 ls [.int x, .int x])
  refine lv_icmp_eq (tgt := 1308) hx hb d_law_892 (by decide) (fun _ => ?_) (fun q => absurd rfl q)
  exact kk M2 H2 locs2 ⟨hH2, hShp.m p1 p2 p4 p5, f9, o9, g9, p1, p2, p3⟩ hS2

set_option maxHeartbeats 4000000 in
set_option maxRecDepth 100000 in
theorem lw_case23 {p : Program} {l : Launch} {e : Env} {s : State} {m : MethodId} {below : List Frame} {meth : Method} {c : Code} {H : Heap} {locs : List Loc} {cells slots : Nat} {Q : State → Prop} {b L K : Nat} {N0 : Nat} {D : va_G} {ca : Nat → ClassId} {M : zM} {xs : Nat → Int32} {i4 : Int32} {ls : Array Slot} (X : lwX p s m c b D ca) (hX : va_X b L xs s s.heap) (hbl : b < s.heap.size) (hN : N0 = s.heap.size) (hK1 : 240 < K) (hK2 : K < 100000) (hin : ∀ j : Int32, 0 ≤ j.toInt → j.toInt < 5 → vp_in (i4 + j) L) (hR1 : cells ≤ 601024) (hR2 : slots ≤ 7293034) (hl : lv_has ls 7 [(0, .ref b), (1, .ref (N0 + 0)), (2, .ref (N0 + 139)), (3, .ref (N0 + 177)), (4, .int i4)]) (hs0 : lwS N0 D ca K M H) (hS : va_S (z_A N0) s.heap H locs) (kk : ∀ (M1 : zM) (H1 : Heap) (locs1 : List Loc), lwS N0 D ca (K + 1) M1 H1 → va_S (z_A N0) s.heap H1 locs1 → W p l e room_1 s m #[Value.ref b] below meth c H1 locs1 cells slots Q (F0 m 1308 ls [])) : W p l e room_1 s m #[Value.ref b] below meth c H locs cells slots Q (F0 m 897 ls []) := by
  obtain ⟨hx, hb, hml, hown, hta, hCx⟩ := id X
  obtain ⟨hH, hShp, f, o, g, hC, hM, hR⟩ := hs0
  have hbA : ¬ z_A N0 b := by rw [hN]; exact Nat.not_le.mpr hbl
  refine lv_aload_n hx hb d_law_897 rfl (lv_at hl 1 rfl) ?_
  refine lv_aload_n hx hb d_law_898 rfl (lv_at hl 0 rfl) ?_
  refine lv_iload hx hb d_law_899 (lv_at hl 4 rfl) ?_
  refine lv_iconst (v := 1) hx hb d_law_901 (by decide) ?_
  refine lv_iadd hx hb d_law_902 ?_
  refine va_sld hx hb hX hbl hbA hS (hin 1 (by decide) (by decide)) d_law_903 ?_
  refine lw_call (N0 := N0) (a := 0) (ci := 11) (C := z_C11) (T := z_T11) (N := 18) (i1 := 948) (i2 := 949) (i3 := 950) (as := [.int (xs (i4 + 1).toNatClampNeg)]) (rest := []) X zg_CG_tree (Zm.kI (st_tree K hK1 hK2 (xs (i4 + 1).toNatClampNeg) M f o g hC hM hR) (Or.inl rfl)) (by decide) rfl rfl (hC.1 0 (by decide) (by decide) (by decide)) rfl (by decide +kernel) (by decide +kernel) (by decide +kernel) hH hS hShp (fun r M1 hp => hShp.c hp.1.1 hp.1.2.1) hl.1 rfl (by decide) d_law_904 hR1 hR2 (fun r M1 H1 locs1 hp hH1 hS1 => ?_)
  obtain ⟨⟨hc1, hsm1, v, rfl, hz2⟩, x, hvx⟩ := hp
  have hv : v = .int x := Option.some.inj hvx
  subst hv
  have hShp1 := hShp.c hc1 hsm1
  have hS := hS1
  have hM1 := hM.smc hsm1
  show W p l e room_1 s m #[Value.ref b] below meth c H1 locs1 cells slots Q (F0 m 907 ls [.int x])
  refine lv_aload_n hx hb d_law_907 rfl (lv_at hl 2 rfl) ?_
  refine lv_aload_n hx hb d_law_908 rfl (lv_at hl 0 rfl) ?_
  refine lv_iload hx hb d_law_909 (lv_at hl 4 rfl) ?_
  refine lv_iconst (v := 1) hx hb d_law_911 (by decide) ?_
  refine lv_iadd hx hb d_law_912 ?_
  refine va_sld hx hb hX hbl hbA hS (hin 1 (by decide) (by decide)) d_law_913 ?_
  refine lw_call (N0 := N0) (a := 139) (ci := 12) (C := z_C12) (T := z_T12) (N := 50) (i1 := 1728) (i2 := 1729) (i3 := 1730) (as := [.int (xs (i4 + 1).toNatClampNeg)]) (rest := [.int x]) X zg_MO_tree hz2 (by decide) rfl rfl hM1.1 rfl (by decide +kernel) (by decide +kernel) (by decide +kernel) hH1 hS hShp1 (fun r M2 hp => by obtain ⟨-, f9, o9, g9, p1, p2, p3, p4, p5⟩ := hp; exact hShp.m p1 p2 p4 p5) hl.1 rfl (Nat.le_of_ble_eq_true rfl) d_law_914 hR1 hR2 (fun r M2 H2 locs2 hp hH2 hS2 => ?_)
  obtain ⟨rfl, f9, o9, g9, p1, p2, p3, p4, p5⟩ := hp
  show W p l e room_1 s m #[Value.ref b] below meth c H2 locs2 cells slots Q (F0 m 917 ls [.int x, .int x])
  refine lv_icmp_eq (tgt := 1308) hx hb d_law_917 (by decide) (fun _ => ?_) (fun q => absurd rfl q)
  exact kk M2 H2 locs2 ⟨hH2, hShp.m p1 p2 p4 p5, f9, o9, g9, p1, p2, p3⟩ hS2

set_option maxHeartbeats 4000000 in
set_option maxRecDepth 100000 in
theorem lw_case24 {p : Program} {l : Launch} {e : Env} {s : State} {m : MethodId} {below : List Frame} {meth : Method} {c : Code} {H : Heap} {locs : List Loc} {cells slots : Nat} {Q : State → Prop} {b L K : Nat} {N0 : Nat} {D : va_G} {ca : Nat → ClassId} {M : zM} {xs : Nat → Int32} {i4 : Int32} {ls : Array Slot} (X : lwX p s m c b D ca) (hX : va_X b L xs s s.heap) (hbl : b < s.heap.size) (hN : N0 = s.heap.size) (hK1 : 240 < K) (hK2 : K < 100000) (hin : ∀ j : Int32, 0 ≤ j.toInt → j.toInt < 5 → vp_in (i4 + j) L) (hR1 : cells ≤ 601024) (hR2 : slots ≤ 7293034) (hl : lv_has ls 7 [(0, .ref b), (1, .ref (N0 + 0)), (2, .ref (N0 + 139)), (3, .ref (N0 + 177)), (4, .int i4)]) (hs0 : lwS N0 D ca K M H) (hS : va_S (z_A N0) s.heap H locs) (kk : ∀ (M1 : zM) (H1 : Heap) (locs1 : List Loc), lwS N0 D ca (K + 1) M1 H1 → va_S (z_A N0) s.heap H1 locs1 → W p l e room_1 s m #[Value.ref b] below meth c H1 locs1 cells slots Q (F0 m 1308 ls [])) : W p l e room_1 s m #[Value.ref b] below meth c H locs cells slots Q (F0 m 922 ls []) := by
  obtain ⟨hx, hb, hml, hown, hta, hCx⟩ := id X
  obtain ⟨hH, hShp, f, o, g, hC, hM, hR⟩ := hs0
  have hbA : ¬ z_A N0 b := by rw [hN]; exact Nat.not_le.mpr hbl
  refine lv_aload_n hx hb d_law_922 rfl (lv_at hl 1 rfl) ?_
  refine lv_aload_n hx hb d_law_923 rfl (lv_at hl 0 rfl) ?_
  refine lv_iload hx hb d_law_924 (lv_at hl 4 rfl) ?_
  refine lv_iconst (v := 1) hx hb d_law_926 (by decide) ?_
  refine lv_iadd hx hb d_law_927 ?_
  refine va_sld hx hb hX hbl hbA hS (hin 1 (by decide) (by decide)) d_law_928 ?_
  refine lv_aload_n hx hb d_law_929 rfl (lv_at hl 0 rfl) ?_
  refine lv_iload hx hb d_law_930 (lv_at hl 4 rfl) ?_
  refine lv_iconst (v := 2) hx hb d_law_932 (by decide) ?_
  refine lv_iadd hx hb d_law_933 ?_
  refine va_sld hx hb hX hbl hbA hS (hin 2 (by decide) (by decide)) d_law_934 ?_
  refine lw_call (N0 := N0) (a := 0) (ci := 11) (C := z_C11) (T := z_T11) (N := 18) (i1 := 969) (i2 := 970) (i3 := 971) (as := [.int (xs (i4 + 1).toNatClampNeg), .int (xs (i4 + 2).toNatClampNeg)]) (rest := []) X zg_CG_move (Zm.kI (st_move K hK1 hK2 (xs (i4 + 1).toNatClampNeg) (xs (i4 + 2).toNatClampNeg) M f o g hC hM hR) (Or.inl rfl)) (by decide) rfl rfl (hC.1 0 (by decide) (by decide) (by decide)) rfl (by decide +kernel) (by decide +kernel) (by decide +kernel) hH hS hShp (fun r M1 hp => hShp.c hp.1.1 hp.1.2.1) hl.1 rfl (by decide) d_law_935 hR1 hR2 (fun r M1 H1 locs1 hp hH1 hS1 => ?_)
  obtain ⟨⟨hc1, hsm1, v, rfl, hz2⟩, x, hvx⟩ := hp
  have hv : v = .int x := Option.some.inj hvx
  subst hv
  have hShp1 := hShp.c hc1 hsm1
  have hS := hS1
  have hM1 := hM.smc hsm1
  show W p l e room_1 s m #[Value.ref b] below meth c H1 locs1 cells slots Q (F0 m 938 ls [.int x])
  refine lv_aload_n hx hb d_law_938 rfl (lv_at hl 2 rfl) ?_
  refine lv_aload_n hx hb d_law_939 rfl (lv_at hl 0 rfl) ?_
  refine lv_iload hx hb d_law_940 (lv_at hl 4 rfl) ?_
  refine lv_iconst (v := 1) hx hb d_law_942 (by decide) ?_
  refine lv_iadd hx hb d_law_943 ?_
  refine va_sld hx hb hX hbl hbA hS (hin 1 (by decide) (by decide)) d_law_944 ?_
  refine lv_aload_n hx hb d_law_945 rfl (lv_at hl 0 rfl) ?_
  refine lv_iload hx hb d_law_946 (lv_at hl 4 rfl) ?_
  refine lv_iconst (v := 2) hx hb d_law_948 (by decide) ?_
  refine lv_iadd hx hb d_law_949 ?_
  refine va_sld hx hb hX hbl hbA hS (hin 2 (by decide) (by decide)) d_law_950 ?_
  refine lw_call (N0 := N0) (a := 139) (ci := 12) (C := z_C12) (T := z_T12) (N := 50) (i1 := 1740) (i2 := 1741) (i3 := 1742) (as := [.int (xs (i4 + 1).toNatClampNeg), .int (xs (i4 + 2).toNatClampNeg)]) (rest := [.int x]) X zg_MO_move hz2 (by decide) rfl rfl hM1.1 rfl (by decide +kernel) (by decide +kernel) (by decide +kernel) hH1 hS hShp1 (fun r M2 hp => by obtain ⟨-, f9, o9, g9, p1, p2, p3, p4, p5⟩ := hp; exact hShp.m p1 p2 p4 p5) hl.1 rfl (Nat.le_of_ble_eq_true rfl) d_law_951 hR1 hR2 (fun r M2 H2 locs2 hp hH2 hS2 => ?_)
  obtain ⟨rfl, f9, o9, g9, p1, p2, p3, p4, p5⟩ := hp
  show W p l e room_1 s m #[Value.ref b] below meth c H2 locs2 cells slots Q (F0 m 954 ls [.int x, .int x])
  refine lv_icmp_eq (tgt := 1308) hx hb d_law_954 (by decide) (fun _ => ?_) (fun q => absurd rfl q)
  exact kk M2 H2 locs2 ⟨hH2, hShp.m p1 p2 p4 p5, f9, o9, g9, p1, p2, p3⟩ hS2

set_option maxHeartbeats 4000000 in
set_option maxRecDepth 100000 in
theorem lw_case25 {p : Program} {l : Launch} {e : Env} {s : State} {m : MethodId} {below : List Frame} {meth : Method} {c : Code} {H : Heap} {locs : List Loc} {cells slots : Nat} {Q : State → Prop} {b L K : Nat} {N0 : Nat} {D : va_G} {ca : Nat → ClassId} {M : zM} {xs : Nat → Int32} {i4 : Int32} {ls : Array Slot} (X : lwX p s m c b D ca) (hX : va_X b L xs s s.heap) (hbl : b < s.heap.size) (hN : N0 = s.heap.size) (hK1 : 240 < K) (hK2 : K < 100000) (hin : ∀ j : Int32, 0 ≤ j.toInt → j.toInt < 5 → vp_in (i4 + j) L) (hR1 : cells ≤ 601024) (hR2 : slots ≤ 7293034) (hl : lv_has ls 7 [(0, .ref b), (1, .ref (N0 + 0)), (2, .ref (N0 + 139)), (3, .ref (N0 + 177)), (4, .int i4)]) (hs0 : lwS N0 D ca K M H) (hS : va_S (z_A N0) s.heap H locs) (kk : ∀ (M1 : zM) (H1 : Heap) (locs1 : List Loc), lwS N0 D ca (K + 1) M1 H1 → va_S (z_A N0) s.heap H1 locs1 → W p l e room_1 s m #[Value.ref b] below meth c H1 locs1 cells slots Q (F0 m 1308 ls [])) : W p l e room_1 s m #[Value.ref b] below meth c H locs cells slots Q (F0 m 959 ls []) := by
  obtain ⟨hx, hb, hml, hown, hta, hCx⟩ := id X
  obtain ⟨hH, hShp, f, o, g, hC, hM, hR⟩ := hs0
  have hbA : ¬ z_A N0 b := by rw [hN]; exact Nat.not_le.mpr hbl
  refine lv_aload_n hx hb d_law_959 rfl (lv_at hl 1 rfl) ?_
  refine lv_aload_n hx hb d_law_960 rfl (lv_at hl 0 rfl) ?_
  refine lv_iload hx hb d_law_961 (lv_at hl 4 rfl) ?_
  refine lv_iconst (v := 1) hx hb d_law_963 (by decide) ?_
  refine lv_iadd hx hb d_law_964 ?_
  refine va_sld hx hb hX hbl hbA hS (hin 1 (by decide) (by decide)) d_law_965 ?_
  refine lv_aload_n hx hb d_law_966 rfl (lv_at hl 0 rfl) ?_
  refine lv_iload hx hb d_law_967 (lv_at hl 4 rfl) ?_
  refine lv_iconst (v := 2) hx hb d_law_969 (by decide) ?_
  refine lv_iadd hx hb d_law_970 ?_
  refine va_sld hx hb hX hbl hbA hS (hin 2 (by decide) (by decide)) d_law_971 ?_
  refine lv_aload_n hx hb d_law_972 rfl (lv_at hl 0 rfl) ?_
  refine lv_iload hx hb d_law_973 (lv_at hl 4 rfl) ?_
  refine lv_iconst (v := 3) hx hb d_law_975 (by decide) ?_
  refine lv_iadd hx hb d_law_976 ?_
  refine va_sld hx hb hX hbl hbA hS (hin 3 (by decide) (by decide)) d_law_977 ?_
  refine lw_call (N0 := N0) (a := 0) (ci := 11) (C := z_C11) (T := z_T11) (N := 18) (i1 := 990) (i2 := 991) (i3 := 992) (as := [.int (xs (i4 + 1).toNatClampNeg), .int (xs (i4 + 2).toNatClampNeg), .int (xs (i4 + 3).toNatClampNeg)]) (rest := []) X zg_CG_put (Zm.kI (st_put K hK1 hK2 (xs (i4 + 1).toNatClampNeg) (xs (i4 + 2).toNatClampNeg) (xs (i4 + 3).toNatClampNeg) M f o g hC hM hR) (Or.inl rfl)) (by decide) rfl rfl (hC.1 0 (by decide) (by decide) (by decide)) rfl (by decide +kernel) (by decide +kernel) (by decide +kernel) hH hS hShp (fun r M1 hp => hShp.c hp.1.1 hp.1.2.1) hl.1 rfl (by decide) d_law_978 hR1 hR2 (fun r M1 H1 locs1 hp hH1 hS1 => ?_)
  obtain ⟨⟨hc1, hsm1, v, rfl, hz2⟩, x, hvx⟩ := hp
  have hv : v = .int x := Option.some.inj hvx
  subst hv
  have hShp1 := hShp.c hc1 hsm1
  have hS := hS1
  have hM1 := hM.smc hsm1
  show W p l e room_1 s m #[Value.ref b] below meth c H1 locs1 cells slots Q (F0 m 981 ls [.int x])
  refine lv_aload_n hx hb d_law_981 rfl (lv_at hl 2 rfl) ?_
  refine lv_aload_n hx hb d_law_982 rfl (lv_at hl 0 rfl) ?_
  refine lv_iload hx hb d_law_983 (lv_at hl 4 rfl) ?_
  refine lv_iconst (v := 1) hx hb d_law_985 (by decide) ?_
  refine lv_iadd hx hb d_law_986 ?_
  refine va_sld hx hb hX hbl hbA hS (hin 1 (by decide) (by decide)) d_law_987 ?_
  refine lv_aload_n hx hb d_law_988 rfl (lv_at hl 0 rfl) ?_
  refine lv_iload hx hb d_law_989 (lv_at hl 4 rfl) ?_
  refine lv_iconst (v := 2) hx hb d_law_991 (by decide) ?_
  refine lv_iadd hx hb d_law_992 ?_
  refine va_sld hx hb hX hbl hbA hS (hin 2 (by decide) (by decide)) d_law_993 ?_
  refine lv_aload_n hx hb d_law_994 rfl (lv_at hl 0 rfl) ?_
  refine lv_iload hx hb d_law_995 (lv_at hl 4 rfl) ?_
  refine lv_iconst (v := 3) hx hb d_law_997 (by decide) ?_
  refine lv_iadd hx hb d_law_998 ?_
  refine va_sld hx hb hX hbl hbA hS (hin 3 (by decide) (by decide)) d_law_999 ?_
  refine lw_call (N0 := N0) (a := 139) (ci := 12) (C := z_C12) (T := z_T12) (N := 50) (i1 := 1758) (i2 := 1759) (i3 := 1760) (as := [.int (xs (i4 + 1).toNatClampNeg), .int (xs (i4 + 2).toNatClampNeg), .int (xs (i4 + 3).toNatClampNeg)]) (rest := [.int x]) X zg_MO_put hz2 (by decide) rfl rfl hM1.1 rfl (by decide +kernel) (by decide +kernel) (by decide +kernel) hH1 hS hShp1 (fun r M2 hp => by obtain ⟨-, f9, o9, g9, p1, p2, p3, p4, p5⟩ := hp; exact hShp.m p1 p2 p4 p5) hl.1 rfl (Nat.le_of_ble_eq_true rfl) d_law_1000 hR1 hR2 (fun r M2 H2 locs2 hp hH2 hS2 => ?_)
  obtain ⟨rfl, f9, o9, g9, p1, p2, p3, p4, p5⟩ := hp
  show W p l e room_1 s m #[Value.ref b] below meth c H2 locs2 cells slots Q (F0 m 1003 ls [.int x, .int x])
  refine lv_icmp_eq (tgt := 1308) hx hb d_law_1003 (by decide) (fun _ => ?_) (fun q => absurd rfl q)
  exact kk M2 H2 locs2 ⟨hH2, hShp.m p1 p2 p4 p5, f9, o9, g9, p1, p2, p3⟩ hS2

set_option maxHeartbeats 4000000 in
set_option maxRecDepth 100000 in
theorem lw_case26 {p : Program} {l : Launch} {e : Env} {s : State} {m : MethodId} {below : List Frame} {meth : Method} {c : Code} {H : Heap} {locs : List Loc} {cells slots : Nat} {Q : State → Prop} {b L K : Nat} {N0 : Nat} {D : va_G} {ca : Nat → ClassId} {M : zM} {xs : Nat → Int32} {i4 : Int32} {ls : Array Slot} (X : lwX p s m c b D ca) (hX : va_X b L xs s s.heap) (hbl : b < s.heap.size) (hN : N0 = s.heap.size) (hK1 : 240 < K) (hK2 : K < 100000) (hin : ∀ j : Int32, 0 ≤ j.toInt → j.toInt < 5 → vp_in (i4 + j) L) (hR1 : cells ≤ 601024) (hR2 : slots ≤ 7293034) (hl : lv_has ls 7 [(0, .ref b), (1, .ref (N0 + 0)), (2, .ref (N0 + 139)), (3, .ref (N0 + 177)), (4, .int i4)]) (hs0 : lwS N0 D ca K M H) (hS : va_S (z_A N0) s.heap H locs) (kk : ∀ (M1 : zM) (H1 : Heap) (locs1 : List Loc), lwS N0 D ca (K + 1) M1 H1 → va_S (z_A N0) s.heap H1 locs1 → W p l e room_1 s m #[Value.ref b] below meth c H1 locs1 cells slots Q (F0 m 1308 ls [])) : W p l e room_1 s m #[Value.ref b] below meth c H locs cells slots Q (F0 m 1008 ls []) := by
  obtain ⟨hx, hb, hml, hown, hta, hCx⟩ := id X
  obtain ⟨hH, hShp, f, o, g, hC, hM, hR⟩ := hs0
  have hbA : ¬ z_A N0 b := by rw [hN]; exact Nat.not_le.mpr hbl
  refine lv_aload_n hx hb d_law_1008 rfl (lv_at hl 1 rfl) ?_
  refine lv_aload_n hx hb d_law_1009 rfl (lv_at hl 0 rfl) ?_
  refine lv_iload hx hb d_law_1010 (lv_at hl 4 rfl) ?_
  refine lv_iconst (v := 1) hx hb d_law_1012 (by decide) ?_
  refine lv_iadd hx hb d_law_1013 ?_
  refine va_sld hx hb hX hbl hbA hS (hin 1 (by decide) (by decide)) d_law_1014 ?_
  refine lw_call (N0 := N0) (a := 0) (ci := 11) (C := z_C11) (T := z_T11) (N := 18) (i1 := 1006) (i2 := 1007) (i3 := 1008) (as := [.int (xs (i4 + 1).toNatClampNeg)]) (rest := []) X zg_CG_take (Zm.kI (st_take K hK1 hK2 (xs (i4 + 1).toNatClampNeg) M f o g hC hM hR) (Or.inl rfl)) (by decide) rfl rfl (hC.1 0 (by decide) (by decide) (by decide)) rfl (by decide +kernel) (by decide +kernel) (by decide +kernel) hH hS hShp (fun r M1 hp => hShp.c hp.1.1 hp.1.2.1) hl.1 rfl (by decide) d_law_1015 hR1 hR2 (fun r M1 H1 locs1 hp hH1 hS1 => ?_)
  obtain ⟨⟨hc1, hsm1, v, rfl, hz2⟩, x, hvx⟩ := hp
  have hv : v = .int x := Option.some.inj hvx
  subst hv
  have hShp1 := hShp.c hc1 hsm1
  have hS := hS1
  have hM1 := hM.smc hsm1
  show W p l e room_1 s m #[Value.ref b] below meth c H1 locs1 cells slots Q (F0 m 1018 ls [.int x])
  refine lv_aload_n hx hb d_law_1018 rfl (lv_at hl 2 rfl) ?_
  refine lv_aload_n hx hb d_law_1019 rfl (lv_at hl 0 rfl) ?_
  refine lv_iload hx hb d_law_1020 (lv_at hl 4 rfl) ?_
  refine lv_iconst (v := 1) hx hb d_law_1022 (by decide) ?_
  refine lv_iadd hx hb d_law_1023 ?_
  refine va_sld hx hb hX hbl hbA hS (hin 1 (by decide) (by decide)) d_law_1024 ?_
  refine lw_call (N0 := N0) (a := 139) (ci := 12) (C := z_C12) (T := z_T12) (N := 50) (i1 := 1770) (i2 := 1771) (i3 := 1772) (as := [.int (xs (i4 + 1).toNatClampNeg)]) (rest := [.int x]) X zg_MO_take hz2 (by decide) rfl rfl hM1.1 rfl (by decide +kernel) (by decide +kernel) (by decide +kernel) hH1 hS hShp1 (fun r M2 hp => by obtain ⟨-, f9, o9, g9, p1, p2, p3, p4, p5⟩ := hp; exact hShp.m p1 p2 p4 p5) hl.1 rfl (Nat.le_of_ble_eq_true rfl) d_law_1025 hR1 hR2 (fun r M2 H2 locs2 hp hH2 hS2 => ?_)
  obtain ⟨rfl, f9, o9, g9, p1, p2, p3, p4, p5⟩ := hp
  show W p l e room_1 s m #[Value.ref b] below meth c H2 locs2 cells slots Q (F0 m 1028 ls [.int x, .int x])
  refine lv_icmp_eq (tgt := 1308) hx hb d_law_1028 (by decide) (fun _ => ?_) (fun q => absurd rfl q)
  exact kk M2 H2 locs2 ⟨hH2, hShp.m p1 p2 p4 p5, f9, o9, g9, p1, p2, p3⟩ hS2

set_option maxHeartbeats 4000000 in
set_option maxRecDepth 100000 in
theorem lw_case27 {p : Program} {l : Launch} {e : Env} {s : State} {m : MethodId} {below : List Frame} {meth : Method} {c : Code} {H : Heap} {locs : List Loc} {cells slots : Nat} {Q : State → Prop} {b L K : Nat} {N0 : Nat} {D : va_G} {ca : Nat → ClassId} {M : zM} {xs : Nat → Int32} {i4 : Int32} {ls : Array Slot} (X : lwX p s m c b D ca) (hX : va_X b L xs s s.heap) (hbl : b < s.heap.size) (hN : N0 = s.heap.size) (hK1 : 240 < K) (hK2 : K < 100000) (hin : ∀ j : Int32, 0 ≤ j.toInt → j.toInt < 5 → vp_in (i4 + j) L) (hR1 : cells ≤ 601024) (hR2 : slots ≤ 7293034) (hl : lv_has ls 7 [(0, .ref b), (1, .ref (N0 + 0)), (2, .ref (N0 + 139)), (3, .ref (N0 + 177)), (4, .int i4)]) (hs0 : lwS N0 D ca K M H) (hS : va_S (z_A N0) s.heap H locs) (kk : ∀ (M1 : zM) (H1 : Heap) (locs1 : List Loc), lwS N0 D ca (K + 1) M1 H1 → va_S (z_A N0) s.heap H1 locs1 → W p l e room_1 s m #[Value.ref b] below meth c H1 locs1 cells slots Q (F0 m 1308 ls [])) : W p l e room_1 s m #[Value.ref b] below meth c H locs cells slots Q (F0 m 1033 ls []) := by
  obtain ⟨hx, hb, hml, hown, hta, hCx⟩ := id X
  obtain ⟨hH, hShp, f, o, g, hC, hM, hR⟩ := hs0
  have hbA : ¬ z_A N0 b := by rw [hN]; exact Nat.not_le.mpr hbl
  refine lv_aload_n hx hb d_law_1033 rfl (lv_at hl 1 rfl) ?_
  refine lv_aload_n hx hb d_law_1034 rfl (lv_at hl 0 rfl) ?_
  refine lv_iload hx hb d_law_1035 (lv_at hl 4 rfl) ?_
  refine lv_iconst (v := 1) hx hb d_law_1037 (by decide) ?_
  refine lv_iadd hx hb d_law_1038 ?_
  refine va_sld hx hb hX hbl hbA hS (hin 1 (by decide) (by decide)) d_law_1039 ?_
  refine lv_aload_n hx hb d_law_1040 rfl (lv_at hl 0 rfl) ?_
  refine lv_iload hx hb d_law_1041 (lv_at hl 4 rfl) ?_
  refine lv_iconst (v := 2) hx hb d_law_1043 (by decide) ?_
  refine lv_iadd hx hb d_law_1044 ?_
  refine va_sld hx hb hX hbl hbA hS (hin 2 (by decide) (by decide)) d_law_1045 ?_
  refine lw_call (N0 := N0) (a := 0) (ci := 11) (C := z_C11) (T := z_T11) (N := 18) (i1 := 1014) (i2 := 1015) (i3 := 1016) (as := [.int (xs (i4 + 1).toNatClampNeg), .int (xs (i4 + 2).toNatClampNeg)]) (rest := []) X zg_CG_change (Zm.kI (st_change K hK1 hK2 (xs (i4 + 1).toNatClampNeg) (xs (i4 + 2).toNatClampNeg) M f o g hC hM hR) (Or.inl rfl)) (by decide) rfl rfl (hC.1 0 (by decide) (by decide) (by decide)) rfl (by decide +kernel) (by decide +kernel) (by decide +kernel) hH hS hShp (fun r M1 hp => hShp.c hp.1.1 hp.1.2.1) hl.1 rfl (by decide) d_law_1046 hR1 hR2 (fun r M1 H1 locs1 hp hH1 hS1 => ?_)
  obtain ⟨⟨hc1, hsm1, v, rfl, hz2⟩, x, hvx⟩ := hp
  have hv : v = .int x := Option.some.inj hvx
  subst hv
  have hShp1 := hShp.c hc1 hsm1
  have hS := hS1
  have hM1 := hM.smc hsm1
  show W p l e room_1 s m #[Value.ref b] below meth c H1 locs1 cells slots Q (F0 m 1049 ls [.int x])
  refine lv_aload_n hx hb d_law_1049 rfl (lv_at hl 2 rfl) ?_
  refine lv_aload_n hx hb d_law_1050 rfl (lv_at hl 0 rfl) ?_
  refine lv_iload hx hb d_law_1051 (lv_at hl 4 rfl) ?_
  refine lv_iconst (v := 1) hx hb d_law_1053 (by decide) ?_
  refine lv_iadd hx hb d_law_1054 ?_
  refine va_sld hx hb hX hbl hbA hS (hin 1 (by decide) (by decide)) d_law_1055 ?_
  refine lv_aload_n hx hb d_law_1056 rfl (lv_at hl 0 rfl) ?_
  refine lv_iload hx hb d_law_1057 (lv_at hl 4 rfl) ?_
  refine lv_iconst (v := 2) hx hb d_law_1059 (by decide) ?_
  refine lv_iadd hx hb d_law_1060 ?_
  refine va_sld hx hb hX hbl hbA hS (hin 2 (by decide) (by decide)) d_law_1061 ?_
  refine lw_call (N0 := N0) (a := 139) (ci := 12) (C := z_C12) (T := z_T12) (N := 50) (i1 := 1774) (i2 := 1775) (i3 := 1776) (as := [.int (xs (i4 + 1).toNatClampNeg), .int (xs (i4 + 2).toNatClampNeg)]) (rest := [.int x]) X zg_MO_change hz2 (by decide) rfl rfl hM1.1 rfl (by decide +kernel) (by decide +kernel) (by decide +kernel) hH1 hS hShp1 (fun r M2 hp => by obtain ⟨-, f9, o9, g9, p1, p2, p3, p4, p5⟩ := hp; exact hShp.m p1 p2 p4 p5) hl.1 rfl (Nat.le_of_ble_eq_true rfl) d_law_1062 hR1 hR2 (fun r M2 H2 locs2 hp hH2 hS2 => ?_)
  obtain ⟨rfl, f9, o9, g9, p1, p2, p3, p4, p5⟩ := hp
  show W p l e room_1 s m #[Value.ref b] below meth c H2 locs2 cells slots Q (F0 m 1065 ls [.int x, .int x])
  refine lv_icmp_eq (tgt := 1308) hx hb d_law_1065 (by decide) (fun _ => ?_) (fun q => absurd rfl q)
  exact kk M2 H2 locs2 ⟨hH2, hShp.m p1 p2 p4 p5, f9, o9, g9, p1, p2, p3⟩ hS2

set_option maxHeartbeats 4000000 in
set_option maxRecDepth 100000 in
theorem lw_case28 {p : Program} {l : Launch} {e : Env} {s : State} {m : MethodId} {below : List Frame} {meth : Method} {c : Code} {H : Heap} {locs : List Loc} {cells slots : Nat} {Q : State → Prop} {b L K : Nat} {N0 : Nat} {D : va_G} {ca : Nat → ClassId} {M : zM} {xs : Nat → Int32} {i4 : Int32} {ls : Array Slot} (X : lwX p s m c b D ca) (hX : va_X b L xs s s.heap) (hbl : b < s.heap.size) (hN : N0 = s.heap.size) (hK1 : 240 < K) (hK2 : K < 100000) (hin : ∀ j : Int32, 0 ≤ j.toInt → j.toInt < 5 → vp_in (i4 + j) L) (hR1 : cells ≤ 601024) (hR2 : slots ≤ 7293034) (hl : lv_has ls 7 [(0, .ref b), (1, .ref (N0 + 0)), (2, .ref (N0 + 139)), (3, .ref (N0 + 177)), (4, .int i4)]) (hs0 : lwS N0 D ca K M H) (hS : va_S (z_A N0) s.heap H locs) (kk : ∀ (M1 : zM) (H1 : Heap) (locs1 : List Loc), lwS N0 D ca (K + 1) M1 H1 → va_S (z_A N0) s.heap H1 locs1 → W p l e room_1 s m #[Value.ref b] below meth c H1 locs1 cells slots Q (F0 m 1308 ls [])) : W p l e room_1 s m #[Value.ref b] below meth c H locs cells slots Q (F0 m 1070 ls []) := by
  obtain ⟨hx, hb, hml, hown, hta, hCx⟩ := id X
  obtain ⟨hH, hShp, f, o, g, hC, hM, hR⟩ := hs0
  have hbA : ¬ z_A N0 b := by rw [hN]; exact Nat.not_le.mpr hbl
  refine lv_aload_n hx hb d_law_1070 rfl (lv_at hl 1 rfl) ?_
  refine lv_aload_n hx hb d_law_1071 rfl (lv_at hl 0 rfl) ?_
  refine lv_iload hx hb d_law_1072 (lv_at hl 4 rfl) ?_
  refine lv_iconst (v := 1) hx hb d_law_1074 (by decide) ?_
  refine lv_iadd hx hb d_law_1075 ?_
  refine va_sld hx hb hX hbl hbA hS (hin 1 (by decide) (by decide)) d_law_1076 ?_
  refine lv_aload_n hx hb d_law_1077 rfl (lv_at hl 0 rfl) ?_
  refine lv_iload hx hb d_law_1078 (lv_at hl 4 rfl) ?_
  refine lv_iconst (v := 2) hx hb d_law_1080 (by decide) ?_
  refine lv_iadd hx hb d_law_1081 ?_
  refine va_sld hx hb hX hbl hbA hS (hin 2 (by decide) (by decide)) d_law_1082 ?_
  refine lw_call (N0 := N0) (a := 0) (ci := 11) (C := z_C11) (T := z_T11) (N := 18) (i1 := 1022) (i2 := 1023) (i3 := 1024) (as := [.int (xs (i4 + 1).toNatClampNeg), .int (xs (i4 + 2).toNatClampNeg)]) (rest := []) X zg_CG_part (Zm.kI (st_part K hK1 hK2 (xs (i4 + 1).toNatClampNeg) (xs (i4 + 2).toNatClampNeg) M f o g hC hM hR) (Or.inl rfl)) (by decide) rfl rfl (hC.1 0 (by decide) (by decide) (by decide)) rfl (by decide +kernel) (by decide +kernel) (by decide +kernel) hH hS hShp (fun r M1 hp => hShp.c hp.1.1 hp.1.2.1) hl.1 rfl (by decide) d_law_1083 hR1 hR2 (fun r M1 H1 locs1 hp hH1 hS1 => ?_)
  obtain ⟨⟨hc1, hsm1, v, rfl, hz2⟩, x, hvx⟩ := hp
  have hv : v = .int x := Option.some.inj hvx
  subst hv
  have hShp1 := hShp.c hc1 hsm1
  have hS := hS1
  have hM1 := hM.smc hsm1
  show W p l e room_1 s m #[Value.ref b] below meth c H1 locs1 cells slots Q (F0 m 1086 ls [.int x])
  refine lv_aload_n hx hb d_law_1086 rfl (lv_at hl 2 rfl) ?_
  refine lv_aload_n hx hb d_law_1087 rfl (lv_at hl 0 rfl) ?_
  refine lv_iload hx hb d_law_1088 (lv_at hl 4 rfl) ?_
  refine lv_iconst (v := 1) hx hb d_law_1090 (by decide) ?_
  refine lv_iadd hx hb d_law_1091 ?_
  refine va_sld hx hb hX hbl hbA hS (hin 1 (by decide) (by decide)) d_law_1092 ?_
  refine lv_aload_n hx hb d_law_1093 rfl (lv_at hl 0 rfl) ?_
  refine lv_iload hx hb d_law_1094 (lv_at hl 4 rfl) ?_
  refine lv_iconst (v := 2) hx hb d_law_1096 (by decide) ?_
  refine lv_iadd hx hb d_law_1097 ?_
  refine va_sld hx hb hX hbl hbA hS (hin 2 (by decide) (by decide)) d_law_1098 ?_
  refine lw_call (N0 := N0) (a := 139) (ci := 12) (C := z_C12) (T := z_T12) (N := 50) (i1 := 1778) (i2 := 1779) (i3 := 1780) (as := [.int (xs (i4 + 1).toNatClampNeg), .int (xs (i4 + 2).toNatClampNeg)]) (rest := [.int x]) X zg_MO_part hz2 (by decide) rfl rfl hM1.1 rfl (by decide +kernel) (by decide +kernel) (by decide +kernel) hH1 hS hShp1 (fun r M2 hp => by obtain ⟨-, f9, o9, g9, p1, p2, p3, p4, p5⟩ := hp; exact hShp.m p1 p2 p4 p5) hl.1 rfl (Nat.le_of_ble_eq_true rfl) d_law_1099 hR1 hR2 (fun r M2 H2 locs2 hp hH2 hS2 => ?_)
  obtain ⟨rfl, f9, o9, g9, p1, p2, p3, p4, p5⟩ := hp
  show W p l e room_1 s m #[Value.ref b] below meth c H2 locs2 cells slots Q (F0 m 1102 ls [.int x, .int x])
  refine lv_icmp_eq (tgt := 1308) hx hb d_law_1102 (by decide) (fun _ => ?_) (fun q => absurd rfl q)
  exact kk M2 H2 locs2 ⟨hH2, hShp.m p1 p2 p4 p5, f9, o9, g9, p1, p2, p3⟩ hS2

set_option maxHeartbeats 4000000 in
set_option maxRecDepth 100000 in
theorem lw_case29 {p : Program} {l : Launch} {e : Env} {s : State} {m : MethodId} {below : List Frame} {meth : Method} {c : Code} {H : Heap} {locs : List Loc} {cells slots : Nat} {Q : State → Prop} {b L K : Nat} {N0 : Nat} {D : va_G} {ca : Nat → ClassId} {M : zM} {xs : Nat → Int32} {i4 : Int32} {ls : Array Slot} (X : lwX p s m c b D ca) (hX : va_X b L xs s s.heap) (hbl : b < s.heap.size) (hN : N0 = s.heap.size) (hK1 : 240 < K) (hK2 : K < 100000) (hin : ∀ j : Int32, 0 ≤ j.toInt → j.toInt < 5 → vp_in (i4 + j) L) (hR1 : cells ≤ 601024) (hR2 : slots ≤ 7293034) (hl : lv_has ls 7 [(0, .ref b), (1, .ref (N0 + 0)), (2, .ref (N0 + 139)), (3, .ref (N0 + 177)), (4, .int i4)]) (hs0 : lwS N0 D ca K M H) (hS : va_S (z_A N0) s.heap H locs) (kk : ∀ (M1 : zM) (H1 : Heap) (locs1 : List Loc), lwS N0 D ca (K + 1) M1 H1 → va_S (z_A N0) s.heap H1 locs1 → W p l e room_1 s m #[Value.ref b] below meth c H1 locs1 cells slots Q (F0 m 1308 ls [])) : W p l e room_1 s m #[Value.ref b] below meth c H locs cells slots Q (F0 m 1107 ls []) := by
  obtain ⟨hx, hb, hml, hown, hta, hCx⟩ := id X
  obtain ⟨hH, hShp, f, o, g, hC, hM, hR⟩ := hs0
  have hbA : ¬ z_A N0 b := by rw [hN]; exact Nat.not_le.mpr hbl
  refine lv_aload_n hx hb d_law_1107 rfl (lv_at hl 1 rfl) ?_
  refine lv_aload_n hx hb d_law_1108 rfl (lv_at hl 0 rfl) ?_
  refine lv_iload hx hb d_law_1109 (lv_at hl 4 rfl) ?_
  refine lv_iconst (v := 1) hx hb d_law_1111 (by decide) ?_
  refine lv_iadd hx hb d_law_1112 ?_
  refine va_sld hx hb hX hbl hbA hS (hin 1 (by decide) (by decide)) d_law_1113 ?_
  refine lw_call (N0 := N0) (a := 0) (ci := 11) (C := z_C11) (T := z_T11) (N := 18) (i1 := 1031) (i2 := 1032) (i3 := 1033) (as := [.int (xs (i4 + 1).toNatClampNeg)]) (rest := []) X zg_CG_grow (Zm.kI (st_grow K hK1 hK2 (xs (i4 + 1).toNatClampNeg) M f o g hC hM hR) (Or.inl rfl)) (by decide) rfl rfl (hC.1 0 (by decide) (by decide) (by decide)) rfl (by decide +kernel) (by decide +kernel) (by decide +kernel) hH hS hShp (fun r M1 hp => hShp.c hp.1.1 hp.1.2.1) hl.1 rfl (by decide) d_law_1114 hR1 hR2 (fun r M1 H1 locs1 hp hH1 hS1 => ?_)
  obtain ⟨⟨hc1, hsm1, v, rfl, hz2⟩, x, hvx⟩ := hp
  have hv : v = .int x := Option.some.inj hvx
  subst hv
  have hShp1 := hShp.c hc1 hsm1
  have hS := hS1
  have hM1 := hM.smc hsm1
  show W p l e room_1 s m #[Value.ref b] below meth c H1 locs1 cells slots Q (F0 m 1117 ls [.int x])
  refine lv_aload_n hx hb d_law_1117 rfl (lv_at hl 2 rfl) ?_
  refine lv_aload_n hx hb d_law_1118 rfl (lv_at hl 0 rfl) ?_
  refine lv_iload hx hb d_law_1119 (lv_at hl 4 rfl) ?_
  refine lv_iconst (v := 1) hx hb d_law_1121 (by decide) ?_
  refine lv_iadd hx hb d_law_1122 ?_
  refine va_sld hx hb hX hbl hbA hS (hin 1 (by decide) (by decide)) d_law_1123 ?_
  refine lw_call (N0 := N0) (a := 139) (ci := 12) (C := z_C12) (T := z_T12) (N := 50) (i1 := 1782) (i2 := 1783) (i3 := 1784) (as := [.int (xs (i4 + 1).toNatClampNeg)]) (rest := [.int x]) X zg_MO_grow hz2 (by decide) rfl rfl hM1.1 rfl (by decide +kernel) (by decide +kernel) (by decide +kernel) hH1 hS hShp1 (fun r M2 hp => by obtain ⟨-, f9, o9, g9, p1, p2, p3, p4, p5⟩ := hp; exact hShp.m p1 p2 p4 p5) hl.1 rfl (Nat.le_of_ble_eq_true rfl) d_law_1124 hR1 hR2 (fun r M2 H2 locs2 hp hH2 hS2 => ?_)
  obtain ⟨rfl, f9, o9, g9, p1, p2, p3, p4, p5⟩ := hp
  show W p l e room_1 s m #[Value.ref b] below meth c H2 locs2 cells slots Q (F0 m 1127 ls [.int x, .int x])
  refine lv_icmp_eq (tgt := 1308) hx hb d_law_1127 (by decide) (fun _ => ?_) (fun q => absurd rfl q)
  exact kk M2 H2 locs2 ⟨hH2, hShp.m p1 p2 p4 p5, f9, o9, g9, p1, p2, p3⟩ hS2

set_option maxHeartbeats 4000000 in
set_option maxRecDepth 100000 in
theorem lw_case30 {p : Program} {l : Launch} {e : Env} {s : State} {m : MethodId} {below : List Frame} {meth : Method} {c : Code} {H : Heap} {locs : List Loc} {cells slots : Nat} {Q : State → Prop} {b L K : Nat} {N0 : Nat} {D : va_G} {ca : Nat → ClassId} {M : zM} {xs : Nat → Int32} {i4 : Int32} {ls : Array Slot} (X : lwX p s m c b D ca) (hX : va_X b L xs s s.heap) (hbl : b < s.heap.size) (hN : N0 = s.heap.size) (hK1 : 240 < K) (hK2 : K < 100000) (hin : ∀ j : Int32, 0 ≤ j.toInt → j.toInt < 5 → vp_in (i4 + j) L) (hR1 : cells ≤ 601024) (hR2 : slots ≤ 7293034) (hl : lv_has ls 7 [(0, .ref b), (1, .ref (N0 + 0)), (2, .ref (N0 + 139)), (3, .ref (N0 + 177)), (4, .int i4)]) (hs0 : lwS N0 D ca K M H) (hS : va_S (z_A N0) s.heap H locs) (kk : ∀ (M1 : zM) (H1 : Heap) (locs1 : List Loc), lwS N0 D ca (K + 1) M1 H1 → va_S (z_A N0) s.heap H1 locs1 → W p l e room_1 s m #[Value.ref b] below meth c H1 locs1 cells slots Q (F0 m 1308 ls [])) : W p l e room_1 s m #[Value.ref b] below meth c H locs cells slots Q (F0 m 1132 ls []) := by
  obtain ⟨hx, hb, hml, hown, hta, hCx⟩ := id X
  obtain ⟨hH, hShp, f, o, g, hC, hM, hR⟩ := hs0
  have hbA : ¬ z_A N0 b := by rw [hN]; exact Nat.not_le.mpr hbl
  refine lv_aload_n hx hb d_law_1132 rfl (lv_at hl 1 rfl) ?_
  refine lw_call (N0 := N0) (a := 0) (ci := 11) (C := z_C11) (T := z_T11) (N := 18) (i1 := 1069) (i2 := 1070) (i3 := 1071) (as := []) (rest := []) X zg_CG_undo (Zm.kI (st_undo K hK1 hK2  M f o g hC hM hR) (Or.inl rfl)) (by decide) rfl rfl (hC.1 0 (by decide) (by decide) (by decide)) rfl (by decide +kernel) (by decide +kernel) (by decide +kernel) hH hS hShp (fun r M1 hp => hShp.c hp.1.1 hp.1.2.1) hl.1 rfl (by decide) d_law_1133 hR1 hR2 (fun r M1 H1 locs1 hp hH1 hS1 => ?_)
  obtain ⟨⟨hc1, hsm1, v, rfl, hz2⟩, x, hvx⟩ := hp
  have hv : v = .int x := Option.some.inj hvx
  subst hv
  have hShp1 := hShp.c hc1 hsm1
  have hS := hS1
  have hM1 := hM.smc hsm1
  show W p l e room_1 s m #[Value.ref b] below meth c H1 locs1 cells slots Q (F0 m 1136 ls [.int x])
  refine lv_aload_n hx hb d_law_1136 rfl (lv_at hl 2 rfl) ?_
  refine lw_call (N0 := N0) (a := 139) (ci := 12) (C := z_C12) (T := z_T12) (N := 50) (i1 := 1810) (i2 := 1811) (i3 := 1812) (as := []) (rest := [.int x]) X zg_MO_undo hz2 (by decide) rfl rfl hM1.1 rfl (by decide +kernel) (by decide +kernel) (by decide +kernel) hH1 hS hShp1 (fun r M2 hp => by obtain ⟨-, f9, o9, g9, p1, p2, p3, p4, p5⟩ := hp; exact hShp.m p1 p2 p4 p5) hl.1 rfl (Nat.le_of_ble_eq_true rfl) d_law_1137 hR1 hR2 (fun r M2 H2 locs2 hp hH2 hS2 => ?_)
  obtain ⟨rfl, f9, o9, g9, p1, p2, p3, p4, p5⟩ := hp
  show W p l e room_1 s m #[Value.ref b] below meth c H2 locs2 cells slots Q (F0 m 1140 ls [.int x, .int x])
  refine lv_icmp_eq (tgt := 1308) hx hb d_law_1140 (by decide) (fun _ => ?_) (fun q => absurd rfl q)
  exact kk M2 H2 locs2 ⟨hH2, hShp.m p1 p2 p4 p5, f9, o9, g9, p1, p2, p3⟩ hS2
