/-! THE LAW: its cases -/
set_option maxHeartbeats 4000000 in
set_option maxRecDepth 100000 in
theorem lw_case11 {p : Program} {l : Launch} {e : Env} {s : State} {m : MethodId} {below : List Frame} {meth : Method} {c : Code} {H : Heap} {locs : List Loc} {cells slots : Nat} {Q : State → Prop} {b L K : Nat} {N0 : Nat} {D : va_G} {ca : Nat → ClassId} {M : zM} {xs : Nat → Int32} {i4 : Int32} {ls : Array Slot} (X : lwX p s m c b D ca) (hX : va_X b L xs s s.heap) (hbl : b < s.heap.size) (hN : N0 = s.heap.size) (hK1 : 240 < K) (hK2 : K < 100000) (hin : ∀ j : Int32, 0 ≤ j.toInt → j.toInt < 5 → vp_in (i4 + j) L) (hR1 : cells ≤ 601024) (hR2 : slots ≤ 7293034) (hl : lv_has ls 7 [(0, .ref b), (1, .ref (N0 + 0)), (2, .ref (N0 + 139)), (3, .ref (N0 + 177)), (4, .int i4)]) (hs0 : lwS N0 D ca K M H) (hS : va_S (z_A N0) s.heap H locs) (kk : ∀ (M1 : zM) (H1 : Heap) (locs1 : List Loc), lwS N0 D ca (K + 1) M1 H1 → va_S (z_A N0) s.heap H1 locs1 → W p l e room_1 s m #[Value.ref b] below meth c H1 locs1 cells slots Q (F0 m 1308 ls [])) : W p l e room_1 s m #[Value.ref b] below meth c H locs cells slots Q (F0 m 572 ls []) := by
  obtain ⟨hx, hb, hml, hown, hta, hCx⟩ := id X
  obtain ⟨hH, hShp, f, o, g, hC, hM, hR⟩ := hs0
  have hbA : ¬ z_A N0 b := by rw [hN]; exact Nat.not_le.mpr hbl
  refine lv_aload_n hx hb d_law_572 rfl (lv_at hl 1 rfl) ?_
  refine lw_call (N0 := N0) (a := 0) (ci := 11) (C := z_C11) (T := z_T11) (N := 18) (i1 := 789) (i2 := 790) (i3 := 791) (as := []) (rest := []) X zg_CG_fits (Zm.kI (st_fits K hK1 hK2  M f o g hC hM hR) (Or.inl rfl)) (by decide) rfl rfl (hC.1 0 (by decide) (by decide) (by decide)) rfl (by decide +kernel) (by decide +kernel) (by decide +kernel) hH hS hShp (fun r M1 hp => hShp.c hp.1.1 hp.1.2.1) hl.1 rfl (by decide) d_law_573 hR1 hR2 (fun r M1 H1 locs1 hp hH1 hS1 => ?_)
  obtain ⟨⟨hc1, hsm1, v, rfl, hz2⟩, x, hvx⟩ := hp
  have hv : v = .int x := Option.some.inj hvx
  subst hv
  have hShp1 := hShp.c hc1 hsm1
  have hS := hS1
  have hM1 := hM.smc hsm1
  show W p l e room_1 s m #[Value.ref b] below meth c H1 locs1 cells slots Q (F0 m 576 ls [.int x])
  refine lv_aload_n hx hb d_law_576 rfl (lv_at hl 2 rfl) ?_
  refine lw_call (N0 := N0) (a := 139) (ci := 12) (C := z_C12) (T := z_T12) (N := 50) (i1 := 1596) (i2 := 1597) (i3 := 1598) (as := []) (rest := [.int x]) X zg_MO_fits hz2 (by decide) rfl rfl hM1.1 rfl (by decide +kernel) (by decide +kernel) (by decide +kernel) hH1 hS hShp1 (fun r M2 hp => by obtain ⟨-, f9, o9, g9, p1, p2, p3, p4, p5⟩ := hp; exact hShp.m p1 p2 p4 p5) hl.1 rfl (Nat.le_of_ble_eq_true rfl) d_law_577 hR1 hR2 (fun r M2 H2 locs2 hp hH2 hS2 => ?_)
  obtain ⟨rfl, f9, o9, g9, p1, p2, p3, p4, p5⟩ := hp
  show W p l e room_1 s m #[Value.ref b] below meth c H2 locs2 cells slots Q (F0 m 580 ls [.int x, .int x])
  refine lv_icmp_eq (tgt := 1308) hx hb d_law_580 (by decide) (fun _ => ?_) (fun q => absurd rfl q)
  exact kk M2 H2 locs2 ⟨hH2, hShp.m p1 p2 p4 p5, f9, o9, g9, p1, p2, p3⟩ hS2

set_option maxHeartbeats 4000000 in
set_option maxRecDepth 100000 in
theorem lw_case12 {p : Program} {l : Launch} {e : Env} {s : State} {m : MethodId} {below : List Frame} {meth : Method} {c : Code} {H : Heap} {locs : List Loc} {cells slots : Nat} {Q : State → Prop} {b L K : Nat} {N0 : Nat} {D : va_G} {ca : Nat → ClassId} {M : zM} {xs : Nat → Int32} {i4 : Int32} {ls : Array Slot} (X : lwX p s m c b D ca) (hX : va_X b L xs s s.heap) (hbl : b < s.heap.size) (hN : N0 = s.heap.size) (hK1 : 240 < K) (hK2 : K < 100000) (hin : ∀ j : Int32, 0 ≤ j.toInt → j.toInt < 5 → vp_in (i4 + j) L) (hR1 : cells ≤ 601024) (hR2 : slots ≤ 7293034) (hl : lv_has ls 7 [(0, .ref b), (1, .ref (N0 + 0)), (2, .ref (N0 + 139)), (3, .ref (N0 + 177)), (4, .int i4)]) (hs0 : lwS N0 D ca K M H) (hS : va_S (z_A N0) s.heap H locs) (kk : ∀ (M1 : zM) (H1 : Heap) (locs1 : List Loc), lwS N0 D ca (K + 1) M1 H1 → va_S (z_A N0) s.heap H1 locs1 → W p l e room_1 s m #[Value.ref b] below meth c H1 locs1 cells slots Q (F0 m 1308 ls [])) : W p l e room_1 s m #[Value.ref b] below meth c H locs cells slots Q (F0 m 585 ls []) := by
  obtain ⟨hx, hb, hml, hown, hta, hCx⟩ := id X
  obtain ⟨hH, hShp, f, o, g, hC, hM, hR⟩ := hs0
  have hbA : ¬ z_A N0 b := by rw [hN]; exact Nat.not_le.mpr hbl
  refine lv_aload_n hx hb d_law_585 rfl (lv_at hl 1 rfl) ?_
  refine lv_aload_n hx hb d_law_586 rfl (lv_at hl 0 rfl) ?_
  refine lv_iload hx hb d_law_587 (lv_at hl 4 rfl) ?_
  refine lv_iconst (v := 1) hx hb d_law_589 (by decide) ?_
  refine lv_iadd hx hb d_law_590 ?_
  refine va_sld hx hb hX hbl hbA hS (hin 1 (by decide) (by decide)) d_law_591 ?_
  refine lw_call (N0 := N0) (a := 0) (ci := 11) (C := z_C11) (T := z_T11) (N := 18) (i1 := 793) (i2 := 794) (i3 := 795) (as := [.int (xs (i4 + 1).toNatClampNeg)]) (rest := []) X zg_CG_blame (Zm.kI (st_blame K hK1 hK2 (xs (i4 + 1).toNatClampNeg) M f o g hC hM hR) (Or.inl rfl)) (by decide) rfl rfl (hC.1 0 (by decide) (by decide) (by decide)) rfl (by decide +kernel) (by decide +kernel) (by decide +kernel) hH hS hShp (fun r M1 hp => hShp.c hp.1.1 hp.1.2.1) hl.1 rfl (by decide) d_law_592 hR1 hR2 (fun r M1 H1 locs1 hp hH1 hS1 => ?_)
  obtain ⟨⟨hc1, hsm1, v, rfl, hz2⟩, x, hvx⟩ := hp
  have hv : v = .int x := Option.some.inj hvx
  subst hv
  have hShp1 := hShp.c hc1 hsm1
  have hS := hS1
  have hM1 := hM.smc hsm1
  show W p l e room_1 s m #[Value.ref b] below meth c H1 locs1 cells slots Q (F0 m 595 ls [.int x])
  refine lv_aload_n hx hb d_law_595 rfl (lv_at hl 2 rfl) ?_
  refine lv_aload_n hx hb d_law_596 rfl (lv_at hl 0 rfl) ?_
  refine lv_iload hx hb d_law_597 (lv_at hl 4 rfl) ?_
  refine lv_iconst (v := 1) hx hb d_law_599 (by decide) ?_
  refine lv_iadd hx hb d_law_600 ?_
  refine va_sld hx hb hX hbl hbA hS (hin 1 (by decide) (by decide)) d_law_601 ?_
  refine lw_call (N0 := N0) (a := 139) (ci := 12) (C := z_C12) (T := z_T12) (N := 50) (i1 := 1604) (i2 := 1605) (i3 := 1606) (as := [.int (xs (i4 + 1).toNatClampNeg)]) (rest := [.int x]) X zg_MO_blame hz2 (by decide) rfl rfl hM1.1 rfl (by decide +kernel) (by decide +kernel) (by decide +kernel) hH1 hS hShp1 (fun r M2 hp => by obtain ⟨-, f9, o9, g9, p1, p2, p3, p4, p5⟩ := hp; exact hShp.m p1 p2 p4 p5) hl.1 rfl (Nat.le_of_ble_eq_true rfl) d_law_602 hR1 hR2 (fun r M2 H2 locs2 hp hH2 hS2 => ?_)
  obtain ⟨rfl, f9, o9, g9, p1, p2, p3, p4, p5⟩ := hp
  show W p l e room_1 s m #[Value.ref b] below meth c H2 locs2 cells slots Q (F0 m 605 ls [.int x, .int x])
  refine lv_icmp_eq (tgt := 1308) hx hb d_law_605 (by decide) (fun _ => ?_) (fun q => absurd rfl q)
  exact kk M2 H2 locs2 ⟨hH2, hShp.m p1 p2 p4 p5, f9, o9, g9, p1, p2, p3⟩ hS2

set_option maxHeartbeats 4000000 in
set_option maxRecDepth 100000 in
theorem lw_case13 {p : Program} {l : Launch} {e : Env} {s : State} {m : MethodId} {below : List Frame} {meth : Method} {c : Code} {H : Heap} {locs : List Loc} {cells slots : Nat} {Q : State → Prop} {b L K : Nat} {N0 : Nat} {D : va_G} {ca : Nat → ClassId} {M : zM} {xs : Nat → Int32} {i4 : Int32} {ls : Array Slot} (X : lwX p s m c b D ca) (hX : va_X b L xs s s.heap) (hbl : b < s.heap.size) (hN : N0 = s.heap.size) (hK1 : 240 < K) (hK2 : K < 100000) (hin : ∀ j : Int32, 0 ≤ j.toInt → j.toInt < 5 → vp_in (i4 + j) L) (hR1 : cells ≤ 601024) (hR2 : slots ≤ 7293034) (hl : lv_has ls 7 [(0, .ref b), (1, .ref (N0 + 0)), (2, .ref (N0 + 139)), (3, .ref (N0 + 177)), (4, .int i4)]) (hs0 : lwS N0 D ca K M H) (hS : va_S (z_A N0) s.heap H locs) (kk : ∀ (M1 : zM) (H1 : Heap) (locs1 : List Loc), lwS N0 D ca (K + 1) M1 H1 → va_S (z_A N0) s.heap H1 locs1 → W p l e room_1 s m #[Value.ref b] below meth c H1 locs1 cells slots Q (F0 m 1308 ls [])) : W p l e room_1 s m #[Value.ref b] below meth c H locs cells slots Q (F0 m 610 ls []) := by
  obtain ⟨hx, hb, hml, hown, hta, hCx⟩ := id X
  obtain ⟨hH, hShp, f, o, g, hC, hM, hR⟩ := hs0
  have hbA : ¬ z_A N0 b := by rw [hN]; exact Nat.not_le.mpr hbl
  refine lv_aload_n hx hb d_law_610 rfl (lv_at hl 1 rfl) ?_
  refine lv_aload_n hx hb d_law_611 rfl (lv_at hl 0 rfl) ?_
  refine lv_iload hx hb d_law_612 (lv_at hl 4 rfl) ?_
  refine lv_iconst (v := 1) hx hb d_law_614 (by decide) ?_
  refine lv_iadd hx hb d_law_615 ?_
  refine va_sld hx hb hX hbl hbA hS (hin 1 (by decide) (by decide)) d_law_616 ?_
  refine lw_call (N0 := N0) (a := 0) (ci := 11) (C := z_C11) (T := z_T11) (N := 18) (i1 := 808) (i2 := 809) (i3 := 810) (as := [.int (xs (i4 + 1).toNatClampNeg)]) (rest := []) X zg_CG_goesOn (Zm.kI (st_goesOn K hK1 hK2 (xs (i4 + 1).toNatClampNeg) M f o g hC hM hR) (Or.inl rfl)) (by decide) rfl rfl (hC.1 0 (by decide) (by decide) (by decide)) rfl (by decide +kernel) (by decide +kernel) (by decide +kernel) hH hS hShp (fun r M1 hp => hShp.c hp.1.1 hp.1.2.1) hl.1 rfl (by decide) d_law_617 hR1 hR2 (fun r M1 H1 locs1 hp hH1 hS1 => ?_)
  obtain ⟨⟨hc1, hsm1, v, rfl, hz2⟩, x, hvx⟩ := hp
  have hv : v = .int x := Option.some.inj hvx
  subst hv
  have hShp1 := hShp.c hc1 hsm1
  have hS := hS1
  have hM1 := hM.smc hsm1
  show W p l e room_1 s m #[Value.ref b] below meth c H1 locs1 cells slots Q (F0 m 620 ls [.int x])
  refine lv_aload_n hx hb d_law_620 rfl (lv_at hl 2 rfl) ?_
  refine lv_aload_n hx hb d_law_621 rfl (lv_at hl 0 rfl) ?_
  refine lv_iload hx hb d_law_622 (lv_at hl 4 rfl) ?_
  refine lv_iconst (v := 1) hx hb d_law_624 (by decide) ?_
  refine lv_iadd hx hb d_law_625 ?_
  refine va_sld hx hb hX hbl hbA hS (hin 1 (by decide) (by decide)) d_law_626 ?_
  refine lw_call (N0 := N0) (a := 139) (ci := 12) (C := z_C12) (T := z_T12) (N := 50) (i1 := 1624) (i2 := 1625) (i3 := 1626) (as := [.int (xs (i4 + 1).toNatClampNeg)]) (rest := [.int x]) X zg_MO_goesOn hz2 (by decide) rfl rfl hM1.1 rfl (by decide +kernel) (by decide +kernel) (by decide +kernel) hH1 hS hShp1 (fun r M2 hp => by obtain ⟨-, f9, o9, g9, p1, p2, p3, p4, p5⟩ := hp; exact hShp.m p1 p2 p4 p5) hl.1 rfl (Nat.le_of_ble_eq_true rfl) d_law_627 hR1 hR2 (fun r M2 H2 locs2 hp hH2 hS2 => ?_)
  obtain ⟨rfl, f9, o9, g9, p1, p2, p3, p4, p5⟩ := hp
  show W p l e room_1 s m #[Value.ref b] below meth c H2 locs2 cells slots Q (F0 m 630 ls [.int x, .int x])
  refine lv_icmp_eq (tgt := 1308) hx hb d_law_630 (by decide) (fun _ => ?_) (fun q => absurd rfl q)
  exact kk M2 H2 locs2 ⟨hH2, hShp.m p1 p2 p4 p5, f9, o9, g9, p1, p2, p3⟩ hS2

set_option maxHeartbeats 4000000 in
set_option maxRecDepth 100000 in
theorem lw_case14 {p : Program} {l : Launch} {e : Env} {s : State} {m : MethodId} {below : List Frame} {meth : Method} {c : Code} {H : Heap} {locs : List Loc} {cells slots : Nat} {Q : State → Prop} {b L K : Nat} {N0 : Nat} {D : va_G} {ca : Nat → ClassId} {M : zM} {xs : Nat → Int32} {i4 : Int32} {ls : Array Slot} (X : lwX p s m c b D ca) (hX : va_X b L xs s s.heap) (hbl : b < s.heap.size) (hN : N0 = s.heap.size) (hK1 : 240 < K) (hK2 : K < 100000) (hin : ∀ j : Int32, 0 ≤ j.toInt → j.toInt < 5 → vp_in (i4 + j) L) (hR1 : cells ≤ 601024) (hR2 : slots ≤ 7293034) (hl : lv_has ls 7 [(0, .ref b), (1, .ref (N0 + 0)), (2, .ref (N0 + 139)), (3, .ref (N0 + 177)), (4, .int i4)]) (hs0 : lwS N0 D ca K M H) (hS : va_S (z_A N0) s.heap H locs) (kk : ∀ (M1 : zM) (H1 : Heap) (locs1 : List Loc), lwS N0 D ca (K + 1) M1 H1 → va_S (z_A N0) s.heap H1 locs1 → W p l e room_1 s m #[Value.ref b] below meth c H1 locs1 cells slots Q (F0 m 1308 ls [])) : W p l e room_1 s m #[Value.ref b] below meth c H locs cells slots Q (F0 m 635 ls []) := by
  obtain ⟨hx, hb, hml, hown, hta, hCx⟩ := id X
  obtain ⟨hH, hShp, f, o, g, hC, hM, hR⟩ := hs0
  have hbA : ¬ z_A N0 b := by rw [hN]; exact Nat.not_le.mpr hbl
  refine lv_aload_n hx hb d_law_635 rfl (lv_at hl 1 rfl) ?_
  refine lv_aload_n hx hb d_law_636 rfl (lv_at hl 0 rfl) ?_
  refine lv_iload hx hb d_law_637 (lv_at hl 4 rfl) ?_
  refine lv_iconst (v := 1) hx hb d_law_639 (by decide) ?_
  refine lv_iadd hx hb d_law_640 ?_
  refine va_sld hx hb hX hbl hbA hS (hin 1 (by decide) (by decide)) d_law_641 ?_
  refine lw_call (N0 := N0) (a := 0) (ci := 11) (C := z_C11) (T := z_T11) (N := 18) (i1 := 812) (i2 := 813) (i3 := 814) (as := [.int (xs (i4 + 1).toNatClampNeg)]) (rest := []) X zg_CG_hint (Zm.kI (st_hint K hK1 hK2 (xs (i4 + 1).toNatClampNeg) M f o g hC hM hR) (Or.inl rfl)) (by decide) rfl rfl (hC.1 0 (by decide) (by decide) (by decide)) rfl (by decide +kernel) (by decide +kernel) (by decide +kernel) hH hS hShp (fun r M1 hp => hShp.c hp.1.1 hp.1.2.1) hl.1 rfl (by decide) d_law_642 hR1 hR2 (fun r M1 H1 locs1 hp hH1 hS1 => ?_)
  obtain ⟨⟨hc1, hsm1, v, rfl, hz2⟩, x, hvx⟩ := hp
  have hv : v = .int x := Option.some.inj hvx
  subst hv
  have hShp1 := hShp.c hc1 hsm1
  have hS := hS1
  have hM1 := hM.smc hsm1
  show W p l e room_1 s m #[Value.ref b] below meth c H1 locs1 cells slots Q (F0 m 645 ls [.int x])
  refine lv_aload_n hx hb d_law_645 rfl (lv_at hl 2 rfl) ?_
  refine lv_aload_n hx hb d_law_646 rfl (lv_at hl 0 rfl) ?_
  refine lv_iload hx hb d_law_647 (lv_at hl 4 rfl) ?_
  refine lv_iconst (v := 1) hx hb d_law_649 (by decide) ?_
  refine lv_iadd hx hb d_law_650 ?_
  refine va_sld hx hb hX hbl hbA hS (hin 1 (by decide) (by decide)) d_law_651 ?_
  refine lw_call (N0 := N0) (a := 139) (ci := 12) (C := z_C12) (T := z_T12) (N := 50) (i1 := 1628) (i2 := 1629) (i3 := 1630) (as := [.int (xs (i4 + 1).toNatClampNeg)]) (rest := [.int x]) X zg_MO_hint hz2 (by decide) rfl rfl hM1.1 rfl (by decide +kernel) (by decide +kernel) (by decide +kernel) hH1 hS hShp1 (fun r M2 hp => by obtain ⟨-, f9, o9, g9, p1, p2, p3, p4, p5⟩ := hp; exact hShp.m p1 p2 p4 p5) hl.1 rfl (Nat.le_of_ble_eq_true rfl) d_law_652 hR1 hR2 (fun r M2 H2 locs2 hp hH2 hS2 => ?_)
  obtain ⟨rfl, f9, o9, g9, p1, p2, p3, p4, p5⟩ := hp
  show W p l e room_1 s m #[Value.ref b] below meth c H2 locs2 cells slots Q (F0 m 655 ls [.int x, .int x])
  refine lv_icmp_eq (tgt := 1308) hx hb d_law_655 (by decide) (fun _ => ?_) (fun q => absurd rfl q)
  exact kk M2 H2 locs2 ⟨hH2, hShp.m p1 p2 p4 p5, f9, o9, g9, p1, p2, p3⟩ hS2

set_option maxHeartbeats 4000000 in
set_option maxRecDepth 100000 in
theorem lw_case15 {p : Program} {l : Launch} {e : Env} {s : State} {m : MethodId} {below : List Frame} {meth : Method} {c : Code} {H : Heap} {locs : List Loc} {cells slots : Nat} {Q : State → Prop} {b L K : Nat} {N0 : Nat} {D : va_G} {ca : Nat → ClassId} {M : zM} {xs : Nat → Int32} {i4 : Int32} {ls : Array Slot} (X : lwX p s m c b D ca) (hX : va_X b L xs s s.heap) (hbl : b < s.heap.size) (hN : N0 = s.heap.size) (hK1 : 240 < K) (hK2 : K < 100000) (hin : ∀ j : Int32, 0 ≤ j.toInt → j.toInt < 5 → vp_in (i4 + j) L) (hR1 : cells ≤ 601024) (hR2 : slots ≤ 7293034) (hl : lv_has ls 7 [(0, .ref b), (1, .ref (N0 + 0)), (2, .ref (N0 + 139)), (3, .ref (N0 + 177)), (4, .int i4)]) (hs0 : lwS N0 D ca K M H) (hS : va_S (z_A N0) s.heap H locs) (kk : ∀ (M1 : zM) (H1 : Heap) (locs1 : List Loc), lwS N0 D ca (K + 1) M1 H1 → va_S (z_A N0) s.heap H1 locs1 → W p l e room_1 s m #[Value.ref b] below meth c H1 locs1 cells slots Q (F0 m 1308 ls [])) : W p l e room_1 s m #[Value.ref b] below meth c H locs cells slots Q (F0 m 660 ls []) := by
  obtain ⟨hx, hb, hml, hown, hta, hCx⟩ := id X
  obtain ⟨hH, hShp, f, o, g, hC, hM, hR⟩ := hs0
  have hbA : ¬ z_A N0 b := by rw [hN]; exact Nat.not_le.mpr hbl
  refine lv_aload_n hx hb d_law_660 rfl (lv_at hl 1 rfl) ?_
  refine lv_aload_n hx hb d_law_661 rfl (lv_at hl 0 rfl) ?_
  refine lv_iload hx hb d_law_662 (lv_at hl 4 rfl) ?_
  refine lv_iconst (v := 1) hx hb d_law_664 (by decide) ?_
  refine lv_iadd hx hb d_law_665 ?_
  refine va_sld hx hb hX hbl hbA hS (hin 1 (by decide) (by decide)) d_law_666 ?_
  refine lv_aload_n hx hb d_law_667 rfl (lv_at hl 0 rfl) ?_
  refine lv_iload hx hb d_law_668 (lv_at hl 4 rfl) ?_
  refine lv_iconst (v := 2) hx hb d_law_670 (by decide) ?_
  refine lv_iadd hx hb d_law_671 ?_
  refine va_sld hx hb hX hbl hbA hS (hin 2 (by decide) (by decide)) d_law_672 ?_
  refine lw_call (N0 := N0) (a := 0) (ci := 11) (C := z_C11) (T := z_T11) (N := 18) (i1 := 825) (i2 := 826) (i3 := 827) (as := [.int (xs (i4 + 1).toNatClampNeg), .int (xs (i4 + 2).toNatClampNeg)]) (rest := []) X zg_CG_next (Zm.kL (st_next K hK1 hK2 (xs (i4 + 1).toNatClampNeg) (xs (i4 + 2).toNatClampNeg) M f o g hC hM hR) rfl) (by decide) rfl rfl (hC.1 0 (by decide) (by decide) (by decide)) rfl (by decide +kernel) (by decide +kernel) (by decide +kernel) hH hS hShp (fun r M1 hp => hShp.c hp.1.1 hp.1.2.1) hl.1 rfl (by decide) d_law_673 hR1 hR2 (fun r M1 H1 locs1 hp hH1 hS1 => ?_)
  obtain ⟨⟨hc1, hsm1, v, rfl, hz2⟩, x, hvx⟩ := hp
  have hv : v = .long x := Option.some.inj hvx
  subst hv
  have hShp1 := hShp.c hc1 hsm1
  have hS := hS1
  have hM1 := hM.smc hsm1
  show W p l e room_1 s m #[Value.ref b] below meth c H1 locs1 cells slots Q (F0 m 676 ls [.long x])
  refine lv_aload_n hx hb d_law_676 rfl (lv_at hl 2 rfl) ?_
  refine lv_aload_n hx hb d_law_677 rfl (lv_at hl 0 rfl) ?_
  refine lv_iload hx hb d_law_678 (lv_at hl 4 rfl) ?_
  refine lv_iconst (v := 1) hx hb d_law_680 (by decide) ?_
  refine lv_iadd hx hb d_law_681 ?_
  refine va_sld hx hb hX hbl hbA hS (hin 1 (by decide) (by decide)) d_law_682 ?_
  refine lv_aload_n hx hb d_law_683 rfl (lv_at hl 0 rfl) ?_
  refine lv_iload hx hb d_law_684 (lv_at hl 4 rfl) ?_
  refine lv_iconst (v := 2) hx hb d_law_686 (by decide) ?_
  refine lv_iadd hx hb d_law_687 ?_
  refine va_sld hx hb hX hbl hbA hS (hin 2 (by decide) (by decide)) d_law_688 ?_
  refine lw_call (N0 := N0) (a := 139) (ci := 12) (C := z_C12) (T := z_T12) (N := 50) (i1 := 1639) (i2 := 1640) (i3 := 1641) (as := [.int (xs (i4 + 1).toNatClampNeg), .int (xs (i4 + 2).toNatClampNeg)]) (rest := [.long x]) X zg_MO_next2 hz2 (by decide) rfl rfl hM1.1 rfl (by decide +kernel) (by decide +kernel) (by decide +kernel) hH1 hS hShp1 (fun r M2 hp => by obtain ⟨-, f9, o9, g9, p1, p2, p3, p4, p5⟩ := hp; exact hShp.m p1 p2 p4 p5) hl.1 rfl (Nat.le_of_ble_eq_true rfl) d_law_689 hR1 hR2 (fun r M2 H2 locs2 hp hH2 hS2 => ?_)
  obtain ⟨rfl, f9, o9, g9, p1, p2, p3, p4, p5⟩ := hp
  show W p l e room_1 s m #[Value.ref b] below meth c H2 locs2 cells slots Q (F0 m 692 ls [.long x, .long x])
  refine W.lcmp hx hb d_law_692 ?_
  refine lv_if_eq (tgt := 1308) hx hb d_law_693 (by decide) (fun _ => ?_) (fun q => absurd (lw_cmp0 x) q)
  exact kk M2 H2 locs2 ⟨hH2, hShp.m p1 p2 p4 p5, f9, o9, g9, p1, p2, p3⟩ hS2

set_option maxHeartbeats 4000000 in
set_option maxRecDepth 100000 in
theorem lw_case16 {p : Program} {l : Launch} {e : Env} {s : State} {m : MethodId} {below : List Frame} {meth : Method} {c : Code} {H : Heap} {locs : List Loc} {cells slots : Nat} {Q : State → Prop} {b L K : Nat} {N0 : Nat} {D : va_G} {ca : Nat → ClassId} {M : zM} {xs : Nat → Int32} {i4 : Int32} {ls : Array Slot} (X : lwX p s m c b D ca) (hX : va_X b L xs s s.heap) (hbl : b < s.heap.size) (hN : N0 = s.heap.size) (hK1 : 240 < K) (hK2 : K < 100000) (hin : ∀ j : Int32, 0 ≤ j.toInt → j.toInt < 5 → vp_in (i4 + j) L) (hR1 : cells ≤ 601024) (hR2 : slots ≤ 7293034) (hl : lv_has ls 7 [(0, .ref b), (1, .ref (N0 + 0)), (2, .ref (N0 + 139)), (3, .ref (N0 + 177)), (4, .int i4)]) (hs0 : lwS N0 D ca K M H) (hS : va_S (z_A N0) s.heap H locs) (kk : ∀ (M1 : zM) (H1 : Heap) (locs1 : List Loc), lwS N0 D ca (K + 1) M1 H1 → va_S (z_A N0) s.heap H1 locs1 → W p l e room_1 s m #[Value.ref b] below meth c H1 locs1 cells slots Q (F0 m 1308 ls [])) : W p l e room_1 s m #[Value.ref b] below meth c H locs cells slots Q (F0 m 698 ls []) := by
  obtain ⟨hx, hb, hml, hown, hta, hCx⟩ := id X
  obtain ⟨hH, hShp, f, o, g, hC, hM, hR⟩ := hs0
  have hbA : ¬ z_A N0 b := by rw [hN]; exact Nat.not_le.mpr hbl
  refine lv_aload_n hx hb d_law_698 rfl (lv_at hl 1 rfl) ?_
  refine lv_aload_n hx hb d_law_699 rfl (lv_at hl 0 rfl) ?_
  refine lv_iload hx hb d_law_700 (lv_at hl 4 rfl) ?_
  refine lv_iconst (v := 1) hx hb d_law_702 (by decide) ?_
  refine lv_iadd hx hb d_law_703 ?_
  refine va_sld hx hb hX hbl hbA hS (hin 1 (by decide) (by decide)) d_law_704 ?_
  refine lw_call (N0 := N0) (a := 0) (ci := 11) (C := z_C11) (T := z_T11) (N := 18) (i1 := 830) (i2 := 831) (i3 := 832) (as := [.int (xs (i4 + 1).toNatClampNeg)]) (rest := []) X zg_CG_room (Zm.kI (st_room K hK1 hK2 (xs (i4 + 1).toNatClampNeg) M f o g hC hM hR) (Or.inl rfl)) (by decide) rfl rfl (hC.1 0 (by decide) (by decide) (by decide)) rfl (by decide +kernel) (by decide +kernel) (by decide +kernel) hH hS hShp (fun r M1 hp => hShp.c hp.1.1 hp.1.2.1) hl.1 rfl (by decide) d_law_705 hR1 hR2 (fun r M1 H1 locs1 hp hH1 hS1 => ?_)
  obtain ⟨⟨hc1, hsm1, v, rfl, hz2⟩, x, hvx⟩ := hp
  have hv : v = .int x := Option.some.inj hvx
  subst hv
  have hShp1 := hShp.c hc1 hsm1
  have hS := hS1
  have hM1 := hM.smc hsm1
  show W p l e room_1 s m #[Value.ref b] below meth c H1 locs1 cells slots Q (F0 m 708 ls [.int x])
  refine lv_aload_n hx hb d_law_708 rfl (lv_at hl 2 rfl) ?_
  refine lv_aload_n hx hb d_law_709 rfl (lv_at hl 0 rfl) ?_
  refine lv_iload hx hb d_law_710 (lv_at hl 4 rfl) ?_
  refine lv_iconst (v := 1) hx hb d_law_712 (by decide) ?_
  refine lv_iadd hx hb d_law_713 ?_
  refine va_sld hx hb hX hbl hbA hS (hin 1 (by decide) (by decide)) d_law_714 ?_
  refine lw_call (N0 := N0) (a := 139) (ci := 12) (C := z_C12) (T := z_T12) (N := 50) (i1 := 1643) (i2 := 1644) (i3 := 1645) (as := [.int (xs (i4 + 1).toNatClampNeg)]) (rest := [.int x]) X zg_MO_room hz2 (by decide) rfl rfl hM1.1 rfl (by decide +kernel) (by decide +kernel) (by decide +kernel) hH1 hS hShp1 (fun r M2 hp => by obtain ⟨-, f9, o9, g9, p1, p2, p3, p4, p5⟩ := hp; exact hShp.m p1 p2 p4 p5) hl.1 rfl (Nat.le_of_ble_eq_true rfl) d_law_715 hR1 hR2 (fun r M2 H2 locs2 hp hH2 hS2 => ?_)
  obtain ⟨rfl, f9, o9, g9, p1, p2, p3, p4, p5⟩ := hp
  show W p l e room_1 s m #[Value.ref b] below meth c H2 locs2 cells slots Q (F0 m 718 ls [.int x, .int x])
  refine lv_icmp_eq (tgt := 1308) hx hb d_law_718 (by decide) (fun _ => ?_) (fun q => absurd rfl q)
  exact kk M2 H2 locs2 ⟨hH2, hShp.m p1 p2 p4 p5, f9, o9, g9, p1, p2, p3⟩ hS2

set_option maxHeartbeats 4000000 in
set_option maxRecDepth 100000 in
theorem lw_case17 {p : Program} {l : Launch} {e : Env} {s : State} {m : MethodId} {below : List Frame} {meth : Method} {c : Code} {H : Heap} {locs : List Loc} {cells slots : Nat} {Q : State → Prop} {b L K : Nat} {N0 : Nat} {D : va_G} {ca : Nat → ClassId} {M : zM} {xs : Nat → Int32} {i4 : Int32} {ls : Array Slot} (X : lwX p s m c b D ca) (hX : va_X b L xs s s.heap) (hbl : b < s.heap.size) (hN : N0 = s.heap.size) (hK1 : 240 < K) (hK2 : K < 100000) (hin : ∀ j : Int32, 0 ≤ j.toInt → j.toInt < 5 → vp_in (i4 + j) L) (hR1 : cells ≤ 601024) (hR2 : slots ≤ 7293034) (hl : lv_has ls 7 [(0, .ref b), (1, .ref (N0 + 0)), (2, .ref (N0 + 139)), (3, .ref (N0 + 177)), (4, .int i4)]) (hs0 : lwS N0 D ca K M H) (hS : va_S (z_A N0) s.heap H locs) (kk : ∀ (M1 : zM) (H1 : Heap) (locs1 : List Loc), lwS N0 D ca (K + 1) M1 H1 → va_S (z_A N0) s.heap H1 locs1 → W p l e room_1 s m #[Value.ref b] below meth c H1 locs1 cells slots Q (F0 m 1308 ls [])) : W p l e room_1 s m #[Value.ref b] below meth c H locs cells slots Q (F0 m 723 ls []) := by
  obtain ⟨hx, hb, hml, hown, hta, hCx⟩ := id X
  obtain ⟨hH, hShp, f, o, g, hC, hM, hR⟩ := hs0
  have hbA : ¬ z_A N0 b := by rw [hN]; exact Nat.not_le.mpr hbl
  refine lv_aload_n hx hb d_law_723 rfl (lv_at hl 1 rfl) ?_
  refine lw_call (N0 := N0) (a := 0) (ci := 11) (C := z_C11) (T := z_T11) (N := 18) (i1 := 834) (i2 := 835) (i3 := 836) (as := []) (rest := []) X zg_CG_nodes (Zm.kI (st_nodes K hK1 hK2  M f o g hC hM hR) (Or.inl rfl)) (by decide) rfl rfl (hC.1 0 (by decide) (by decide) (by decide)) rfl (by decide +kernel) (by decide +kernel) (by decide +kernel) hH hS hShp (fun r M1 hp => hShp.c hp.1.1 hp.1.2.1) hl.1 rfl (by decide) d_law_724 hR1 hR2 (fun r M1 H1 locs1 hp hH1 hS1 => ?_)
  obtain ⟨⟨hc1, hsm1, v, rfl, hz2⟩, x, hvx⟩ := hp
  have hv : v = .int x := Option.some.inj hvx
  subst hv
  have hShp1 := hShp.c hc1 hsm1
  have hS := hS1
  have hM1 := hM.smc hsm1
  show W p l e room_1 s m #[Value.ref b] below meth c H1 locs1 cells slots Q (F0 m 727 ls [.int x])
  refine lv_aload_n hx hb d_law_727 rfl (lv_at hl 2 rfl) ?_
  refine lw_call (N0 := N0) (a := 139) (ci := 12) (C := z_C12) (T := z_T12) (N := 50) (i1 := 1647) (i2 := 1648) (i3 := 1649) (as := []) (rest := [.int x]) X zg_MO_nodes hz2 (by decide) rfl rfl hM1.1 rfl (by decide +kernel) (by decide +kernel) (by decide +kernel) hH1 hS hShp1 (fun r M2 hp => by obtain ⟨-, f9, o9, g9, p1, p2, p3, p4, p5⟩ := hp; exact hShp.m p1 p2 p4 p5) hl.1 rfl (Nat.le_of_ble_eq_true rfl) d_law_728 hR1 hR2 (fun r M2 H2 locs2 hp hH2 hS2 => ?_)
  obtain ⟨rfl, f9, o9, g9, p1, p2, p3, p4, p5⟩ := hp
  show W p l e room_1 s m #[Value.ref b] below meth c H2 locs2 cells slots Q (F0 m 731 ls [.int x, .int x])
  refine lv_icmp_eq (tgt := 1308) hx hb d_law_731 (by decide) (fun _ => ?_) (fun q => absurd rfl q)
  exact kk M2 H2 locs2 ⟨hH2, hShp.m p1 p2 p4 p5, f9, o9, g9, p1, p2, p3⟩ hS2

set_option maxHeartbeats 4000000 in
set_option maxRecDepth 100000 in
theorem lw_case18 {p : Program} {l : Launch} {e : Env} {s : State} {m : MethodId} {below : List Frame} {meth : Method} {c : Code} {H : Heap} {locs : List Loc} {cells slots : Nat} {Q : State → Prop} {b L K : Nat} {N0 : Nat} {D : va_G} {ca : Nat → ClassId} {M : zM} {xs : Nat → Int32} {i4 : Int32} {ls : Array Slot} (X : lwX p s m c b D ca) (hX : va_X b L xs s s.heap) (hbl : b < s.heap.size) (hN : N0 = s.heap.size) (hK1 : 240 < K) (hK2 : K < 100000) (hin : ∀ j : Int32, 0 ≤ j.toInt → j.toInt < 5 → vp_in (i4 + j) L) (hR1 : cells ≤ 601024) (hR2 : slots ≤ 7293034) (hl : lv_has ls 7 [(0, .ref b), (1, .ref (N0 + 0)), (2, .ref (N0 + 139)), (3, .ref (N0 + 177)), (4, .int i4)]) (hs0 : lwS N0 D ca K M H) (hS : va_S (z_A N0) s.heap H locs) (kk : ∀ (M1 : zM) (H1 : Heap) (locs1 : List Loc), lwS N0 D ca (K + 1) M1 H1 → va_S (z_A N0) s.heap H1 locs1 → W p l e room_1 s m #[Value.ref b] below meth c H1 locs1 cells slots Q (F0 m 1308 ls [])) : W p l e room_1 s m #[Value.ref b] below meth c H locs cells slots Q (F0 m 736 ls []) := by
  obtain ⟨hx, hb, hml, hown, hta, hCx⟩ := id X
  obtain ⟨hH, hShp, f, o, g, hC, hM, hR⟩ := hs0
  have hbA : ¬ z_A N0 b := by rw [hN]; exact Nat.not_le.mpr hbl
  refine lv_aload_n hx hb d_law_736 rfl (lv_at hl 1 rfl) ?_
  refine lv_aload_n hx hb d_law_737 rfl (lv_at hl 0 rfl) ?_
  refine lv_iload hx hb d_law_738 (lv_at hl 4 rfl) ?_
  refine lv_iconst (v := 1) hx hb d_law_740 (by decide) ?_
  refine lv_iadd hx hb d_law_741 ?_
  refine va_sld hx hb hX hbl hbA hS (hin 1 (by decide) (by decide)) d_law_742 ?_
  refine lv_aload_n hx hb d_law_743 rfl (lv_at hl 0 rfl) ?_
  refine lv_iload hx hb d_law_744 (lv_at hl 4 rfl) ?_
  refine lv_iconst (v := 2) hx hb d_law_746 (by decide) ?_
  refine lv_iadd hx hb d_law_747 ?_
  refine va_sld hx hb hX hbl hbA hS (hin 2 (by decide) (by decide)) d_law_748 ?_
  refine lw_call (N0 := N0) (a := 0) (ci := 11) (C := z_C11) (T := z_T11) (N := 18) (i1 := 881) (i2 := 882) (i3 := 883) (as := [.int (xs (i4 + 1).toNatClampNeg), .int (xs (i4 + 2).toNatClampNeg)]) (rest := []) X zg_CG_node (Zm.kI (st_node K hK1 hK2 (xs (i4 + 1).toNatClampNeg) (xs (i4 + 2).toNatClampNeg) M f o g hC hM hR) (Or.inl rfl)) (by decide) rfl rfl (hC.1 0 (by decide) (by decide) (by decide)) rfl (by decide +kernel) (by decide +kernel) (by decide +kernel) hH hS hShp (fun r M1 hp => hShp.c hp.1.1 hp.1.2.1) hl.1 rfl (by decide) d_law_749 hR1 hR2 (fun r M1 H1 locs1 hp hH1 hS1 => ?_)
  obtain ⟨⟨hc1, hsm1, v, rfl, hz2⟩, x, hvx⟩ := hp
  have hv : v = .int x := Option.some.inj hvx
  subst hv
  have hShp1 := hShp.c hc1 hsm1
  have hS := hS1
  have hM1 := hM.smc hsm1
  show W p l e room_1 s m #[Value.ref b] below meth c H1 locs1 cells slots Q (F0 m 752 ls [.int x])
  refine lv_aload_n hx hb d_law_752 rfl (lv_at hl 2 rfl) ?_
  refine lv_aload_n hx hb d_law_753 rfl (lv_at hl 0 rfl) ?_
  refine lv_iload hx hb d_law_754 (lv_at hl 4 rfl) ?_
  refine lv_iconst (v := 1) hx hb d_law_756 (by decide) ?_
  refine lv_iadd hx hb d_law_757 ?_
  refine va_sld hx hb hX hbl hbA hS (hin 1 (by decide) (by decide)) d_law_758 ?_
  refine lv_aload_n hx hb d_law_759 rfl (lv_at hl 0 rfl) ?_
  refine lv_iload hx hb d_law_760 (lv_at hl 4 rfl) ?_
  refine lv_iconst (v := 2) hx hb d_law_762 (by decide) ?_
  refine lv_iadd hx hb d_law_763 ?_
  refine va_sld hx hb hX hbl hbA hS (hin 2 (by decide) (by decide)) d_law_764 ?_
  refine lw_call (N0 := N0) (a := 139) (ci := 12) (C := z_C12) (T := z_T12) (N := 50) (i1 := 1689) (i2 := 1690) (i3 := 1691) (as := [.int (xs (i4 + 1).toNatClampNeg), .int (xs (i4 + 2).toNatClampNeg)]) (rest := [.int x]) X zg_MO_node hz2 (by decide) rfl rfl hM1.1 rfl (by decide +kernel) (by decide +kernel) (by decide +kernel) hH1 hS hShp1 (fun r M2 hp => by obtain ⟨-, f9, o9, g9, p1, p2, p3, p4, p5⟩ := hp; exact hShp.m p1 p2 p4 p5) hl.1 rfl (Nat.le_of_ble_eq_true rfl) d_law_765 hR1 hR2 (fun r M2 H2 locs2 hp hH2 hS2 => ?_)
  obtain ⟨rfl, f9, o9, g9, p1, p2, p3, p4, p5⟩ := hp
  show W p l e room_1 s m #[Value.ref b] below meth c H2 locs2 cells slots Q (F0 m 768 ls [.int x, .int x])
  refine lv_icmp_eq (tgt := 1308) hx hb d_law_768 (by decide) (fun _ => ?_) (fun q => absurd rfl q)
  exact kk M2 H2 locs2 ⟨hH2, hShp.m p1 p2 p4 p5, f9, o9, g9, p1, p2, p3⟩ hS2

set_option maxHeartbeats 4000000 in
set_option maxRecDepth 100000 in
theorem lw_case19 {p : Program} {l : Launch} {e : Env} {s : State} {m : MethodId} {below : List Frame} {meth : Method} {c : Code} {H : Heap} {locs : List Loc} {cells slots : Nat} {Q : State → Prop} {b L K : Nat} {N0 : Nat} {D : va_G} {ca : Nat → ClassId} {M : zM} {xs : Nat → Int32} {i4 : Int32} {ls : Array Slot} (X : lwX p s m c b D ca) (hX : va_X b L xs s s.heap) (hbl : b < s.heap.size) (hN : N0 = s.heap.size) (hK1 : 240 < K) (hK2 : K < 100000) (hin : ∀ j : Int32, 0 ≤ j.toInt → j.toInt < 5 → vp_in (i4 + j) L) (hR1 : cells ≤ 601024) (hR2 : slots ≤ 7293034) (hl : lv_has ls 7 [(0, .ref b), (1, .ref (N0 + 0)), (2, .ref (N0 + 139)), (3, .ref (N0 + 177)), (4, .int i4)]) (hs0 : lwS N0 D ca K M H) (hS : va_S (z_A N0) s.heap H locs) (kk : ∀ (M1 : zM) (H1 : Heap) (locs1 : List Loc), lwS N0 D ca (K + 1) M1 H1 → va_S (z_A N0) s.heap H1 locs1 → W p l e room_1 s m #[Value.ref b] below meth c H1 locs1 cells slots Q (F0 m 1308 ls [])) : W p l e room_1 s m #[Value.ref b] below meth c H locs cells slots Q (F0 m 773 ls []) := by
  obtain ⟨hx, hb, hml, hown, hta, hCx⟩ := id X
  obtain ⟨hH, hShp, f, o, g, hC, hM, hR⟩ := hs0
  have hbA : ¬ z_A N0 b := by rw [hN]; exact Nat.not_le.mpr hbl
  refine lv_aload_n hx hb d_law_773 rfl (lv_at hl 1 rfl) ?_
  refine lv_aload_n hx hb d_law_774 rfl (lv_at hl 0 rfl) ?_
  refine lv_iload hx hb d_law_775 (lv_at hl 4 rfl) ?_
  refine lv_iconst (v := 1) hx hb d_law_777 (by decide) ?_
  refine lv_iadd hx hb d_law_778 ?_
  refine va_sld hx hb hX hbl hbA hS (hin 1 (by decide) (by decide)) d_law_779 ?_
  refine lw_call (N0 := N0) (a := 0) (ci := 11) (C := z_C11) (T := z_T11) (N := 18) (i1 := 890) (i2 := 891) (i3 := 892) (as := [.int (xs (i4 + 1).toNatClampNeg)]) (rest := []) X zg_CG_ways (Zm.kI (st_ways K hK1 hK2 (xs (i4 + 1).toNatClampNeg) M f o g hC hM hR) (Or.inl rfl)) (by decide) rfl rfl (hC.1 0 (by decide) (by decide) (by decide)) rfl (by decide +kernel) (by decide +kernel) (by decide +kernel) hH hS hShp (fun r M1 hp => hShp.c hp.1.1 hp.1.2.1) hl.1 rfl (by decide) d_law_780 hR1 hR2 (fun r M1 H1 locs1 hp hH1 hS1 => ?_)
  obtain ⟨⟨hc1, hsm1, v, rfl, hz2⟩, x, hvx⟩ := hp
  have hv : v = .int x := Option.some.inj hvx
  subst hv
  have hShp1 := hShp.c hc1 hsm1
  have hS := hS1
  have hM1 := hM.smc hsm1
  show W p l e room_1 s m #[Value.ref b] below meth c H1 locs1 cells slots Q (F0 m 783 ls [.int x])
  refine lv_aload_n hx hb d_law_783 rfl (lv_at hl 2 rfl) ?_
  refine lv_aload_n hx hb d_law_784 rfl (lv_at hl 0 rfl) ?_
  refine lv_iload hx hb d_law_785 (lv_at hl 4 rfl) ?_
  refine lv_iconst (v := 1) hx hb d_law_787 (by decide) ?_
  refine lv_iadd hx hb d_law_788 ?_
  refine va_sld hx hb hX hbl hbA hS (hin 1 (by decide) (by decide)) d_law_789 ?_
  refine lw_call (N0 := N0) (a := 139) (ci := 12) (C := z_C12) (T := z_T12) (N := 50) (i1 := 1702) (i2 := 1703) (i3 := 1704) (as := [.int (xs (i4 + 1).toNatClampNeg)]) (rest := [.int x]) X zg_MO_ways hz2 (by decide) rfl rfl hM1.1 rfl (by decide +kernel) (by decide +kernel) (by decide +kernel) hH1 hS hShp1 (fun r M2 hp => by obtain ⟨-, f9, o9, g9, p1, p2, p3, p4, p5⟩ := hp; exact hShp.m p1 p2 p4 p5) hl.1 rfl (Nat.le_of_ble_eq_true rfl) d_law_790 hR1 hR2 (fun r M2 H2 locs2 hp hH2 hS2 => ?_)
  obtain ⟨rfl, f9, o9, g9, p1, p2, p3, p4, p5⟩ := hp
  show W p l e room_1 s m #[Value.ref b] below meth c H2 locs2 cells slots Q (F0 m 793 ls [.int x, .int x])
  refine lv_icmp_eq (tgt := 1308) hx hb d_law_793 (by decide) (fun _ => ?_) (fun q => absurd rfl q)
  exact kk M2 H2 locs2 ⟨hH2, hShp.m p1 p2 p4 p5, f9, o9, g9, p1, p2, p3⟩ hS2

set_option maxHeartbeats 4000000 in
set_option maxRecDepth 100000 in
theorem lw_case20 {p : Program} {l : Launch} {e : Env} {s : State} {m : MethodId} {below : List Frame} {meth : Method} {c : Code} {H : Heap} {locs : List Loc} {cells slots : Nat} {Q : State → Prop} {b L K : Nat} {N0 : Nat} {D : va_G} {ca : Nat → ClassId} {M : zM} {xs : Nat → Int32} {i4 : Int32} {ls : Array Slot} (X : lwX p s m c b D ca) (hX : va_X b L xs s s.heap) (hbl : b < s.heap.size) (hN : N0 = s.heap.size) (hK1 : 240 < K) (hK2 : K < 100000) (hin : ∀ j : Int32, 0 ≤ j.toInt → j.toInt < 5 → vp_in (i4 + j) L) (hR1 : cells ≤ 601024) (hR2 : slots ≤ 7293034) (hl : lv_has ls 7 [(0, .ref b), (1, .ref (N0 + 0)), (2, .ref (N0 + 139)), (3, .ref (N0 + 177)), (4, .int i4)]) (hs0 : lwS N0 D ca K M H) (hS : va_S (z_A N0) s.heap H locs) (kk : ∀ (M1 : zM) (H1 : Heap) (locs1 : List Loc), lwS N0 D ca (K + 1) M1 H1 → va_S (z_A N0) s.heap H1 locs1 → W p l e room_1 s m #[Value.ref b] below meth c H1 locs1 cells slots Q (F0 m 1308 ls [])) : W p l e room_1 s m #[Value.ref b] below meth c H locs cells slots Q (F0 m 798 ls []) := by
  obtain ⟨hx, hb, hml, hown, hta, hCx⟩ := id X
  obtain ⟨hH, hShp, f, o, g, hC, hM, hR⟩ := hs0
  have hbA : ¬ z_A N0 b := by rw [hN]; exact Nat.not_le.mpr hbl
  refine lv_aload_n hx hb d_law_798 rfl (lv_at hl 1 rfl) ?_
  refine lv_aload_n hx hb d_law_799 rfl (lv_at hl 0 rfl) ?_
  refine lv_iload hx hb d_law_800 (lv_at hl 4 rfl) ?_
  refine lv_iconst (v := 1) hx hb d_law_802 (by decide) ?_
  refine lv_iadd hx hb d_law_803 ?_
  refine va_sld hx hb hX hbl hbA hS (hin 1 (by decide) (by decide)) d_law_804 ?_
  refine lv_aload_n hx hb d_law_805 rfl (lv_at hl 0 rfl) ?_
  refine lv_iload hx hb d_law_806 (lv_at hl 4 rfl) ?_
  refine lv_iconst (v := 2) hx hb d_law_808 (by decide) ?_
  refine lv_iadd hx hb d_law_809 ?_
  refine va_sld hx hb hX hbl hbA hS (hin 2 (by decide) (by decide)) d_law_810 ?_
  refine lw_call (N0 := N0) (a := 0) (ci := 11) (C := z_C11) (T := z_T11) (N := 18) (i1 := 905) (i2 := 906) (i3 := 907) (as := [.int (xs (i4 + 1).toNatClampNeg), .int (xs (i4 + 2).toNatClampNeg)]) (rest := []) X zg_CG_extent (Zm.kI (st_extent K hK1 hK2 (xs (i4 + 1).toNatClampNeg) (xs (i4 + 2).toNatClampNeg) M f o g hC hM hR) (Or.inl rfl)) (by decide) rfl rfl (hC.1 0 (by decide) (by decide) (by decide)) rfl (by decide +kernel) (by decide +kernel) (by decide +kernel) hH hS hShp (fun r M1 hp => hShp.c hp.1.1 hp.1.2.1) hl.1 rfl (by decide) d_law_811 hR1 hR2 (fun r M1 H1 locs1 hp hH1 hS1 => ?_)
  obtain ⟨⟨hc1, hsm1, v, rfl, hz2⟩, x, hvx⟩ := hp
  have hv : v = .int x := Option.some.inj hvx
  subst hv
  have hShp1 := hShp.c hc1 hsm1
  have hS := hS1
  have hM1 := hM.smc hsm1
  show W p l e room_1 s m #[Value.ref b] below meth c H1 locs1 cells slots Q (F0 m 814 ls [.int x])
  refine lv_aload_n hx hb d_law_814 rfl (lv_at hl 2 rfl) ?_
  refine lv_aload_n hx hb d_law_815 rfl (lv_at hl 0 rfl) ?_
  refine lv_iload hx hb d_law_816 (lv_at hl 4 rfl) ?_
  refine lv_iconst (v := 1) hx hb d_law_818 (by decide) ?_
  refine lv_iadd hx hb d_law_819 ?_
  refine va_sld hx hb hX hbl hbA hS (hin 1 (by decide) (by decide)) d_law_820 ?_
  refine lv_aload_n hx hb d_law_821 rfl (lv_at hl 0 rfl) ?_
  refine lv_iload hx hb d_law_822 (lv_at hl 4 rfl) ?_
  refine lv_iconst (v := 2) hx hb d_law_824 (by decide) ?_
  refine lv_iadd hx hb d_law_825 ?_
  refine va_sld hx hb hX hbl hbA hS (hin 2 (by decide) (by decide)) d_law_826 ?_
  refine lw_call (N0 := N0) (a := 139) (ci := 12) (C := z_C12) (T := z_T12) (N := 50) (i1 := 1710) (i2 := 1711) (i3 := 1712) (as := [.int (xs (i4 + 1).toNatClampNeg), .int (xs (i4 + 2).toNatClampNeg)]) (rest := [.int x]) X zg_MO_extent hz2 (by decide) rfl rfl hM1.1 rfl (by decide +kernel) (by decide +kernel) (by decide +kernel) hH1 hS hShp1 (fun r M2 hp => by obtain ⟨-, f9, o9, g9, p1, p2, p3, p4, p5⟩ := hp; exact hShp.m p1 p2 p4 p5) hl.1 rfl (Nat.le_of_ble_eq_true rfl) d_law_827 hR1 hR2 (fun r M2 H2 locs2 hp hH2 hS2 => ?_)
  obtain ⟨rfl, f9, o9, g9, p1, p2, p3, p4, p5⟩ := hp
  show W p l e room_1 s m #[Value.ref b] below meth c H2 locs2 cells slots Q (F0 m 830 ls [.int x, .int x])
  refine lv_icmp_eq (tgt := 1308) hx hb d_law_830 (by decide) (fun _ => ?_) (fun q => absurd rfl q)
  exact kk M2 H2 locs2 ⟨hH2, hShp.m p1 p2 p4 p5, f9, o9, g9, p1, p2, p3⟩ hS2
