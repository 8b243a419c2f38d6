/-! THE LAW: its cases -/
set_option maxHeartbeats 4000000 in
set_option maxRecDepth 100000 in
theorem lw_case31 {p : Program} {l : Launch} {e : Env} {s : State} {m : MethodId} {below : List Frame} {meth : Method} {c : Code} {H : Heap} {locs : List Loc} {cells slots : Nat} {Q : State → Prop} {b L K : Nat} {N0 : Nat} {D : va_G} {ca : Nat → ClassId} {M : zM} {xs : Nat → Int32} {i4 : Int32} {ls : Array Slot} (X : lwX p s m c b D ca) (hX : va_X b L xs s s.heap) (hbl : b < s.heap.size) (hN : N0 = s.heap.size) (hK1 : 240 < K) (hK2 : K < 100000) (hin : ∀ j : Int32, 0 ≤ j.toInt → j.toInt < 5 → vp_in (i4 + j) L) (hR1 : cells ≤ 601024) (hR2 : slots ≤ 7293034) (hl : lv_has ls 7 [(0, .ref b), (1, .ref (N0 + 0)), (2, .ref (N0 + 139)), (3, .ref (N0 + 177)), (4, .int i4)]) (hs0 : lwS N0 D ca K M H) (hS : va_S (z_A N0) s.heap H locs) (kk : ∀ (M1 : zM) (H1 : Heap) (locs1 : List Loc), lwS N0 D ca (K + 1) M1 H1 → va_S (z_A N0) s.heap H1 locs1 → W p l e room_1 s m #[Value.ref b] below meth c H1 locs1 cells slots Q (F0 m 1308 ls [])) : W p l e room_1 s m #[Value.ref b] below meth c H locs cells slots Q (F0 m 1145 ls []) := by
  obtain ⟨hx, hb, hml, hown, hta, hCx⟩ := id X
  obtain ⟨hH, hShp, f, o, g, hC, hM, hR⟩ := hs0
  have hbA : ¬ z_A N0 b := by rw [hN]; exact Nat.not_le.mpr hbl
  refine lv_aload_n hx hb d_law_1145 rfl (lv_at hl 1 rfl) ?_
  refine lv_aload_n hx hb d_law_1146 rfl (lv_at hl 0 rfl) ?_
  refine lv_iload hx hb d_law_1147 (lv_at hl 4 rfl) ?_
  refine lv_iconst (v := 1) hx hb d_law_1149 (by decide) ?_
  refine lv_iadd hx hb d_law_1150 ?_
  refine va_sld hx hb hX hbl hbA hS (hin 1 (by decide) (by decide)) d_law_1151 ?_
  refine lw_call (N0 := N0) (a := 0) (ci := 11) (C := z_C11) (T := z_T11) (N := 18) (i1 := 1077) (i2 := 1078) (i3 := 1079) (as := [.int (xs (i4 + 1).toNatClampNeg)]) (rest := []) X zg_CG_repair (Zm.kI (st_repair K hK1 hK2 (xs (i4 + 1).toNatClampNeg) M f o g hC hM hR) (Or.inl rfl)) (by decide) rfl rfl (hC.1 0 (by decide) (by decide) (by decide)) rfl (by decide +kernel) (by decide +kernel) (by decide +kernel) hH hS hShp (fun r M1 hp => hShp.c hp.1.1 hp.1.2.1) hl.1 rfl (by decide) d_law_1152 hR1 hR2 (fun r M1 H1 locs1 hp hH1 hS1 => ?_)
  obtain ⟨⟨hc1, hsm1, v, rfl, hz2⟩, x, hvx⟩ := hp
  have hv : v = .int x := Option.some.inj hvx
  subst hv
  have hShp1 := hShp.c hc1 hsm1
  have hS := hS1
  have hM1 := hM.smc hsm1
  show W p l e room_1 s m #[Value.ref b] below meth c H1 locs1 cells slots Q (F0 m 1155 ls [.int x])
  refine lv_aload_n hx hb d_law_1155 rfl (lv_at hl 2 rfl) ?_
  refine lv_aload_n hx hb d_law_1156 rfl (lv_at hl 0 rfl) ?_
  refine lv_iload hx hb d_law_1157 (lv_at hl 4 rfl) ?_
  refine lv_iconst (v := 1) hx hb d_law_1159 (by decide) ?_
  refine lv_iadd hx hb d_law_1160 ?_
  refine va_sld hx hb hX hbl hbA hS (hin 1 (by decide) (by decide)) d_law_1161 ?_
  refine lw_call (N0 := N0) (a := 139) (ci := 12) (C := z_C12) (T := z_T12) (N := 50) (i1 := 1814) (i2 := 1815) (i3 := 1816) (as := [.int (xs (i4 + 1).toNatClampNeg)]) (rest := [.int x]) X zg_MO_repair hz2 (by decide) rfl rfl hM1.1 rfl (by decide +kernel) (by decide +kernel) (by decide +kernel) hH1 hS hShp1 (fun r M2 hp => by obtain ⟨-, f9, o9, g9, p1, p2, p3, p4, p5⟩ := hp; exact hShp.m p1 p2 p4 p5) hl.1 rfl (Nat.le_of_ble_eq_true rfl) d_law_1162 hR1 hR2 (fun r M2 H2 locs2 hp hH2 hS2 => ?_)
  obtain ⟨rfl, f9, o9, g9, p1, p2, p3, p4, p5⟩ := hp
  show W p l e room_1 s m #[Value.ref b] below meth c H2 locs2 cells slots Q (F0 m 1165 ls [.int x, .int x])
  refine lv_icmp_eq (tgt := 1308) hx hb d_law_1165 (by decide) (fun _ => ?_) (fun q => absurd rfl q)
  exact kk M2 H2 locs2 ⟨hH2, hShp.m p1 p2 p4 p5, f9, o9, g9, p1, p2, p3⟩ hS2

set_option maxHeartbeats 4000000 in
set_option maxRecDepth 100000 in
theorem lw_case32 {p : Program} {l : Launch} {e : Env} {s : State} {m : MethodId} {below : List Frame} {meth : Method} {c : Code} {H : Heap} {locs : List Loc} {cells slots : Nat} {Q : State → Prop} {b L K : Nat} {N0 : Nat} {D : va_G} {ca : Nat → ClassId} {M : zM} {xs : Nat → Int32} {i4 : Int32} {ls : Array Slot} (X : lwX p s m c b D ca) (hX : va_X b L xs s s.heap) (hbl : b < s.heap.size) (hN : N0 = s.heap.size) (hK1 : 240 < K) (hK2 : K < 100000) (hin : ∀ j : Int32, 0 ≤ j.toInt → j.toInt < 5 → vp_in (i4 + j) L) (hR1 : cells ≤ 601024) (hR2 : slots ≤ 7293034) (hl : lv_has ls 7 [(0, .ref b), (1, .ref (N0 + 0)), (2, .ref (N0 + 139)), (3, .ref (N0 + 177)), (4, .int i4)]) (hs0 : lwS N0 D ca K M H) (hS : va_S (z_A N0) s.heap H locs) (kk : ∀ (M1 : zM) (H1 : Heap) (locs1 : List Loc), lwS N0 D ca (K + 1) M1 H1 → va_S (z_A N0) s.heap H1 locs1 → W p l e room_1 s m #[Value.ref b] below meth c H1 locs1 cells slots Q (F0 m 1308 ls [])) : W p l e room_1 s m #[Value.ref b] below meth c H locs cells slots Q (F0 m 1170 ls []) := by
  obtain ⟨hx, hb, hml, hown, hta, hCx⟩ := id X
  obtain ⟨hH, hShp, f, o, g, hC, hM, hR⟩ := hs0
  have hbA : ¬ z_A N0 b := by rw [hN]; exact Nat.not_le.mpr hbl
  refine lv_aload_n hx hb d_law_1170 rfl (lv_at hl 1 rfl) ?_
  refine lw_call (N0 := N0) (a := 0) (ci := 11) (C := z_C11) (T := z_T11) (N := 18) (i1 := 1097) (i2 := 1098) (i3 := 1099) (as := []) (rest := []) X zg_CG_print (Zm.kI (st_print K hK1 hK2  M f o g hC hM hR) (Or.inl rfl)) (by decide) rfl rfl (hC.1 0 (by decide) (by decide) (by decide)) rfl (by decide +kernel) (by decide +kernel) (by decide +kernel) hH hS hShp (fun r M1 hp => hShp.c hp.1.1 hp.1.2.1) hl.1 rfl (by decide) d_law_1171 hR1 hR2 (fun r M1 H1 locs1 hp hH1 hS1 => ?_)
  obtain ⟨⟨hc1, hsm1, v, rfl, hz2⟩, x, hvx⟩ := hp
  have hv : v = .int x := Option.some.inj hvx
  subst hv
  have hShp1 := hShp.c hc1 hsm1
  have hS := hS1
  have hM1 := hM.smc hsm1
  show W p l e room_1 s m #[Value.ref b] below meth c H1 locs1 cells slots Q (F0 m 1174 ls [.int x])
  refine lv_aload_n hx hb d_law_1174 rfl (lv_at hl 2 rfl) ?_
  refine lw_call (N0 := N0) (a := 139) (ci := 12) (C := z_C12) (T := z_T12) (N := 50) (i1 := 1822) (i2 := 1823) (i3 := 1824) (as := []) (rest := [.int x]) X zg_MO_print hz2 (by decide) rfl rfl hM1.1 rfl (by decide +kernel) (by decide +kernel) (by decide +kernel) hH1 hS hShp1 (fun r M2 hp => by obtain ⟨-, f9, o9, g9, p1, p2, p3, p4, p5⟩ := hp; exact hShp.m p1 p2 p4 p5) hl.1 rfl (Nat.le_of_ble_eq_true rfl) d_law_1175 hR1 hR2 (fun r M2 H2 locs2 hp hH2 hS2 => ?_)
  obtain ⟨rfl, f9, o9, g9, p1, p2, p3, p4, p5⟩ := hp
  show W p l e room_1 s m #[Value.ref b] below meth c H2 locs2 cells slots Q (F0 m 1178 ls [.int x, .int x])
  refine lv_icmp_eq (tgt := 1308) hx hb d_law_1178 (by decide) (fun _ => ?_) (fun q => absurd rfl q)
  exact kk M2 H2 locs2 ⟨hH2, hShp.m p1 p2 p4 p5, f9, o9, g9, p1, p2, p3⟩ hS2

set_option maxHeartbeats 4000000 in
set_option maxRecDepth 100000 in
theorem lw_case33 {p : Program} {l : Launch} {e : Env} {s : State} {m : MethodId} {below : List Frame} {meth : Method} {c : Code} {H : Heap} {locs : List Loc} {cells slots : Nat} {Q : State → Prop} {b L K : Nat} {N0 : Nat} {D : va_G} {ca : Nat → ClassId} {M : zM} {xs : Nat → Int32} {i4 : Int32} {ls : Array Slot} (X : lwX p s m c b D ca) (hX : va_X b L xs s s.heap) (hbl : b < s.heap.size) (hN : N0 = s.heap.size) (hK1 : 240 < K) (hK2 : K < 100000) (hin : ∀ j : Int32, 0 ≤ j.toInt → j.toInt < 5 → vp_in (i4 + j) L) (hR1 : cells ≤ 601024) (hR2 : slots ≤ 7293034) (hl : lv_has ls 7 [(0, .ref b), (1, .ref (N0 + 0)), (2, .ref (N0 + 139)), (3, .ref (N0 + 177)), (4, .int i4)]) (hs0 : lwS N0 D ca K M H) (hS : va_S (z_A N0) s.heap H locs) (kk : ∀ (M1 : zM) (H1 : Heap) (locs1 : List Loc), lwS N0 D ca (K + 1) M1 H1 → va_S (z_A N0) s.heap H1 locs1 → W p l e room_1 s m #[Value.ref b] below meth c H1 locs1 cells slots Q (F0 m 1308 ls [])) : W p l e room_1 s m #[Value.ref b] below meth c H locs cells slots Q (F0 m 1183 ls []) := by
  obtain ⟨hx, hb, hml, hown, hta, hCx⟩ := id X
  obtain ⟨hH, hShp, f, o, g, hC, hM, hR⟩ := hs0
  have hbA : ¬ z_A N0 b := by rw [hN]; exact Nat.not_le.mpr hbl
  refine lv_aload_n hx hb d_law_1183 rfl (lv_at hl 1 rfl) ?_
  refine lv_aload_n hx hb d_law_1184 rfl (lv_at hl 0 rfl) ?_
  refine lv_iload hx hb d_law_1185 (lv_at hl 4 rfl) ?_
  refine lv_iconst (v := 1) hx hb d_law_1187 (by decide) ?_
  refine lv_iadd hx hb d_law_1188 ?_
  refine va_sld hx hb hX hbl hbA hS (hin 1 (by decide) (by decide)) d_law_1189 ?_
  refine lw_call (N0 := N0) (a := 0) (ci := 11) (C := z_C11) (T := z_T11) (N := 18) (i1 := 1106) (i2 := 1107) (i3 := 1108) (as := [.int (xs (i4 + 1).toNatClampNeg)]) (rest := []) X zg_CG_letter (Zm.kI (st_letter K hK1 hK2 (xs (i4 + 1).toNatClampNeg) M f o g hC hM hR) (Or.inl rfl)) (by decide) rfl rfl (hC.1 0 (by decide) (by decide) (by decide)) rfl (by decide +kernel) (by decide +kernel) (by decide +kernel) hH hS hShp (fun r M1 hp => hShp.c hp.1.1 hp.1.2.1) hl.1 rfl (by decide) d_law_1190 hR1 hR2 (fun r M1 H1 locs1 hp hH1 hS1 => ?_)
  obtain ⟨⟨hc1, hsm1, v, rfl, hz2⟩, x, hvx⟩ := hp
  have hv : v = .int x := Option.some.inj hvx
  subst hv
  have hShp1 := hShp.c hc1 hsm1
  have hS := hS1
  have hM1 := hM.smc hsm1
  show W p l e room_1 s m #[Value.ref b] below meth c H1 locs1 cells slots Q (F0 m 1193 ls [.int x])
  refine lv_aload_n hx hb d_law_1193 rfl (lv_at hl 2 rfl) ?_
  refine lv_aload_n hx hb d_law_1194 rfl (lv_at hl 0 rfl) ?_
  refine lv_iload hx hb d_law_1195 (lv_at hl 4 rfl) ?_
  refine lv_iconst (v := 1) hx hb d_law_1197 (by decide) ?_
  refine lv_iadd hx hb d_law_1198 ?_
  refine va_sld hx hb hX hbl hbA hS (hin 1 (by decide) (by decide)) d_law_1199 ?_
  refine lw_call (N0 := N0) (a := 139) (ci := 12) (C := z_C12) (T := z_T12) (N := 50) (i1 := 1826) (i2 := 1827) (i3 := 1828) (as := [.int (xs (i4 + 1).toNatClampNeg)]) (rest := [.int x]) X zg_MO_letter hz2 (by decide) rfl rfl hM1.1 rfl (by decide +kernel) (by decide +kernel) (by decide +kernel) hH1 hS hShp1 (fun r M2 hp => by obtain ⟨-, f9, o9, g9, p1, p2, p3, p4, p5⟩ := hp; exact hShp.m p1 p2 p4 p5) hl.1 rfl (Nat.le_of_ble_eq_true rfl) d_law_1200 hR1 hR2 (fun r M2 H2 locs2 hp hH2 hS2 => ?_)
  obtain ⟨rfl, f9, o9, g9, p1, p2, p3, p4, p5⟩ := hp
  show W p l e room_1 s m #[Value.ref b] below meth c H2 locs2 cells slots Q (F0 m 1203 ls [.int x, .int x])
  refine lv_icmp_eq (tgt := 1308) hx hb d_law_1203 (by decide) (fun _ => ?_) (fun q => absurd rfl q)
  exact kk M2 H2 locs2 ⟨hH2, hShp.m p1 p2 p4 p5, f9, o9, g9, p1, p2, p3⟩ hS2

set_option maxHeartbeats 4000000 in
set_option maxRecDepth 100000 in
theorem lw_case34 {p : Program} {l : Launch} {e : Env} {s : State} {m : MethodId} {below : List Frame} {meth : Method} {c : Code} {H : Heap} {locs : List Loc} {cells slots : Nat} {Q : State → Prop} {b L K : Nat} {N0 : Nat} {D : va_G} {ca : Nat → ClassId} {M : zM} {xs : Nat → Int32} {i4 : Int32} {ls : Array Slot} (X : lwX p s m c b D ca) (hX : va_X b L xs s s.heap) (hbl : b < s.heap.size) (hN : N0 = s.heap.size) (hK1 : 240 < K) (hK2 : K < 100000) (hin : ∀ j : Int32, 0 ≤ j.toInt → j.toInt < 5 → vp_in (i4 + j) L) (hR1 : cells ≤ 601024) (hR2 : slots ≤ 7293034) (hl : lv_has ls 7 [(0, .ref b), (1, .ref (N0 + 0)), (2, .ref (N0 + 139)), (3, .ref (N0 + 177)), (4, .int i4)]) (hs0 : lwS N0 D ca K M H) (hS : va_S (z_A N0) s.heap H locs) (kk : ∀ (M1 : zM) (H1 : Heap) (locs1 : List Loc), lwS N0 D ca (K + 1) M1 H1 → va_S (z_A N0) s.heap H1 locs1 → W p l e room_1 s m #[Value.ref b] below meth c H1 locs1 cells slots Q (F0 m 1308 ls [])) : W p l e room_1 s m #[Value.ref b] below meth c H locs cells slots Q (F0 m 1208 ls []) := by
  obtain ⟨hx, hb, hml, hown, hta, hCx⟩ := id X
  obtain ⟨hH, hShp, f, o, g, hC, hM, hR⟩ := hs0
  have hbA : ¬ z_A N0 b := by rw [hN]; exact Nat.not_le.mpr hbl
  refine lv_aload_n hx hb d_law_1208 rfl (lv_at hl 1 rfl) ?_
  refine lv_aload_n hx hb d_law_1209 rfl (lv_at hl 0 rfl) ?_
  refine lv_iload hx hb d_law_1210 (lv_at hl 4 rfl) ?_
  refine lv_iconst (v := 1) hx hb d_law_1212 (by decide) ?_
  refine lv_iadd hx hb d_law_1213 ?_
  refine va_sld hx hb hX hbl hbA hS (hin 1 (by decide) (by decide)) d_law_1214 ?_
  refine lw_call (N0 := N0) (a := 0) (ci := 11) (C := z_C11) (T := z_T11) (N := 18) (i1 := 1110) (i2 := 1111) (i3 := 1112) (as := [.int (xs (i4 + 1).toNatClampNeg)]) (rest := []) X zg_CG_keep (Zm.kI (st_keep K hK1 hK2 (xs (i4 + 1).toNatClampNeg) M f o g hC hM hR) (Or.inr rfl)) (by decide) rfl rfl (hC.1 0 (by decide) (by decide) (by decide)) rfl (by decide +kernel) (by decide +kernel) (by decide +kernel) hH hS hShp (fun r M1 hp => hShp.c hp.1.1 hp.1.2.1) hl.1 rfl (by decide) d_law_1215 hR1 hR2 (fun r M1 H1 locs1 hp hH1 hS1 => ?_)
  obtain ⟨⟨hc1, hsm1, v, rfl, hz2⟩, x, hvx⟩ := hp
  have hv : v = .int x := Option.some.inj hvx
  subst hv
  have hShp1 := hShp.c hc1 hsm1
  have hS := hS1
  have hM1 := hM.smc hsm1
  show W p l e room_1 s m #[Value.ref b] below meth c H1 locs1 cells slots Q (F0 m 1218 ls [.int x])
  refine lv_aload_n hx hb d_law_1218 rfl (lv_at hl 2 rfl) ?_
  refine lv_aload_n hx hb d_law_1219 rfl (lv_at hl 0 rfl) ?_
  refine lv_iload hx hb d_law_1220 (lv_at hl 4 rfl) ?_
  refine lv_iconst (v := 1) hx hb d_law_1222 (by decide) ?_
  refine lv_iadd hx hb d_law_1223 ?_
  refine va_sld hx hb hX hbl hbA hS (hin 1 (by decide) (by decide)) d_law_1224 ?_
  refine lw_call (N0 := N0) (a := 139) (ci := 12) (C := z_C12) (T := z_T12) (N := 50) (i1 := 1830) (i2 := 1831) (i3 := 1832) (as := [.int (xs (i4 + 1).toNatClampNeg)]) (rest := [.int x]) X zg_MO_keep hz2 (by decide) rfl rfl hM1.1 rfl (by decide +kernel) (by decide +kernel) (by decide +kernel) hH1 hS hShp1 (fun r M2 hp => by obtain ⟨-, f9, o9, g9, p1, p2, p3, p4, p5⟩ := hp; exact hShp.m p1 p2 p4 p5) hl.1 rfl (Nat.le_of_ble_eq_true rfl) d_law_1225 hR1 hR2 (fun r M2 H2 locs2 hp hH2 hS2 => ?_)
  obtain ⟨rfl, f9, o9, g9, p1, p2, p3, p4, p5⟩ := hp
  show W p l e room_1 s m #[Value.ref b] below meth c H2 locs2 cells slots Q (F0 m 1228 ls [.int x, .int x])
  refine lv_icmp_eq (tgt := 1308) hx hb d_law_1228 (by decide) (fun _ => ?_) (fun q => absurd rfl q)
  exact kk M2 H2 locs2 ⟨hH2, hShp.m p1 p2 p4 p5, f9, o9, g9, p1, p2, p3⟩ hS2

set_option maxHeartbeats 4000000 in
set_option maxRecDepth 100000 in
theorem lw_case35 {p : Program} {l : Launch} {e : Env} {s : State} {m : MethodId} {below : List Frame} {meth : Method} {c : Code} {H : Heap} {locs : List Loc} {cells slots : Nat} {Q : State → Prop} {b L K : Nat} {N0 : Nat} {D : va_G} {ca : Nat → ClassId} {M : zM} {xs : Nat → Int32} {i4 : Int32} {ls : Array Slot} (X : lwX p s m c b D ca) (hX : va_X b L xs s s.heap) (hbl : b < s.heap.size) (hN : N0 = s.heap.size) (hK1 : 240 < K) (hK2 : K < 100000) (hin : ∀ j : Int32, 0 ≤ j.toInt → j.toInt < 5 → vp_in (i4 + j) L) (hR1 : cells ≤ 601024) (hR2 : slots ≤ 7293034) (hl : lv_has ls 7 [(0, .ref b), (1, .ref (N0 + 0)), (2, .ref (N0 + 139)), (3, .ref (N0 + 177)), (4, .int i4)]) (hs0 : lwS N0 D ca K M H) (hS : va_S (z_A N0) s.heap H locs) (kk : ∀ (M1 : zM) (H1 : Heap) (locs1 : List Loc), lwS N0 D ca (K + 1) M1 H1 → va_S (z_A N0) s.heap H1 locs1 → W p l e room_1 s m #[Value.ref b] below meth c H1 locs1 cells slots Q (F0 m 1308 ls [])) : W p l e room_1 s m #[Value.ref b] below meth c H locs cells slots Q (F0 m 1233 ls []) := by
  obtain ⟨hx, hb, hml, hown, hta, hCx⟩ := id X
  obtain ⟨hH, hShp, f, o, g, hC, hM, hR⟩ := hs0
  have hbA : ¬ z_A N0 b := by rw [hN]; exact Nat.not_le.mpr hbl
  refine lv_aload_n hx hb d_law_1233 rfl (lv_at hl 1 rfl) ?_
  refine lv_aload_n hx hb d_law_1234 rfl (lv_at hl 0 rfl) ?_
  refine lv_iload hx hb d_law_1235 (lv_at hl 4 rfl) ?_
  refine lv_iconst (v := 1) hx hb d_law_1237 (by decide) ?_
  refine lv_iadd hx hb d_law_1238 ?_
  refine va_sld hx hb hX hbl hbA hS (hin 1 (by decide) (by decide)) d_law_1239 ?_
  refine lw_call (N0 := N0) (a := 0) (ci := 11) (C := z_C11) (T := z_T11) (N := 18) (i1 := 1120) (i2 := 1121) (i3 := 1122) (as := [.int (xs (i4 + 1).toNatClampNeg)]) (rest := []) X zg_CG_again (Zm.kI (st_again K hK1 hK2 (xs (i4 + 1).toNatClampNeg) M f o g hC hM hR) (Or.inr rfl)) (by decide) rfl rfl (hC.1 0 (by decide) (by decide) (by decide)) rfl (by decide +kernel) (by decide +kernel) (by decide +kernel) hH hS hShp (fun r M1 hp => hShp.c hp.1.1 hp.1.2.1) hl.1 rfl (by decide) d_law_1240 hR1 hR2 (fun r M1 H1 locs1 hp hH1 hS1 => ?_)
  obtain ⟨⟨hc1, hsm1, v, rfl, hz2⟩, x, hvx⟩ := hp
  have hv : v = .int x := Option.some.inj hvx
  subst hv
  have hShp1 := hShp.c hc1 hsm1
  have hS := hS1
  have hM1 := hM.smc hsm1
  show W p l e room_1 s m #[Value.ref b] below meth c H1 locs1 cells slots Q (F0 m 1243 ls [.int x])
  refine lv_aload_n hx hb d_law_1243 rfl (lv_at hl 2 rfl) ?_
  refine lv_aload_n hx hb d_law_1244 rfl (lv_at hl 0 rfl) ?_
  refine lv_iload hx hb d_law_1245 (lv_at hl 4 rfl) ?_
  refine lv_iconst (v := 1) hx hb d_law_1247 (by decide) ?_
  refine lv_iadd hx hb d_law_1248 ?_
  refine va_sld hx hb hX hbl hbA hS (hin 1 (by decide) (by decide)) d_law_1249 ?_
  refine lw_call (N0 := N0) (a := 139) (ci := 12) (C := z_C12) (T := z_T12) (N := 50) (i1 := 1834) (i2 := 1835) (i3 := 1836) (as := [.int (xs (i4 + 1).toNatClampNeg)]) (rest := [.int x]) X zg_MO_again hz2 (by decide) rfl rfl hM1.1 rfl (by decide +kernel) (by decide +kernel) (by decide +kernel) hH1 hS hShp1 (fun r M2 hp => by obtain ⟨-, f9, o9, g9, p1, p2, p3, p4, p5⟩ := hp; exact hShp.m p1 p2 p4 p5) hl.1 rfl (Nat.le_of_ble_eq_true rfl) d_law_1250 hR1 hR2 (fun r M2 H2 locs2 hp hH2 hS2 => ?_)
  obtain ⟨rfl, f9, o9, g9, p1, p2, p3, p4, p5⟩ := hp
  show W p l e room_1 s m #[Value.ref b] below meth c H2 locs2 cells slots Q (F0 m 1253 ls [.int x, .int x])
  refine lv_icmp_eq (tgt := 1308) hx hb d_law_1253 (by decide) (fun _ => ?_) (fun q => absurd rfl q)
  exact kk M2 H2 locs2 ⟨hH2, hShp.m p1 p2 p4 p5, f9, o9, g9, p1, p2, p3⟩ hS2

set_option maxHeartbeats 4000000 in
set_option maxRecDepth 100000 in
theorem lw_case36 {p : Program} {l : Launch} {e : Env} {s : State} {m : MethodId} {below : List Frame} {meth : Method} {c : Code} {H : Heap} {locs : List Loc} {cells slots : Nat} {Q : State → Prop} {b L K : Nat} {N0 : Nat} {D : va_G} {ca : Nat → ClassId} {M : zM} {xs : Nat → Int32} {i4 : Int32} {ls : Array Slot} (X : lwX p s m c b D ca) (hX : va_X b L xs s s.heap) (hbl : b < s.heap.size) (hN : N0 = s.heap.size) (hK1 : 240 < K) (hK2 : K < 100000) (hin : ∀ j : Int32, 0 ≤ j.toInt → j.toInt < 5 → vp_in (i4 + j) L) (hR1 : cells ≤ 601024) (hR2 : slots ≤ 7293034) (hl : lv_has ls 7 [(0, .ref b), (1, .ref (N0 + 0)), (2, .ref (N0 + 139)), (3, .ref (N0 + 177)), (4, .int i4)]) (hs0 : lwS N0 D ca K M H) (hS : va_S (z_A N0) s.heap H locs) (kk : ∀ (M1 : zM) (H1 : Heap) (locs1 : List Loc), lwS N0 D ca (K + 1) M1 H1 → va_S (z_A N0) s.heap H1 locs1 → W p l e room_1 s m #[Value.ref b] below meth c H1 locs1 cells slots Q (F0 m 1308 ls [])) : W p l e room_1 s m #[Value.ref b] below meth c H locs cells slots Q (F0 m 1258 ls []) := by
  obtain ⟨hx, hb, hml, hown, hta, hCx⟩ := id X
  obtain ⟨hH, hShp, f, o, g, hC, hM, hR⟩ := hs0
  have hbA : ¬ z_A N0 b := by rw [hN]; exact Nat.not_le.mpr hbl
  refine lv_aload_n hx hb d_law_1258 rfl (lv_at hl 1 rfl) ?_
  refine lv_aload_n hx hb d_law_1259 rfl (lv_at hl 0 rfl) ?_
  refine lv_iload hx hb d_law_1260 (lv_at hl 4 rfl) ?_
  refine lv_iconst (v := 1) hx hb d_law_1262 (by decide) ?_
  refine lv_iadd hx hb d_law_1263 ?_
  refine va_sld hx hb hX hbl hbA hS (hin 1 (by decide) (by decide)) d_law_1264 ?_
  refine lw_call (N0 := N0) (a := 0) (ci := 11) (C := z_C11) (T := z_T11) (N := 18) (i1 := 1128) (i2 := 1129) (i3 := 1130) (as := [.int (xs (i4 + 1).toNatClampNeg)]) (rest := []) X zg_CG_alike (Zm.kI (st_alike K hK1 hK2 (xs (i4 + 1).toNatClampNeg) M f o g hC hM hR) (Or.inl rfl)) (by decide) rfl rfl (hC.1 0 (by decide) (by decide) (by decide)) rfl (by decide +kernel) (by decide +kernel) (by decide +kernel) hH hS hShp (fun r M1 hp => hShp.c hp.1.1 hp.1.2.1) hl.1 rfl (by decide) d_law_1265 hR1 hR2 (fun r M1 H1 locs1 hp hH1 hS1 => ?_)
  obtain ⟨⟨hc1, hsm1, v, rfl, hz2⟩, x, hvx⟩ := hp
  have hv : v = .int x := Option.some.inj hvx
  subst hv
  have hShp1 := hShp.c hc1 hsm1
  have hS := hS1
  have hM1 := hM.smc hsm1
  show W p l e room_1 s m #[Value.ref b] below meth c H1 locs1 cells slots Q (F0 m 1268 ls [.int x])
  refine lv_aload_n hx hb d_law_1268 rfl (lv_at hl 2 rfl) ?_
  refine lv_aload_n hx hb d_law_1269 rfl (lv_at hl 0 rfl) ?_
  refine lv_iload hx hb d_law_1270 (lv_at hl 4 rfl) ?_
  refine lv_iconst (v := 1) hx hb d_law_1272 (by decide) ?_
  refine lv_iadd hx hb d_law_1273 ?_
  refine va_sld hx hb hX hbl hbA hS (hin 1 (by decide) (by decide)) d_law_1274 ?_
  refine lw_call (N0 := N0) (a := 139) (ci := 12) (C := z_C12) (T := z_T12) (N := 50) (i1 := 1838) (i2 := 1839) (i3 := 1840) (as := [.int (xs (i4 + 1).toNatClampNeg)]) (rest := [.int x]) X zg_MO_alike hz2 (by decide) rfl rfl hM1.1 rfl (by decide +kernel) (by decide +kernel) (by decide +kernel) hH1 hS hShp1 (fun r M2 hp => by obtain ⟨-, f9, o9, g9, p1, p2, p3, p4, p5⟩ := hp; exact hShp.m p1 p2 p4 p5) hl.1 rfl (Nat.le_of_ble_eq_true rfl) d_law_1275 hR1 hR2 (fun r M2 H2 locs2 hp hH2 hS2 => ?_)
  obtain ⟨rfl, f9, o9, g9, p1, p2, p3, p4, p5⟩ := hp
  show W p l e room_1 s m #[Value.ref b] below meth c H2 locs2 cells slots Q (F0 m 1278 ls [.int x, .int x])
  refine lv_icmp_eq (tgt := 1308) hx hb d_law_1278 (by decide) (fun _ => ?_) (fun q => absurd rfl q)
  exact kk M2 H2 locs2 ⟨hH2, hShp.m p1 p2 p4 p5, f9, o9, g9, p1, p2, p3⟩ hS2

set_option maxHeartbeats 4000000 in
set_option maxRecDepth 100000 in
theorem lw_case37 {p : Program} {l : Launch} {e : Env} {s : State} {m : MethodId} {below : List Frame} {meth : Method} {c : Code} {H : Heap} {locs : List Loc} {cells slots : Nat} {Q : State → Prop} {b L K : Nat} {N0 : Nat} {D : va_G} {ca : Nat → ClassId} {M : zM} {xs : Nat → Int32} {i4 : Int32} {ls : Array Slot} (X : lwX p s m c b D ca) (hX : va_X b L xs s s.heap) (hbl : b < s.heap.size) (hN : N0 = s.heap.size) (hK1 : 240 < K) (hK2 : K < 100000) (hin : ∀ j : Int32, 0 ≤ j.toInt → j.toInt < 5 → vp_in (i4 + j) L) (hR1 : cells ≤ 601024) (hR2 : slots ≤ 7293034) (hl : lv_has ls 7 [(0, .ref b), (1, .ref (N0 + 0)), (2, .ref (N0 + 139)), (3, .ref (N0 + 177)), (4, .int i4)]) (hs0 : lwS N0 D ca K M H) (hS : va_S (z_A N0) s.heap H locs) (kk : ∀ (M1 : zM) (H1 : Heap) (locs1 : List Loc), lwS N0 D ca (K + 1) M1 H1 → va_S (z_A N0) s.heap H1 locs1 → W p l e room_1 s m #[Value.ref b] below meth c H1 locs1 cells slots Q (F0 m 1308 ls [])) : W p l e room_1 s m #[Value.ref b] below meth c H locs cells slots Q (F0 m 1283 ls []) := by
  obtain ⟨hx, hb, hml, hown, hta, hCx⟩ := id X
  obtain ⟨hH, hShp, f, o, g, hC, hM, hR⟩ := hs0
  have hbA : ¬ z_A N0 b := by rw [hN]; exact Nat.not_le.mpr hbl
  refine lv_aload_n hx hb d_law_1283 rfl (lv_at hl 1 rfl) ?_
  refine lv_aload_n hx hb d_law_1284 rfl (lv_at hl 0 rfl) ?_
  refine lv_iload hx hb d_law_1285 (lv_at hl 4 rfl) ?_
  refine lv_iconst (v := 1) hx hb d_law_1287 (by decide) ?_
  refine lv_iadd hx hb d_law_1288 ?_
  refine va_sld hx hb hX hbl hbA hS (hin 1 (by decide) (by decide)) d_law_1289 ?_
  refine lw_call (N0 := N0) (a := 0) (ci := 11) (C := z_C11) (T := z_T11) (N := 18) (i1 := 1137) (i2 := 1138) (i3 := 1139) (as := [.int (xs (i4 + 1).toNatClampNeg)]) (rest := []) X zg_CG_count (Zm.kI (st_count K hK1 hK2 (xs (i4 + 1).toNatClampNeg) M f o g hC hM hR) (Or.inl rfl)) (by decide) rfl rfl (hC.1 0 (by decide) (by decide) (by decide)) rfl (by decide +kernel) (by decide +kernel) (by decide +kernel) hH hS hShp (fun r M1 hp => hShp.c hp.1.1 hp.1.2.1) hl.1 rfl (by decide) d_law_1290 hR1 hR2 (fun r M1 H1 locs1 hp hH1 hS1 => ?_)
  obtain ⟨⟨hc1, hsm1, v, rfl, hz2⟩, x, hvx⟩ := hp
  have hv : v = .int x := Option.some.inj hvx
  subst hv
  have hShp1 := hShp.c hc1 hsm1
  have hS := hS1
  have hM1 := hM.smc hsm1
  show W p l e room_1 s m #[Value.ref b] below meth c H1 locs1 cells slots Q (F0 m 1293 ls [.int x])
  refine lv_aload_n hx hb d_law_1293 rfl (lv_at hl 2 rfl) ?_
  refine lv_aload_n hx hb d_law_1294 rfl (lv_at hl 0 rfl) ?_
  refine lv_iload hx hb d_law_1295 (lv_at hl 4 rfl) ?_
  refine lv_iconst (v := 1) hx hb d_law_1297 (by decide) ?_
  refine lv_iadd hx hb d_law_1298 ?_
  refine va_sld hx hb hX hbl hbA hS (hin 1 (by decide) (by decide)) d_law_1299 ?_
  refine lw_call (N0 := N0) (a := 139) (ci := 12) (C := z_C12) (T := z_T12) (N := 50) (i1 := 1846) (i2 := 1847) (i3 := 1848) (as := [.int (xs (i4 + 1).toNatClampNeg)]) (rest := [.int x]) X zg_MO_count hz2 (by decide) rfl rfl hM1.1 rfl (by decide +kernel) (by decide +kernel) (by decide +kernel) hH1 hS hShp1 (fun r M2 hp => by obtain ⟨-, f9, o9, g9, p1, p2, p3, p4, p5⟩ := hp; exact hShp.m p1 p2 p4 p5) hl.1 rfl (Nat.le_of_ble_eq_true rfl) d_law_1300 hR1 hR2 (fun r M2 H2 locs2 hp hH2 hS2 => ?_)
  obtain ⟨rfl, f9, o9, g9, p1, p2, p3, p4, p5⟩ := hp
  show W p l e room_1 s m #[Value.ref b] below meth c H2 locs2 cells slots Q (F0 m 1303 ls [.int x, .int x])
  refine lv_icmp_eq (tgt := 1308) hx hb d_law_1303 (by decide) (fun _ => ?_) (fun q => absurd rfl q)
  exact kk M2 H2 locs2 ⟨hH2, hShp.m p1 p2 p4 p5, f9, o9, g9, p1, p2, p3⟩ hS2
