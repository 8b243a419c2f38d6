/-! THE LAW: its cases -/
set_option maxHeartbeats 4000000 in
set_option maxRecDepth 100000 in
theorem lw_case0 {p : Program} {l : Launch} {e : Env} {s : State} {m : MethodId} {below : List Frame} {meth : Method} {c : Code} {H : Heap} {locs : List Loc} {cells slots : Nat} {Q : State → Prop} {b L K : Nat} {N0 : Nat} {D : va_G} {ca : Nat → ClassId} {M : zM} {xs : Nat → Int32} {i4 : Int32} {ls : Array Slot} (X : lwX p s m c b D ca) (hX : va_X b L xs s s.heap) (hbl : b < s.heap.size) (hN : N0 = s.heap.size) (hK1 : 240 < K) (hK2 : K < 100000) (hin : ∀ j : Int32, 0 ≤ j.toInt → j.toInt < 5 → vp_in (i4 + j) L) (hR1 : cells ≤ 601024) (hR2 : slots ≤ 7293034) (hl : lv_has ls 7 [(0, .ref b), (1, .ref (N0 + 0)), (2, .ref (N0 + 139)), (3, .ref (N0 + 177)), (4, .int i4)]) (hs0 : lwS N0 D ca K M H) (hS : va_S (z_A N0) s.heap H locs) (kk : ∀ (M1 : zM) (H1 : Heap) (locs1 : List Loc), lwS N0 D ca (K + 1) M1 H1 → va_S (z_A N0) s.heap H1 locs1 → W p l e room_1 s m #[Value.ref b] below meth c H1 locs1 cells slots Q (F0 m 1308 ls [])) : W p l e room_1 s m #[Value.ref b] below meth c H locs cells slots Q (F0 m 204 ls []) := by
  obtain ⟨hx, hb, hml, hown, hta, hCx⟩ := id X
  obtain ⟨hH, hShp, f, o, g, hC, hM, hR⟩ := hs0
  have hbA : ¬ z_A N0 b := by rw [hN]; exact Nat.not_le.mpr hbl
  refine lv_aload_n hx hb d_law_204 rfl (lv_at hl 1 rfl) ?_
  refine lv_aload_n hx hb d_law_205 rfl (lv_at hl 0 rfl) ?_
  refine lv_iload hx hb d_law_206 (lv_at hl 4 rfl) ?_
  refine lv_iconst (v := 1) hx hb d_law_208 (by decide) ?_
  refine lv_iadd hx hb d_law_209 ?_
  refine va_sld hx hb hX hbl hbA hS (hin 1 (by decide) (by decide)) d_law_210 ?_
  refine lw_call (N0 := N0) (a := 0) (ci := 11) (C := z_C11) (T := z_T11) (N := 18) (i1 := 538) (i2 := 539) (i3 := 540) (as := [.int (xs (i4 + 1).toNatClampNeg)]) (rest := []) X zg_CG_sign (Zm.kI (st_sign K hK1 hK2 (xs (i4 + 1).toNatClampNeg) M f o g hC hM hR) (Or.inl rfl)) (by decide) rfl rfl (hC.1 0 (by decide) (by decide) (by decide)) rfl (by decide +kernel) (by decide +kernel) (by decide +kernel) hH hS hShp (fun r M1 hp => hShp.c hp.1.1 hp.1.2.1) hl.1 rfl (by decide) d_law_211 hR1 hR2 (fun r M1 H1 locs1 hp hH1 hS1 => ?_)
  obtain ⟨⟨hc1, hsm1, v, rfl, hz2⟩, x, hvx⟩ := hp
  have hv : v = .int x := Option.some.inj hvx
  subst hv
  have hShp1 := hShp.c hc1 hsm1
  have hS := hS1
  have hM1 := hM.smc hsm1
  show W p l e room_1 s m #[Value.ref b] below meth c H1 locs1 cells slots Q (F0 m 214 ls [.int x])
  refine lv_aload_n hx hb d_law_214 rfl (lv_at hl 2 rfl) ?_
  refine lv_aload_n hx hb d_law_215 rfl (lv_at hl 0 rfl) ?_
  refine lv_iload hx hb d_law_216 (lv_at hl 4 rfl) ?_
  refine lv_iconst (v := 1) hx hb d_law_218 (by decide) ?_
  refine lv_iadd hx hb d_law_219 ?_
  refine va_sld hx hb hX hbl hbA hS (hin 1 (by decide) (by decide)) d_law_220 ?_
  refine lw_call (N0 := N0) (a := 139) (ci := 12) (C := z_C12) (T := z_T12) (N := 50) (i1 := 1378) (i2 := 1379) (i3 := 1380) (as := [.int (xs (i4 + 1).toNatClampNeg)]) (rest := [.int x]) X zg_MO_sign hz2 (by decide) rfl rfl hM1.1 rfl (by decide +kernel) (by decide +kernel) (by decide +kernel) hH1 hS hShp1 (fun r M2 hp => by obtain ⟨-, f9, o9, g9, p1, p2, p3, p4, p5⟩ := hp; exact hShp.m p1 p2 p4 p5) hl.1 rfl (Nat.le_of_ble_eq_true rfl) d_law_221 hR1 hR2 (fun r M2 H2 locs2 hp hH2 hS2 => ?_)
  obtain ⟨rfl, f9, o9, g9, p1, p2, p3, p4, p5⟩ := hp
  show W p l e room_1 s m #[Value.ref b] below meth c H2 locs2 cells slots Q (F0 m 224 ls [.int x, .int x])
  refine lv_icmp_eq (tgt := 1308) hx hb d_law_224 (by decide) (fun _ => ?_) (fun q => absurd rfl q)
  exact kk M2 H2 locs2 ⟨hH2, hShp.m p1 p2 p4 p5, f9, o9, g9, p1, p2, p3⟩ hS2

set_option maxHeartbeats 4000000 in
set_option maxRecDepth 100000 in
theorem lw_case1 {p : Program} {l : Launch} {e : Env} {s : State} {m : MethodId} {below : List Frame} {meth : Method} {c : Code} {H : Heap} {locs : List Loc} {cells slots : Nat} {Q : State → Prop} {b L K : Nat} {N0 : Nat} {D : va_G} {ca : Nat → ClassId} {M : zM} {xs : Nat → Int32} {i4 : Int32} {ls : Array Slot} (X : lwX p s m c b D ca) (hX : va_X b L xs s s.heap) (hbl : b < s.heap.size) (hN : N0 = s.heap.size) (hK1 : 240 < K) (hK2 : K < 100000) (hin : ∀ j : Int32, 0 ≤ j.toInt → j.toInt < 5 → vp_in (i4 + j) L) (hR1 : cells ≤ 601024) (hR2 : slots ≤ 7293034) (hl : lv_has ls 7 [(0, .ref b), (1, .ref (N0 + 0)), (2, .ref (N0 + 139)), (3, .ref (N0 + 177)), (4, .int i4)]) (hs0 : lwS N0 D ca K M H) (hS : va_S (z_A N0) s.heap H locs) (kk : ∀ (M1 : zM) (H1 : Heap) (locs1 : List Loc), lwS N0 D ca (K + 1) M1 H1 → va_S (z_A N0) s.heap H1 locs1 → W p l e room_1 s m #[Value.ref b] below meth c H1 locs1 cells slots Q (F0 m 1308 ls [])) : W p l e room_1 s m #[Value.ref b] below meth c H locs cells slots Q (F0 m 229 ls []) := by
  obtain ⟨hx, hb, hml, hown, hta, hCx⟩ := id X
  obtain ⟨hH, hShp, f, o, g, hC, hM, hR⟩ := hs0
  have hbA : ¬ z_A N0 b := by rw [hN]; exact Nat.not_le.mpr hbl
  refine lv_aload_n hx hb d_law_229 rfl (lv_at hl 1 rfl) ?_
  refine lv_aload_n hx hb d_law_230 rfl (lv_at hl 0 rfl) ?_
  refine lv_iload hx hb d_law_231 (lv_at hl 4 rfl) ?_
  refine lv_iconst (v := 1) hx hb d_law_233 (by decide) ?_
  refine lv_iadd hx hb d_law_234 ?_
  refine va_sld hx hb hX hbl hbA hS (hin 1 (by decide) (by decide)) d_law_235 ?_
  refine lw_call (N0 := N0) (a := 0) (ci := 11) (C := z_C11) (T := z_T11) (N := 18) (i1 := 542) (i2 := 543) (i3 := 544) (as := [.int (xs (i4 + 1).toNatClampNeg)]) (rest := []) X zg_CG_end (Zm.kI (st_end K hK1 hK2 (xs (i4 + 1).toNatClampNeg) M f o g hC hM hR) (Or.inr rfl)) (by decide) rfl rfl (hC.1 0 (by decide) (by decide) (by decide)) rfl (by decide +kernel) (by decide +kernel) (by decide +kernel) hH hS hShp (fun r M1 hp => hShp.c hp.1.1 hp.1.2.1) hl.1 rfl (by decide) d_law_236 hR1 hR2 (fun r M1 H1 locs1 hp hH1 hS1 => ?_)
  obtain ⟨⟨hc1, hsm1, v, rfl, hz2⟩, x, hvx⟩ := hp
  have hv : v = .int x := Option.some.inj hvx
  subst hv
  have hShp1 := hShp.c hc1 hsm1
  have hS := hS1
  have hM1 := hM.smc hsm1
  show W p l e room_1 s m #[Value.ref b] below meth c H1 locs1 cells slots Q (F0 m 239 ls [.int x])
  refine lv_aload_n hx hb d_law_239 rfl (lv_at hl 2 rfl) ?_
  refine lv_aload_n hx hb d_law_240 rfl (lv_at hl 0 rfl) ?_
  refine lv_iload hx hb d_law_241 (lv_at hl 4 rfl) ?_
  refine lv_iconst (v := 1) hx hb d_law_243 (by decide) ?_
  refine lv_iadd hx hb d_law_244 ?_
  refine va_sld hx hb hX hbl hbA hS (hin 1 (by decide) (by decide)) d_law_245 ?_
  refine lw_call (N0 := N0) (a := 139) (ci := 12) (C := z_C12) (T := z_T12) (N := 50) (i1 := 1382) (i2 := 1383) (i3 := 1384) (as := [.int (xs (i4 + 1).toNatClampNeg)]) (rest := [.int x]) X zg_MO_end hz2 (by decide) rfl rfl hM1.1 rfl (by decide +kernel) (by decide +kernel) (by decide +kernel) hH1 hS hShp1 (fun r M2 hp => by obtain ⟨-, f9, o9, g9, p1, p2, p3, p4, p5⟩ := hp; exact hShp.m p1 p2 p4 p5) hl.1 rfl (Nat.le_of_ble_eq_true rfl) d_law_246 hR1 hR2 (fun r M2 H2 locs2 hp hH2 hS2 => ?_)
  obtain ⟨rfl, f9, o9, g9, p1, p2, p3, p4, p5⟩ := hp
  show W p l e room_1 s m #[Value.ref b] below meth c H2 locs2 cells slots Q (F0 m 249 ls [.int x, .int x])
  refine lv_icmp_eq (tgt := 1308) hx hb d_law_249 (by decide) (fun _ => ?_) (fun q => absurd rfl q)
  exact kk M2 H2 locs2 ⟨hH2, hShp.m p1 p2 p4 p5, f9, o9, g9, p1, p2, p3⟩ hS2

set_option maxHeartbeats 4000000 in
set_option maxRecDepth 100000 in
theorem lw_case2 {p : Program} {l : Launch} {e : Env} {s : State} {m : MethodId} {below : List Frame} {meth : Method} {c : Code} {H : Heap} {locs : List Loc} {cells slots : Nat} {Q : State → Prop} {b L K : Nat} {N0 : Nat} {D : va_G} {ca : Nat → ClassId} {M : zM} {xs : Nat → Int32} {i4 : Int32} {ls : Array Slot} (X : lwX p s m c b D ca) (hX : va_X b L xs s s.heap) (hbl : b < s.heap.size) (hN : N0 = s.heap.size) (hK1 : 240 < K) (hK2 : K < 100000) (hin : ∀ j : Int32, 0 ≤ j.toInt → j.toInt < 5 → vp_in (i4 + j) L) (hR1 : cells ≤ 601024) (hR2 : slots ≤ 7293034) (hl : lv_has ls 7 [(0, .ref b), (1, .ref (N0 + 0)), (2, .ref (N0 + 139)), (3, .ref (N0 + 177)), (4, .int i4)]) (hs0 : lwS N0 D ca K M H) (hS : va_S (z_A N0) s.heap H locs) (kk : ∀ (M1 : zM) (H1 : Heap) (locs1 : List Loc), lwS N0 D ca (K + 1) M1 H1 → va_S (z_A N0) s.heap H1 locs1 → W p l e room_1 s m #[Value.ref b] below meth c H1 locs1 cells slots Q (F0 m 1308 ls [])) : W p l e room_1 s m #[Value.ref b] below meth c H locs cells slots Q (F0 m 254 ls []) := by
  obtain ⟨hx, hb, hml, hown, hta, hCx⟩ := id X
  obtain ⟨hH, hShp, f, o, g, hC, hM, hR⟩ := hs0
  have hbA : ¬ z_A N0 b := by rw [hN]; exact Nat.not_le.mpr hbl
  refine lv_aload_n hx hb d_law_254 rfl (lv_at hl 1 rfl) ?_
  refine lw_call (N0 := N0) (a := 0) (ci := 11) (C := z_C11) (T := z_T11) (N := 18) (i1 := 546) (i2 := 547) (i3 := 548) (as := []) (rest := []) X zg_CG_grammar (Zm.kI (st_grammar K hK1 hK2  M f o g hC hM hR) (Or.inl rfl)) (by decide) rfl rfl (hC.1 0 (by decide) (by decide) (by decide)) rfl (by decide +kernel) (by decide +kernel) (by decide +kernel) hH hS hShp (fun r M1 hp => hShp.c hp.1.1 hp.1.2.1) hl.1 rfl (by decide) d_law_255 hR1 hR2 (fun r M1 H1 locs1 hp hH1 hS1 => ?_)
  obtain ⟨⟨hc1, hsm1, v, rfl, hz2⟩, x, hvx⟩ := hp
  have hv : v = .int x := Option.some.inj hvx
  subst hv
  have hShp1 := hShp.c hc1 hsm1
  have hS := hS1
  have hM1 := hM.smc hsm1
  show W p l e room_1 s m #[Value.ref b] below meth c H1 locs1 cells slots Q (F0 m 258 ls [.int x])
  refine lv_aload_n hx hb d_law_258 rfl (lv_at hl 2 rfl) ?_
  refine lw_call (N0 := N0) (a := 139) (ci := 12) (C := z_C12) (T := z_T12) (N := 50) (i1 := 1389) (i2 := 1390) (i3 := 1391) (as := []) (rest := [.int x]) X zg_MO_grammar hz2 (by decide) rfl rfl hM1.1 rfl (by decide +kernel) (by decide +kernel) (by decide +kernel) hH1 hS hShp1 (fun r M2 hp => by obtain ⟨-, f9, o9, g9, p1, p2, p3, p4, p5⟩ := hp; exact hShp.m p1 p2 p4 p5) hl.1 rfl (Nat.le_of_ble_eq_true rfl) d_law_259 hR1 hR2 (fun r M2 H2 locs2 hp hH2 hS2 => ?_)
  obtain ⟨rfl, f9, o9, g9, p1, p2, p3, p4, p5⟩ := hp
  show W p l e room_1 s m #[Value.ref b] below meth c H2 locs2 cells slots Q (F0 m 262 ls [.int x, .int x])
  refine lv_icmp_eq (tgt := 1308) hx hb d_law_262 (by decide) (fun _ => ?_) (fun q => absurd rfl q)
  exact kk M2 H2 locs2 ⟨hH2, hShp.m p1 p2 p4 p5, f9, o9, g9, p1, p2, p3⟩ hS2

set_option maxHeartbeats 4000000 in
set_option maxRecDepth 100000 in
theorem lw_case3 {p : Program} {l : Launch} {e : Env} {s : State} {m : MethodId} {below : List Frame} {meth : Method} {c : Code} {H : Heap} {locs : List Loc} {cells slots : Nat} {Q : State → Prop} {b L K : Nat} {N0 : Nat} {D : va_G} {ca : Nat → ClassId} {M : zM} {xs : Nat → Int32} {i4 : Int32} {ls : Array Slot} (X : lwX p s m c b D ca) (hX : va_X b L xs s s.heap) (hbl : b < s.heap.size) (hN : N0 = s.heap.size) (hK1 : 240 < K) (hK2 : K < 100000) (hin : ∀ j : Int32, 0 ≤ j.toInt → j.toInt < 5 → vp_in (i4 + j) L) (hR1 : cells ≤ 601024) (hR2 : slots ≤ 7293034) (hl : lv_has ls 7 [(0, .ref b), (1, .ref (N0 + 0)), (2, .ref (N0 + 139)), (3, .ref (N0 + 177)), (4, .int i4)]) (hs0 : lwS N0 D ca K M H) (hS : va_S (z_A N0) s.heap H locs) (kk : ∀ (M1 : zM) (H1 : Heap) (locs1 : List Loc), lwS N0 D ca (K + 1) M1 H1 → va_S (z_A N0) s.heap H1 locs1 → W p l e room_1 s m #[Value.ref b] below meth c H1 locs1 cells slots Q (F0 m 1308 ls [])) : W p l e room_1 s m #[Value.ref b] below meth c H locs cells slots Q (F0 m 267 ls []) := by
  obtain ⟨hx, hb, hml, hown, hta, hCx⟩ := id X
  obtain ⟨hH, hShp, f, o, g, hC, hM, hR⟩ := hs0
  have hbA : ¬ z_A N0 b := by rw [hN]; exact Nat.not_le.mpr hbl
  refine lv_aload_n hx hb d_law_267 rfl (lv_at hl 1 rfl) ?_
  refine lw_call (N0 := N0) (a := 0) (ci := 11) (C := z_C11) (T := z_T11) (N := 18) (i1 := 657) (i2 := 658) (i3 := 659) (as := []) (rest := []) X zg_CG_text (Zm.kI (st_text K hK1 hK2  M f o g hC hM hR) (Or.inl rfl)) (by decide) rfl rfl (hC.1 0 (by decide) (by decide) (by decide)) rfl (by decide +kernel) (by decide +kernel) (by decide +kernel) hH hS hShp (fun r M1 hp => hShp.c hp.1.1 hp.1.2.1) hl.1 rfl (by decide) d_law_268 hR1 hR2 (fun r M1 H1 locs1 hp hH1 hS1 => ?_)
  obtain ⟨⟨hc1, hsm1, v, rfl, hz2⟩, x, hvx⟩ := hp
  have hv : v = .int x := Option.some.inj hvx
  subst hv
  have hShp1 := hShp.c hc1 hsm1
  have hS := hS1
  have hM1 := hM.smc hsm1
  show W p l e room_1 s m #[Value.ref b] below meth c H1 locs1 cells slots Q (F0 m 271 ls [.int x])
  refine lv_aload_n hx hb d_law_271 rfl (lv_at hl 2 rfl) ?_
  refine lw_call (N0 := N0) (a := 139) (ci := 12) (C := z_C12) (T := z_T12) (N := 50) (i1 := 1496) (i2 := 1497) (i3 := 1498) (as := []) (rest := [.int x]) X zg_MO_text hz2 (by decide) rfl rfl hM1.1 rfl (by decide +kernel) (by decide +kernel) (by decide +kernel) hH1 hS hShp1 (fun r M2 hp => by obtain ⟨-, f9, o9, g9, p1, p2, p3, p4, p5⟩ := hp; exact hShp.m p1 p2 p4 p5) hl.1 rfl (Nat.le_of_ble_eq_true rfl) d_law_272 hR1 hR2 (fun r M2 H2 locs2 hp hH2 hS2 => ?_)
  obtain ⟨rfl, f9, o9, g9, p1, p2, p3, p4, p5⟩ := hp
  show W p l e room_1 s m #[Value.ref b] below meth c H2 locs2 cells slots Q (F0 m 275 ls [.int x, .int x])
  refine lv_icmp_eq (tgt := 1308) hx hb d_law_275 (by decide) (fun _ => ?_) (fun q => absurd rfl q)
  exact kk M2 H2 locs2 ⟨hH2, hShp.m p1 p2 p4 p5, f9, o9, g9, p1, p2, p3⟩ hS2

set_option maxHeartbeats 4000000 in
set_option maxRecDepth 100000 in
theorem lw_case5 {p : Program} {l : Launch} {e : Env} {s : State} {m : MethodId} {below : List Frame} {meth : Method} {c : Code} {H : Heap} {locs : List Loc} {cells slots : Nat} {Q : State → Prop} {b L K : Nat} {N0 : Nat} {D : va_G} {ca : Nat → ClassId} {M : zM} {xs : Nat → Int32} {i4 : Int32} {ls : Array Slot} (X : lwX p s m c b D ca) (hX : va_X b L xs s s.heap) (hbl : b < s.heap.size) (hN : N0 = s.heap.size) (hK1 : 240 < K) (hK2 : K < 100000) (hin : ∀ j : Int32, 0 ≤ j.toInt → j.toInt < 5 → vp_in (i4 + j) L) (hR1 : cells ≤ 601024) (hR2 : slots ≤ 7293034) (hl : lv_has ls 7 [(0, .ref b), (1, .ref (N0 + 0)), (2, .ref (N0 + 139)), (3, .ref (N0 + 177)), (4, .int i4)]) (hs0 : lwS N0 D ca K M H) (hS : va_S (z_A N0) s.heap H locs) (kk : ∀ (M1 : zM) (H1 : Heap) (locs1 : List Loc), lwS N0 D ca (K + 1) M1 H1 → va_S (z_A N0) s.heap H1 locs1 → W p l e room_1 s m #[Value.ref b] below meth c H1 locs1 cells slots Q (F0 m 1308 ls [])) : W p l e room_1 s m #[Value.ref b] below meth c H locs cells slots Q (F0 m 348 ls []) := by
  obtain ⟨hx, hb, hml, hown, hta, hCx⟩ := id X
  obtain ⟨hH, hShp, f, o, g, hC, hM, hR⟩ := hs0
  have hbA : ¬ z_A N0 b := by rw [hN]; exact Nat.not_le.mpr hbl
  refine lv_aload_n hx hb d_law_348 rfl (lv_at hl 1 rfl) ?_
  refine lv_aload_n hx hb d_law_349 rfl (lv_at hl 0 rfl) ?_
  refine lv_iload hx hb d_law_350 (lv_at hl 4 rfl) ?_
  refine lv_iconst (v := 1) hx hb d_law_352 (by decide) ?_
  refine lv_iadd hx hb d_law_353 ?_
  refine va_sld hx hb hX hbl hbA hS (hin 1 (by decide) (by decide)) d_law_354 ?_
  refine lv_aload_n hx hb d_law_355 rfl (lv_at hl 0 rfl) ?_
  refine lv_iload hx hb d_law_356 (lv_at hl 4 rfl) ?_
  refine lv_iconst (v := 2) hx hb d_law_358 (by decide) ?_
  refine lv_iadd hx hb d_law_359 ?_
  refine va_sld hx hb hX hbl hbA hS (hin 2 (by decide) (by decide)) d_law_360 ?_
  refine lv_aload_n hx hb d_law_361 rfl (lv_at hl 0 rfl) ?_
  refine lv_iload hx hb d_law_362 (lv_at hl 4 rfl) ?_
  refine lv_iconst (v := 3) hx hb d_law_364 (by decide) ?_
  refine lv_iadd hx hb d_law_365 ?_
  refine va_sld hx hb hX hbl hbA hS (hin 3 (by decide) (by decide)) d_law_366 ?_
  refine lv_aload_n hx hb d_law_367 rfl (lv_at hl 0 rfl) ?_
  refine lv_iload hx hb d_law_368 (lv_at hl 4 rfl) ?_
  refine lv_iconst (v := 4) hx hb d_law_370 (by decide) ?_
  refine lv_iadd hx hb d_law_371 ?_
  refine va_sld hx hb hX hbl hbA hS (hin 4 (by decide) (by decide)) d_law_372 ?_
  refine lw_call (N0 := N0) (a := 0) (ci := 11) (C := z_C11) (T := z_T11) (N := 18) (i1 := 679) (i2 := 680) (i3 := 681) (as := [.int (xs (i4 + 1).toNatClampNeg), .int (xs (i4 + 2).toNatClampNeg), .int (xs (i4 + 3).toNatClampNeg), .int (xs (i4 + 4).toNatClampNeg)]) (rest := []) X zg_CG_item (Zm.kI (st_item K hK1 hK2 (xs (i4 + 1).toNatClampNeg) (xs (i4 + 2).toNatClampNeg) (xs (i4 + 3).toNatClampNeg) (xs (i4 + 4).toNatClampNeg) M f o g hC hM hR) (Or.inl rfl)) (by decide) rfl rfl (hC.1 0 (by decide) (by decide) (by decide)) rfl (by decide +kernel) (by decide +kernel) (by decide +kernel) hH hS hShp (fun r M1 hp => hShp.c hp.1.1 hp.1.2.1) hl.1 rfl (by decide) d_law_373 hR1 hR2 (fun r M1 H1 locs1 hp hH1 hS1 => ?_)
  obtain ⟨⟨hc1, hsm1, v, rfl, hz2⟩, x, hvx⟩ := hp
  have hv : v = .int x := Option.some.inj hvx
  subst hv
  have hShp1 := hShp.c hc1 hsm1
  have hS := hS1
  have hM1 := hM.smc hsm1
  show W p l e room_1 s m #[Value.ref b] below meth c H1 locs1 cells slots Q (F0 m 376 ls [.int x])
  refine lv_aload_n hx hb d_law_376 rfl (lv_at hl 2 rfl) ?_
  refine lv_aload_n hx hb d_law_377 rfl (lv_at hl 0 rfl) ?_
  refine lv_iload hx hb d_law_378 (lv_at hl 4 rfl) ?_
  refine lv_iconst (v := 1) hx hb d_law_380 (by decide) ?_
  refine lv_iadd hx hb d_law_381 ?_
  refine va_sld hx hb hX hbl hbA hS (hin 1 (by decide) (by decide)) d_law_382 ?_
  refine lv_aload_n hx hb d_law_383 rfl (lv_at hl 0 rfl) ?_
  refine lv_iload hx hb d_law_384 (lv_at hl 4 rfl) ?_
  refine lv_iconst (v := 2) hx hb d_law_386 (by decide) ?_
  refine lv_iadd hx hb d_law_387 ?_
  refine va_sld hx hb hX hbl hbA hS (hin 2 (by decide) (by decide)) d_law_388 ?_
  refine lv_aload_n hx hb d_law_389 rfl (lv_at hl 0 rfl) ?_
  refine lv_iload hx hb d_law_390 (lv_at hl 4 rfl) ?_
  refine lv_iconst (v := 3) hx hb d_law_392 (by decide) ?_
  refine lv_iadd hx hb d_law_393 ?_
  refine va_sld hx hb hX hbl hbA hS (hin 3 (by decide) (by decide)) d_law_394 ?_
  refine lv_aload_n hx hb d_law_395 rfl (lv_at hl 0 rfl) ?_
  refine lv_iload hx hb d_law_396 (lv_at hl 4 rfl) ?_
  refine lv_iconst (v := 4) hx hb d_law_398 (by decide) ?_
  refine lv_iadd hx hb d_law_399 ?_
  refine va_sld hx hb hX hbl hbA hS (hin 4 (by decide) (by decide)) d_law_400 ?_
  refine lw_call (N0 := N0) (a := 139) (ci := 12) (C := z_C12) (T := z_T12) (N := 50) (i1 := 1512) (i2 := 1513) (i3 := 1514) (as := [.int (xs (i4 + 1).toNatClampNeg), .int (xs (i4 + 2).toNatClampNeg), .int (xs (i4 + 3).toNatClampNeg), .int (xs (i4 + 4).toNatClampNeg)]) (rest := [.int x]) X zg_MO_item hz2 (by decide) rfl rfl hM1.1 rfl (by decide +kernel) (by decide +kernel) (by decide +kernel) hH1 hS hShp1 (fun r M2 hp => by obtain ⟨-, f9, o9, g9, p1, p2, p3, p4, p5⟩ := hp; exact hShp.m p1 p2 p4 p5) hl.1 rfl (Nat.le_of_ble_eq_true rfl) d_law_401 hR1 hR2 (fun r M2 H2 locs2 hp hH2 hS2 => ?_)
  obtain ⟨rfl, f9, o9, g9, p1, p2, p3, p4, p5⟩ := hp
  show W p l e room_1 s m #[Value.ref b] below meth c H2 locs2 cells slots Q (F0 m 404 ls [.int x, .int x])
  refine lv_icmp_eq (tgt := 1308) hx hb d_law_404 (by decide) (fun _ => ?_) (fun q => absurd rfl q)
  exact kk M2 H2 locs2 ⟨hH2, hShp.m p1 p2 p4 p5, f9, o9, g9, p1, p2, p3⟩ hS2

set_option maxHeartbeats 4000000 in
set_option maxRecDepth 100000 in
theorem lw_case6 {p : Program} {l : Launch} {e : Env} {s : State} {m : MethodId} {below : List Frame} {meth : Method} {c : Code} {H : Heap} {locs : List Loc} {cells slots : Nat} {Q : State → Prop} {b L K : Nat} {N0 : Nat} {D : va_G} {ca : Nat → ClassId} {M : zM} {xs : Nat → Int32} {i4 : Int32} {ls : Array Slot} (X : lwX p s m c b D ca) (hX : va_X b L xs s s.heap) (hbl : b < s.heap.size) (hN : N0 = s.heap.size) (hK1 : 240 < K) (hK2 : K < 100000) (hin : ∀ j : Int32, 0 ≤ j.toInt → j.toInt < 5 → vp_in (i4 + j) L) (hR1 : cells ≤ 601024) (hR2 : slots ≤ 7293034) (hl : lv_has ls 7 [(0, .ref b), (1, .ref (N0 + 0)), (2, .ref (N0 + 139)), (3, .ref (N0 + 177)), (4, .int i4)]) (hs0 : lwS N0 D ca K M H) (hS : va_S (z_A N0) s.heap H locs) (kk : ∀ (M1 : zM) (H1 : Heap) (locs1 : List Loc), lwS N0 D ca (K + 1) M1 H1 → va_S (z_A N0) s.heap H1 locs1 → W p l e room_1 s m #[Value.ref b] below meth c H1 locs1 cells slots Q (F0 m 1308 ls [])) : W p l e room_1 s m #[Value.ref b] below meth c H locs cells slots Q (F0 m 409 ls []) := by
  obtain ⟨hx, hb, hml, hown, hta, hCx⟩ := id X
  obtain ⟨hH, hShp, f, o, g, hC, hM, hR⟩ := hs0
  have hbA : ¬ z_A N0 b := by rw [hN]; exact Nat.not_le.mpr hbl
  refine lv_aload_n hx hb d_law_409 rfl (lv_at hl 1 rfl) ?_
  refine lv_aload_n hx hb d_law_410 rfl (lv_at hl 0 rfl) ?_
  refine lv_iload hx hb d_law_411 (lv_at hl 4 rfl) ?_
  refine lv_iconst (v := 1) hx hb d_law_413 (by decide) ?_
  refine lv_iadd hx hb d_law_414 ?_
  refine va_sld hx hb hX hbl hbA hS (hin 1 (by decide) (by decide)) d_law_415 ?_
  refine lv_aload_n hx hb d_law_416 rfl (lv_at hl 0 rfl) ?_
  refine lv_iload hx hb d_law_417 (lv_at hl 4 rfl) ?_
  refine lv_iconst (v := 2) hx hb d_law_419 (by decide) ?_
  refine lv_iadd hx hb d_law_420 ?_
  refine va_sld hx hb hX hbl hbA hS (hin 2 (by decide) (by decide)) d_law_421 ?_
  refine lw_call (N0 := N0) (a := 0) (ci := 11) (C := z_C11) (T := z_T11) (N := 18) (i1 := 687) (i2 := 688) (i3 := 689) (as := [.int (xs (i4 + 1).toNatClampNeg), .int (xs (i4 + 2).toNatClampNeg)]) (rest := []) X zg_CG_first (Zm.kI (st_first K hK1 hK2 (xs (i4 + 1).toNatClampNeg) (xs (i4 + 2).toNatClampNeg) M f o g hC hM hR) (Or.inl rfl)) (by decide) rfl rfl (hC.1 0 (by decide) (by decide) (by decide)) rfl (by decide +kernel) (by decide +kernel) (by decide +kernel) hH hS hShp (fun r M1 hp => hShp.c hp.1.1 hp.1.2.1) hl.1 rfl (by decide) d_law_422 hR1 hR2 (fun r M1 H1 locs1 hp hH1 hS1 => ?_)
  obtain ⟨⟨hc1, hsm1, v, rfl, hz2⟩, x, hvx⟩ := hp
  have hv : v = .int x := Option.some.inj hvx
  subst hv
  have hShp1 := hShp.c hc1 hsm1
  have hS := hS1
  have hM1 := hM.smc hsm1
  show W p l e room_1 s m #[Value.ref b] below meth c H1 locs1 cells slots Q (F0 m 425 ls [.int x])
  refine lv_aload_n hx hb d_law_425 rfl (lv_at hl 2 rfl) ?_
  refine lv_aload_n hx hb d_law_426 rfl (lv_at hl 0 rfl) ?_
  refine lv_iload hx hb d_law_427 (lv_at hl 4 rfl) ?_
  refine lv_iconst (v := 1) hx hb d_law_429 (by decide) ?_
  refine lv_iadd hx hb d_law_430 ?_
  refine va_sld hx hb hX hbl hbA hS (hin 1 (by decide) (by decide)) d_law_431 ?_
  refine lv_aload_n hx hb d_law_432 rfl (lv_at hl 0 rfl) ?_
  refine lv_iload hx hb d_law_433 (lv_at hl 4 rfl) ?_
  refine lv_iconst (v := 2) hx hb d_law_435 (by decide) ?_
  refine lv_iadd hx hb d_law_436 ?_
  refine va_sld hx hb hX hbl hbA hS (hin 2 (by decide) (by decide)) d_law_437 ?_
  refine lw_call (N0 := N0) (a := 139) (ci := 12) (C := z_C12) (T := z_T12) (N := 50) (i1 := 1517) (i2 := 1518) (i3 := 1519) (as := [.int (xs (i4 + 1).toNatClampNeg), .int (xs (i4 + 2).toNatClampNeg)]) (rest := [.int x]) X zg_MO_first hz2 (by decide) rfl rfl hM1.1 rfl (by decide +kernel) (by decide +kernel) (by decide +kernel) hH1 hS hShp1 (fun r M2 hp => by obtain ⟨-, f9, o9, g9, p1, p2, p3, p4, p5⟩ := hp; exact hShp.m p1 p2 p4 p5) hl.1 rfl (Nat.le_of_ble_eq_true rfl) d_law_438 hR1 hR2 (fun r M2 H2 locs2 hp hH2 hS2 => ?_)
  obtain ⟨rfl, f9, o9, g9, p1, p2, p3, p4, p5⟩ := hp
  show W p l e room_1 s m #[Value.ref b] below meth c H2 locs2 cells slots Q (F0 m 441 ls [.int x, .int x])
  refine lv_icmp_eq (tgt := 1308) hx hb d_law_441 (by decide) (fun _ => ?_) (fun q => absurd rfl q)
  exact kk M2 H2 locs2 ⟨hH2, hShp.m p1 p2 p4 p5, f9, o9, g9, p1, p2, p3⟩ hS2

set_option maxHeartbeats 4000000 in
set_option maxRecDepth 100000 in
theorem lw_case7 {p : Program} {l : Launch} {e : Env} {s : State} {m : MethodId} {below : List Frame} {meth : Method} {c : Code} {H : Heap} {locs : List Loc} {cells slots : Nat} {Q : State → Prop} {b L K : Nat} {N0 : Nat} {D : va_G} {ca : Nat → ClassId} {M : zM} {xs : Nat → Int32} {i4 : Int32} {ls : Array Slot} (X : lwX p s m c b D ca) (hX : va_X b L xs s s.heap) (hbl : b < s.heap.size) (hN : N0 = s.heap.size) (hK1 : 240 < K) (hK2 : K < 100000) (hin : ∀ j : Int32, 0 ≤ j.toInt → j.toInt < 5 → vp_in (i4 + j) L) (hR1 : cells ≤ 601024) (hR2 : slots ≤ 7293034) (hl : lv_has ls 7 [(0, .ref b), (1, .ref (N0 + 0)), (2, .ref (N0 + 139)), (3, .ref (N0 + 177)), (4, .int i4)]) (hs0 : lwS N0 D ca K M H) (hS : va_S (z_A N0) s.heap H locs) (kk : ∀ (M1 : zM) (H1 : Heap) (locs1 : List Loc), lwS N0 D ca (K + 1) M1 H1 → va_S (z_A N0) s.heap H1 locs1 → W p l e room_1 s m #[Value.ref b] below meth c H1 locs1 cells slots Q (F0 m 1308 ls [])) : W p l e room_1 s m #[Value.ref b] below meth c H locs cells slots Q (F0 m 446 ls []) := by
  obtain ⟨hx, hb, hml, hown, hta, hCx⟩ := id X
  obtain ⟨hH, hShp, f, o, g, hC, hM, hR⟩ := hs0
  have hbA : ¬ z_A N0 b := by rw [hN]; exact Nat.not_le.mpr hbl
  refine lv_aload_n hx hb d_law_446 rfl (lv_at hl 1 rfl) ?_
  refine lw_call (N0 := N0) (a := 0) (ci := 11) (C := z_C11) (T := z_T11) (N := 18) (i1 := 756) (i2 := 757) (i3 := 758) (as := []) (rest := []) X zg_CG_write (Zm.kI (st_write K hK1 hK2  M f o g hC hM hR) (Or.inl rfl)) (by decide) rfl rfl (hC.1 0 (by decide) (by decide) (by decide)) rfl (by decide +kernel) (by decide +kernel) (by decide +kernel) hH hS hShp (fun r M1 hp => hShp.c hp.1.1 hp.1.2.1) hl.1 rfl (by decide) d_law_447 hR1 hR2 (fun r M1 H1 locs1 hp hH1 hS1 => ?_)
  obtain ⟨⟨hc1, hsm1, v, rfl, hz2⟩, x, hvx⟩ := hp
  have hv : v = .int x := Option.some.inj hvx
  subst hv
  have hShp1 := hShp.c hc1 hsm1
  have hS := hS1
  have hM1 := hM.smc hsm1
  show W p l e room_1 s m #[Value.ref b] below meth c H1 locs1 cells slots Q (F0 m 450 ls [.int x])
  refine lv_aload_n hx hb d_law_450 rfl (lv_at hl 2 rfl) ?_
  refine lw_call (N0 := N0) (a := 139) (ci := 12) (C := z_C12) (T := z_T12) (N := 50) (i1 := 1529) (i2 := 1530) (i3 := 1531) (as := []) (rest := [.int x]) X zg_MO_write hz2 (by decide) rfl rfl hM1.1 rfl (by decide +kernel) (by decide +kernel) (by decide +kernel) hH1 hS hShp1 (fun r M2 hp => by obtain ⟨-, f9, o9, g9, p1, p2, p3, p4, p5⟩ := hp; exact hShp.m p1 p2 p4 p5) hl.1 rfl (Nat.le_of_ble_eq_true rfl) d_law_451 hR1 hR2 (fun r M2 H2 locs2 hp hH2 hS2 => ?_)
  obtain ⟨rfl, f9, o9, g9, p1, p2, p3, p4, p5⟩ := hp
  show W p l e room_1 s m #[Value.ref b] below meth c H2 locs2 cells slots Q (F0 m 454 ls [.int x, .int x])
  refine lv_icmp_eq (tgt := 1308) hx hb d_law_454 (by decide) (fun _ => ?_) (fun q => absurd rfl q)
  exact kk M2 H2 locs2 ⟨hH2, hShp.m p1 p2 p4 p5, f9, o9, g9, p1, p2, p3⟩ hS2

set_option maxHeartbeats 4000000 in
set_option maxRecDepth 100000 in
theorem lw_case8 {p : Program} {l : Launch} {e : Env} {s : State} {m : MethodId} {below : List Frame} {meth : Method} {c : Code} {H : Heap} {locs : List Loc} {cells slots : Nat} {Q : State → Prop} {b L K : Nat} {N0 : Nat} {D : va_G} {ca : Nat → ClassId} {M : zM} {xs : Nat → Int32} {i4 : Int32} {ls : Array Slot} (X : lwX p s m c b D ca) (hX : va_X b L xs s s.heap) (hbl : b < s.heap.size) (hN : N0 = s.heap.size) (hK1 : 240 < K) (hK2 : K < 100000) (hin : ∀ j : Int32, 0 ≤ j.toInt → j.toInt < 5 → vp_in (i4 + j) L) (hR1 : cells ≤ 601024) (hR2 : slots ≤ 7293034) (hl : lv_has ls 7 [(0, .ref b), (1, .ref (N0 + 0)), (2, .ref (N0 + 139)), (3, .ref (N0 + 177)), (4, .int i4)]) (hs0 : lwS N0 D ca K M H) (hS : va_S (z_A N0) s.heap H locs) (kk : ∀ (M1 : zM) (H1 : Heap) (locs1 : List Loc), lwS N0 D ca (K + 1) M1 H1 → va_S (z_A N0) s.heap H1 locs1 → W p l e room_1 s m #[Value.ref b] below meth c H1 locs1 cells slots Q (F0 m 1308 ls [])) : W p l e room_1 s m #[Value.ref b] below meth c H locs cells slots Q (F0 m 459 ls []) := by
  obtain ⟨hx, hb, hml, hown, hta, hCx⟩ := id X
  obtain ⟨hH, hShp, f, o, g, hC, hM, hR⟩ := hs0
  have hbA : ¬ z_A N0 b := by rw [hN]; exact Nat.not_le.mpr hbl
  refine lv_aload_n hx hb d_law_459 rfl (lv_at hl 1 rfl) ?_
  refine lv_aload_n hx hb d_law_460 rfl (lv_at hl 0 rfl) ?_
  refine lv_iload hx hb d_law_461 (lv_at hl 4 rfl) ?_
  refine lv_iconst (v := 1) hx hb d_law_463 (by decide) ?_
  refine lv_iadd hx hb d_law_464 ?_
  refine va_sld hx hb hX hbl hbA hS (hin 1 (by decide) (by decide)) d_law_465 ?_
  refine lw_call (N0 := N0) (a := 0) (ci := 11) (C := z_C11) (T := z_T11) (N := 18) (i1 := 772) (i2 := 773) (i3 := 774) (as := [.int (xs (i4 + 1).toNatClampNeg)]) (rest := []) X zg_CG_free (Zm.kL (st_free K hK1 hK2 (xs (i4 + 1).toNatClampNeg) M f o g hC hM hR) rfl) (by decide) rfl rfl (hC.1 0 (by decide) (by decide) (by decide)) rfl (by decide +kernel) (by decide +kernel) (by decide +kernel) hH hS hShp (fun r M1 hp => hShp.c hp.1.1 hp.1.2.1) hl.1 rfl (by decide) d_law_466 hR1 hR2 (fun r M1 H1 locs1 hp hH1 hS1 => ?_)
  obtain ⟨⟨hc1, hsm1, v, rfl, hz2⟩, x, hvx⟩ := hp
  have hv : v = .long x := Option.some.inj hvx
  subst hv
  have hShp1 := hShp.c hc1 hsm1
  have hS := hS1
  have hM1 := hM.smc hsm1
  show W p l e room_1 s m #[Value.ref b] below meth c H1 locs1 cells slots Q (F0 m 469 ls [.long x])
  refine lv_aload_n hx hb d_law_469 rfl (lv_at hl 2 rfl) ?_
  refine lv_aload_n hx hb d_law_470 rfl (lv_at hl 0 rfl) ?_
  refine lv_iload hx hb d_law_471 (lv_at hl 4 rfl) ?_
  refine lv_iconst (v := 1) hx hb d_law_473 (by decide) ?_
  refine lv_iadd hx hb d_law_474 ?_
  refine va_sld hx hb hX hbl hbA hS (hin 1 (by decide) (by decide)) d_law_475 ?_
  refine lw_call (N0 := N0) (a := 139) (ci := 12) (C := z_C12) (T := z_T12) (N := 50) (i1 := 1541) (i2 := 1542) (i3 := 1543) (as := [.int (xs (i4 + 1).toNatClampNeg)]) (rest := [.long x]) X zg_MO_free hz2 (by decide) rfl rfl hM1.1 rfl (by decide +kernel) (by decide +kernel) (by decide +kernel) hH1 hS hShp1 (fun r M2 hp => by obtain ⟨-, f9, o9, g9, p1, p2, p3, p4, p5⟩ := hp; exact hShp.m p1 p2 p4 p5) hl.1 rfl (Nat.le_of_ble_eq_true rfl) d_law_476 hR1 hR2 (fun r M2 H2 locs2 hp hH2 hS2 => ?_)
  obtain ⟨rfl, f9, o9, g9, p1, p2, p3, p4, p5⟩ := hp
  show W p l e room_1 s m #[Value.ref b] below meth c H2 locs2 cells slots Q (F0 m 479 ls [.long x, .long x])
  refine W.lcmp hx hb d_law_479 ?_
  refine lv_if_eq (tgt := 1308) hx hb d_law_480 (by decide) (fun _ => ?_) (fun q => absurd (lw_cmp0 x) q)
  exact kk M2 H2 locs2 ⟨hH2, hShp.m p1 p2 p4 p5, f9, o9, g9, p1, p2, p3⟩ hS2

set_option maxHeartbeats 4000000 in
set_option maxRecDepth 100000 in
theorem lw_case9 {p : Program} {l : Launch} {e : Env} {s : State} {m : MethodId} {below : List Frame} {meth : Method} {c : Code} {H : Heap} {locs : List Loc} {cells slots : Nat} {Q : State → Prop} {b L K : Nat} {N0 : Nat} {D : va_G} {ca : Nat → ClassId} {M : zM} {xs : Nat → Int32} {i4 : Int32} {ls : Array Slot} (X : lwX p s m c b D ca) (hX : va_X b L xs s s.heap) (hbl : b < s.heap.size) (hN : N0 = s.heap.size) (hK1 : 240 < K) (hK2 : K < 100000) (hin : ∀ j : Int32, 0 ≤ j.toInt → j.toInt < 5 → vp_in (i4 + j) L) (hR1 : cells ≤ 601024) (hR2 : slots ≤ 7293034) (hl : lv_has ls 7 [(0, .ref b), (1, .ref (N0 + 0)), (2, .ref (N0 + 139)), (3, .ref (N0 + 177)), (4, .int i4)]) (hs0 : lwS N0 D ca K M H) (hS : va_S (z_A N0) s.heap H locs) (kk : ∀ (M1 : zM) (H1 : Heap) (locs1 : List Loc), lwS N0 D ca (K + 1) M1 H1 → va_S (z_A N0) s.heap H1 locs1 → W p l e room_1 s m #[Value.ref b] below meth c H1 locs1 cells slots Q (F0 m 1308 ls [])) : W p l e room_1 s m #[Value.ref b] below meth c H locs cells slots Q (F0 m 485 ls []) := by
  obtain ⟨hx, hb, hml, hown, hta, hCx⟩ := id X
  obtain ⟨hH, hShp, f, o, g, hC, hM, hR⟩ := hs0
  have hbA : ¬ z_A N0 b := by rw [hN]; exact Nat.not_le.mpr hbl
  refine lv_aload_n hx hb d_law_485 rfl (lv_at hl 1 rfl) ?_
  refine lv_aload_n hx hb d_law_486 rfl (lv_at hl 0 rfl) ?_
  refine lv_iload hx hb d_law_487 (lv_at hl 4 rfl) ?_
  refine lv_iconst (v := 1) hx hb d_law_489 (by decide) ?_
  refine lv_iadd hx hb d_law_490 ?_
  refine va_sld hx hb hX hbl hbA hS (hin 1 (by decide) (by decide)) d_law_491 ?_
  refine lv_aload_n hx hb d_law_492 rfl (lv_at hl 0 rfl) ?_
  refine lv_iload hx hb d_law_493 (lv_at hl 4 rfl) ?_
  refine lv_iconst (v := 2) hx hb d_law_495 (by decide) ?_
  refine lv_iadd hx hb d_law_496 ?_
  refine va_sld hx hb hX hbl hbA hS (hin 2 (by decide) (by decide)) d_law_497 ?_
  refine lw_call (N0 := N0) (a := 0) (ci := 11) (C := z_C11) (T := z_T11) (N := 18) (i1 := 776) (i2 := 777) (i3 := 778) (as := [.int (xs (i4 + 1).toNatClampNeg), .int (xs (i4 + 2).toNatClampNeg)]) (rest := []) X zg_CG_token (Zm.kI (st_token K hK1 hK2 (xs (i4 + 1).toNatClampNeg) (xs (i4 + 2).toNatClampNeg) M f o g hC hM hR) (Or.inl rfl)) (by decide) rfl rfl (hC.1 0 (by decide) (by decide) (by decide)) rfl (by decide +kernel) (by decide +kernel) (by decide +kernel) hH hS hShp (fun r M1 hp => hShp.c hp.1.1 hp.1.2.1) hl.1 rfl (by decide) d_law_498 hR1 hR2 (fun r M1 H1 locs1 hp hH1 hS1 => ?_)
  obtain ⟨⟨hc1, hsm1, v, rfl, hz2⟩, x, hvx⟩ := hp
  have hv : v = .int x := Option.some.inj hvx
  subst hv
  have hShp1 := hShp.c hc1 hsm1
  have hS := hS1
  have hM1 := hM.smc hsm1
  show W p l e room_1 s m #[Value.ref b] below meth c H1 locs1 cells slots Q (F0 m 501 ls [.int x])
  refine lv_aload_n hx hb d_law_501 rfl (lv_at hl 2 rfl) ?_
  refine lv_aload_n hx hb d_law_502 rfl (lv_at hl 0 rfl) ?_
  refine lv_iload hx hb d_law_503 (lv_at hl 4 rfl) ?_
  refine lv_iconst (v := 1) hx hb d_law_505 (by decide) ?_
  refine lv_iadd hx hb d_law_506 ?_
  refine va_sld hx hb hX hbl hbA hS (hin 1 (by decide) (by decide)) d_law_507 ?_
  refine lv_aload_n hx hb d_law_508 rfl (lv_at hl 0 rfl) ?_
  refine lv_iload hx hb d_law_509 (lv_at hl 4 rfl) ?_
  refine lv_iconst (v := 2) hx hb d_law_511 (by decide) ?_
  refine lv_iadd hx hb d_law_512 ?_
  refine va_sld hx hb hX hbl hbA hS (hin 2 (by decide) (by decide)) d_law_513 ?_
  refine lw_call (N0 := N0) (a := 139) (ci := 12) (C := z_C12) (T := z_T12) (N := 50) (i1 := 1545) (i2 := 1546) (i3 := 1547) (as := [.int (xs (i4 + 1).toNatClampNeg), .int (xs (i4 + 2).toNatClampNeg)]) (rest := [.int x]) X zg_MO_token hz2 (by decide) rfl rfl hM1.1 rfl (by decide +kernel) (by decide +kernel) (by decide +kernel) hH1 hS hShp1 (fun r M2 hp => by obtain ⟨-, f9, o9, g9, p1, p2, p3, p4, p5⟩ := hp; exact hShp.m p1 p2 p4 p5) hl.1 rfl (Nat.le_of_ble_eq_true rfl) d_law_514 hR1 hR2 (fun r M2 H2 locs2 hp hH2 hS2 => ?_)
  obtain ⟨rfl, f9, o9, g9, p1, p2, p3, p4, p5⟩ := hp
  show W p l e room_1 s m #[Value.ref b] below meth c H2 locs2 cells slots Q (F0 m 517 ls [.int x, .int x])
  refine lv_icmp_eq (tgt := 1308) hx hb d_law_517 (by decide) (fun _ => ?_) (fun q => absurd rfl q)
  exact kk M2 H2 locs2 ⟨hH2, hShp.m p1 p2 p4 p5, f9, o9, g9, p1, p2, p3⟩ hS2

set_option maxHeartbeats 4000000 in
set_option maxRecDepth 100000 in
theorem lw_case10 {p : Program} {l : Launch} {e : Env} {s : State} {m : MethodId} {below : List Frame} {meth : Method} {c : Code} {H : Heap} {locs : List Loc} {cells slots : Nat} {Q : State → Prop} {b L K : Nat} {N0 : Nat} {D : va_G} {ca : Nat → ClassId} {M : zM} {xs : Nat → Int32} {i4 : Int32} {ls : Array Slot} (X : lwX p s m c b D ca) (hX : va_X b L xs s s.heap) (hbl : b < s.heap.size) (hN : N0 = s.heap.size) (hK1 : 240 < K) (hK2 : K < 100000) (hin : ∀ j : Int32, 0 ≤ j.toInt → j.toInt < 5 → vp_in (i4 + j) L) (hR1 : cells ≤ 601024) (hR2 : slots ≤ 7293034) (hl : lv_has ls 7 [(0, .ref b), (1, .ref (N0 + 0)), (2, .ref (N0 + 139)), (3, .ref (N0 + 177)), (4, .int i4)]) (hs0 : lwS N0 D ca K M H) (hS : va_S (z_A N0) s.heap H locs) (kk : ∀ (M1 : zM) (H1 : Heap) (locs1 : List Loc), lwS N0 D ca (K + 1) M1 H1 → va_S (z_A N0) s.heap H1 locs1 → W p l e room_1 s m #[Value.ref b] below meth c H1 locs1 cells slots Q (F0 m 1308 ls [])) : W p l e room_1 s m #[Value.ref b] below meth c H locs cells slots Q (F0 m 522 ls []) := by
  obtain ⟨hx, hb, hml, hown, hta, hCx⟩ := id X
  obtain ⟨hH, hShp, f, o, g, hC, hM, hR⟩ := hs0
  have hbA : ¬ z_A N0 b := by rw [hN]; exact Nat.not_le.mpr hbl
  refine lv_aload_n hx hb d_law_522 rfl (lv_at hl 1 rfl) ?_
  refine lv_aload_n hx hb d_law_523 rfl (lv_at hl 0 rfl) ?_
  refine lv_iload hx hb d_law_524 (lv_at hl 4 rfl) ?_
  refine lv_iconst (v := 1) hx hb d_law_526 (by decide) ?_
  refine lv_iadd hx hb d_law_527 ?_
  refine va_sld hx hb hX hbl hbA hS (hin 1 (by decide) (by decide)) d_law_528 ?_
  refine lv_aload_n hx hb d_law_529 rfl (lv_at hl 0 rfl) ?_
  refine lv_iload hx hb d_law_530 (lv_at hl 4 rfl) ?_
  refine lv_iconst (v := 2) hx hb d_law_532 (by decide) ?_
  refine lv_iadd hx hb d_law_533 ?_
  refine va_sld hx hb hX hbl hbA hS (hin 2 (by decide) (by decide)) d_law_534 ?_
  refine lv_aload_n hx hb d_law_535 rfl (lv_at hl 0 rfl) ?_
  refine lv_iload hx hb d_law_536 (lv_at hl 4 rfl) ?_
  refine lv_iconst (v := 3) hx hb d_law_538 (by decide) ?_
  refine lv_iadd hx hb d_law_539 ?_
  refine va_sld hx hb hX hbl hbA hS (hin 3 (by decide) (by decide)) d_law_540 ?_
  refine lw_call (N0 := N0) (a := 0) (ci := 11) (C := z_C11) (T := z_T11) (N := 18) (i1 := 784) (i2 := 785) (i3 := 786) (as := [.int (xs (i4 + 1).toNatClampNeg), .int (xs (i4 + 2).toNatClampNeg), .int (xs (i4 + 3).toNatClampNeg)]) (rest := []) X zg_CG_where (Zm.kL (st_where K hK1 hK2 (xs (i4 + 1).toNatClampNeg) (xs (i4 + 2).toNatClampNeg) (xs (i4 + 3).toNatClampNeg) M f o g hC hM hR) rfl) (by decide) rfl rfl (hC.1 0 (by decide) (by decide) (by decide)) rfl (by decide +kernel) (by decide +kernel) (by decide +kernel) hH hS hShp (fun r M1 hp => hShp.c hp.1.1 hp.1.2.1) hl.1 rfl (by decide) d_law_541 hR1 hR2 (fun r M1 H1 locs1 hp hH1 hS1 => ?_)
  obtain ⟨⟨hc1, hsm1, v, rfl, hz2⟩, x, hvx⟩ := hp
  have hv : v = .long x := Option.some.inj hvx
  subst hv
  have hShp1 := hShp.c hc1 hsm1
  have hS := hS1
  have hM1 := hM.smc hsm1
  show W p l e room_1 s m #[Value.ref b] below meth c H1 locs1 cells slots Q (F0 m 544 ls [.long x])
  refine lv_aload_n hx hb d_law_544 rfl (lv_at hl 2 rfl) ?_
  refine lv_aload_n hx hb d_law_545 rfl (lv_at hl 0 rfl) ?_
  refine lv_iload hx hb d_law_546 (lv_at hl 4 rfl) ?_
  refine lv_iconst (v := 1) hx hb d_law_548 (by decide) ?_
  refine lv_iadd hx hb d_law_549 ?_
  refine va_sld hx hb hX hbl hbA hS (hin 1 (by decide) (by decide)) d_law_550 ?_
  refine lv_aload_n hx hb d_law_551 rfl (lv_at hl 0 rfl) ?_
  refine lv_iload hx hb d_law_552 (lv_at hl 4 rfl) ?_
  refine lv_iconst (v := 2) hx hb d_law_554 (by decide) ?_
  refine lv_iadd hx hb d_law_555 ?_
  refine va_sld hx hb hX hbl hbA hS (hin 2 (by decide) (by decide)) d_law_556 ?_
  refine lv_aload_n hx hb d_law_557 rfl (lv_at hl 0 rfl) ?_
  refine lv_iload hx hb d_law_558 (lv_at hl 4 rfl) ?_
  refine lv_iconst (v := 3) hx hb d_law_560 (by decide) ?_
  refine lv_iadd hx hb d_law_561 ?_
  refine va_sld hx hb hX hbl hbA hS (hin 3 (by decide) (by decide)) d_law_562 ?_
  refine lw_call (N0 := N0) (a := 139) (ci := 12) (C := z_C12) (T := z_T12) (N := 50) (i1 := 1557) (i2 := 1558) (i3 := 1559) (as := [.int (xs (i4 + 1).toNatClampNeg), .int (xs (i4 + 2).toNatClampNeg), .int (xs (i4 + 3).toNatClampNeg)]) (rest := [.long x]) X zg_MO_where hz2 (by decide) rfl rfl hM1.1 rfl (by decide +kernel) (by decide +kernel) (by decide +kernel) hH1 hS hShp1 (fun r M2 hp => by obtain ⟨-, f9, o9, g9, p1, p2, p3, p4, p5⟩ := hp; exact hShp.m p1 p2 p4 p5) hl.1 rfl (Nat.le_of_ble_eq_true rfl) d_law_563 hR1 hR2 (fun r M2 H2 locs2 hp hH2 hS2 => ?_)
  obtain ⟨rfl, f9, o9, g9, p1, p2, p3, p4, p5⟩ := hp
  show W p l e room_1 s m #[Value.ref b] below meth c H2 locs2 cells slots Q (F0 m 566 ls [.long x, .long x])
  refine W.lcmp hx hb d_law_566 ?_
  refine lv_if_eq (tgt := 1308) hx hb d_law_567 (by decide) (fun _ => ?_) (fun q => absurd (lw_cmp0 x) q)
  exact kk M2 H2 locs2 ⟨hH2, hShp.m p1 p2 p4 p5, f9, o9, g9, p1, p2, p3⟩ hS2
