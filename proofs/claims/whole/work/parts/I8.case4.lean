/-! THE LAW: its case of rule -/
theorem m_thrown (Mq : zM) (o : Nat → Nat) (g : Nat → Nat → Nat) (hM : MM Mq o g) : Zm 0 zm_MO_thrown [.ref 139] Mq (fun r9 M1 => r9 = some (.int (nI (o 0))) ∧ M1 = Mq) := by
  show Zw 0 zm_MO_thrown 0 [some (.ref 139)] [] Mq _
  refine zw_n 1 rfl ?_
  refine zw_get (v := .int (nI (o 0))) rfl hM.1 rfl ?_
  exact zw_iret rfl rfl ⟨rfl, rfl⟩
/-- what the model's rule leaves, after k was thrown there -/
def xqN (K k : Nat) (j : Int32) (f : Nat → Nat → Nat) (o : Nat → Nat) (M1 : zM) (r : Option Value) (M2 : zM) : Prop := r = some (.int j) ∧ CC M2 f ∧ M2.length = M1.length ∧ (∀ a, 176 < a → M2[a]? = M1[a]?) ∧ ∃ g9, MM M2 (up o 0 k) g9 ∧ Rel (K + 1) f (up o 0 k) g9
set_option maxHeartbeats 4000000 in
set_option maxRecDepth 100000 in
theorem lw_c4 {p : Program} {l : Launch} {e : Env} {s : State} {m : MethodId} {below : List Frame} {meth : Method} {c : Code} {H : Heap} {locs : List Loc} {cells slots : Nat} {Q : State → Prop} {b L K : Nat} {N0 : Nat} {D : va_G} {ca : Nat → ClassId} {M : zM} {xs : Nat → Int32} {i4 : Int32} {ls : Array Slot} {f : Nat → Nat → Nat} {o : Nat → Nat} {g : Nat → Nat → Nat} (k : Nat) (j : Int32) (gx : Nat → Int64) (X : lwX p s m c b D ca) (hX : va_X b L xs s s.heap) (hbl : b < s.heap.size) (hN : N0 = s.heap.size) (hin : ∀ j : Int32, 0 ≤ j.toInt → j.toInt < 5 → vp_in (i4 + j) L) (hR1 : cells ≤ 601024) (hR2 : slots ≤ 7293034) (hl : lv_has ls 7 [(0, .ref b), (1, .ref (N0 + 0)), (2, .ref (N0 + 139)), (3, .ref (N0 + 177)), (4, .int i4)]) (hH : z_H N0 D ca M H) (hShp : Shp M) (hM : MM M o g) (hz : Zm 3 zm_MO_rule [.ref 139, .int (xs (i4 + 1).toNatClampNeg), .int (xs (i4 + 2).toNatClampNeg)] M (xqN K k j f o M)) (hg : M[177]? = some (.inl (1, 1, .inr (.inl gx)))) (hk : k = 1 ∨ (k = 0 ∧ gx 0 = j.toInt64)) (hS : va_S (z_A N0) s.heap H locs) (kk : ∀ (M1 : zM) (H1 : Heap) (locs1 : List Loc) (ls1 : Array Slot), lv_has ls1 7 [(0, .ref b), (1, .ref (N0 + 0)), (2, .ref (N0 + 139)), (3, .ref (N0 + 177)), (4, .int i4)] → lwS N0 D ca (K + 1) M1 H1 → va_S (z_A N0) s.heap H1 locs1 → W p l e room_1 s m #[Value.ref b] below meth c H1 locs1 cells slots Q (F0 m 1308 ls1 [])) : W p l e room_1 s m #[Value.ref b] below meth c H locs cells slots Q (F0 m 297 ls [.int (nI k)]) := by
  obtain ⟨hx, hb, hml, hown, hta, hCx⟩ := id X
  have hbA : ¬ z_A N0 b := by rw [hN]; exact Nat.not_le.mpr hbl
  refine lv_istore (lv' := [(5, .int (nI k)), (0, .ref b), (1, .ref (N0 + 0)), (2, .ref (N0 + 139)), (3, .ref (N0 + 177)), (4, .int i4)]) hx hb d_law_297 hl (by decide) rfl (fun ls1 hl1 => ?_)
  have hl := lv_sub hl1 [1, 2, 3, 4, 5] rfl
  refine lv_aload_n hx hb d_law_299 rfl (lv_at hl 2 rfl) ?_
  refine lv_aload_n hx hb d_law_300 rfl (lv_at hl 0 rfl) ?_
  refine lv_iload hx hb d_law_301 (lv_at hl 4 rfl) ?_
  refine lv_iconst (v := 1) hx hb d_law_303 (by decide) ?_
  refine lv_iadd hx hb d_law_304 ?_
  refine va_sld hx hb hX hbl hbA hS (hin 1 (by decide) (by decide)) d_law_305 ?_
  refine lv_aload_n hx hb d_law_306 rfl (lv_at hl 0 rfl) ?_
  refine lv_iload hx hb d_law_307 (lv_at hl 4 rfl) ?_
  refine lv_iconst (v := 2) hx hb d_law_309 (by decide) ?_
  refine lv_iadd hx hb d_law_310 ?_
  refine va_sld hx hb hX hbl hbA hS (hin 2 (by decide) (by decide)) d_law_311 ?_
  have hpp : ∀ r M2, xqN K k j f o M r M2 → Shp M2 := fun r M2 hp => by obtain ⟨-, p1, p2, p3, g9, p4, -⟩ := hp; exact hShp.m p1 p4 p2 p3
  refine lw_call (N0 := N0) (a := 139) (ci := 12) (C := z_C12) (T := z_T12) (N := 50) (i1 := 1500) (i2 := 1501) (i3 := 1502) (as := [.int (xs (i4 + 1).toNatClampNeg), .int (xs (i4 + 2).toNatClampNeg)]) (rest := []) X zg_MO_rule hz (by decide) rfl rfl hM.1 rfl (by decide +kernel) (by decide +kernel) (by decide +kernel) hH hS hShp hpp hl1.1 rfl (by decide) d_law_312 hR1 hR2 (fun r M2 H2 locs2 hp hH2 hS2 => ?_)
  have hShp2 := hpp r M2 hp
  obtain ⟨rfl, p1, p2, p3, g9, p4, p5⟩ := hp
  show W p l e room_1 s m #[Value.ref b] below meth c H2 locs2 cells slots Q (F0 m 315 ls1 [.int j])
  refine lv_istore (lv' := [(6, .int j), (5, .int (nI k)), (0, .ref b), (1, .ref (N0 + 0)), (2, .ref (N0 + 139)), (3, .ref (N0 + 177)), (4, .int i4)]) hx hb d_law_315 hl1 (by decide) rfl (fun ls2 hl2 => ?_)
  refine lv_aload_n hx hb d_law_317 rfl (lv_at hl2 4 rfl) ?_
  refine lw_call (N0 := N0) (a := 139) (ci := 12) (C := z_C12) (T := z_T12) (N := 50) (i1 := 1374) (i2 := 1375) (i3 := 1376) (as := []) (rest := []) X zg_MO_thrown (m_thrown M2 _ _ p4) (by decide) rfl rfl p4.1 rfl (by decide +kernel) (by decide +kernel) (by decide +kernel) hH2 hS2 hShp2 (fun r M3 hp => by rw [hp.2]; exact hShp2) hl2.1 rfl (by decide) d_law_318 hR1 hR2 (fun r M3 H3 locs3 hp hH3 hS3 => ?_)
  obtain ⟨rfl, rfl⟩ := hp
  show W p l e room_1 s m #[Value.ref b] below meth c H3 locs3 cells slots Q (F0 m 321 ls2 [.int (nI k)])
  refine lv_iload hx hb d_law_321 (lv_at hl2 1 rfl) ?_
  refine lv_icmp_eq (tgt := 328) hx hb d_law_323 (by decide) (fun _ => ?_) (fun q => absurd rfl q)
  refine lv_iload hx hb d_law_328 (lv_at hl2 1 rfl) ?_
  have fin : W p l e room_1 s m #[Value.ref b] below meth c H3 locs3 cells slots Q (F0 m 345 ls2 []) := by
    refine lv_goto (tgt := 1308) hx hb d_law_345 (by decide) ?_
    exact kk M3 H3 locs3 ls2 (lv_sub hl2 [2, 3, 4, 5, 6] rfl) ⟨hH3, hShp2, f, _, g9, p1, p4, p5⟩ hS3
  rcases hk with rfl | ⟨rfl, hj⟩
  · exact lv_if_ne (tgt := 345) hx hb d_law_330 (by decide) (fun _ => fin) (fun q => absurd q (by decide))
  · refine lv_if_ne (tgt := 345) hx hb d_law_330 (by decide) (fun q => absurd rfl q) (fun _ => ?_)
    refine lv_aload_n hx hb d_law_333 rfl (lv_at hl2 5 rfl) ?_
    refine lv_iconst (v := 0) hx hb d_law_334 (by decide) ?_
    refine va_lald hx hb hCx.1 hH3 177 1 (cA := ca 1) (n := 1) (f := gx) (z_ws_get (N0 := N0) (ca := ca) ((p3 177 (by decide)).trans hg)) rfl (show vp_in 0 1 by unfold vp_in; decide) d_law_335 ?_
    refine lv_iload hx hb d_law_336 (lv_at hl2 0 rfl) ?_
    refine lv_i2l hx hb d_law_338 rfl ?_
    refine W.lcmp hx hb d_law_339 ?_
    exact lv_if_eq (tgt := 345) hx hb d_law_340 (by decide) (fun _ => fin) (fun q => absurd (by show lg_cmp (gx 0) j.toInt64 = 0; rw [hj]; exact lw_cmp0 _) q)
theorem xqE0 {s : State} {b N0 : Nat} (hN : N0 = s.heap.size) (hta : ∀ w ∈ lw_tbl, w.before #[Value.ref b] s = true) (hgv : (Jvm.Cond.and given_1 narrow_1).before #[Value.ref b] s = true) : xqE (z_A N0) s s.heap := by
  have hs := flat_of_before _ hgv
  have h1 : (Cond.isRef (.static Bundle.tN "UNASSIGNED_STACK" Bundle.steD)).before #[Value.ref b] s = true := hs _ (by decide +kernel)
  have h2 : (Cond.isRef (.static Bundle.tN "SUPPRESSED_SENTINEL" Bundle.listD)).before #[Value.ref b] s = true := hs _ (by decide +kernel)
  have hA : ∀ a : Nat, a < s.heap.size → ¬ z_A N0 a := fun a ha => by rw [hN]; exact Nat.not_le.mpr ha
  exact ⟨fun w hw => va_Nw.of (xqB_ot w hw) (hta w (xqB_in w hw)), vx_Zqof (hta _ xq_w6) (hta _ xq_w8) h1 hA, vx_Zqof (hta _ xq_w7) (hta _ xq_w8) h2 hA⟩
theorem xq_good : GoodIn zG (va_wsS "ColumnGrammarLaw" 38 xqY (xqC :: zG)) := by
  intro w hw
  unfold va_wsS at hw
  rcases List.mem_append.mp hw with h | h
  · simp only [List.mem_cons, List.not_mem_nil, or_false] at h
    rcases h with rfl | rfl | rfl
    · exact ⟨z_g xq_v1 rfl, good_of_word rfl⟩
    · exact ⟨z_g xq_v2 rfl, good_of_word rfl⟩
    · exact ⟨z_g xq_v3 rfl, good_of_word rfl⟩
  · rcases List.mem_cons.mp h with rfl | h
    · exact ⟨z_g xq_v0 rfl, good_of_word rfl⟩
    · exact ⟨h, good_of_word (List.mem_filter.mp h).2⟩
theorem xq_hd : xqY.cls ≠ "java/lang/invoke/MethodHandle" ∧ xqY.cls ≠ "java/lang/invoke/VarHandle" ∧ (parseMethodDescriptor xqY.desc).map (fun d => d.parameters.length) = some 4 := by decide +kernel
set_option maxHeartbeats 4000000 in
set_option maxRecDepth 100000 in
theorem lw_case4 {p : Program} {l : Launch} {e : Env} {s : State} {m : MethodId} {below : List Frame} {meth : Method} {c : Code} {H : Heap} {locs : List Loc} {cells slots : Nat} {Q : State → Prop} {b L K : Nat} {N0 : Nat} {D : va_G} {ca : Nat → ClassId} {M : zM} {xs : Nat → Int32} {i4 : Int32} {ls : Array Slot} (hflags : l.flags = flags0) (hgv : (Jvm.Cond.and given_1 narrow_1).before #[Value.ref b] s = true) (X : lwX p s m c b D ca) (hX : va_X b L xs s s.heap) (hbl : b < s.heap.size) (hN : N0 = s.heap.size) (hK1 : 240 < K) (hK2 : K < 100000) (hin : ∀ j : Int32, 0 ≤ j.toInt → j.toInt < 5 → vp_in (i4 + j) L) (hR1 : cells + 1 ≤ 601024) (hR2 : slots + 6 ≤ 7293034) (hl : lv_has ls 7 [(0, .ref b), (1, .ref (N0 + 0)), (2, .ref (N0 + 139)), (3, .ref (N0 + 177)), (4, .int i4)]) (hs0 : lwS N0 D ca K M H) (hS : va_S (z_A N0) s.heap H locs) (kk : ∀ (M1 : zM) (H1 : Heap) (locs1 : List Loc) (ls1 : Array Slot), lv_has ls1 7 [(0, .ref b), (1, .ref (N0 + 0)), (2, .ref (N0 + 139)), (3, .ref (N0 + 177)), (4, .int i4)] → lwS N0 D ca (K + 1) M1 H1 → va_S (z_A N0) s.heap H1 locs1 → W p l e room_1 s m #[Value.ref b] below meth c H1 locs1 (cells + 1) (slots + 6) Q (F0 m 1308 ls1 [])) : W p l e room_1 s m #[Value.ref b] below meth c H locs cells slots Q (F0 m 280 ls []) := by
  obtain ⟨hx, hb, hml, hown, hta, hCx⟩ := id X
  have hts := X.zg
  obtain ⟨hH, hShp, f, o, g, hC, hM, hR⟩ := hs0
  have hbA : ¬ z_A N0 b := by rw [hN]; exact Nat.not_le.mpr hbl
  obtain ⟨gx, hgx⟩ := hShp.2.2.2
  have hI := hR.inv
  have hn8 : f 16 0 ≤ 8 := hI.gram.safe.1
  have hl0 : l.stackTraces = false := by unfold Launch.stackTraces; rw [hflags]; decide +kernel
  have hE0 := xqE0 hN hta hgv
  have hfix : CallFix p m c code 7 s #[Value.ref b] zG "ColumnGrammarLaw" := ⟨hx, hb, hml, hown, hts⟩
  refine lv_aload_n hx hb d_law_280 rfl (lv_at hl 1 rfl) ?_
  refine lv_aload_n hx hb d_law_281 rfl (lv_at hl 0 rfl) ?_
  refine lv_iload hx hb d_law_282 (lv_at hl 4 rfl) ?_
  refine lv_iconst (v := 1) hx hb d_law_284 (by decide) ?_
  refine lv_iadd hx hb d_law_285 ?_
  refine va_sld hx hb hX hbl hbA hS (hin 1 (by decide) (by decide)) d_law_286 ?_
  refine lv_aload_n hx hb d_law_287 rfl (lv_at hl 0 rfl) ?_
  refine lv_iload hx hb d_law_288 (lv_at hl 4 rfl) ?_
  refine lv_iconst (v := 2) hx hb d_law_290 (by decide) ?_
  refine lv_iadd hx hb d_law_291 ?_
  refine va_sld hx hb hX hbl hbA hS (hin 2 (by decide) (by decide)) d_law_292 ?_
  refine lv_aload_n hx hb d_law_293 rfl (lv_at hl 3 rfl) ?_
  have hct : 2 * (F0 m 294 ls [.ref (N0 + 177), .int (xs (i4 + 2).toNatClampNeg), .int (xs (i4 + 1).toNatClampNeg), .ref (N0 + 0)]).monitorRoom + (([] : List Value).map fun v => v.category).sum ≤ 8 := lv_room (by decide)
  generalize ex : xs (i4 + 1).toNatClampNeg = x at hct ⊢
  generalize ew : xs (i4 + 2).toNatClampNeg = w at hct ⊢
  by_cases hv : 0 ≤ x.toInt ∧ x.toInt < f 16 0
  · obtain ⟨r, hr1, hr2⟩ := i32_ex hv.1
    have hr : r < f 16 0 := by omega
    subst hr1
    obtain ⟨k9, hk9⟩ : ∃ k9 : Int32, k9 = (if w = nI 0 then nI (f 17 r) else if w = nI 1 then nI (f 18 r) else if w = nI 2 then nI (if (f 16 7).testBit r = true then 1 else 0) else -1) := ⟨_, rfl⟩
    have hz1 := c_ruleOk M f K hC hI r w hr
    rw [← hk9] at hz1
    refine z_call (vx_runSW (bytes := method_3_code) (maxL := 5) (ret := some .int) (hh := [(0, 10, 13, 13)]) (n := 4) (As := [.ref (N0 + 0), .int (nI r), .int w, .ref (N0 + 177)]) (rest := []) hfix (xq_lawOk l N0 D ca hC hgx hz1) (vx_cwSW 4 hts xq_good rfl rfl rfl xq_hd (by decide)) ⟨z_blind, fun U hU hW => ⟨rfl, by rw [hU]; exact hH, Or.inl rfl, hCx.moved hW⟩⟩ rfl rfl hl.1 rfl hct d_law_294 ⟨by show _ ≤ 601024; omega, by show _ ≤ 7293034; omega⟩) hS (fun H1 locs1 hH1 hS1 => ?_)
    generalize eM : M.set 177 (.inl (1, 1, .inr (.inl (vp_updL gx 0 k9.toInt64)))) = M1 at hH1
    have hsm : Sm M M1 [177] := by rw [← eM]; exact Sm.set _ (by decide)
    have hC1 : CC M1 f := hC.sm hsm (by decide)
    have hM1 : MM M1 o g := hM.sm hsm (by decide)
    have hg1 : M1[177]? = some (.inl (1, 1, .inr (.inl (vp_updL gx 0 k9.toInt64)))) := by rw [← eM]; exact List.getElem?_set_self (by have := hShp.1; omega)
    have hShp1 : Shp M1 := ⟨hsm.1.trans hShp.1, ⟨f, hC1⟩, ⟨o, g, hM1⟩, _, hg1⟩
    have hz2 : Zm 3 zm_MO_rule [.ref 139, .int (nI r), .int w] M1 (xqN K 0 k9 f o M1) := Zm.mono (m_ruleOk M1 o g hM1 (f 16 0) (f 17) (f 18) (f 19) (f 20) (f 21) (f 22) hR.rg hI.gram.safe hR.sf hR.dr hR.b62 (fun q => (f 16 7).testBit q) hI.gram.emp r w hr) (Nat.le_refl _) (fun r9 M2 hp => by
      obtain ⟨q1, f9, q2, q3, q4, q5⟩ := hp
      refine ⟨by rw [q1, hk9], hC1.sm q3 (by decide), q3.1, fun a ha => q3.2 a (by simp only [List.mem_cons, List.not_mem_nil, or_false]; omega), f9, q2, ?_⟩
      refine hR.keep (hI.mono (Nat.le_succ _)) Asame.rf rfl rfl rfl (fun a ha => q4 a ?_) ?_ ?_ q5 ?_
      · intro q; revert a; decide
      · unfold SafeF; rw [q4 140 (by decide), q4 156 (by decide), q4 157 (by decide), q4 158 (by decide), q4 159 (by decide), q4 160 (by decide)]; exact hR.sf
      · rw [q4 161 (by decide)]; exact hR.b61
      · rw [q4 163 (by decide)]; exact hR.b63)
    refine W.widen (k := cells + 1) (n := slots + 6) (by omega) (by omega) ?_
    show W p l e room_1 s m #[Value.ref b] below meth c H1 locs1 (cells + 1) (slots + 6) Q (F0 m 297 ls [.int (nI 0)])
    exact lw_c4 (K := K) (f := f) (o := o) (g := g) 0 k9 (vp_updL gx 0 k9.toInt64) X hX hbl hN hin hR1 hR2 hl hH1 hShp1 hM1 (by rw [ex, ew]; exact hz2) hg1 (Or.inr ⟨rfl, by simp [vp_updL]⟩) hS1 kk
  · refine z_call (vx_runSW (bytes := method_3_code) (maxL := 5) (ret := some .int) (hh := [(0, 10, 13, 13)]) (n := 4) (As := [.ref (N0 + 0), .int x, .int w, .ref (N0 + 177)]) (rest := []) hfix (xq_lawNo l hl0 N0 D ca hC hn8 hv) (vx_cwSW 4 hts xq_good rfl rfl rfl xq_hd (by decide)) ⟨xq_blind, fun U hU hW => ⟨rfl, by rw [hU]; exact hH, hCx.moved hW, by rw [hU]; exact (hE0.kept hS.2.1).moved hW⟩⟩ rfl rfl hl.1 rfl hct d_law_294 ⟨hR1, hR2⟩) hS (fun H1 locs1 hH1 hS1 => ?_)
    have hz2 : Zm 3 zm_MO_rule [.ref 139, .int x, .int w] M (xqN K 1 0 f o M) := Zm.mono (m_ruleNo M o g hM (f 16 0) hR.rg.1 hn8 x w hv) (Nat.le_refl _) (fun r9 M2 hp => by
      obtain ⟨q1, q2, q3⟩ := hp
      exact ⟨q1, hC.sm q3 (by decide), q3.1, fun a ha => q3.2 a (by simp only [List.mem_cons, List.not_mem_nil, or_false]; omega), g, q2, (hR.mono (Nat.le_succ _)).o0⟩)
    show W p l e room_1 s m #[Value.ref b] below meth c H1 locs1 (cells + 1) (slots + 6) Q (F0 m 297 ls [.int (nI 1)])
    exact lw_c4 (K := K) (f := f) (o := o) (g := g) 1 0 gx X hX hbl hN hin hR1 hR2 hl hH1 hShp hM (by rw [ex, ew]; exact hz2) hgx (Or.inl rfl) hS1 kk
