/-! THE LAW: rule, that returns or throws -/
def xqL : List Cond := vx_at0 "ColumnGrammar" 144 "java/util/NoSuchElementException" ["java/lang/RuntimeException", "java/lang/Exception"]
def xqB : List Cond := [.castable "java/util/NoSuchElementException" "java/util/NoSuchElementException", .declares (Bundle.init0 "java/lang/RuntimeException"), .declares (Bundle.init0 "java/lang/Exception"), .declares (Bundle.init0 Bundle.tN)]
theorem xqL_in : ∀ w ∈ xqL.filter goodWord, w ∈ lw_tbl := by decide +kernel
theorem xqL_bad : ∀ w ∈ xqL.filter (fun w => !goodWord w), w ∈ xqB := by decide +kernel
theorem xqB_in : ∀ w ∈ xqB, w ∈ lw_tbl := by decide +kernel
theorem xqB_ot : ∀ w ∈ xqB, w.onTables = true := by decide +kernel
theorem xq_ot : ∀ w ∈ Cond.classLink "ColumnGrammar" 142 "java/util/NoSuchElementException" :: Cond.initialized "java/util/NoSuchElementException" :: vx_at0 "ColumnGrammar" 144 "java/util/NoSuchElementException" ["java/lang/RuntimeException", "java/lang/Exception"], vx_ot w = true := by decide +kernel
theorem xq_w1 : Cond.classLink "ColumnGrammar" 142 "java/util/NoSuchElementException" ∈ lw_tbl := by decide +kernel
theorem xq_w2 : Cond.initialized "java/util/NoSuchElementException" ∈ lw_tbl := by decide +kernel
theorem xq_w3 : Cond.methodLink "ColumnGrammar" 138 zm_CG_isRule.1 ∈ lw_tbl := by decide +kernel
theorem xq_w4 : Cond.instanceMethod zm_CG_isRule.1 ∈ lw_tbl := by decide +kernel
theorem xq_w5 : Cond.selects "ColumnGrammar" zm_CG_isRule.1 zm_CG_isRule.1 ∈ lw_tbl := by decide +kernel
theorem xq_w6 : Cond.laysStatic Bundle.tN "UNASSIGNED_STACK" Bundle.steD ∈ lw_tbl := by decide +kernel
theorem xq_w7 : Cond.laysStatic Bundle.tN "SUPPRESSED_SENTINEL" Bundle.listD ∈ lw_tbl := by decide +kernel
theorem xq_w8 : Cond.initialized Bundle.tN ∈ lw_tbl := by decide +kernel
def xqY : MethodName := ⟨"ColumnGrammarLaw", "rule", "(LColumnGrammar;II[J)I"⟩
def xqC : Cond := .codeWith xqY method_3_code 5 (some .int) [(0, 10, 13, 13)]
theorem xq_v0 : xqC ∈ lw_tbl := by decide +kernel
theorem xq_v1 : Cond.methodLink "ColumnGrammarLaw" 38 xqY ∈ lw_tbl := by decide +kernel
theorem xq_v2 : Cond.static xqY ∈ lw_tbl := by decide +kernel
theorem xq_v3 : Cond.initialized "ColumnGrammarLaw" ∈ lw_tbl := by decide +kernel
theorem xq_v4 : Cond.classLink "ColumnGrammarLaw" 13 "java/util/NoSuchElementException" ∈ lw_tbl := by decide +kernel
theorem xq_v5 : Cond.methodLink "ColumnGrammarLaw" 7 zm_CG_rule.1 ∈ lw_tbl := by decide +kernel
theorem xq_v6 : Cond.instanceMethod zm_CG_rule.1 ∈ lw_tbl := by decide +kernel
theorem xq_v7 : Cond.selects "ColumnGrammar" zm_CG_rule.1 zm_CG_rule.1 ∈ lw_tbl := by decide +kernel
/-- what a throw needs of the start, over and above the good words -/
def xqE (A : Nat → Prop) (U : State) (H : Heap) : Prop := (∀ w ∈ xqB, va_Nw w U) ∧ vx_Zq Bundle.tN "UNASSIGNED_STACK" Bundle.steD A U H ∧ vx_Zq Bundle.tN "SUPPRESSED_SENTINEL" Bundle.listD A U H
theorem xqE.moved {A : Nat → Prop} {s U : State} {H : Heap} (hW : s.WarmedH U.vm) (h : xqE A s H) : xqE A U H := by
  refine ⟨fun w hw => ?_, vx_Zq.moved hW.alike h.2.1, vx_Zq.moved hW.alike h.2.2⟩
  have h1 := h.1 w hw
  simp only [xqB, List.mem_cons, List.not_mem_nil, or_false] at hw
  rcases hw with rfl | rfl | rfl | rfl
  · exact va_Nw.warmC hW h1
  · exact va_Nw.warmD hW h1
  · exact va_Nw.warmD hW h1
  · exact va_Nw.warmD hW h1
theorem xqE.kept {A : Nat → Prop} {U : State} {H H1 : Heap} (h : xqE A U H) (hq : ∀ a : Nat, a < H.size → ¬ A a → H1[a]? = H[a]?) : xqE A U H1 := ⟨h.1, h.2.1.kept hq, h.2.2.kept hq⟩
theorem z_Cx.calls {D : va_G} {ca : Nat → ClassId} {U : State} (h4 : z_Cx D ca U) (g : JFrame) (mk : MethodId) (a : Array Value) : z_Cx D ca (U.calling g mk a) := by
  refine ⟨va_K.moved (u := U) (U := U.calling g mk a) (Vm.Alike.refl U.vm) h4.1, fun w hw => ?_, va_AO.moved (u := U) (U := U.calling g mk a) (Vm.Alike.refl U.vm) h4.2.2.1, va_AO.moved (u := U) (U := U.calling g mk a) (Vm.Alike.refl U.vm) h4.2.2.2⟩
  obtain ⟨q1, q2, q3, q4, rfl⟩ := zN_all w hw
  exact va_Nw.same rfl (rfl : U.vm = (U.calling g mk a).vm) (h4.2.1 _ hw)
def xqP (N0 : Nat) (D : va_G) (ca : Nat → ClassId) (as : List Value) (M : zM) : Array Value → State → Prop := va_Pc (as.map (z_v N0)) (fun U => z_H N0 D ca M U.heap ∧ z_Cx D ca U ∧ xqE (z_A N0) U U.heap)
theorem xq_blind {N0 : Nat} {D : va_G} {ca : Nat → ClassId} {as : List Value} {M : zM} : FrameBlind (xqP N0 D ca as M) := by
  intro a U g mk h
  obtain ⟨h1, h2, h3, h4⟩ := h
  exact ⟨h1, h2, h3.calls g mk a, xqE.moved (s := U) (U := U.calling g mk a) (State.WarmedH.refl U) h4⟩
def xqX (N0 : Nat) (D : va_G) (ca : Nat → ClassId) (M : zM) : String → State → State → Prop := vx_X (S := Unit) (fun _ => True) (fun E _ t => E = "java/util/NoSuchElementException" ∧ z_H N0 D ca M t.heap) (z_A N0)
theorem z_H.behind {N0 : Nat} {D : va_G} {ca : Nat → ClassId} {M : zM} {H H1 : Heap} (h : z_H N0 D ca M H) (hq : ∀ q : Nat, q < H.size → H1[q]? = H[q]?) : z_H N0 D ca M H1 := va_P.kept h (fun k q hk => hq _ (vx_lt h hk))
def xr_0 : decode zm_CG_rule.2.1 0 = .ok (.aload_n 0, 1) := by decide +kernel
def xr_1 : decode zm_CG_rule.2.1 1 = .ok (.iload_n 1, 1) := by decide +kernel
def xr_2 : decode zm_CG_rule.2.1 2 = .ok (.invokevirtual 138, 3) := by decide +kernel
def xr_5 : decode zm_CG_rule.2.1 5 = .ok (.ifCond .ne 11, 3) := by decide +kernel
def xr_8 : decode zm_CG_rule.2.1 8 = .ok (.new 142, 3) := by decide +kernel
def xr_11 : decode zm_CG_rule.2.1 11 = .ok (.dup, 1) := by decide +kernel
def xr_12 : decode zm_CG_rule.2.1 12 = .ok (.invokespecial 144, 3) := by decide +kernel
def xr_15 : decode zm_CG_rule.2.1 15 = .ok (.athrow, 1) := by decide +kernel
set_option maxHeartbeats 4000000 in
set_option maxRecDepth 100000 in
/-- a rule that is not there: it throws -/
theorem xq_met (l : Launch) (hl0 : l.stackTraces = false) (N0 : Nat) (D : va_G) (ca : Nat → ClassId) {M : zM} {f : Nat → Nat → Nat} (hC : CC M f) (hn : f 16 0 ≤ 8) {x w : Int32} (hx : ¬ (0 ≤ x.toInt ∧ x.toInt < f 16 0)) :
    vx_Met l zm_CG_rule.1 (z_wds zm_CG_rule) (z_rm 12 1 6) (xqP N0 D ca [.ref 0, .int x, .int w] M) (va_Qi (S := Unit) (fun _ _ => False) (fun _ _ => True) (z_A N0)) (xqX N0 D ca M) 1 6 (z_A N0) := by
  refine vx_ofW (cc := zm_CG_rule.2.1) (maxL := 3) (ret := some .int) zg_CG_rule.2.2.2.1 rfl ?_
  intro p e s m args below meth c s₁ B hml htab hv
  obtain ⟨rfl, hH, hCx, hE⟩ := hv
  have hts2 := atoms_spec (ws := z_wds zm_CG_rule) B.pre
  have hts : ∀ w9 ∈ zG, w9.before _ s = true := fun w9 hw => hts2 w9 (List.mem_cons_of_mem _ hw)
  have hb : c.code = zm_CG_rule.2.1 := B.bytes
  have hx0 := B.exec
  have hown : s.vm.findClass "ColumnGrammar" = some m.cls := findClass_of_methodNamed B.named
  have hl := lv_entry ([.ref (N0 + 0), .int x, .int w]) (n := 3) (Nat.le_of_ble_eq_true rfl)
  rw [lg_entry_eq]
  show W p l e (z_rm 12 1 6) s m _ below meth c s.heap [] 0 0 _ (F0 m 0 ((lg_sl ([.ref (N0 + 0), .int x, .int w]) ++ List.replicate (3 - (lg_sl ([.ref (N0 + 0), .int x, .int w])).length) Slot.unset).toArray) [])
  generalize (lg_sl ([.ref (N0 + 0), .int x, .int w]) ++ List.replicate (3 - (lg_sl ([.ref (N0 + 0), .int x, .int w])).length) Slot.unset).toArray = ls at hl ⊢
  have hl : lv_has ls 3 [(0, .ref (N0 + 0)), (1, .int x), (2, .int w)] := hl
  refine lv_aload_n hx0 hb xr_0 rfl (lv_at hl 0 rfl) ?_
  refine lv_iload_n hx0 hb xr_1 rfl (lv_at hl 1 rfl) ?_
  obtain ⟨n1, r1, M1, hgo, e1, e2⟩ := c_isRule M f hC hn x
  subst e1
  subst e2
  have hM := z_met zprog_ok l zg_CG_isRule (Nat.le_of_ble_eq_true rfl) hgo N0 D ca
  rw [Nat.sub_self, Nat.sub_self] at hM
  have hfix : CallFix p m c zm_CG_rule.2.1 3 s _ zG "ColumnGrammar" := ⟨hx0, hb, hml, hown, hts⟩
  have hroom : (z_rm 0 0 0).frames + 1 ≤ (z_rm 12 1 6).frames ∧ 8 + (zm_CG_isRule.2.2.1 + 11) + (z_rm 0 0 0).locals ≤ (z_rm 12 1 6).locals := by decide
  have hrv := va_recv (ci := 11) (q := (z_C11, z_T11, 18)) hCx.1 hH rfl (z_ws_get (N0 := N0) (ca := ca) (hC.1 0 (by decide) (by decide) (by decide)))
  have hct : 2 * (F0 m 2 ls [.int x, .ref (N0 + 0)]).monitorRoom + (([] : List Value).map fun v => v.category).sum ≤ 8 := lv_room (by decide)
  refine z_call (va_runV (C := "ColumnGrammar") (b := N0 + 0) (As := [.int x]) (rest := []) hfix hM ⟨callB_of 1 hts (z_goodIn zg_CG_isRule) rfl rfl rfl (hts _ (z_g zg_CG_isRule.2.1 rfl)) (hts _ (z_g xq_w3 rfl)) zg_CG_isRule.2.2.1 hroom, hts _ (z_g xq_w4 rfl), hts _ (z_g xq_w5 rfl)⟩ ⟨z_blind, hrv, fun U hU hW => ⟨rfl, by rw [hU]; exact hH, Or.inl rfl, hCx.moved hW⟩⟩ rfl rfl hl.1 rfl hct xr_2 (by decide)) va_S.rf (fun H1 locs1 hH1 hS1 => ?_)
  show W p l e (z_rm 12 1 6) s m _ below meth c H1 locs1 0 0 _ (F0 m 5 ls [.int (nI (if 0 ≤ x.toInt ∧ x.toInt < f 16 0 then 1 else 0))])
  rw [if_neg hx]
  refine lv_if_ne (tgt := 16) hx0 hb xr_5 (by decide) (fun q => absurd rfl q) (fun _ => ?_)
  exact vx_throw0 (pc := 8) (own := "ColumnGrammar") (cls := "java/util/NoSuchElementException") (names := ["java/lang/RuntimeException", "java/lang/Exception"]) (ik := 142) (ic := 144) (A := z_A N0) hx0 hb hl0 hown (by decide +kernel) (by decide +kernel) (hts _ (z_g xq_w1 rfl)) (hts _ (z_g xq_w2 rfl)) (vx_hat (B := xqB) (fun w9 hw => hts w9 (z_g (xqL_in w9 hw) (List.mem_filter.mp hw).2)) xqL_bad (fun w9 hw => va_Nw.use (xqB_ot w9 hw) (hE.1 w9 hw))) xq_ot hE.2.1 hE.2.2 hS1 (hl.1.trans hml.symm) xr_8 xr_11 xr_12 xr_15 (fun z hz => absurd (htab z hz) id) (by decide) (by decide) (by decide) (by decide) B.notSynchronized (fun t _ h1 h2 => ⟨(), trivial, ⟨rfl, hH1.behind h2⟩, Nat.le_trans hS1.1 h1, fun q h3 h4 => by rw [h2 q (Nat.lt_of_lt_of_le h3 hS1.1)]; exact hS1.2.1 q h3 h4⟩) hS1.2.2 (by decide) (by decide)
