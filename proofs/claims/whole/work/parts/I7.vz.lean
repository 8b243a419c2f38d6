/-! THE LAW: its own rule, that catches -/
theorem xl_0 : decode method_3_code 0 = .ok (.aload_n 3, 1) := by decide +kernel
theorem xl_1 : decode method_3_code 1 = .ok (.iconst 0, 1) := by decide +kernel
theorem xl_2 : decode method_3_code 2 = .ok (.aload_n 0, 1) := by decide +kernel
theorem xl_3 : decode method_3_code 3 = .ok (.iload_n 1, 1) := by decide +kernel
theorem xl_4 : decode method_3_code 4 = .ok (.iload_n 2, 1) := by decide +kernel
theorem xl_5 : decode method_3_code 5 = .ok (.invokevirtual 7, 3) := by decide +kernel
theorem xl_8 : decode method_3_code 8 = .ok (.i2l, 1) := by decide +kernel
theorem xl_9 : decode method_3_code 9 = .ok (.lastore, 1) := by decide +kernel
theorem xl_10 : decode method_3_code 10 = .ok (.goto 7, 3) := by decide +kernel
theorem xl_13 : decode method_3_code 13 = .ok (.astore 4, 2) := by decide +kernel
theorem xl_15 : decode method_3_code 15 = .ok (.iconst 1, 1) := by decide +kernel
theorem xl_16 : decode method_3_code 16 = .ok (.ireturn, 1) := by decide +kernel
theorem xl_17 : decode method_3_code 17 = .ok (.iconst 0, 1) := by decide +kernel
theorem xl_18 : decode method_3_code 18 = .ok (.ireturn, 1) := by decide +kernel
theorem xq_las {M : zM} {gx : Nat → Int64} {v : Int64} (hg : M[177]? = some (.inl (1, 1, .inr (.inl gx)))) : z_m .lastore [] 0 [.long v, .int 0, .ref 177] M = some ([], M.set 177 (.inl (1, 1, .inr (.inl (vp_updL gx 0 v))))) := by
  show z_las [.long v, .int 0, .ref 177] M = _
  unfold z_las
  simp only [hg]
  rfl
theorem xq_plain : plainName xqY.cls = true := by decide +kernel
set_option maxHeartbeats 4000000 in
set_option maxRecDepth 100000 in
theorem xq_lawNo (l : Launch) (hl0 : l.stackTraces = false) (N0 : Nat) (D : va_G) (ca : Nat → ClassId) {M : zM} {f : Nat → Nat → Nat} (hC : CC M f) (hn : f 16 0 ≤ 8) {x w : Int32} (hx : ¬ (0 ≤ x.toInt ∧ x.toInt < f 16 0)) :
    Met l xqY (xqC :: zG) (z_rm 14 1 6) (xqP N0 D ca [.ref 0, .int x, .int w, .ref 177] M) (z_Qc N0 D ca (some (.int 1)) M) 1 6 (z_A N0) := by
  refine va_MetW (cc := method_3_code) (maxL := 5) (ret := some .int) (hh := [(0, 10, 13, 13)]) xq_plain rfl ?_
  intro p e s m args below meth c s₁ B hml hv
  obtain ⟨rfl, hH, hCx, hE⟩ := hv
  have hts2 := atoms_spec (ws := xqC :: zG) B.pre
  have hts : ∀ w9 ∈ zG, w9.before _ s = true := fun w9 hw => hts2 w9 (List.mem_cons_of_mem _ hw)
  have hb : c.code = method_3_code := B.bytes
  have hx0 := B.exec
  have hown : s.vm.findClass "ColumnGrammarLaw" = some m.cls := findClass_of_methodNamed B.named
  have hl := lv_entry ([.ref (N0 + 0), .int x, .int w, .ref (N0 + 177)]) (n := 5) (Nat.le_of_ble_eq_true rfl)
  rw [lg_entry_eq]
  show W p l e (z_rm 14 1 6) s m _ below meth c s.heap [] 0 0 _ (F0 m 0 ((lg_sl ([.ref (N0 + 0), .int x, .int w, .ref (N0 + 177)]) ++ List.replicate (5 - (lg_sl ([.ref (N0 + 0), .int x, .int w, .ref (N0 + 177)])).length) Slot.unset).toArray) [])
  generalize (lg_sl ([.ref (N0 + 0), .int x, .int w, .ref (N0 + 177)]) ++ List.replicate (5 - (lg_sl ([.ref (N0 + 0), .int x, .int w, .ref (N0 + 177)])).length) Slot.unset).toArray = ls at hl ⊢
  have hl : lv_has ls 5 [(0, .ref (N0 + 0)), (1, .int x), (2, .int w), (3, .ref (N0 + 177))] := hl
  refine lv_aload_n hx0 hb xl_0 rfl (lv_at hl 3 rfl) ?_
  refine lv_iconst (v := 0) hx0 hb xl_1 (by decide) ?_
  refine lv_aload_n hx0 hb xl_2 rfl (lv_at hl 0 rfl) ?_
  refine lv_iload_n hx0 hb xl_3 rfl (lv_at hl 1 rfl) ?_
  refine lv_iload_n hx0 hb xl_4 rfl (lv_at hl 2 rfl) ?_
  have hfix : CallFix p m c method_3_code 5 s _ zG "ColumnGrammarLaw" := ⟨hx0, hb, hml, hown, hts⟩
  have hrv := va_recv (ci := 11) (q := (z_C11, z_T11, 18)) hCx.1 hH rfl (z_ws_get (N0 := N0) (ca := ca) (hC.1 0 (by decide) (by decide) (by decide)))
  have hct : 2 * (F0 m 5 ls [.int w, .int x, .ref (N0 + 0), .int 0, .ref (N0 + 177)]).monitorRoom + (([.int 0, .ref (N0 + 177)] : List Value).map fun v => v.category).sum ≤ 8 := lv_room (by show (1 + (1 + 0)) ≤ 8; decide)
  have htab := vx_table (x := xqY) B (hts2 _ List.mem_cons_self)
  have hroom : (z_rm 12 1 6).frames + 1 ≤ (z_rm 14 1 6).frames ∧ 8 + (zm_CG_rule.2.2.1 + 11) + (z_rm 12 1 6).locals ≤ (z_rm 14 1 6).locals := by decide
  refine vx_calli (A0 := z_A N0) (H0 := s.heap) (vx_runV (C := "ColumnGrammar") (b := N0 + 0) (As := [.int x, .int w]) (rest := [.int 0, .ref (N0 + 177)]) hfix (xq_met l hl0 N0 D ca hC hn hx) ⟨callB_of 2 hts (z_goodIn zg_CG_rule) rfl rfl rfl (hts _ (z_g zg_CG_rule.2.1 rfl)) (hts _ (z_g xq_v5 rfl)) zg_CG_rule.2.2.1 hroom, hts _ (z_g xq_v6 rfl), hts _ (z_g xq_v7 rfl)⟩ ⟨xq_blind, hrv, fun U hU hW => ⟨rfl, by rw [hU]; exact hH, hCx.moved hW, by rw [hU]; exact hE.moved hW⟩⟩ rfl rfl hl.1 rfl hct xl_5 (by decide)) va_S.rf (fun _ _ h => h) (fun _ h => h) (fun _ _ h => h) ?_ (fun r u t H1 locs1 _ _ hp => hp.elim)
  intro E ce q9 u t H1 locs1 ht hal hp hbx h1 h2 hS1 hce hcv hcl
  obtain ⟨rfl, hH1⟩ := hbx
  rw [ht] at hH1
  refine vx_catch (own := "ColumnGrammarLaw") (name := "java/util/NoSuchElementException") (E := "java/util/NoSuchElementException") hown [] ⟨0, 10, 13, 13⟩ [] htab (fun z hz => nomatch hz) (by decide) (by decide) (hts _ (z_g xq_v4 rfl)) (va_Nw.use rfl (hE.1 _ (by simp [xqB]))) hce hcv hcl ?_
  show W p l e (z_rm 14 1 6) s m _ below meth c H1 locs1 1 6 _ (F0 m 13 ls [.ref q9])
  refine lv_astore (lv' := [(4, .ref q9), (0, .ref (N0 + 0)), (1, .int x), (2, .int w), (3, .ref (N0 + 177))]) hx0 hb xl_13 hl (by decide) rfl (fun ls2 hl2 => ?_)
  refine lv_iconst (v := 1) hx0 hb xl_15 (by decide) ?_
  exact W.iret (v := 1) hx0 hb B.returns (fun t9 ht9 hW => ⟨rfl, by rw [ht9]; exact hH1, hS1.F ht9⟩) hS1.2.2 xl_16 B.notSynchronized
set_option maxHeartbeats 4000000 in
set_option maxRecDepth 100000 in
theorem xq_lawOk (l : Launch) (N0 : Nat) (D : va_G) (ca : Nat → ClassId) {M : zM} {f : Nat → Nat → Nat} (hC : CC M f) {gx : Nat → Int64} (hg : M[177]? = some (.inl (1, 1, .inr (.inl gx)))) {x w k : Int32} (hz : Zm 1 zm_CG_rule [.ref 0, .int x, .int w] M (fun r9 M1 => r9 = some (.int k) ∧ M1 = M)) :
    Met l xqY (xqC :: zG) (z_rm 14 0 0) (z_Pc N0 D ca [.ref 0, .int x, .int w, .ref 177] M M) (z_Qc N0 D ca (some (.int 0)) (M.set 177 (.inl (1, 1, .inr (.inl (vp_updL gx 0 k.toInt64)))))) 0 0 (z_A N0) := by
  refine va_MetW (cc := method_3_code) (maxL := 5) (ret := some .int) (hh := [(0, 10, 13, 13)]) xq_plain rfl ?_
  intro p e s m args below meth c s₁ B hml hv
  obtain ⟨rfl, hH, -, hCx⟩ := hv
  have hts2 := atoms_spec (ws := xqC :: zG) B.pre
  have hts : ∀ w9 ∈ zG, w9.before _ s = true := fun w9 hw => hts2 w9 (List.mem_cons_of_mem _ hw)
  have hb : c.code = method_3_code := B.bytes
  have hx0 := B.exec
  have hown : s.vm.findClass "ColumnGrammarLaw" = some m.cls := findClass_of_methodNamed B.named
  have hl := lv_entry ([.ref (N0 + 0), .int x, .int w, .ref (N0 + 177)]) (n := 5) (Nat.le_of_ble_eq_true rfl)
  rw [lg_entry_eq]
  show W p l e (z_rm 14 0 0) s m _ below meth c s.heap [] 0 0 _ (F0 m 0 ((lg_sl ([.ref (N0 + 0), .int x, .int w, .ref (N0 + 177)]) ++ List.replicate (5 - (lg_sl ([.ref (N0 + 0), .int x, .int w, .ref (N0 + 177)])).length) Slot.unset).toArray) [])
  generalize (lg_sl ([.ref (N0 + 0), .int x, .int w, .ref (N0 + 177)]) ++ List.replicate (5 - (lg_sl ([.ref (N0 + 0), .int x, .int w, .ref (N0 + 177)])).length) Slot.unset).toArray = ls at hl ⊢
  have hl : lv_has ls 5 [(0, .ref (N0 + 0)), (1, .int x), (2, .int w), (3, .ref (N0 + 177))] := hl
  refine lv_aload_n hx0 hb xl_0 rfl (lv_at hl 3 rfl) ?_
  refine lv_iconst (v := 0) hx0 hb xl_1 (by decide) ?_
  refine lv_aload_n hx0 hb xl_2 rfl (lv_at hl 0 rfl) ?_
  refine lv_iload_n hx0 hb xl_3 rfl (lv_at hl 1 rfl) ?_
  refine lv_iload_n hx0 hb xl_4 rfl (lv_at hl 2 rfl) ?_
  have hfix : CallFix p m c method_3_code 5 s _ zG "ColumnGrammarLaw" := ⟨hx0, hb, hml, hown, hts⟩
  have hrv := va_recv (ci := 11) (q := (z_C11, z_T11, 18)) hCx.1 hH rfl (z_ws_get (N0 := N0) (ca := ca) (hC.1 0 (by decide) (by decide) (by decide)))
  have hct : 2 * (F0 m 5 ls [.int w, .int x, .ref (N0 + 0), .int 0, .ref (N0 + 177)]).monitorRoom + (([.int 0, .ref (N0 + 177)] : List Value).map fun v => v.category).sum ≤ 8 := lv_room (by show (1 + (1 + 0)) ≤ 8; decide)
  obtain ⟨n1, r1, M1, hgo, e1, e2⟩ := hz
  subst e1
  subst e2
  have hM := z_met zprog_ok l zg_CG_rule (Nat.le_of_ble_eq_true rfl) hgo N0 D ca
  rw [Nat.sub_self, Nat.sub_self] at hM
  have hroom : (z_rm 1 0 0).frames + 1 ≤ (z_rm 14 0 0).frames ∧ 8 + (zm_CG_rule.2.2.1 + 11) + (z_rm 1 0 0).locals ≤ (z_rm 14 0 0).locals := by decide
  refine z_call (va_runV (C := "ColumnGrammar") (b := N0 + 0) (As := [.int x, .int w]) (rest := [.int 0, .ref (N0 + 177)]) hfix hM ⟨callB_of 2 hts (z_goodIn zg_CG_rule) rfl rfl rfl (hts _ (z_g zg_CG_rule.2.1 rfl)) (hts _ (z_g xq_v5 rfl)) zg_CG_rule.2.2.1 hroom, hts _ (z_g xq_v6 rfl), hts _ (z_g xq_v7 rfl)⟩ ⟨z_blind, hrv, fun U hU hW => ⟨rfl, by rw [hU]; exact hH, Or.inl rfl, hCx.moved hW⟩⟩ rfl rfl hl.1 rfl hct xl_5 (by decide)) va_S.rf (fun H1 locs1 hH1 hS1 => ?_)
  show W p l e (z_rm 14 0 0) s m _ below meth c H1 locs1 0 0 _ (F0 m 8 ls [.int k, .int 0, .ref (N0 + 177)])
  refine lv_i2l hx0 hb xl_8 rfl ?_
  have hlen : (M1.set 177 (.inl (1, 1, .inr (.inl (vp_updL gx 0 k.toInt64))))).length = M1.length := List.length_set
  have hsz : z_sz (M1.set 177 (.inl (1, 1, .inr (.inl (vp_updL gx 0 k.toInt64))))) = z_sz M1 := z_sz_set hg rfl
  refine z_m_sound (own := "ColumnGrammarLaw") (nm := meth.name) (N0 := N0) (pc := 9) (nx := 10) (d := 0) (i := .lastore) (ax := []) (st := [.long k.toInt64, .int 0, .ref 177]) (st' := []) (M := M1) (M' := M1.set 177 (.inl (1, 1, .inr (.inl (vp_updL gx 0 k.toInt64))))) hx0 hb hown rfl hts hCx (hml.trans hl.1.symm) xl_9 (Or.inr rfl) rfl (xq_las hg) hH1 hS1 (Or.inl hlen) (Nat.zero_le _) (Nat.zero_le _) (by rw [hlen, Nat.sub_self]; decide) (by rw [hsz, Nat.sub_self]; decide) (fun H2 locs2 hH2 hS2 => ?_)
  rw [hlen, hsz, Nat.sub_self, Nat.sub_self]
  show W p l e (z_rm 14 0 0) s m _ below meth c H2 locs2 0 0 _ (F0 m 10 ls [])
  refine lv_goto (tgt := 17) hx0 hb xl_10 (by decide) ?_
  refine lv_iconst (v := 0) hx0 hb xl_17 (by decide) ?_
  exact W.iret (v := 0) hx0 hb B.returns (fun t9 ht9 hW => ⟨rfl, by rw [ht9]; exact hH2, hS2.F ht9⟩) hS2.2.2 xl_18 B.notSynchronized
