theorem z_band5 {a b d f g : Bool} (h : (a && b && d && f && g) = true) : a = true ∧ b = true ∧ d = true ∧ f = true ∧ g = true := by
  cases a <;> cases b <;> cases d <;> cases f <;> cases g <;> simp_all
theorem z_r_eq {ret : Option FieldType} {i : Instr} {st : List Value} {r : Option Value} (h : z_r ret i st = some r) :
    (i = .ireturn ∧ ∃ v : Int32, st = [.int v] ∧ r = some (.int v) ∧ (ret = some .int ∨ (ret = some .boolean ∧ (v = 0 ∨ v = 1)))) ∨ (i = .lreturn ∧ ∃ v : Int64, st = [.long v] ∧ r = some (.long v) ∧ ret = some .long) ∨ (i = .return_ ∧ st = [] ∧ r = none ∧ ret = none) := by
  unfold z_r at h
  split at h
  · cases h; exact Or.inl ⟨rfl, _, rfl, rfl, Or.inl rfl⟩
  · rename_i v
    by_cases q : v = 0 ∨ v = 1
    · rw [if_pos q] at h; cases h; exact Or.inl ⟨rfl, _, rfl, rfl, Or.inr ⟨rfl, q⟩⟩
    · rw [if_neg q] at h; cases h
  · cases h; exact Or.inr (Or.inl ⟨rfl, _, rfl, rfl, rfl⟩)
  · cases h; exact Or.inr (Or.inr ⟨rfl, rfl, rfl, rfl⟩)
  · cases h
theorem z_c_eq {i : Instr} {ax : List Nat} {st : List Value} {M : zM} {k : Nat} {as rest : List Value} (h : z_c i ax st M = some (k, as, rest)) :
    (∃ ix n ax', i = .invokestatic ix ∧ ax = 0 :: k :: n :: ax' ∧ n ≤ st.length ∧ z_cat rest ≤ 8 ∧ st = as.reverse ++ rest ∧ as.length = n) ∨
    (∃ ix n ax' b bs, i = .invokespecial ix ∧ ax = 0 :: k :: n :: ax' ∧ z_cat rest ≤ 8 ∧ as = .ref b :: bs ∧ st = bs.reverse ++ .ref b :: rest ∧ bs.length = n) ∨
    (∃ ix n ci ax' b bs fs, i = .invokevirtual ix ∧ ax = 0 :: k :: n :: ci :: ax' ∧ z_cat rest ≤ 8 ∧ as = .ref b :: bs ∧ st = bs.reverse ++ .ref b :: rest ∧ bs.length = n ∧ M[b]? = some (.inr (ci, fs))) := by
  unfold z_c at h
  split at h
  · rename_i ix y n ax'
    cases hb : (Nat.ble n st.length && Nat.ble (z_cat (st.drop n)) 8) with
    | false => rw [hb] at h; cases h
    | true =>
      rw [hb, cond_true] at h
      obtain ⟨q1, q2⟩ := z_band2 hb
      cases h
      have h1 := Nat.le_of_ble_eq_true q1
      refine Or.inl ⟨ix, n, ax', rfl, rfl, h1, Nat.le_of_ble_eq_true q2, ?_, ?_⟩
      · rw [List.reverse_reverse, List.take_append_drop]
      · rw [List.length_reverse, List.length_take]; omega
  · rename_i ix y n ax'
    cases hb : Nat.ble n st.length with
    | false => rw [hb] at h; cases h
    | true =>
      rw [hb, cond_true] at h
      have h1 := Nat.le_of_ble_eq_true hb
      split at h
      · rename_i b r hdr
        cases hb2 : Nat.ble (z_cat r) 8 with
        | false => rw [hb2] at h; cases h
        | true =>
          rw [hb2, cond_true] at h
          cases h
          refine Or.inr (Or.inl ⟨ix, n, ax', b, (st.take n).reverse, rfl, rfl, Nat.le_of_ble_eq_true hb2, rfl, ?_, ?_⟩)
          · rw [List.reverse_reverse, ← hdr, List.take_append_drop]
          · rw [List.length_reverse, List.length_take]; omega
      · cases h
  · rename_i ix y n ci ax'
    cases hb : Nat.ble n st.length with
    | false => rw [hb] at h; cases h
    | true =>
      rw [hb, cond_true] at h
      have h1 := Nat.le_of_ble_eq_true hb
      split at h
      · rename_i b r hdr
        split at h
        · rename_i cj fs hM
          cases hb2 : (Nat.beq cj ci && Nat.ble (z_cat r) 8) with
          | false => rw [hb2] at h; cases h
          | true =>
            rw [hb2, cond_true] at h
            obtain ⟨q1, q2⟩ := z_band2 hb2
            have e1 := Nat.eq_of_beq_eq_true q1
            subst e1
            cases h
            refine Or.inr (Or.inr ⟨ix, n, cj, ax', b, (st.take n).reverse, fs, rfl, rfl, Nat.le_of_ble_eq_true q2, rfl, ?_, ?_, hM⟩)
            · rw [List.reverse_reverse, ← hdr, List.take_append_drop]
            · rw [List.length_reverse, List.length_take]; omega
        · cases h
      · cases h
  · cases h
set_option maxHeartbeats 4000000 in
set_option maxRecDepth 100000 in
/-- THE SMALL MACHINE'S RUNS ARE THE MACHINE'S, from any place in a method -/
theorem z_sound {P : List zY} (hP : z_Ok P) (l : Launch) : ∀ (n d : Nat) (y : zY) (pc : Nat) (ls : zL) (st : List Value) (M : zM) (r : Option Value) (M1 : zM), z_good P y → z_go P n d y pc ls st M = some (r, M1) →
    ∀ {p : Program} {e : Env} {s : State} {m : MethodId} {args : Array Value} {below : List Frame} {meth : Method} {c : Code} {N0 : Nat} {D : va_G} {ca : Nat → ClassId} {H : Heap} {locs : List Loc} {rls : Array Slot} {cells slots mc ms m0 z0 : Nat},
    p.tables.exec = Jvm.exec → c.code = y.2.1 → c.maxLocals = y.2.2.1 → meth.sig.returnType = y.2.2.2.1 → meth.locks = false → meth.name = y.1.name → s.vm.findClass y.1.cls = some m.cls → (∀ w ∈ zG, w.before args s = true) → z_Cx D ca s →
    ls.length = y.2.2.1 → lv_has rls ls.length (z_as N0 ls) → z_H N0 D ca M H → va_S (z_A N0) s.heap H locs → (M1.length = M.length ∨ s.heap.size = N0 + m0) → cells + m0 = M.length → mc + m0 = M1.length → slots + z0 = z_sz M → ms + z0 = z_sz M1 →
    W p l e (z_rm d mc ms) s m args below meth c H locs cells slots (MQ below (z_Qc N0 D ca r M1) args s mc ms (z_A N0)) (F0 m pc rls (st.map (z_v N0))) := by
  intro n
  induction n with
  | zero => intro d y pc ls st M r M1 hy h; cases h
  | succ n ih =>
    intro d y pc ls st M r M1 hy h p e s m args below meth c N0 D ca H locs rls cells slots mc ms m0 z0 hx hb hml hret hlk hnm hown hts hC hlen hl hH hS hN hc hmc hs hms
    have hmono := z_mono P _ _ _ _ _ _ _ _ _ h
    rw [z_go] at h
    split at h
    · cases h
    · rename_i i nx ax cI z hat
      have hmem := z_at_mem hat
      have hck := List.all_eq_true.mp hy.2.2.2.2.2 _ hmem
      obtain ⟨k1, k2, k3, k4, k5⟩ := z_band5 hck
      have hd : decode y.2.1 pc = .ok (i, nx - pc) := of_decide_eq_true k1
      have hln : z_len i = 0 ∨ pc + z_len i = nx := by
        rcases Bool.or_eq_true _ _ |>.mp k2 with q | q
        · exact Or.inl (Nat.eq_of_beq_eq_true q)
        · exact Or.inr (Nat.eq_of_beq_eq_true q)
      split at h
      · split at h
        · rename_i pc' ls' st' hstep
          have hll := z_s_len hstep
          exact z_s_sound hx hb hown hts hd hln k3 hstep hl (fun rls' hl' => ih d y pc' ls' st' M r M1 hy h hx hb hml hret hlk hnm hown hts hC (hll.trans hlen) hl' hH hS hN hc hmc hs hms)
        · cases h
      · split at h
        · rename_i st' M' hstep
          have h1 := z_m_mono hstep
          have h2 := z_mono P _ _ _ _ _ _ _ _ _ h
          refine z_m_sound hx hb hown hnm hts hC (hml.trans (hlen.symm.trans hl.1.symm)) hd hln k4 hstep hH hS (by rcases hN with q | q; exact Or.inl (by omega); exact Or.inr ⟨by omega, by omega⟩) (Nat.le_refl _) (Nat.le_refl _) ?_ ?_ (fun H1 locs1 hH1 hS1 => ih d y nx ls st' M' r M1 hy h hx hb hml hret hlk hnm hown hts hC hlen hl hH1 hS1 (by rcases hN with q | q; exact Or.inl (by omega); exact Or.inr q) (by omega) hmc (by omega) hms)
          · show cells + (M'.length - M.length) ≤ mc
            omega
          · show slots + (z_sz M' - z_sz M) ≤ ms
            omega
        · cases h
      · split at h
        · rename_i r' hr
          cases h
          have e1 : cells = mc := by omega
          have e2 : slots = ms := by omega
          subst e1; subst e2
          rcases z_r_eq hr with ⟨hi, v, rfl, rfl, hrt⟩ | ⟨hi, v, rfl, rfl, hrt⟩ | ⟨hi, rfl, rfl, hrt⟩
          · subst hi
            have e3 : nx - pc = 1 := by
              rcases hln with q | q
              · cases q
              · have : pc + 1 = nx := q
                omega
            rw [e3] at hd
            rcases hrt with hrt | ⟨hrt, hv⟩
            · rw [hrt] at hret
              exact W.iret (v := v) hx hb hret (fun t ht hW => ⟨rfl, by rw [ht]; exact hH, hS.F ht⟩) hS.2.2 hd hlk
            · rw [hrt] at hret
              exact W.zret (v := v) hx hb hret (by rcases hv with rfl | rfl <;> decide) (fun t ht hW => ⟨rfl, by rw [ht]; exact hH, hS.F ht⟩) hS.2.2 hd hlk
          · subst hi
            have e3 : nx - pc = 1 := by
              rcases hln with q | q
              · cases q
              · have : pc + 1 = nx := q
                omega
            rw [e3] at hd
            rw [hrt] at hret
            exact W.lret (v := v) hx hb hret (fun t ht hW => ⟨rfl, by rw [ht]; exact hH, hS.F ht⟩) hS.2.2 hd hlk
          · subst hi
            have e3 : nx - pc = 1 := by
              rcases hln with q | q
              · cases q
              · have : pc + 1 = nx := q
                omega
            rw [e3] at hd
            rw [hrt] at hret
            exact W.vret hx hb hret (fun t ht hW => ⟨rfl, by rw [ht]; exact hH, hS.F ht⟩) hS.2.2 hd hlk
        · cases h
      · split at h
        · rename_i d' k as rest hcall
          split at h
          · rename_i y' hyk
            cases hble : Nat.ble (z_args as).length y'.2.2.1 with
            | false => rw [hble] at h; cases h
            | true =>
              rw [hble, cond_true] at h
              have hargs := Nat.le_of_ble_eq_true hble
              split at h
              · rename_i r' M' hgo
                have hy' := hP k y' hyk
                have mo1 := z_mono P _ _ _ _ _ _ _ _ _ hgo
                have mo2 := z_mono P _ _ _ _ _ _ _ _ _ h
                -- the callee's contract
                have hM : Met l y'.1 (z_wds y') (z_rm d' (M'.length - M.length) (z_sz M' - z_sz M)) (z_Pc N0 D ca as M M') (z_Qc N0 D ca r' M') (M'.length - M.length) (z_sz M' - z_sz M) (z_A N0) := by
                  refine Met.ofW (cc := y'.2.1) (maxL := y'.2.2.1) (ret := y'.2.2.2.1) hy'.2.2.2.1 rfl ?_
                  intro p e s m args below meth c s₁ B hml hv
                  obtain ⟨rfl, hH2, hz2, hC2⟩ := hv
                  have hts2 := atoms_spec (ws := z_wds y') B.pre
                  rw [lg_entry_eq]
                  exact ih d' y' 0 (z_ent y' as) [] M r' M' hy' hgo (m0 := M.length) (z0 := z_sz M) (cells := 0) (slots := 0) B.exec B.bytes hml B.returns B.notSynchronized ((name_of_methodNamed B.named B.method).1) (findClass_of_methodNamed B.named) (fun w hw => hts2 w (List.mem_cons_of_mem _ hw)) hC2 (z_ent_len hargs) (by rw [z_ent_len hargs]; exact z_entry hargs) hH2 va_S.rf hz2 (Nat.zero_add _) (by omega) (Nat.zero_add _) (by omega)
                have hsz : ∀ {g : JFrame} {Q : State → Prop}, ((M'.length = M.length ∨ H.size = N0 + M.length) → W p l e (z_rm (d' + 1) mc ms) s m args below meth c H locs cells slots Q g) → W p l e (z_rm (d' + 1) mc ms) s m args below meth c H locs cells slots Q g := by
                  intro g Q k
                  rcases hN with q | q
                  · exact k (Or.inl (by omega))
                  · exact z_size hH (by omega) (by omega) (fun hz => k (Or.inr hz))
                refine hsz (fun hz => ?_)
                have hG := z_goodIn hy'
                have hroom : (z_rm d' (M'.length - M.length) (z_sz M' - z_sz M)).frames + 1 ≤ (z_rm (d' + 1) mc ms).frames ∧ 8 + (y'.2.2.1 + 11) + (z_rm d' (M'.length - M.length) (z_sz M' - z_sz M)).locals ≤ (z_rm (d' + 1) mc ms).locals := by
                  have := hy'.2.2.2.2.1
                  refine ⟨Nat.le_refl _, ?_⟩
                  show 8 + (y'.2.2.1 + 11) + 64 * d' ≤ 64 * (d' + 1)
                  omega
                have hPre : ∀ U : State, U.heap = H → s.WarmedH U.vm → z_Pc N0 D ca as M M' (as.map (z_v N0)).toArray U := fun U hU hW => ⟨rfl, by rw [hU]; exact hH, by rw [hU]; exact hz, hC.moved hW⟩
                have hini : (Cond.initialized y'.1.cls).before args s = true := hts _ (z_g hy'.2.1 rfl)
                have hfit : cells + (M'.length - M.length) ≤ (z_rm (d' + 1) mc ms).cells ∧ slots + (z_sz M' - z_sz M) ≤ (z_rm (d' + 1) mc ms).slots := by
                  refine ⟨?_, ?_⟩
                  · show cells + (M'.length - M.length) ≤ mc
                    omega
                  · show slots + (z_sz M' - z_sz M) ≤ ms
                    omega
                have hlr : rls.size = y.2.2.1 := hl.1.trans hlen
                have hfix : CallFix p m c y.2.1 y.2.2.1 s args zG y.1.cls := ⟨hx, hb, hml, hown, hts⟩
                have done : nx = pc + 3 → ∀ (H1 : Heap) (locs1 : List Loc), z_H N0 D ca M' H1 → va_S (z_A N0) s.heap H1 locs1 → W p l e (z_rm (d' + 1) mc ms) s m args below meth c H1 locs1 (cells + (M'.length - M.length)) (slots + (z_sz M' - z_sz M)) (MQ below (z_Qc N0 D ca r M1) args s mc ms (z_A N0)) (F0 m (pc + 3) rls ((r'.map (z_v N0)).toList ++ rest.map (z_v N0))) := by
                  intro hnx H1 locs1 hH1 hS1
                  have h9 := ih (d' + 1) y nx ls (r'.toList ++ rest) M' r M1 hy h (e := e) (below := below) hx hb hml hret hlk hnm hown hts hC hlen hl hH1 hS1 (by rcases hN with q | q; exact Or.inl (by omega); exact Or.inr q) (cells := cells + (M'.length - M.length)) (slots := slots + (z_sz M' - z_sz M)) (by omega) hmc (by omega) hms
                  rw [hnx] at h9
                  have e9 : (r'.toList ++ rest).map (z_v N0) = (r'.map (z_v N0)).toList ++ rest.map (z_v N0) := by cases r' <;> rfl
                  rw [e9] at h9
                  exact h9
                have hcat : ∀ {rest : List Value}, z_cat rest ≤ 8 → 2 * (F0 m pc rls (st.map (z_v N0))).monitorRoom + ((rest.map (z_v N0)).map fun v => v.category).sum ≤ 8 := fun h => lv_room (by rw [z_cat_map]; exact h)
                rcases z_c_eq hcall with ⟨ix, n', ax', rfl, rfl, hn, hct, hst, hal⟩ | ⟨ix, n', ax', b, bs, rfl, rfl, hct, rfl, hst, hal⟩ | ⟨ix, n', ci, ax', b, bs, fs, rfl, rfl, hct, rfl, hst, hal, hMb⟩
                · -- static
                  have hnx : nx = pc + 3 := by
                    rcases hln with q | q
                    · cases q
                    · exact q.symm
                  have hd3 : decode y.2.1 pc = .ok (.invokestatic ix, 3) := by rw [hd, hnx, Nat.add_sub_cancel_left]
                  have hstk : st.map (z_v N0) = (as.map (z_v N0)).reverse ++ rest.map (z_v N0) := by rw [hst, List.map_append, List.map_reverse]
                  match ax', k5 with
                  | q0 :: nest :: w :: w2 :: ax2, k5 =>
                    simp only [z_ckc] at k5
                    rw [hyk] at k5
                    obtain ⟨c1, c2, c3⟩ := z_band3 k5
                    have hsta : (Cond.static y'.1).before args s = true := hts _ (z_gi _ (of_decide_eq_true c3) rfl)
                    have hnn : n' = y'.2.2.2.2.1 := of_decide_eq_true c1
                    cases hne : Nat.beq nest 0 with
                    | true =>
                      rw [hne, cond_true] at c2
                      have hlink : (Cond.methodLink y.1.cls ix y'.1).before args s = true := hts _ (z_gi _ (of_decide_eq_true c2) rfl)
                      exact z_call (va_runS hfix hM ⟨callB_of y'.2.2.2.2.1 hts hG rfl rfl rfl hini hlink hy'.2.2.1 hroom, hsta⟩ ⟨z_blind, hPre⟩ rfl (by rw [List.length_map, hal, hnn]) hlr hstk (hcat hct) hd3 hfit) hS (done hnx)
                    | false =>
                      rw [hne, cond_false] at c2
                      have hlink : va_Nw (.methodLinkNest y.1.cls ix y'.1 "ColumnGrammar") s := hC.2.1 _ (List.mem_of_getElem? (of_decide_eq_true c2))
                      exact z_call (va_runSN hfix hM ⟨va_cnB y'.2.2.2.2.1 hts hG rfl rfl rfl hlink hini hy'.2.2.1 hroom, hsta, trivial⟩ ⟨z_blind, hPre⟩ rfl (by rw [List.length_map, hal, hnn]) hlr hstk (hcat hct) hd3 hfit) hS (done hnx)
                  | [], k5 => cases k5
                  | [_], k5 => cases k5
                  | [_, _], k5 => cases k5
                  | [_, _, _], k5 => cases k5
                · -- a constructor
                  have hnx : nx = pc + 3 := by
                    rcases hln with q | q
                    · cases q
                    · exact q.symm
                  have hd3 : decode y.2.1 pc = .ok (.invokespecial ix, 3) := by rw [hd, hnx, Nat.add_sub_cancel_left]
                  have hstk : st.map (z_v N0) = (bs.map (z_v N0)).reverse ++ .ref (N0 + b) :: rest.map (z_v N0) := by rw [hst, List.map_append, List.map_reverse]; rfl
                  match ax', k5 with
                  | q0 :: nest :: w :: w2 :: ax2, k5 =>
                    simp only [z_ckc] at k5
                    rw [hyk] at k5
                    obtain ⟨c1, c2, c3, c4, c5⟩ := z_band5 k5
                    have hsta : (Cond.instanceMethod y'.1).before args s = true := hts _ (z_gi _ (of_decide_eq_true c3) rfl)
                    have hnn : n' = y'.2.2.2.2.1 := of_decide_eq_true c1
                    have hrn : y'.2.2.2.1 = none := of_decide_eq_true c5
                    cases hne : Nat.beq nest 0 with
                    | true =>
                      rw [hne, cond_true] at c2
                      have hlink : (Cond.methodLink y.1.cls ix y'.1).before args s = true := hts _ (z_gi _ (of_decide_eq_true c2) rfl)
                      exact z_call (va_runI (As := bs.map (z_v N0)) hfix hM ⟨callB_of y'.2.2.2.2.1 hts hG (by unfold z_wds; rw [hrn]) rfl rfl hini hlink hy'.2.2.1 hroom, of_decide_eq_true c4, hsta⟩ ⟨z_blind, hPre⟩ rfl (by rw [List.length_map, hal, hnn]) hlr hstk (hcat hct) hd3 hfit) hS (done hnx)
                    | false =>
                      rw [hne, cond_false] at c2
                      have hlink : va_Nw (.methodLinkNest y.1.cls ix y'.1 "ColumnGrammar") s := hC.2.1 _ (List.mem_of_getElem? (of_decide_eq_true c2))
                      exact z_call (va_runIN (As := bs.map (z_v N0)) hfix hM ⟨va_cnB y'.2.2.2.2.1 hts hG (by unfold z_wds; rw [hrn]) rfl rfl hlink hini hy'.2.2.1 hroom, of_decide_eq_true c4, hsta⟩ ⟨z_blind, hPre⟩ rfl (by rw [List.length_map, hal, hnn]) hlr hstk (hcat hct) hd3 hfit) hS (done hnx)
                  | [], k5 => cases k5
                  | [_], k5 => cases k5
                  | [_, _], k5 => cases k5
                  | [_, _, _], k5 => cases k5
                · -- a method of an object
                  have hnx : nx = pc + 3 := by
                    rcases hln with q | q
                    · cases q
                    · exact q.symm
                  have hd3 : decode y.2.1 pc = .ok (.invokevirtual ix, 3) := by rw [hd, hnx, Nat.add_sub_cancel_left]
                  have hstk : st.map (z_v N0) = (bs.map (z_v N0)).reverse ++ .ref (N0 + b) :: rest.map (z_v N0) := by rw [hst, List.map_append, List.map_reverse]; rfl
                  match ax', k5 with
                  | q0 :: w :: w2 :: w3 :: ax2, k5 =>
                    simp only [z_ckc] at k5
                    rw [hyk] at k5
                    split at k5
                    · rename_i y9 C T N e9 hcl
                      cases e9
                      obtain ⟨c1, c2, c3, c4, c5⟩ := z_band5 k5
                      have hcc : y'.1.cls = C := of_decide_eq_true c1
                      have hnn : n' = y'.2.2.2.2.1 := of_decide_eq_true c2
                      have hlink : (Cond.methodLink y.1.cls ix y'.1).before args s = true := hts _ (z_gi _ (of_decide_eq_true c3) rfl)
                      have hins : (Cond.instanceMethod y'.1).before args s = true := hts _ (z_gi _ (of_decide_eq_true c4) rfl)
                      have hsel : (Cond.selects C y'.1 y'.1).before args s = true := hts _ (z_gi _ (of_decide_eq_true c5) rfl)
                      have hrv := va_recv hC.1 hH hcl (z_ws_get (N0 := N0) (ca := ca) hMb)
                      exact z_call (va_runV (C := C) (As := bs.map (z_v N0)) hfix hM ⟨callB_of y'.2.2.2.2.1 hts hG rfl rfl rfl hini hlink hy'.2.2.1 hroom, hins, hsel⟩ ⟨z_blind, hrv, hPre⟩ rfl (by rw [List.length_map, hal, hnn]) hlr hstk (hcat hct) hd3 hfit) hS (done hnx)
                    · cases k5
                  | [], k5 => cases k5
                  | [_], k5 => cases k5
                  | [_, _], k5 => cases k5
                  | [_, _, _], k5 => cases k5
              · cases h
          · cases h
        · cases h
/-- a run of the small machine from a method's entry is a contract -/
theorem z_met {P : List zY} (hP : z_Ok P) (l : Launch) {n d : Nat} {y : zY} {as : List Value} {M M1 : zM} {r : Option Value} (hy : z_good P y) (hargs : (z_args as).length ≤ y.2.2.1) (hgo : z_go P n d y 0 (z_ent y as) [] M = some (r, M1)) (N0 : Nat) (D : va_G) (ca : Nat → ClassId) :
    Met l y.1 (z_wds y) (z_rm d (M1.length - M.length) (z_sz M1 - z_sz M)) (z_Pc N0 D ca as M M1) (z_Qc N0 D ca r M1) (M1.length - M.length) (z_sz M1 - z_sz M) (z_A N0) := by
  have mo1 := z_mono P _ _ _ _ _ _ _ _ _ hgo
  refine Met.ofW (cc := y.2.1) (maxL := y.2.2.1) (ret := y.2.2.2.1) hy.2.2.2.1 rfl ?_
  intro p e s m args below meth c s₁ B hml hv
  obtain ⟨rfl, hH2, hz2, hC2⟩ := hv
  have hts2 := atoms_spec (ws := z_wds y) B.pre
  rw [lg_entry_eq]
  exact z_sound hP l n d y 0 (z_ent y as) [] M r M1 hy hgo (m0 := M.length) (z0 := z_sz M) (cells := 0) (slots := 0) B.exec B.bytes hml B.returns B.notSynchronized ((name_of_methodNamed B.named B.method).1) (findClass_of_methodNamed B.named) (fun w hw => hts2 w (List.mem_cons_of_mem _ hw)) hC2 (z_ent_len hargs) (by rw [z_ent_len hargs]; exact z_entry hargs) hH2 va_S.rf hz2 (Nat.zero_add _) (by omega) (Nat.zero_add _) (by omega)
