section ZS2
variable {p : Program} {l : Launch} {e : Env} {R : Room} {s : State} {m : MethodId} {args : Array Value} {below : List Frame} {meth : Method} {c : Code} {H : Heap} {locs : List Loc} {cells slots : Nat} {Q : State → Prop}
theorem z_tsw_in {pc : Nat} {ts : List Nat} {offs : Array Int} {x : Int32} (hn : (0 : Int) ≤ x.toInt) (hh : x.toInt < (ts.length : Int)) (ho : offs.toList.map (fun o => (pc : Int) + o) = ts.map (fun (t : Nat) => (t : Int))) (d : Nat) : ∃ off : Int, offs[(x.toInt - 0).toNat]? = some off ∧ (pc : Int) + off = ((ts.getD x.toInt.toNat d : Nat) : Int) := by
  have hlt : x.toInt.toNat < ts.length := by omega
  have hl : offs.toList.length = ts.length := by
    have := congrArg List.length ho
    simpa using this
  have h2 := congrArg (fun (l : List Int) => l[x.toInt.toNat]?) ho
  simp only [List.getElem?_map] at h2
  have ht : ts[x.toInt.toNat]? = some (ts[x.toInt.toNat]'hlt) := List.getElem?_eq_getElem hlt
  rw [ht] at h2
  cases hof : offs.toList[x.toInt.toNat]? with
  | none => rw [hof] at h2; cases h2
  | some off =>
    rw [hof] at h2
    refine ⟨off, ?_, ?_⟩
    · rw [Int.sub_zero, ← Array.getElem?_toList]
      exact hof
    · rw [List.getD_eq_getElem?_getD, ht]
      exact Option.some.inj h2
set_option maxHeartbeats 4000000 in
set_option maxRecDepth 100000 in
theorem z_s_sound {cc : ByteArray} {own : String} (hx : p.tables.exec = Jvm.exec) (hb : c.code = cc) (hown : s.vm.findClass own = some m.cls) (hts : ∀ w ∈ zG, w.before args s = true)
    {N0 pc nx pc' : Nat} {i : Instr} {ax : List Nat} {cI : Int32} {z : Int64} {ls ls' : zL} {st st' : List Value} {rls : Array Slot}
    (hd : decode cc pc = .ok (i, nx - pc)) (hln : z_len i = 0 ∨ pc + z_len i = nx) (hk : z_cks own pc i ax cI z = true) (hs : z_s i nx ax cI z ls st = some (pc', ls', st'))
    (hl : lv_has rls ls.length (z_as N0 ls))
    (kk : ∀ rls' : Array Slot, lv_has rls' ls'.length (z_as N0 ls') → W p l e R s m args below meth c H locs cells slots Q (F0 m pc' rls' (st'.map (z_v N0)))) :
    W p l e R s m args below meth c H locs cells slots Q (F0 m pc rls (st.map (z_v N0))) := by
  have one : ∀ {n : Nat}, z_len i = n → 0 < n → nx = pc + n ∧ decode cc pc = .ok (i, n) := fun {n} h1 h2 => by
    rcases hln with h | h
    · omega
    · refine ⟨by omega, ?_⟩
      rw [hd]
      have : nx - pc = n := by omega
      rw [this]
  cases i with
  | iconst n =>
    obtain ⟨e1, e2⟩ := one (n := 1) rfl (by decide)
    cases hs; subst e1
    exact lv_iconst hx hb e2 (of_decide_eq_true hk) (kk rls hl)
  | bipush n =>
    obtain ⟨e1, e2⟩ := one (n := 2) rfl (by decide)
    cases hs; subst e1
    exact lv_bipush hx hb e2 (of_decide_eq_true hk) (kk rls hl)
  | sipush n =>
    obtain ⟨e1, e2⟩ := one (n := 3) rfl (by decide)
    cases hs; subst e1
    exact lv_sipush hx hb e2 (of_decide_eq_true hk) (kk rls hl)
  | ldc n =>
    obtain ⟨e1, e2⟩ := one (n := 2) rfl (by decide)
    cases hs; subst e1
    exact lv_ldc hx hb hown (hts _ (z_gi _ (of_decide_eq_true hk) rfl)) e2 (kk rls hl)
  | ldc_w n =>
    obtain ⟨e1, e2⟩ := one (n := 3) rfl (by decide)
    cases hs; subst e1
    exact lv_ldcw hx hb hown (hts _ (z_gi _ (of_decide_eq_true hk) rfl)) e2 (kk rls hl)
  | lconst n =>
    obtain ⟨e1, e2⟩ := one (n := 1) rfl (by decide)
    cases hs; subst e1
    exact lv_lconst hx hb e2 (of_decide_eq_true hk) (kk rls hl)
  | ldc2_w n =>
    obtain ⟨e1, e2⟩ := one (n := 3) rfl (by decide)
    cases hs; subst e1
    exact lv_ldc2 hx hb hown (hts _ (z_gi _ (of_decide_eq_true hk) rfl)) e2 (kk rls hl)
  | iload_n k =>
    obtain ⟨e1, e2⟩ := one (n := 1) rfl (by decide)
    obtain ⟨x, h1, h2⟩ := z_iload_eq hs
    cases h2; subst e1
    exact lv_iload_n hx hb e2 rfl (z_as_at hl h1) (kk rls hl)
  | iload k =>
    obtain ⟨e1, e2⟩ := one (n := 2) rfl (by decide)
    obtain ⟨x, h1, h2⟩ := z_iload_eq hs
    cases h2; subst e1
    exact lv_iload hx hb e2 (z_as_at hl h1) (kk rls hl)
  | lload_n k =>
    obtain ⟨e1, e2⟩ := one (n := 1) rfl (by decide)
    obtain ⟨x, h1, h2⟩ := z_lload_eq hs
    cases h2; subst e1
    exact lv_lload_n hx hb e2 rfl (z_as_at hl h1) (kk rls hl)
  | lload k =>
    obtain ⟨e1, e2⟩ := one (n := 2) rfl (by decide)
    obtain ⟨x, h1, h2⟩ := z_lload_eq hs
    cases h2; subst e1
    exact lv_lload hx hb e2 (z_as_at hl h1) (kk rls hl)
  | aload_n k =>
    obtain ⟨e1, e2⟩ := one (n := 1) rfl (by decide)
    obtain ⟨x, h1, h2⟩ := z_aload_eq hs
    cases h2; subst e1
    exact lv_aload_n hx hb e2 rfl (z_as_at hl h1) (kk rls hl)
  | aload k =>
    obtain ⟨e1, e2⟩ := one (n := 2) rfl (by decide)
    obtain ⟨x, h1, h2⟩ := z_aload_eq hs
    cases h2; subst e1
    exact lv_aload hx hb e2 (z_as_at hl h1) (kk rls hl)
  | istore_n k =>
    obtain ⟨e1, e2⟩ := one (n := 1) rfl (by decide)
    obtain ⟨x, r, h1, h3, h2⟩ := z_istore_eq hs
    cases h2; subst h1; subst e1
    exact lv_istore_n hx hb e2 rfl hl h3 rfl (fun rls' h => kk rls' (by rw [z_s1_len]; exact z_st1 (v := .int x) h))
  | istore k =>
    obtain ⟨e1, e2⟩ := one (n := 2) rfl (by decide)
    obtain ⟨x, r, h1, h3, h2⟩ := z_istore_eq hs
    cases h2; subst h1; subst e1
    exact lv_istore hx hb e2 hl h3 rfl (fun rls' h => kk rls' (by rw [z_s1_len]; exact z_st1 (v := .int x) h))
  | lstore_n k =>
    obtain ⟨e1, e2⟩ := one (n := 1) rfl (by decide)
    obtain ⟨x, r, h1, h3, h2⟩ := z_lstore_eq hs
    cases h2; subst h1; subst e1
    exact lv_lstore_n hx hb e2 rfl hl h3 rfl (fun rls' h => kk rls' (by rw [z_s2_len]; exact z_st2 (v := .long x) h))
  | lstore k =>
    obtain ⟨e1, e2⟩ := one (n := 2) rfl (by decide)
    obtain ⟨x, r, h1, h3, h2⟩ := z_lstore_eq hs
    cases h2; subst h1; subst e1
    exact lv_lstore hx hb e2 hl h3 rfl (fun rls' h => kk rls' (by rw [z_s2_len]; exact z_st2 (v := .long x) h))
  | astore_n k =>
    obtain ⟨e1, e2⟩ := one (n := 1) rfl (by decide)
    obtain ⟨x, r, h1, h3, h2⟩ := z_astore_eq hs
    cases h2; subst h1; subst e1
    exact lv_astore_n hx hb e2 rfl hl h3 rfl (fun rls' h => kk rls' (by rw [z_s1_len]; exact z_st1 (v := .ref x) h))
  | astore k =>
    obtain ⟨e1, e2⟩ := one (n := 2) rfl (by decide)
    obtain ⟨x, r, h1, h3, h2⟩ := z_astore_eq hs
    cases h2; subst h1; subst e1
    exact lv_astore hx hb e2 hl h3 rfl (fun rls' h => kk rls' (by rw [z_s1_len]; exact z_st1 (v := .ref x) h))
  | iinc k n =>
    obtain ⟨e1, e2⟩ := one (n := 3) rfl (by decide)
    obtain ⟨x, h1, h3, h2⟩ := z_iinc_eq hs
    cases h2; subst e1
    obtain ⟨kx, hkx⟩ := z_at_ix (N0 := N0) h1
    exact lv_iinc hx hb e2 hl hkx (by rw [of_decide_eq_true hk]) h3 rfl (fun rls' h => kk rls' (by rw [z_s1_len]; exact z_st1 (v := .int (x + cI)) h))
  | iadd =>
    obtain ⟨e1, e2⟩ := one (n := 1) rfl (by decide)
    obtain ⟨x, y, r, h1, h2⟩ := z_ii_eq hs
    cases h2; subst h1; subst e1
    exact lv_iadd hx hb e2 (kk rls hl)
  | isub =>
    obtain ⟨e1, e2⟩ := one (n := 1) rfl (by decide)
    obtain ⟨x, y, r, h1, h2⟩ := z_ii_eq hs
    cases h2; subst h1; subst e1
    exact lv_isub hx hb e2 (kk rls hl)
  | imul =>
    obtain ⟨e1, e2⟩ := one (n := 1) rfl (by decide)
    obtain ⟨x, y, r, h1, h2⟩ := z_ii_eq hs
    cases h2; subst h1; subst e1
    exact lv_imul hx hb e2 (kk rls hl)
  | iand =>
    obtain ⟨e1, e2⟩ := one (n := 1) rfl (by decide)
    obtain ⟨x, y, r, h1, h2⟩ := z_ii_eq hs
    cases h2; subst h1; subst e1
    exact lv_iand hx hb e2 (kk rls hl)
  | ior =>
    obtain ⟨e1, e2⟩ := one (n := 1) rfl (by decide)
    obtain ⟨x, y, r, h1, h2⟩ := z_ii_eq hs
    cases h2; subst h1; subst e1
    exact lv_ior hx hb e2 (kk rls hl)
  | ishl =>
    obtain ⟨e1, e2⟩ := one (n := 1) rfl (by decide)
    obtain ⟨x, y, r, h1, h2⟩ := z_ii_eq hs
    cases h2; subst h1; subst e1
    exact lv_ishl hx hb e2 (kk rls hl)
  | ishr =>
    obtain ⟨e1, e2⟩ := one (n := 1) rfl (by decide)
    obtain ⟨x, y, r, h1, h2⟩ := z_ii_eq hs
    cases h2; subst h1; subst e1
    exact lv_ishr hx hb e2 (kk rls hl)
  | iushr =>
    obtain ⟨e1, e2⟩ := one (n := 1) rfl (by decide)
    obtain ⟨x, y, r, h1, h2⟩ := z_ii_eq hs
    cases h2; subst h1; subst e1
    exact lv_iushr hx hb e2 rfl (kk rls hl)
  | idiv =>
    obtain ⟨e1, e2⟩ := one (n := 1) rfl (by decide)
    obtain ⟨x, y, r, h1, h2, h3⟩ := z_dv_eq hs
    cases h2; subst h1; subst e1
    exact lv_idiv hx hb e2 h3 (kk rls hl)
  | irem =>
    obtain ⟨e1, e2⟩ := one (n := 1) rfl (by decide)
    obtain ⟨x, y, r, h1, h2, h3⟩ := z_dv_eq hs
    cases h2; subst h1; subst e1
    exact lv_irem hx hb e2 h3 (kk rls hl)
  | ineg =>
    obtain ⟨e1, e2⟩ := one (n := 1) rfl (by decide)
    obtain ⟨x, r, h1, h2⟩ := z_i_eq hs
    cases h2; subst h1; subst e1
    exact lv_ineg hx hb e2 (kk rls hl)
  | i2b =>
    obtain ⟨e1, e2⟩ := one (n := 1) rfl (by decide)
    obtain ⟨x, r, h1, h2⟩ := z_i_eq hs
    cases h2; subst h1; subst e1
    exact lv_i2b hx hb e2 rfl (kk rls hl)
  | ladd =>
    obtain ⟨e1, e2⟩ := one (n := 1) rfl (by decide)
    obtain ⟨x, y, r, h1, h2⟩ := z_ll_eq hs
    cases h2; subst h1; subst e1
    exact lv_ladd hx hb e2 (kk rls hl)
  | lsub =>
    obtain ⟨e1, e2⟩ := one (n := 1) rfl (by decide)
    obtain ⟨x, y, r, h1, h2⟩ := z_ll_eq hs
    cases h2; subst h1; subst e1
    exact lv_lsub hx hb e2 (kk rls hl)
  | lmul =>
    obtain ⟨e1, e2⟩ := one (n := 1) rfl (by decide)
    obtain ⟨x, y, r, h1, h2⟩ := z_ll_eq hs
    cases h2; subst h1; subst e1
    exact lv_lmul hx hb e2 (kk rls hl)
  | land =>
    obtain ⟨e1, e2⟩ := one (n := 1) rfl (by decide)
    obtain ⟨x, y, r, h1, h2⟩ := z_ll_eq hs
    cases h2; subst h1; subst e1
    exact lv_land hx hb e2 (kk rls hl)
  | lor =>
    obtain ⟨e1, e2⟩ := one (n := 1) rfl (by decide)
    obtain ⟨x, y, r, h1, h2⟩ := z_ll_eq hs
    cases h2; subst h1; subst e1
    exact lv_lor hx hb e2 (kk rls hl)
  | lxor =>
    obtain ⟨e1, e2⟩ := one (n := 1) rfl (by decide)
    obtain ⟨x, y, r, h1, h2⟩ := z_ll_eq hs
    cases h2; subst h1; subst e1
    exact lv_lxor hx hb e2 (kk rls hl)
  | lrem =>
    obtain ⟨e1, e2⟩ := one (n := 1) rfl (by decide)
    obtain ⟨x, y, r, h1, h2, h3⟩ := z_ldv_eq hs
    cases h2; subst h1; subst e1
    exact lv_lrem hx hb e2 h3 (kk rls hl)
  | lneg =>
    obtain ⟨e1, e2⟩ := one (n := 1) rfl (by decide)
    obtain ⟨x, r, h1, h2⟩ := z_l_eq hs
    cases h2; subst h1; subst e1
    exact lv_lneg hx hb e2 (kk rls hl)
  | lushr =>
    obtain ⟨e1, e2⟩ := one (n := 1) rfl (by decide)
    obtain ⟨x, y, r, h1, h2⟩ := z_li_eq hs
    cases h2; subst h1; subst e1
    exact lv_lushr hx hb e2 rfl (kk rls hl)
  | lshl =>
    obtain ⟨e1, e2⟩ := one (n := 1) rfl (by decide)
    obtain ⟨x, y, r, h1, h2⟩ := z_li_eq hs
    cases h2; subst h1; subst e1
    exact lv_lshl hx hb e2 rfl (kk rls hl)
  | lcmp =>
    obtain ⟨e1, e2⟩ := one (n := 1) rfl (by decide)
    change z_lcmp nx ls st = some (pc', ls', st') at hs
    unfold z_lcmp at hs
    split at hs
    · cases hs; subst e1
      exact W.lcmp hx hb e2 (kk rls hl)
    · cases hs
  | i2l =>
    obtain ⟨e1, e2⟩ := one (n := 1) rfl (by decide)
    change z_i2l nx ls st = some (pc', ls', st') at hs
    unfold z_i2l at hs
    split at hs
    · cases hs; subst e1
      exact lv_i2l hx hb e2 rfl (kk rls hl)
    · cases hs
  | l2i =>
    obtain ⟨e1, e2⟩ := one (n := 1) rfl (by decide)
    change z_l2i nx ls st = some (pc', ls', st') at hs
    unfold z_l2i at hs
    split at hs
    · cases hs; subst e1
      exact lv_l2i hx hb e2 rfl (kk rls hl)
    · cases hs
  | dup =>
    obtain ⟨e1, e2⟩ := one (n := 1) rfl (by decide)
    change z_dup nx ls st = some (pc', ls', st') at hs
    unfold z_dup at hs
    split at hs
    · rename_i v r
      cases hc : Nat.beq v.category 1 with
      | false => rw [hc] at hs; cases hs
      | true =>
        rw [hc] at hs; cases hs; subst e1
        exact lv_dup hx hb e2 ((z_v_cat N0 v).trans (Nat.eq_of_beq_eq_true hc)) (kk rls hl)
    · cases hs
  | dup2 =>
    obtain ⟨e1, e2⟩ := one (n := 1) rfl (by decide)
    change z_dup2 nx ls st = some (pc', ls', st') at hs
    unfold z_dup2 at hs
    split at hs
    · rename_i v r
      cases hc : Nat.beq v.category 2 with
      | true =>
        rw [hc] at hs; cases hs; subst e1
        exact lv_dup2_2 hx hb e2 ((z_v_cat N0 v).trans (Nat.eq_of_beq_eq_true hc)) (kk rls hl)
      | false =>
        rw [hc] at hs
        rw [cond_false] at hs
        have hv1 : v.category = 1 := by
          rcases lv_cat v with h | h
          · exact h
          · rw [h] at hc; cases hc
        split at hs
        · rename_i w r2
          cases hw : Nat.beq w.category 1 with
          | false => rw [hw] at hs; cases hs
          | true =>
            rw [hw] at hs; cases hs; subst e1
            exact lv_dup2_11 hx hb e2 ((z_v_cat N0 v).trans hv1) ((z_v_cat N0 w).trans (Nat.eq_of_beq_eq_true hw)) (kk rls hl)
        · cases hs
    · cases hs
  | pop =>
    obtain ⟨e1, e2⟩ := one (n := 1) rfl (by decide)
    change z_pop nx ls st = some (pc', ls', st') at hs
    unfold z_pop at hs
    split at hs
    · rename_i v r
      cases hc : Nat.beq v.category 1 with
      | false => rw [hc] at hs; cases hs
      | true =>
        rw [hc] at hs; cases hs; subst e1
        exact lv_pop hx hb e2 ((z_v_cat N0 v).trans (Nat.eq_of_beq_eq_true hc)) (kk rls hl)
    · cases hs
  | pop2 =>
    obtain ⟨e1, e2⟩ := one (n := 1) rfl (by decide)
    change z_pop2 nx ls st = some (pc', ls', st') at hs
    unfold z_pop2 at hs
    split at hs
    · rename_i v r
      cases hc : Nat.beq v.category 2 with
      | false => rw [hc] at hs; cases hs
      | true =>
        rw [hc] at hs; cases hs; subst e1
        exact lv_pop2_2 hx hb e2 ((z_v_cat N0 v).trans (Nat.eq_of_beq_eq_true hc)) (kk rls hl)
    · cases hs
  | goto off =>
    obtain ⟨e1, e2⟩ := one (n := 3) rfl (by decide)
    cases hs
    exact lv_goto hx hb e2 (of_decide_eq_true hk) (kk rls hl)
  | ifCond cd off =>
    obtain ⟨e1, e2⟩ := one (n := 3) rfl (by decide)
    change z_if cd (z_tg ax) nx ls st = some (pc', ls', st') at hs
    have ht : (pc : Int) + off = (z_tg ax : Int) := of_decide_eq_true hk
    unfold z_if at hs
    split at hs
    · rename_i x r
      cases hs; subst e1
      have kk := kk rls hl
      cases cd with
      | eq => exact lv_if_eq hx hb e2 ht (fun h => by simpa [z_c0, h] using kk) (fun h => by simpa [z_c0, h] using kk)
      | ne => exact lv_if_ne hx hb e2 ht (fun h => by simpa [z_c0, h] using kk) (fun h => by simpa [z_c0, h] using kk)
      | lt => exact lv_if_lt hx hb e2 ht (fun h => by simpa [z_c0, h] using kk) (fun h => by simpa [z_c0, h] using kk)
      | ge => exact lv_if_ge hx hb e2 ht (fun h => by simpa [z_c0, h] using kk) (fun h => by simpa [z_c0, h] using kk)
      | gt => exact lv_if_gt hx hb e2 ht (fun h => by simpa [z_c0, h] using kk) (fun h => by simpa [z_c0, h] using kk)
      | le => exact lv_if_le hx hb e2 ht (fun h => by simpa [z_c0, h] using kk) (fun h => by simpa [z_c0, h] using kk)
    · cases hs
  | if_icmp cd off =>
    obtain ⟨e1, e2⟩ := one (n := 3) rfl (by decide)
    change z_icmp cd (z_tg ax) nx ls st = some (pc', ls', st') at hs
    have ht : (pc : Int) + off = (z_tg ax : Int) := of_decide_eq_true hk
    unfold z_icmp at hs
    split at hs
    · rename_i y x r
      cases hs; subst e1
      have kk := kk rls hl
      cases cd with
      | eq => exact lv_icmp_eq hx hb e2 ht (fun h => by simpa [z_c2, h] using kk) (fun h => by simpa [z_c2, h] using kk)
      | ne => exact lv_icmp_ne hx hb e2 ht (fun h => by simpa [z_c2, h] using kk) (fun h => by simpa [z_c2, h] using kk)
      | lt => exact lv_icmp_lt hx hb e2 ht (fun h => by simpa [z_c2, h] using kk) (fun h => by simpa [z_c2, h] using kk)
      | ge => exact lv_icmp_ge hx hb e2 ht (fun h => by simpa [z_c2, h] using kk) (fun h => by simpa [z_c2, h] using kk)
      | gt => exact lv_icmp_gt hx hb e2 ht (fun h => by simpa [z_c2, h] using kk) (fun h => by simpa [z_c2, h] using kk)
      | le => exact lv_icmp_le hx hb e2 ht (fun h => by simpa [z_c2, h] using kk) (fun h => by simpa [z_c2, h] using kk)
    · cases hs
  | tableswitch dflt lo hi offs =>
    change z_tsw ax ls st = some (pc', ls', st') at hs
    unfold z_tsw at hs
    split at hs
    · rename_i x r t ts
      cases hs
      have hk2 : (decide ((pc : Int) + dflt = (t : Int)) && decide (lo = 0) && decide (hi + 1 = (ts.length : Int)) && decide (offs.toList.map (fun o => (pc : Int) + o) = ts.map (fun (t : Nat) => (t : Int)))) = true := hk
      simp only [Bool.and_eq_true, decide_eq_true_eq] at hk2
      obtain ⟨⟨⟨q1, q2⟩, q3⟩, q4⟩ := hk2
      subst q2
      by_cases ho : x.toInt < 0 ∨ (ts.length : Int) ≤ x.toInt
      · have kk := kk rls hl
        rw [z_swt, if_pos ho] at kk
        exact lv_tableOut hx hb hd (by omega) q1 kk
      · have kk := kk rls hl
        rw [z_swt, if_neg ho] at kk
        obtain ⟨off, g1, g2⟩ := z_tsw_in (x := x) (by omega) (by omega) q4 t
        exact lv_tableIn hx hb hd (by omega) (by omega) g1 g2 kk
    · cases hs
  | lookupswitch dflt ps =>
    change z_lsw ax ls st = some (pc', ls', st') at hs
    unfold z_lsw at hs
    split at hs
    · rename_i x r t ts
      cases hs
      have hk2 : (decide ((pc : Int) + dflt = (t : Int)) && (ps.toList.zip (ps.toList.drop 1)).all (fun (a, next) => a.1 < next.1) && z_lkc pc ps.toList ts) = true := hk
      rw [Bool.and_eq_true, Bool.and_eq_true] at hk2
      obtain ⟨⟨q1, q2⟩, q3⟩ := hk2
      exact lv_lookup hx hb hd q2 rfl (z_lk_sound (of_decide_eq_true q1) x _ _ q3) (kk rls hl)
    · cases hs
  | _ => exact absurd (show (none : zO) = some (pc', ls', st') from hs) (by simp)
end ZS2
