/-! THE SMALL MACHINE'S RUNS ARE THE MACHINE'S -/
theorem z_m_mono {i : Instr} {ax : List Nat} {d : Nat} {st st' : List Value} {M M' : zM} (hs : z_m i ax d st M = some (st', M')) : M.length ≤ M'.length ∧ z_sz M ≤ z_sz M' := by
  have same : ∀ {a : Nat} {e0 e1 : va_E}, M[a]? = some e0 → M' = M.set a e1 → z_sl e1 = z_sl e0 → M.length ≤ M'.length ∧ z_sz M ≤ z_sz M' := by
    intro a e0 e1 h1 h3 h2
    subst h3
    rw [List.length_set, z_sz_set h1 h2]
    exact ⟨Nat.le_refl _, Nat.le_refl _⟩
  have push : ∀ {e1 : va_E}, M' = M ++ [e1] → M.length ≤ M'.length ∧ z_sz M ≤ z_sz M' := by
    intro e1 h3
    subst h3
    rw [z_sz_push, List.length_append]
    exact ⟨Nat.le_add_right _ _, Nat.le_add_right _ _⟩
  have eqq : M' = M → M.length ≤ M'.length ∧ z_sz M ≤ z_sz M' := fun h => by rw [h]; exact ⟨Nat.le_refl _, Nat.le_refl _⟩
  cases i with
  | getfield ix =>
    match ax, hs with
    | ci :: k :: ax', hs =>
      obtain ⟨a, r, fs, v, -, -, -, -, h⟩ := z_gf_eq hs
      exact eqq h
    | [ci], hs => cases hs
    | [], hs => cases hs
  | putfield ix =>
    match ax, hs with
    | ci :: k :: ax', hs =>
      obtain ⟨a, r, fs, v, -, hM, -, -, -, h⟩ := z_pf_eq hs
      exact same hM h rfl
    | [ci], hs => cases hs
    | [], hs => cases hs
  | iaload => obtain ⟨a, i, r, n, f, -, -, -, -, h⟩ := z_ial_eq hs; exact eqq h
  | baload => obtain ⟨a, i, r, t, n, f, -, -, -, -, -, h⟩ := z_bal_eq hs; exact eqq h
  | laload => obtain ⟨a, i, r, n, f, -, -, -, -, h⟩ := z_lal_eq hs; exact eqq h
  | aaload => obtain ⟨a, i, r, t, n, k, f, -, -, -, -, -, -, h⟩ := z_aal_eq hs; exact eqq h
  | iastore => obtain ⟨a, i, x, r, n, f, -, hM, -, -, h⟩ := z_ias_eq hs; exact same hM h rfl
  | lastore => obtain ⟨a, i, x, r, n, f, -, hM, -, -, h⟩ := z_las_eq hs; exact same hM h rfl
  | bastore =>
    obtain ⟨a, i, x, r, n, f, -, -, -, ⟨hM, h⟩ | ⟨hM, h⟩⟩ := z_bas_eq hs
    · exact same hM h rfl
    · exact same hM h rfl
  | aastore => obtain ⟨a, v, i, r, t, n, f, vs, -, hM, -, -, -, -, h⟩ := z_aas_eq hs; exact same hM h rfl
  | arraylength =>
    change z_aln st M = some (st', M') at hs
    unfold z_aln at hs
    split at hs
    · split at hs
      · rename_i t n xx hM
        cases hb2 : Nat.blt t 6 with
        | false => rw [hb2] at hs; cases hs
        | true => rw [hb2, cond_true] at hs; cases hs; exact eqq rfl
      · cases hs
    · cases hs
  | new ix =>
    match ax, hs with
    | ci :: ax', hs =>
      change z_new ci st M = some (st', M') at hs
      unfold z_new at hs
      cases hb2 : Nat.blt ci 13 with
      | false => rw [hb2] at hs; cases hs
      | true => rw [hb2, cond_true] at hs; cases hs; exact push rfl
    | [], hs => cases hs
  | newarray ty =>
    match ax, hs with
    | t :: ax', hs =>
      obtain ⟨n, r, -, -, -, g3⟩ := z_nwa_eq (show z_nwa t st M = some (st', M') from hs)
      clear hs
      match t, g3 with
      | 0, g3 => cases g3; exact push rfl
      | 1, g3 => cases g3; exact push rfl
      | 2, g3 => cases g3; exact push rfl
      | 3, g3 => cases g3; exact push rfl
      | t + 4, g3 => cases g3
    | [], hs => cases hs
  | anewarray ix =>
    match ax, hs with
    | t :: ax', hs =>
      obtain ⟨n, r, -, -, -, -, h⟩ := z_ana_eq (show z_ana t st M = some (st', M') from hs)
      cases h
      exact push rfl
    | [], hs => cases hs
  | invokespecial ix =>
    match d, ax, hs with
    | d + 1, 1 :: ax', hs =>
      obtain ⟨a, r, -, -, h⟩ := z_oin_eq (show z_oin st M = some (st', M') from hs)
      cases h
      exact eqq rfl
    | 0, ax, hs => cases hs
    | d + 1, [], hs => cases hs
    | d + 1, 0 :: ax', hs => cases hs
    | d + 1, (n + 2) :: ax', hs => cases hs
  | invokestatic ix =>
    match d, ax, hs with
    | d + 1, 2 :: ax', hs =>
      obtain ⟨a0, a1, n, sp, dp, r, n0, n1, -, -, -, -, -, -, -, -, hh⟩ := z_cpy_eq (show z_cpy st M = some (st', M') from hs)
      rcases hh with ⟨f, g, -, hM1, h⟩ | ⟨f, g, -, hM1, h⟩
      · exact same hM1 h rfl
      · exact same hM1 h rfl
    | d + 1, 3 :: ax', hs =>
      obtain ⟨x, y, r, -, -, h⟩ := z_max_eq (show z_max st M = some (st', M') from hs)
      cases h
      exact eqq rfl
    | d + 1, 4 :: ax', hs =>
      obtain ⟨x, y, r, -, -, h⟩ := z_min_eq (show z_min st M = some (st', M') from hs)
      cases h
      exact eqq rfl
    | 0, ax, hs => cases hs
    | d + 1, [], hs => cases hs
    | d + 1, 0 :: ax', hs => cases hs
    | d + 1, 1 :: ax', hs => cases hs
    | d + 1, (n + 5) :: ax', hs => cases hs
  | _ => exact absurd (show (none : zP) = some (st', M') from hs) (by simp)
theorem z_s_len {i : Instr} {nx : Nat} {ax : List Nat} {cI : Int32} {z : Int64} {ls ls' : zL} {st st' : List Value} {pc' : Nat} (hs : z_s i nx ax cI z ls st = some (pc', ls', st')) : ls'.length = ls.length := by
  cases i with
  | istore_n k => obtain ⟨x, r, -, -, h2⟩ := z_istore_eq hs; cases h2; exact z_s1_len ..
  | istore k => obtain ⟨x, r, -, -, h2⟩ := z_istore_eq hs; cases h2; exact z_s1_len ..
  | astore_n k => obtain ⟨x, r, -, -, h2⟩ := z_astore_eq hs; cases h2; exact z_s1_len ..
  | astore k => obtain ⟨x, r, -, -, h2⟩ := z_astore_eq hs; cases h2; exact z_s1_len ..
  | lstore_n k => obtain ⟨x, r, -, -, h2⟩ := z_lstore_eq hs; cases h2; exact z_s2_len ..
  | lstore k => obtain ⟨x, r, -, -, h2⟩ := z_lstore_eq hs; cases h2; exact z_s2_len ..
  | iinc k n => obtain ⟨x, -, -, h2⟩ := z_iinc_eq hs; cases h2; exact z_s1_len ..
  | iload_n k => obtain ⟨x, -, h2⟩ := z_iload_eq hs; cases h2; rfl
  | iload k => obtain ⟨x, -, h2⟩ := z_iload_eq hs; cases h2; rfl
  | lload_n k => obtain ⟨x, -, h2⟩ := z_lload_eq hs; cases h2; rfl
  | lload k => obtain ⟨x, -, h2⟩ := z_lload_eq hs; cases h2; rfl
  | aload_n k => obtain ⟨x, -, h2⟩ := z_aload_eq hs; cases h2; rfl
  | aload k => obtain ⟨x, -, h2⟩ := z_aload_eq hs; cases h2; rfl
  | iadd => obtain ⟨x, y, r, -, h2⟩ := z_ii_eq hs; cases h2; rfl
  | isub => obtain ⟨x, y, r, -, h2⟩ := z_ii_eq hs; cases h2; rfl
  | imul => obtain ⟨x, y, r, -, h2⟩ := z_ii_eq hs; cases h2; rfl
  | iand => obtain ⟨x, y, r, -, h2⟩ := z_ii_eq hs; cases h2; rfl
  | ior => obtain ⟨x, y, r, -, h2⟩ := z_ii_eq hs; cases h2; rfl
  | ishl => obtain ⟨x, y, r, -, h2⟩ := z_ii_eq hs; cases h2; rfl
  | ishr => obtain ⟨x, y, r, -, h2⟩ := z_ii_eq hs; cases h2; rfl
  | iushr => obtain ⟨x, y, r, -, h2⟩ := z_ii_eq hs; cases h2; rfl
  | idiv => obtain ⟨x, y, r, -, h2, -⟩ := z_dv_eq hs; cases h2; rfl
  | irem => obtain ⟨x, y, r, -, h2, -⟩ := z_dv_eq hs; cases h2; rfl
  | ineg => obtain ⟨x, r, -, h2⟩ := z_i_eq hs; cases h2; rfl
  | i2b => obtain ⟨x, r, -, h2⟩ := z_i_eq hs; cases h2; rfl
  | ladd => obtain ⟨x, y, r, -, h2⟩ := z_ll_eq hs; cases h2; rfl
  | lsub => obtain ⟨x, y, r, -, h2⟩ := z_ll_eq hs; cases h2; rfl
  | lmul => obtain ⟨x, y, r, -, h2⟩ := z_ll_eq hs; cases h2; rfl
  | land => obtain ⟨x, y, r, -, h2⟩ := z_ll_eq hs; cases h2; rfl
  | lor => obtain ⟨x, y, r, -, h2⟩ := z_ll_eq hs; cases h2; rfl
  | lxor => obtain ⟨x, y, r, -, h2⟩ := z_ll_eq hs; cases h2; rfl
  | lrem => obtain ⟨x, y, r, -, h2, -⟩ := z_ldv_eq hs; cases h2; rfl
  | lneg => obtain ⟨x, r, -, h2⟩ := z_l_eq hs; cases h2; rfl
  | lushr => obtain ⟨x, y, r, -, h2⟩ := z_li_eq hs; cases h2; rfl
  | lshl => obtain ⟨x, y, r, -, h2⟩ := z_li_eq hs; cases h2; rfl
  | iconst n => cases hs; rfl
  | bipush n => cases hs; rfl
  | sipush n => cases hs; rfl
  | ldc n => cases hs; rfl
  | ldc_w n => cases hs; rfl
  | lconst n => cases hs; rfl
  | ldc2_w n => cases hs; rfl
  | goto n => cases hs; rfl
  | lcmp => change z_lcmp nx ls st = _ at hs; unfold z_lcmp at hs; split at hs <;> cases hs <;> rfl
  | i2l => change z_i2l nx ls st = _ at hs; unfold z_i2l at hs; split at hs <;> cases hs <;> rfl
  | l2i => change z_l2i nx ls st = _ at hs; unfold z_l2i at hs; split at hs <;> cases hs <;> rfl
  | ifCond cd off => change z_if cd (z_tg ax) nx ls st = _ at hs; unfold z_if at hs; split at hs <;> cases hs <;> rfl
  | if_icmp cd off => change z_icmp cd (z_tg ax) nx ls st = _ at hs; unfold z_icmp at hs; split at hs <;> cases hs <;> rfl
  | tableswitch d lo hi o => change z_tsw ax ls st = _ at hs; unfold z_tsw at hs; split at hs <;> cases hs <;> rfl
  | lookupswitch d ps => change z_lsw ax ls st = _ at hs; unfold z_lsw at hs; split at hs <;> cases hs <;> rfl
  | dup =>
    change z_dup nx ls st = _ at hs
    unfold z_dup at hs
    split at hs
    · rename_i v r
      cases hc : Nat.beq v.category 1 <;> rw [hc] at hs <;> cases hs
      rfl
    · cases hs
  | pop =>
    change z_pop nx ls st = _ at hs
    unfold z_pop at hs
    split at hs
    · rename_i v r
      cases hc : Nat.beq v.category 1 <;> rw [hc] at hs <;> cases hs
      rfl
    · cases hs
  | pop2 =>
    change z_pop2 nx ls st = _ at hs
    unfold z_pop2 at hs
    split at hs
    · rename_i v r
      cases hc : Nat.beq v.category 2 <;> rw [hc] at hs <;> cases hs
      rfl
    · cases hs
  | dup2 =>
    change z_dup2 nx ls st = _ at hs
    unfold z_dup2 at hs
    split at hs
    · rename_i v r
      cases hc : Nat.beq v.category 2 with
      | true => rw [hc] at hs; cases hs; rfl
      | false =>
        rw [hc, cond_false] at hs
        split at hs
        · rename_i w r2
          cases hw : Nat.beq w.category 1 <;> rw [hw] at hs <;> cases hs
          rfl
        · cases hs
    · cases hs
  | _ => exact absurd (show (none : zO) = some (pc', ls', st') from hs) (by simp)
