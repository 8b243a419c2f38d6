/-! LOCALS that nobody reads any more may be forgotten -/
def Lw : zL → zL → Prop
  | [], [] => True
  | a :: l', b :: l => (a = none ∨ a = b) ∧ Lw l' l
  | _, _ => False
theorem Lw.get : ∀ {l' l : zL} {k : Nat} {v : Value}, Lw l' l → l'[k]? = some (some v) → l[k]? = some (some v)
  | [], [], _, _, _, h => by simp at h
  | [], _ :: _, _, _, hl, _ => hl.elim
  | _ :: _, [], _, _, hl, _ => hl.elim
  | a :: l', b :: l, 0, v, hl, h => by
    simp at h
    rcases hl.1 with e | e
    · rw [e] at h; cases h
    · simp; rw [← e, h]
  | a :: l', b :: l, k + 1, v, hl, h => by
    simp at h ⊢
    exact Lw.get hl.2 h
theorem Lw.len : ∀ {l' l : zL}, Lw l' l → l'.length = l.length
  | [], [], _ => rfl
  | [], _ :: _, hl => hl.elim
  | _ :: _, [], hl => hl.elim
  | a :: l', b :: l, hl => by simp; exact Lw.len hl.2
theorem Lw.set : ∀ {l' l : zL} {x' x : Option Value} (k : Nat), Lw l' l → (x' = none ∨ x' = x) → Lw (l'.set k x') (l.set k x)
  | [], [], _, _, _, hl, _ => hl
  | [], _ :: _, _, _, _, hl, _ => hl.elim
  | _ :: _, [], _, _, _, hl, _ => hl.elim
  | a :: l', b :: l, x', x, 0, hl, h => ⟨h, hl.2⟩
  | a :: l', b :: l, x', x, k + 1, hl, h => ⟨hl.1, Lw.set k hl.2 h⟩
theorem Lw.setr : ∀ {l' l : zL} (k : Nat), Lw l' l → (∀ v, l'[k]? ≠ some (some v)) → Lw l' (l.set k none)
  | [], [], _, hl, _ => hl
  | [], _ :: _, _, hl, _ => hl.elim
  | _ :: _, [], _, hl, _ => hl.elim
  | a :: l', b :: l, 0, hl, h => by
    refine ⟨Or.inl ?_, hl.2⟩
    cases a with
    | none => rfl
    | some v => exact absurd rfl (h v)
  | a :: l', b :: l, k + 1, hl, h => ⟨hl.1, Lw.setr k hl.2 (fun v hv => h v (by simpa using hv))⟩
theorem Lw.kill {l' l : zL} (i : Nat) (h : Lw l' l) : Lw (z_kill l' i) (z_kill l i) := by
  cases i with
  | zero => exact h
  | succ j =>
    cases hq : l'[j]? with
    | none =>
      have e : z_kill l' (j + 1) = l' := by unfold z_kill; simp only [hq]
      rw [e]
      unfold z_kill
      simp only
      split
      · rename_i v hv
        cases Nat.beq v.category 2 with
        | true => exact Lw.setr j h (fun v' hv' => by rw [hq] at hv'; cases hv')
        | false => exact h
      · exact h
    | some o =>
      cases o with
      | none =>
        have e : z_kill l' (j + 1) = l' := by unfold z_kill; simp only [hq]
        rw [e]
        unfold z_kill
        simp only
        split
        · rename_i v hv
          cases Nat.beq v.category 2 with
          | true => exact Lw.setr j h (fun v' hv' => by rw [hq] at hv'; cases hv')
          | false => exact h
        · exact h
      | some v =>
        have hr := Lw.get h hq
        unfold z_kill
        simp only [hq, hr]
        cases Nat.beq v.category 2 with
        | true => exact Lw.set j h (Or.inl rfl)
        | false => exact h
def Lpar (F : zL → zO) : Prop := ∀ l' p l1' s, F l' = some (p, l1', s) → l1' = l' ∧ ∀ l, F l = some (p, l, s)
theorem z_ii_par (f : Int32 → Int32 → Int32) (nx : Nat) (st : List Value) : Lpar (fun l => z_ii f nx l st) := by
  intro l' p l1' s h
  simp only [z_ii] at h ⊢
  split at h
  · cases h; exact ⟨rfl, fun _ => rfl⟩
  · cases h
theorem z_i_par (f : Int32 → Int32) (nx : Nat) (st : List Value) : Lpar (fun l => z_i f nx l st) := by
  intro l' p l1' s h
  simp only [z_i] at h ⊢
  split at h
  · cases h; exact ⟨rfl, fun _ => rfl⟩
  · cases h
theorem z_ll_par (f : Int64 → Int64 → Int64) (nx : Nat) (st : List Value) : Lpar (fun l => z_ll f nx l st) := by
  intro l' p l1' s h
  simp only [z_ll] at h ⊢
  split at h
  · cases h; exact ⟨rfl, fun _ => rfl⟩
  · cases h
theorem z_l_par (f : Int64 → Int64) (nx : Nat) (st : List Value) : Lpar (fun l => z_l f nx l st) := by
  intro l' p l1' s h
  simp only [z_l] at h ⊢
  split at h
  · cases h; exact ⟨rfl, fun _ => rfl⟩
  · cases h
theorem z_li_par (f : Int64 → Int32 → Int64) (nx : Nat) (st : List Value) : Lpar (fun l => z_li f nx l st) := by
  intro l' p l1' s h
  simp only [z_li] at h ⊢
  split at h
  · cases h; exact ⟨rfl, fun _ => rfl⟩
  · cases h
theorem z_lcmp_par (nx : Nat) (st : List Value) : Lpar (fun l => z_lcmp nx l st) := by
  intro l' p l1' s h
  simp only [z_lcmp] at h ⊢
  split at h
  · cases h; exact ⟨rfl, fun _ => rfl⟩
  · cases h
theorem z_i2l_par (nx : Nat) (st : List Value) : Lpar (fun l => z_i2l nx l st) := by
  intro l' p l1' s h
  simp only [z_i2l] at h ⊢
  split at h
  · cases h; exact ⟨rfl, fun _ => rfl⟩
  · cases h
theorem z_l2i_par (nx : Nat) (st : List Value) : Lpar (fun l => z_l2i nx l st) := by
  intro l' p l1' s h
  simp only [z_l2i] at h ⊢
  split at h
  · cases h; exact ⟨rfl, fun _ => rfl⟩
  · cases h
theorem z_dv_par (f : Int32 → Int32 → Int32) (nx : Nat) (st : List Value) : Lpar (fun l => z_dv f nx l st) := by
  intro l' p l1' s h
  simp only [z_dv] at h ⊢
  split at h
  · rename_i v x r
    by_cases hv : v = 0
    · rw [if_pos hv] at h; cases h
    · rw [if_neg hv] at h; cases h; exact ⟨rfl, fun _ => if_neg hv⟩
  · cases h
theorem z_ldv_par (f : Int64 → Int64 → Int64) (nx : Nat) (st : List Value) : Lpar (fun l => z_ldv f nx l st) := by
  intro l' p l1' s h
  simp only [z_ldv] at h ⊢
  split at h
  · rename_i v x r
    by_cases hv : v = 0
    · rw [if_pos hv] at h; cases h
    · rw [if_neg hv] at h; cases h; exact ⟨rfl, fun _ => if_neg hv⟩
  · cases h
theorem z_dup_par (nx : Nat) (st : List Value) : Lpar (fun l => z_dup nx l st) := by
  intro l' p l1' s h
  simp only [z_dup] at h ⊢
  split at h
  · rename_i v r
    cases hb : Nat.beq v.category 1 with
    | true => rw [hb, cond_true] at h; cases h; exact ⟨rfl, fun _ => rfl⟩
    | false => rw [hb, cond_false] at h; cases h
  · cases h
theorem z_pop_par (nx : Nat) (st : List Value) : Lpar (fun l => z_pop nx l st) := by
  intro l' p l1' s h
  simp only [z_pop] at h ⊢
  split at h
  · rename_i v r
    cases hb : Nat.beq v.category 1 with
    | true => rw [hb, cond_true] at h; cases h; exact ⟨rfl, fun _ => rfl⟩
    | false => rw [hb, cond_false] at h; cases h
  · cases h
theorem z_pop2_par (nx : Nat) (st : List Value) : Lpar (fun l => z_pop2 nx l st) := by
  intro l' p l1' s h
  simp only [z_pop2] at h ⊢
  split at h
  · rename_i v r
    cases hb : Nat.beq v.category 2 with
    | true => rw [hb, cond_true] at h; cases h; exact ⟨rfl, fun _ => rfl⟩
    | false => rw [hb, cond_false] at h; cases h
  · cases h
theorem z_dup2_par (nx : Nat) (st : List Value) : Lpar (fun l => z_dup2 nx l st) := by
  intro l' p l1' s h
  simp only [z_dup2] at h ⊢
  split at h
  · rename_i v r
    cases hb : Nat.beq v.category 2 with
    | true => rw [hb, cond_true] at h; cases h; exact ⟨rfl, fun _ => rfl⟩
    | false =>
      rw [hb, cond_false] at h
      split at h
      · rename_i w r2
        cases hc : Nat.beq w.category 1 with
        | true => rw [hc, cond_true] at h; cases h; exact ⟨rfl, fun _ => rfl⟩
        | false => rw [hc, cond_false] at h; cases h
      · cases h
  · cases h
theorem z_if_par (c : Jvm.ClassFile.Cond) (tgt nx : Nat) (st : List Value) : Lpar (fun l => z_if c tgt nx l st) := by
  intro l' p l1' s h
  simp only [z_if] at h ⊢
  split at h
  · cases h; exact ⟨rfl, fun _ => rfl⟩
  · cases h
theorem z_icmp_par (c : Jvm.ClassFile.Cond) (tgt nx : Nat) (st : List Value) : Lpar (fun l => z_icmp c tgt nx l st) := by
  intro l' p l1' s h
  simp only [z_icmp] at h ⊢
  split at h
  · cases h; exact ⟨rfl, fun _ => rfl⟩
  · cases h
theorem z_tsw_par (ax : List Nat) (st : List Value) : Lpar (fun l => z_tsw ax l st) := by
  intro l' p l1' s h
  simp only [z_tsw] at h ⊢
  split at h
  · cases h; exact ⟨rfl, fun _ => rfl⟩
  · cases h
theorem z_lsw_par (ax : List Nat) (st : List Value) : Lpar (fun l => z_lsw ax l st) := by
  intro l' p l1' s h
  simp only [z_lsw] at h ⊢
  split at h
  · cases h; exact ⟨rfl, fun _ => rfl⟩
  · cases h
theorem z_cst_par (p : Nat) (s : List Value) : Lpar (fun l => some (p, l, s)) := by
  intro l' p l1' s h
  cases h
  exact ⟨rfl, fun _ => rfl⟩
theorem lw_c {F : zL → zO} (hF : Lpar F) {l' l : zL} {p : Nat} {l1' : zL} {s : List Value} (h : F l' = some (p, l1', s)) (hl : Lw l' l) : ∃ l1, F l = some (p, l1, s) ∧ Lw l1' l1 := by
  obtain ⟨h1, h2⟩ := hF _ _ _ _ h
  exact ⟨l, h2 l, h1 ▸ hl⟩
theorem lw_il {nx k : Nat} {st : List Value} {l' l : zL} {p : Nat} {l1' : zL} {s : List Value} (h : z_iload nx l' st k = some (p, l1', s)) (hl : Lw l' l) : ∃ l1, z_iload nx l st k = some (p, l1, s) ∧ Lw l1' l1 := by
  unfold z_iload z_ldi at h ⊢
  split at h
  · rename_i x hx
    cases h
    split at hx
    · rename_i x' hq
      cases hx
      rw [Lw.get hl hq]
      exact ⟨_, rfl, hl⟩
    · cases hx
  · cases h
theorem lw_ll {nx k : Nat} {st : List Value} {l' l : zL} {p : Nat} {l1' : zL} {s : List Value} (h : z_lload nx l' st k = some (p, l1', s)) (hl : Lw l' l) : ∃ l1, z_lload nx l st k = some (p, l1, s) ∧ Lw l1' l1 := by
  unfold z_lload z_ldl at h ⊢
  split at h
  · rename_i x hx
    cases h
    split at hx
    · rename_i x' hq
      cases hx
      rw [Lw.get hl hq]
      exact ⟨_, rfl, hl⟩
    · cases hx
  · cases h
theorem lw_al {nx k : Nat} {st : List Value} {l' l : zL} {p : Nat} {l1' : zL} {s : List Value} (h : z_aload nx l' st k = some (p, l1', s)) (hl : Lw l' l) : ∃ l1, z_aload nx l st k = some (p, l1, s) ∧ Lw l1' l1 := by
  unfold z_aload z_lda at h ⊢
  split at h
  · rename_i x hx
    cases h
    split at hx
    · rename_i x' hq
      cases hx
      rw [Lw.get hl hq]
      exact ⟨_, rfl, hl⟩
    · cases hx
  · cases h
theorem lw_s1 {l' l : zL} (k : Nat) (v : Value) (hl : Lw l' l) : Lw (z_s1 l' k v) (z_s1 l k v) := Lw.set k (Lw.kill k hl) (Or.inr rfl)
theorem lw_s2 {l' l : zL} (k : Nat) (v : Value) (hl : Lw l' l) : Lw (z_s2 l' k v) (z_s2 l k v) := Lw.set (k + 1) (Lw.set k (Lw.kill k hl) (Or.inr rfl)) (Or.inr rfl)
theorem lw_is {nx k : Nat} {st : List Value} {l' l : zL} {p : Nat} {l1' : zL} {s : List Value} (h : z_istore nx l' st k = some (p, l1', s)) (hl : Lw l' l) : ∃ l1, z_istore nx l st k = some (p, l1, s) ∧ Lw l1' l1 := by
  unfold z_istore at h ⊢
  rw [Lw.len hl] at h
  split at h
  · rename_i x r
    cases hb : Nat.blt k l.length with
    | true => rw [hb, cond_true] at h; cases h; exact ⟨_, rfl, lw_s1 k _ hl⟩
    | false => rw [hb, cond_false] at h; cases h
  · cases h
theorem lw_as {nx k : Nat} {st : List Value} {l' l : zL} {p : Nat} {l1' : zL} {s : List Value} (h : z_astore nx l' st k = some (p, l1', s)) (hl : Lw l' l) : ∃ l1, z_astore nx l st k = some (p, l1, s) ∧ Lw l1' l1 := by
  unfold z_astore at h ⊢
  rw [Lw.len hl] at h
  split at h
  · rename_i x r
    cases hb : Nat.blt k l.length with
    | true => rw [hb, cond_true] at h; cases h; exact ⟨_, rfl, lw_s1 k _ hl⟩
    | false => rw [hb, cond_false] at h; cases h
  · cases h
theorem lw_ls {nx k : Nat} {st : List Value} {l' l : zL} {p : Nat} {l1' : zL} {s : List Value} (h : z_lstore nx l' st k = some (p, l1', s)) (hl : Lw l' l) : ∃ l1, z_lstore nx l st k = some (p, l1, s) ∧ Lw l1' l1 := by
  unfold z_lstore at h ⊢
  rw [Lw.len hl] at h
  split at h
  · rename_i x r
    cases hb : Nat.blt (k + 1) l.length with
    | true => rw [hb, cond_true] at h; cases h; exact ⟨_, rfl, lw_s2 k _ hl⟩
    | false => rw [hb, cond_false] at h; cases h
  · cases h
theorem lw_ic {nx k : Nat} {c : Int32} {st : List Value} {l' l : zL} {p : Nat} {l1' : zL} {s : List Value} (h : z_iinc nx l' st k c = some (p, l1', s)) (hl : Lw l' l) : ∃ l1, z_iinc nx l st k c = some (p, l1, s) ∧ Lw l1' l1 := by
  unfold z_iinc z_ldi at h ⊢
  rw [Lw.len hl] at h
  split at h
  · rename_i x hx
    split at hx
    · rename_i x' hq
      cases hx
      rw [Lw.get hl hq]
      simp only
      cases hb : Nat.blt k l.length with
      | true => rw [hb, cond_true] at h; cases h; exact ⟨_, rfl, lw_s1 k _ hl⟩
      | false => rw [hb, cond_false] at h; cases h
    · cases hx
  · cases h
theorem z_s_lw {i : Instr} {nx : Nat} {ax : List Nat} {c : Int32} {z : Int64} {l' l : zL} {st : List Value} {p : Nat} {l1' : zL} {s : List Value} (h : z_s i nx ax c z l' st = some (p, l1', s)) (hl : Lw l' l) : ∃ l1, z_s i nx ax c z l st = some (p, l1, s) ∧ Lw l1' l1 := by
  cases i <;> first
    | (cases h; done)
    | exact lw_il h hl
    | exact lw_ll h hl
    | exact lw_al h hl
    | exact lw_is h hl
    | exact lw_ls h hl
    | exact lw_as h hl
    | exact lw_ic h hl
    | exact lw_c (z_ii_par _ _ _) h hl
    | exact lw_c (z_i_par _ _ _) h hl
    | exact lw_c (z_ll_par _ _ _) h hl
    | exact lw_c (z_l_par _ _ _) h hl
    | exact lw_c (z_li_par _ _ _) h hl
    | exact lw_c (z_lcmp_par _ _) h hl
    | exact lw_c (z_i2l_par _ _) h hl
    | exact lw_c (z_l2i_par _ _) h hl
    | exact lw_c (z_dv_par _ _ _) h hl
    | exact lw_c (z_ldv_par _ _ _) h hl
    | exact lw_c (z_dup_par _ _) h hl
    | exact lw_c (z_dup2_par _ _) h hl
    | exact lw_c (z_pop_par _ _) h hl
    | exact lw_c (z_pop2_par _ _) h hl
    | exact lw_c (z_if_par _ _ _ _) h hl
    | exact lw_c (z_icmp_par _ _ _ _) h hl
    | exact lw_c (z_tsw_par _ _) h hl
    | exact lw_c (z_lsw_par _ _) h hl
    | exact lw_c (z_cst_par _ _) h hl
theorem z_go_lw (P : List zY) : ∀ (n d : Nat) (y : zY) (pc : Nat) (l' l : zL) (st : List Value) (M : zM) (o : Option Value × zM), z_go P n d y pc l' st M = some o → Lw l' l → z_go P n d y pc l st M = some o := by
  intro n
  induction n with
  | zero => intro d y pc l' l st M o h; cases h
  | succ n ih =>
    intro d y pc l' l st M o h hl
    cases hat : z_at y.2.2.2.2.2 pc with
    | none => simp only [z_go, hat] at h; cases h
    | some q =>
      obtain ⟨i, nx, ax, c, z⟩ := q
      simp only [z_go, hat] at h ⊢
      match hk : z_k i ax with
      | 0 =>
        simp only [hk] at h ⊢
        cases hs : z_s i nx ax c z l' st with
        | none => simp only [hs] at h; cases h
        | some w =>
          obtain ⟨pc', l1', st'⟩ := w
          obtain ⟨l1, e1, e2⟩ := z_s_lw hs hl
          simp only [hs] at h
          simp only [e1]
          exact ih _ _ _ _ _ _ _ _ h e2
      | 1 =>
        simp only [hk] at h ⊢
        cases hs : z_m i ax d st M with
        | none => simp only [hs] at h; cases h
        | some w =>
          obtain ⟨st', M'⟩ := w
          simp only [hs] at h ⊢
          exact ih _ _ _ _ _ _ _ _ h hl
      | 2 =>
        simp only [hk] at h ⊢
        exact h
      | kk + 3 =>
        simp only [hk] at h ⊢
        cases hc : z_c i ax st M with
        | none =>
          simp only [hc] at h
          cases d <;> cases h
        | some w =>
          obtain ⟨k, as, rest⟩ := w
          simp only [hc] at h ⊢
          match d, h with
          | 0, h => cases h
          | d1 + 1, h =>
            simp only at h ⊢
            cases hy : P[k]? with
            | none => simp only [hy] at h; cases h
            | some y' =>
              simp only [hy] at h ⊢
              cases hb : Nat.ble (z_args as).length y'.2.2.1 with
              | false => rw [hb] at h; cases h
              | true =>
                rw [hb, cond_true] at h
                rw [cond_true]
                cases hg : z_go P n d1 y' 0 (z_ent y' as) [] M with
                | none => simp only [hg] at h; cases h
                | some w =>
                  obtain ⟨r', M'⟩ := w
                  simp only [hg] at h ⊢
                  exact ih _ _ _ _ _ _ _ _ h hl
theorem zw_ls {d : Nat} {y : zY} {pc : Nat} {ls ls' : zL} {st : List Value} {M : zM} {post : Option Value → zM → Prop} (h : Lw ls' ls) (k : Zw d y pc ls' st M post) : Zw d y pc ls st M post := by
  obtain ⟨n, r, M', h1, h2⟩ := k
  exact ⟨n, r, M', z_go_lw _ _ _ _ _ _ _ _ _ _ h1 h, h2⟩
theorem zw_lse {d : Nat} {y : zY} {pc : Nat} {ls ls' : zL} {st : List Value} {M : zM} {post : Option Value → zM → Prop} (h : ls = ls') (k : Zw d y pc ls' st M post) : Zw d y pc ls st M post := by rw [h]; exact k
theorem nPs {x : Nat} : nI x = nI (x + 1) - 1 := (ns rfl rfl (Nat.succ_le_succ (Nat.zero_le x))).symm
theorem ite_b {c : Prop} [Decidable c] : (if c then 1 else 0) < 2147483648 := by split <;> decide
