/-! ROUNDS as the model closes them -/
theorem rkE_tr {E : Nat → Nat → Prop} {r p m : Nat} (h : rkE E m r p) : ∀ {k o : Nat}, rkE E k p o → rkE E (m + k + 1) r o
  | 0, o, h2 => Or.inr ⟨p, h, h2⟩
  | k + 1, o, h2 => by
    rcases h2 with q | ⟨t, q1, q2⟩
    · exact Or.inl (rkE_tr h q)
    · exact Or.inr ⟨t, rkE_tr h q1, q2⟩
def mcS (E : Nat → Nat → Prop) (r c : Nat) : Prop := c < 256 ∧ ∀ o, c.testBit o = true → ∃ m, rkE E m r o
/-- ahead of row r of a pass -/
def mcR (n : Nat) (E : Nat → Nat → Prop) (ps r : Nat) (C : Nat → Nat) : Prop := r ≤ n ∧ ∀ t, t < n → mcS E t (C t) ∧ ∀ o, rkE E (if t < r then ps + 1 else ps) t o → (C t).testBit o = true
/-- and ahead of rule y in it -/
def mcY (n : Nat) (E : Nat → Nat → Prop) (ps r y : Nat) (C : Nat → Nat) : Prop := y ≤ n ∧ (∀ t, t < n → mcS E t (C t) ∧ ∀ o, rkE E (if t < r then ps + 1 else ps) t o → (C t).testBit o = true) ∧ ∀ p, p < y → E r p → ∀ o, rkE E ps p o → (C r).testBit o = true
theorem mcY.start {n : Nat} {E : Nat → Nat → Prop} {ps r : Nat} {C : Nat → Nat} (h : mcR n E ps r C) : mcY n E ps r 0 C := ⟨Nat.zero_le _, h.2, fun p hp => absurd hp (Nat.not_lt_zero _)⟩
theorem mcY.fin {n : Nat} {E : Nat → Nat → Prop} {ps r : Nat} {C : Nat → Nat} (h : mcY n E ps r n C) (hr : r < n) (hE : ∀ r o, E r o → r < n ∧ o < n) : mcR n E ps (r + 1) C := ⟨by omega, fun t ht => by
  obtain ⟨h1, h2⟩ := h.2.1 t ht
  refine ⟨h1, fun o ho => ?_⟩
  by_cases e : t = r
  · subst e
    rw [if_pos (by omega)] at ho
    rcases rkE_unfront ho with q | ⟨p, q1, q2⟩
    · exact h2 o (rkE_up (k := 0) q (Nat.zero_le _))
    · exact h.2.2 p (hE t p q1).2 q1 o q2
  · apply h2
    by_cases e2 : t < r
    · rw [if_pos e2]; rwa [if_pos (by omega)] at ho
    · rw [if_neg e2]; rwa [if_neg (by omega)] at ho⟩
theorem mcY.step {n : Nat} {E : Nat → Nat → Prop} {ps r y : Nat} {C : Nat → Nat} (h : mcY n E ps r y C) (hr : r < n) (hy : y < n) (hb : (C r).testBit y = true) : mcY n E ps r (y + 1) (up C r (C r ||| C y)) := by
  have hr1 := (h.2.1 r hr).1
  have hy1 := (h.2.1 y hy).1
  refine ⟨by omega, fun t ht => ?_, fun p hp hEp o ho => ?_⟩
  · by_cases e : t = r
    · subst e
      rw [up_s]
      refine ⟨⟨or_lt8 hr1.1 hy1.1, fun o q => ?_⟩, fun o q => bs_or1 _ _ o ((h.2.1 t ht).2 o q)⟩
      rw [Nat.testBit_or, Bool.or_eq_true] at q
      rcases q with q | q
      · exact hr1.2 o q
      · obtain ⟨m1, q1⟩ := hr1.2 y hb
        obtain ⟨m2, q2⟩ := hy1.2 o q
        exact ⟨_, rkE_tr q1 q2⟩
    · rw [up_n e]; exact h.2.1 t ht
  · rw [up_s]
    by_cases e : p = y
    · subst e
      refine bs_or2 _ _ o ((h.2.1 p hy).2 o ?_)
      split
      · exact rkE_up ho (by omega)
      · exact ho
    · exact bs_or1 _ _ o (h.2.2 p (by omega) hEp o ho)
theorem mcY.skip {n : Nat} {E : Nat → Nat → Prop} {ps r y : Nat} {C : Nat → Nat} (h : mcY n E ps r y C) (hr : r < n) (hy : y < n) (hb : ¬ (C r).testBit y = true) : mcY n E ps r (y + 1) (up C r (C r ||| 0)) := by
  rw [Nat.or_zero, up_id]
  refine ⟨by omega, h.2.1, fun p hp hEp o ho => ?_⟩
  by_cases e : p = y
  · subst e
    exact absurd ((h.2.1 r hr).2 p (rkE_up (E := E) (k := 0) (show rkE E 0 r p from hEp) (Nat.zero_le _))) hb
  · exact h.2.2 p (by omega) hEp o ho
theorem mcR.next {n : Nat} {E : Nat → Nat → Prop} {ps : Nat} {C : Nat → Nat} (h : mcR n E ps n C) : mcR n E (ps + 1) 0 C := ⟨Nat.zero_le _, fun t ht => ⟨(h.2 t ht).1, fun o ho => (h.2 t ht).2 o (by rw [if_pos ht]; rwa [if_neg (by omega)] at ho)⟩⟩
theorem mcR.rnd {n : Nat} {E : Nat → Nat → Prop} {C : Nat → Nat} (h : mcR n E n 0 C) (hE : ∀ r o, E r o → o < n) {r : Nat} (hr : r < n) : (C r).testBit r = true ↔ rkE E n r r := ⟨fun q => by
  obtain ⟨m, hm⟩ := (h.2 r hr).1.2 r q
  exact rkE_all hE r hm, fun q => (h.2 r hr).2 r (by rw [if_neg (by omega)]; exact q)⟩
/-- ahead of row r while the rows are laid -/
def mcE (n : Nat) (al_ it tg : Nat → Nat) (e : Nat → Bool) (r : Nat) (C : Nat → Nat) : Prop := r ≤ n ∧ ∀ t, t < r → C t < 256 ∧ ∀ o, (C t).testBit o = true ↔ ed al_ it tg e t o
theorem mcE.row {n : Nat} {al_ it tg : Nat → Nat} {e : Nat → Bool} {r : Nat} {C0 C : Nat → Nat} (h : mcE n al_ it tg e r C0) (hr : r < n) (h1 : ∀ q, q ≠ r → C q = C0 q) (h2 : C r < 256) (h3 : ∀ o, (C r).testBit o = true ↔ ed al_ it tg e r o) : mcE n al_ it tg e (r + 1) C := ⟨by omega, fun t ht => by
  by_cases q : t = r
  · subst q; exact ⟨h2, h3⟩
  · rw [h1 t q]; exact h.2 t (by omega)⟩
theorem mcE.go {n : Nat} {al_ it tg : Nat → Nat} {e : Nat → Bool} {C : Nat → Nat} (h : mcE n al_ it tg e n C) : mcR n (fun r t => r < n ∧ ed al_ it tg e r t) 0 0 C := ⟨Nat.zero_le _, fun t ht => ⟨⟨(h.2 t ht).1, fun o q => ⟨0, ht, ((h.2 t ht).2 o).mp q⟩⟩, fun o q => ((h.2 t ht).2 o).mpr (by rw [if_neg (by omega)] at q; exact q.2)⟩⟩
