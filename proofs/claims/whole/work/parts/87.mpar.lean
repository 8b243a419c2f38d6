/-! THE MODEL reads letters -/
/-- the letter that the model sees -/
def mv (tx : Nat → Nat) (tl q : Nat) : Nat := if q < tl then byv (tx q) else 0
theorem mv_eq {tx : Nat → Nat} {tl q c : Nat} (h : ∀ q, tx q < 256) (h0 : 0 < c) (hc : c < 128) : nI (mv tx tl q) = nI c ↔ hr tx tl q = c := by
  unfold mv hr
  by_cases e : q < tl
  · rw [if_pos e, if_pos e]; exact byv_eq (h q) hc
  · rw [if_neg e, if_neg e]
    constructor
    · intro q2
      have := (nI_eq (a := 0) (b := c) (by omega) (by omega)).mp q2
      omega
    · intro q2; unfold NO at q2; omega
theorem mv_int {tx : Nat → Nat} {tl q : Nat} (h : ∀ q, tx q < 256) : ((nI (mv tx tl q)).toInt = (hr tx tl q : Int) ∧ hr tx tl q < 128) ∨ ((nI (mv tx tl q)).toInt ≤ 0 ∧ 128 ≤ hr tx tl q) := by
  unfold mv hr
  by_cases e : q < tl
  · rw [if_pos e, if_pos e]
    by_cases e2 : tx q < 128
    · left; rw [byv_lt e2, nI_toInt (by omega)]; exact ⟨rfl, e2⟩
    · right
      have h1 := h q
      refine ⟨?_, by omega⟩
      unfold byv; rw [if_neg e2]
      show (Int32.ofNat _).toInt ≤ 0
      rw [Int32.toInt_ofNat', show (Int32.size : Nat) = 4294967296 from rfl, Int.bmod_def]
      split <;> omega
  · rw [if_neg e, if_neg e]; right
    exact ⟨by decide, by decide⟩
theorem mv_nm {tx : Nat → Nat} {tl q : Nat} (h : ∀ q, tx q < 256) : (65 ≤ (nI (mv tx tl q)).toInt ∧ (nI (mv tx tl q)).toInt ≤ 90) ↔ nmB (hr tx tl q) = true := by
  unfold nmB; rw [decide_eq_true_eq]
  rcases mv_int (tx := tx) (tl := tl) (q := q) h with h1 | h1 <;> omega
theorem mv_sg {tx : Nat → Nat} {tl q : Nat} (h : ∀ q, tx q < 256) : (33 ≤ (nI (mv tx tl q)).toInt ∧ (nI (mv tx tl q)).toInt ≤ 126) ↔ sgB (hr tx tl q) = true := by
  unfold sgB; rw [decide_eq_true_eq]
  rcases mv_int (tx := tx) (tl := tl) (q := q) h with h1 | h1 <;> omega
theorem mv_bn {tx : Nat → Nat} {tl q : Nat} (h : ∀ q, tx q < 256) : ((nI (mv tx tl q)).toInt = 61 ∨ (nI (mv tx tl q)).toInt = 62 ∨ (nI (mv tx tl q)).toInt = 42) ↔ bnB (hr tx tl q) = true := by
  unfold bnB; rw [decide_eq_true_eq]
  rcases mv_int (tx := tx) (tl := tl) (q := q) h with h1 | h1 <;> omega
theorem mv_val {tx : Nat → Nat} {tl q : Nat} (h : hr tx tl q < 128) : mv tx tl q = hr tx tl q := by
  unfold mv hr at *
  by_cases e : q < tl
  · rw [if_pos e] at h ⊢; rw [if_pos e]; exact byv_lt h
  · rw [if_neg e] at h; unfold NO at h; omega
theorem mv_0 {tx : Nat → Nat} {tl q : Nat} (h : ¬ q < tl) : mv tx tl q = 0 := if_neg h
/-- rows but the draft's are as they were -/
def Dsame (f f9 : Nat → Nat → Nat) : Prop := ∀ a, a ∉ [139, 145, 146, 147] → f9 a = f a
theorem Dsame.rf {f : Nat → Nat → Nat} : Dsame f f := fun _ _ => rfl
theorem Dsame.tr {f f1 f2 : Nat → Nat → Nat} (h1 : Dsame f f1) (h2 : Dsame f1 f2) : Dsame f f2 := fun a ha => (h2 a ha).trans (h1 a ha)
theorem Dsame.of {f f9 : Nat → Nat → Nat} {S : List Nat} (h : ∀ a, a ∉ S → f9 a = f a) (hs : ∀ a, a ∈ S → a ∈ [139, 145, 146, 147]) : Dsame f f9 := fun a ha => h a (fun q => ha (hs a q))
