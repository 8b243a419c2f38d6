/-! truths of a row as numbers -/
theorem bR01 {E : Nat → Nat} {x : Nat} (h : E x ≤ 1) : (if bR E x = true then 1 else 0) = E x := by
  unfold bR
  by_cases e : E x = 1
  · rw [if_pos (decide_eq_true e), e]
  · rw [if_neg (by rw [decide_eq_false e]; decide)]; omega
theorem b01 {v : Nat} (h : v ≤ 1) : nI v = 0 ∨ nI v = 1 := by
  rcases Nat.lt_or_ge v 1 with q | q
  · left; rw [show v = 0 by omega]; rfl
  · right; rw [show v = 1 by omega]; rfl
