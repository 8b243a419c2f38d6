/-! THE MODEL's row out of what was kept -/
def kRi (f : Nat → Nat → Nat) (j i : Nat) : Nat → Nat := fun q => if q < i then f 141 (590 * j + q) else f 140 q
theorem kRi_0 (f : Nat → Nat → Nat) (j : Nat) : kRi f j 0 = f 140 := by funext q; unfold kRi; rw [if_neg (by omega)]
theorem kRi_s {f : Nat → Nat → Nat} {j i : Nat} : up (kRi f j i) i (f 141 (590 * j + i)) = kRi f j (i + 1) := by
  funext q; unfold up kRi
  by_cases e : q = i
  · rw [if_pos e, if_pos (by omega), e]
  · rw [if_neg e]
    by_cases e2 : q < i
    · rw [if_pos e2, if_pos (by omega)]
    · rw [if_neg e2, if_neg (by omega)]
theorem kRi_F {f : Nat → Nat → Nat} {j i : Nat} (h : SafeF f) (hk : ∀ q, f 141 q < 2147483648) : SafeF (fset f 140 (kRi f j i)) := ⟨fun q => by
  show kRi f j i q < _
  unfold kRi; split
  · exact hk _
  · exact h.1 q, h.2⟩
