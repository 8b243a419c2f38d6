/-! THE MODEL writes -/
def wrM (it pt tg bd : Nat → Nat) (r a : Nat) : List Nat := if a = 0 then [] else [58] ++ lc (wrB it pt tg bd r) a
theorem wrM_0 (it pt tg bd : Nat → Nat) (r : Nat) (l : List Nat) : l ++ wrM it pt tg bd r 0 = l := by rw [wrM, if_pos rfl, List.append_nil]
theorem wrM_s0 {it pt tg bd : Nat → Nat} {r a : Nat} {l : List Nat} (ha : a = 0) : l ++ wrM it pt tg bd r (a + 1) = l ++ wrM it pt tg bd r a ++ [58] ++ wrA it pt tg bd (r * 4 + a) := by
  subst ha
  rw [wrM_0, wrM, if_neg (by decide), lc, lc, wrB, if_neg (by decide)]
  simp
theorem wrM_s1 {it pt tg bd : Nat → Nat} {r a : Nat} {l : List Nat} (ha : ¬ a = 0) : l ++ wrM it pt tg bd r (a + 1) = l ++ wrM it pt tg bd r a ++ [47] ++ wrA it pt tg bd (r * 4 + a) := by
  rw [wrM, if_neg (by omega), wrM, if_neg ha, lc, wrB, if_pos (by omega)]
  simp
theorem wrR_M {gn al_ it pt tg bd : Nat → Nat} {r : Nat} (h : 1 ≤ al_ r) (l : List Nat) : l ++ wrR gn al_ it pt tg bd r = l ++ (if 0 < r then [59] else []) ++ [gn r] ++ wrM it pt tg bd r (al_ r) := by
  rw [wrR, wrM, if_neg (show ¬ al_ r = 0 by omega)]
  simp
theorem ite_tg {a : Nat} (h : (if a = NO then 0 else 1) = 0) : a = NO := by
  by_cases e : a = NO
  · exact e
  · rw [if_neg e] at h; cases h
theorem ite_tg1 {a : Nat} (h : ¬ (if a = NO then 0 else 1) = 0) : ¬ a = NO := fun e => h (if_pos e)
