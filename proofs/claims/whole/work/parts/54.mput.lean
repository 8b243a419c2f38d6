/-! PUTTING and ranges of the model's row -/
theorem ll_z {c : Nat} {li : Nat → Nat} (h : li (c - 1) < 1000000) : (Int32.toInt64 (if c = 0 then -1 else nI (li (c - 1)))).toInt = (if c = 0 then -1 else ((li (c - 1) : Nat) : Int)) := by
  by_cases e : c = 0
  · rw [if_pos e, if_pos e]; decide
  · rw [if_neg e, if_neg e]; exact l_nI (by omega)
theorem th_s {li co : Nat → Nat} {l d i s : Nat} (h : s = (if cnt (thB li co l d) i ≠ 0 then 1 else 0)) : (if s ≠ 0 ∨ (li i = l ∧ co i = d) then 1 else 0) = (if cnt (thB li co l d) (i + 1) ≠ 0 then 1 else 0) := by
  apply ite_cg
  rw [cnt]
  have h1 : s ≠ 0 ↔ cnt (thB li co l d) i ≠ 0 := by rw [h]; split <;> simp_all
  rw [h1]
  by_cases e : li i = l ∧ co i = d
  · have : thB li co l d i = true := decide_eq_true e
    rw [if_pos this]; omega
  · have : ¬ thB li co l d i = true := fun q => e (of_decide_eq_true q)
    rw [if_neg this]; omega
theorem pu_no {li co : Nat → Nat} {l d k : Nat} (h : l < li k ∨ (li k = l ∧ d < co k)) : ahB li co l d k = false := decide_eq_false (by omega)
theorem pu_ah {c : Nat} {li co : Nat → Nat} {l d k : Nat} (hs : Srt c li co) (hk : k ≤ c) (hth : cnt (thB li co l d) c = 0) (_ : c ≤ 20) (h : 0 < k → ¬ (l < li (k - 1) ∨ (li (k - 1) = l ∧ d < co (k - 1)))) : ∀ q, q < k → ahB li co l d q = true := fun q hq => by
  have h1 := h (by omega)
  have h2 := of_decide_eq_false (cnt_zero hth (k - 1) (by omega))
  apply decide_eq_true
  by_cases e : q = k - 1
  · rw [e]; omega
  · have := hs q (k - 1) (by omega) (by omega)
    omega
theorem rg_up {R w v : Nat → Nat} {b i : Nat} (h : ∀ q, R q = if b ≤ q ∧ q < b + i then v (q - b) else w q) (q : Nat) : up R (b + i) (v i) q = if b ≤ q ∧ q < b + (i + 1) then v (q - b) else w q := by
  unfold up
  by_cases e : q = b + i
  · rw [if_pos e, if_pos (by omega), e, Nat.add_sub_cancel_left]
  · rw [if_neg e, h]
    by_cases e2 : b ≤ q ∧ q < b + i
    · rw [if_pos e2, if_pos (by omega)]
    · rw [if_neg e2, if_neg (by omega)]
