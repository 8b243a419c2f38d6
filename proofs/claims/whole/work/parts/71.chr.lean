/-! LETTERS as ints; NO is -1 -/
theorem ci {c : Nat} (h : c < 256 ∨ c = NO) : (nI c).toInt = (if c = NO then -1 else (c : Int)) := by
  rcases h with h | h
  · rw [if_neg (by unfold NO; omega), nI_toInt (by omega)]
  · rw [h, if_pos rfl]; decide
theorem nm_iff {c : Nat} (h : c < 256 ∨ c = NO) : (65 ≤ (nI c).toInt ∧ (nI c).toInt ≤ 90) ↔ nmB c = true := by
  rw [ci h]; unfold nmB NO; rw [decide_eq_true_eq]
  split <;> omega
theorem sg_iff2 {c : Nat} (h : c < 256 ∨ c = NO) : (33 ≤ (nI c).toInt ∧ (nI c).toInt ≤ 126) ↔ sgB c = true := by
  rw [ci h]; unfold sgB NO; rw [decide_eq_true_eq]
  split <;> omega
theorem bn_iff {c : Nat} (h : c < 256 ∨ c = NO) : ((nI c).toInt = 61 ∨ (nI c).toInt = 62 ∨ (nI c).toInt = 42) ↔ bnB c = true := by
  rw [ci h]; unfold bnB NO; rw [decide_eq_true_eq]
  split <;> omega
theorem ceq {c k : Nat} (h : c < 256 ∨ c = NO) (hk : k < 256) : nI c = nI k ↔ c = k := by
  constructor
  · intro q
    have q2 := congrArg Int32.toInt q
    rw [ci h, nI_toInt (by omega)] at q2
    unfold NO at q2 h
    split at q2 <;> omega
  · intro q; rw [q]
theorem nm_lt {c : Nat} (h : nmB c = true) : 65 ≤ c ∧ c ≤ 90 := of_decide_eq_true h
theorem bn_lt {c : Nat} (h : bnB c = true) : c = 61 ∨ c = 62 ∨ c = 42 := of_decide_eq_true h
theorem sg_b {c : Nat} (h : sgB c = true) : 33 ≤ c ∧ c ≤ 126 := of_decide_eq_true h
theorem up_lt1 {g : Nat → Nat} {B x v : Nat} (h : ∀ q, g q < B) (hv : v < B) : ∀ q, up g x v q < B := up_lt h hv
theorem SafeI.put {pt tg bd : Nat → Nat} {x a b : Nat} (h : SafeI pt tg bd) (ha : a < 128) (hb : b = 0 ∨ b = 4294967295) : SafeI (up pt x a) (up tg x b) bd := ⟨up_lt h.1 ha, fun q => by show (if q = x then b else tg q) = _ ∨ (if q = x then b else tg q) < _; split <;> first | omega | exact h.2.1 q, h.2.2⟩
theorem tg_up {tg : Nat → Nat} {x v : Nat} (h : ∀ q, tg q = 4294967295 ∨ tg q < 8) (hv : v = 4294967295 ∨ v < 8) (q : Nat) : up tg x v q = 4294967295 ∨ up tg x v q < 8 := by
  unfold up; split
  · exact hv
  · exact h q
