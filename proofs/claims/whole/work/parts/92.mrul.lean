/-! THE MODEL's draft of a rule -/
def MRul (tx : Nat → Nat) (tl p r m : Nat) (D Q : Nat → Nat) : Prop := D (9 + r) = m ∧ ∀ i, i < m → MAlt tx tl (bP tx tl p i) (r * 4 + i) (aK tx tl (bP tx tl p i)) D Q
/-- the draft's places of a rule -/
def rR_ (r q : Nat) : Prop := q = 9 + r ∨ (17 + 4 * r ≤ q ∧ q < 17 + 4 * r + 4) ∨ (49 + 60 * r ≤ q ∧ q < 49 + 60 * r + 60)
theorem MAlt.keep {tx : Nat → Nat} {tl p x m : Nat} {D Q D9 Q9 : Nat → Nat} (h : MAlt tx tl p x m D Q) (hm : m ≤ 5) (h1 : ∀ q, aR_ x q → D9 q = D q) (h2 : ∀ q, x * 5 ≤ q → q < x * 5 + 5 → Q9 q = Q q) : MAlt tx tl p x m D9 Q9 := by
  refine ⟨(h1 _ (Or.inl rfl)).trans h.1, fun j hj => ?_⟩
  obtain ⟨a1, a2, a3, a4⟩ := h.2 j hj
  exact ⟨(h1 _ (Or.inr (by omega))).trans a1, (h1 _ (Or.inr (by omega))).trans a2, (h1 _ (Or.inr (by omega))).trans a3, fun q => (h2 _ (by omega) (by omega)).trans (a4 q)⟩
theorem MRul.step {tx : Nat → Nat} {tl p r j : Nat} {D Q D9 Q9 : Nat → Nat} (h : MRul tx tl p r j D Q) (hr4 : j < 4) (hr8 : r < 8) (h1 : MAlt tx tl (bP tx tl p j) (r * 4 + j) (aK tx tl (bP tx tl p j)) D9 Q9) (h2 : ∀ q, ¬ aR_ (r * 4 + j) q → q ≠ 9 + r → D9 q = D q) (h3 : D9 (9 + r) = j + 1) (h4 : ∀ q, ¬ ((r * 4 + j) * 5 ≤ q ∧ q < (r * 4 + j) * 5 + 5) → Q9 q = Q q) : MRul tx tl p r (j + 1) D9 Q9 := by
  refine ⟨h3, fun i hi => ?_⟩
  by_cases e : i = j
  · subst e; exact h1
  · have hk := (aK_sp tx tl (bP tx tl p i)).1
    refine (h.2 i (by omega)).keep hk (fun q hq => h2 q (fun q2 => ?_) ?_) (fun q q1 q2 => h4 q (by omega))
    · unfold aR_ at hq q2; omega
    · unfold aR_ at hq; omega
theorem rR_al {r j q : Nat} (hj : j < 4) (h : ¬ rR_ r q) : ¬ aR_ (r * 4 + j) q ∧ q ≠ 9 + r := by
  unfold rR_ at h; unfold aR_; omega
theorem soft_47 {tx : Nat → Nat} {tl p : Nat} (h : aF tx tl p = NO ∨ aF tx tl p = aE tx tl p) (hp : p ≤ tl) (htl : tl ≤ 240) (hs : stp (hr tx tl (aE tx tl p)) = true) : aF tx tl p = NO := by
  unfold aF; rw [if_pos hs]
theorem aE_sk (tx : Nat → Nat) (tl p : Nat) : sk tx tl (aE tx tl p) = aE tx tl p := aP_sk tx tl p _
theorem bE_sk (tx : Nat → Nat) (tl p : Nat) : sk tx tl (bE tx tl p) = bE tx tl p := aE_sk tx tl _
theorem stp47 : stp 47 = true := by decide
theorem ru_start {tx : Nat → Nat} {tl p i c : Nat} {D0 Q0 D9 Q9 : Nat → Nat} {w : Nat} (hi7 : i < 8) (so : aF tx tl p = NO ∨ aF tx tl p = aE tx tl p) (MA : MAlt tx tl p (i * 4 + 0) (aK tx tl p) D9 Q9) (b : ∀ q, D9 q < 2147483648) (f : ∀ q, ¬ aR_ (i * 4 + 0) q → q ≠ 9 + i → D9 q = up (up (up D0 (1 + i) w) (9 + i) 0) 0 (i + 1) q) (n9 : D9 (9 + i) = 0 + 1) (hq : ∀ q, ¬ ((i * 4 + 0) * 5 ≤ q ∧ q < (i * 4 + 0) * 5 + 5) → Q9 q = Q0 q) (hw : w = c) : 0 < 4 ∧ (∀ q, q < 0 → bZ tx tl p q = false) ∧ (aF tx tl (bP tx tl p 0) = NO ∨ aF tx tl (bP tx tl p 0) = aE tx tl (bP tx tl p 0)) ∧ MRul tx tl p i (0 + 1) D9 Q9 ∧ (∀ q, D9 q < 2147483648) ∧ (∀ q, ¬ rR_ i q → q ≠ 0 → q ≠ 1 + i → D9 q = D0 q) ∧ D9 0 = i + 1 ∧ D9 (1 + i) = c ∧ (∀ q, ¬ (i * 20 ≤ q ∧ q < i * 20 + 20) → Q9 q = Q0 q) := by
  refine ⟨by decide, fun q hq => absurd hq (Nat.not_lt_zero _), so, ⟨n9, fun j hj => ?_⟩, b, fun q q1 q2 q3 => ?_, ?_, ?_, fun q q1 => hq q (by omega)⟩
  · have : j = 0 := by omega
    subst this
    exact MA
  · have h1 := rR_al (j := 0) (by decide) q1
    rw [f q h1.1 h1.2, up_n q2, up_n h1.2, up_n q3]
  · rw [f 0 (by unfold aR_; omega) (by omega), up_s]
  · rw [f (1 + i) (by unfold aR_; omega) (by omega), up_n (by omega), up_n (by omega), up_s, hw]
