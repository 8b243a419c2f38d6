/-! THE MODEL's draft, as rules -/
def DrG (f : Nat → Nat → Nat) (n : Nat) (gn al_ it pt tg : Nat → Nat) : Prop := f 145 0 = n ∧ (∀ r, r < n → f 145 (1 + r) = gn r) ∧ (∀ r, r < n → f 145 (9 + r) = al_ r ∧ al_ r ≤ 4) ∧ (∀ r a, r < n → a < al_ r → f 145 (17 + (r * 4 + a)) = it (r * 4 + a) ∧ it (r * 4 + a) ≤ 5) ∧ ∀ r a k, r < n → a < al_ r → k < it (r * 4 + a) → f 145 (49 + 3 * ((r * 4 + a) * 5 + k)) = pt ((r * 4 + a) * 5 + k) ∧ f 145 (49 + 3 * ((r * 4 + a) * 5 + k) + 1) = (if tg ((r * 4 + a) * 5 + k) = NO then 0 else 1)
/-- and its names are resolved -/
def DrR (n : Nat) (gn al_ it pt tg : Nat → Nat) : Prop := ∀ r a k, r < n → a < al_ r → k < it (r * 4 + a) → tg ((r * 4 + a) * 5 + k) ≠ NO → srch (fun q => gn q == pt ((r * 4 + a) * 5 + k)) 0 n = tg ((r * 4 + a) * 5 + k) ∧ tg ((r * 4 + a) * 5 + k) < n
theorem DrR.clo {n : Nat} {gn al_ it pt tg : Nat → Nat} (h : DrR n gn al_ it pt tg) : CloT n al_ it tg := fun r a k h1 h2 h3 => by
  by_cases e : tg ((r * 4 + a) * 5 + k) = NO
  · exact Or.inl e
  · exact Or.inr (h r a k h1 h2 h3 e).2
/-- all items of an alt but one can be empty -/
def iaB (tg : Nat → Nat) (e : Nat → Bool) (x bt : Nat) : Nat → Bool
  | 0 => true
  | n + 1 => iaB tg e x bt n && (decide (n = bt) || (decide (tg (x * 5 + n) ≠ NO) && e (tg (x * 5 + n))))
theorem iaB_all {tg : Nat → Nat} {e : Nat → Bool} {x bt : Nat} : ∀ {n : Nat}, iaB tg e x bt n = true ↔ ∀ k, k < n → k ≠ bt → tg (x * 5 + k) ≠ NO ∧ e (tg (x * 5 + k)) = true
  | 0 => ⟨fun _ k h => by omega, fun _ => rfl⟩
  | n + 1 => by
    rw [iaB, Bool.and_eq_true, iaB_all (n := n), Bool.or_eq_true, Bool.and_eq_true, decide_eq_true_eq, decide_eq_true_eq]
    constructor
    · rintro ⟨h1, h2⟩ k hk hn
      by_cases q : k = n
      · subst q
        rcases h2 with h2 | h2
        · exact absurd h2 hn
        · exact h2
      · exact h1 k (by omega) hn
    · intro h
      refine ⟨fun k hk hn => h k (by omega) hn, ?_⟩
      by_cases q : n = bt
      · exact Or.inl q
      · exact Or.inr (h n (by omega) q)
theorem iaB_s {tg : Nat → Nat} {e : Nat → Bool} {x bt n s : Nat} {P : Prop} [Decidable P] (h : s = (if iaB tg e x bt n = true then 1 else 0)) (hp : P ↔ (s ≠ 0 ∧ (n = bt ∨ (tg (x * 5 + n) ≠ NO ∧ e (tg (x * 5 + n)) = true)))) : (if P then 1 else 0) = (if iaB tg e x bt (n + 1) = true then 1 else 0) := by
  apply ite_cg
  rw [hp, iaB, Bool.and_eq_true, Bool.or_eq_true, Bool.and_eq_true, decide_eq_true_eq, decide_eq_true_eq]
  have h1 : s ≠ 0 ↔ iaB tg e x bt n = true := by rw [h]; split <;> simp_all
  rw [h1]
theorem iaB_em {tg it : Nat → Nat} {e : Nat → Bool} {x : Nat} (h5 : it x ≤ 5) : iaB tg e x NO (it x) = true ↔ emA tg it e x := by
  rw [iaB_all]
  exact ⟨fun h k hk => h k hk (by unfold NO; omega), fun h k hk _ => h k hk⟩
/-- a row of truths as bits -/
def bR (E : Nat → Nat) : Nat → Bool := fun r => decide (E r = 1)
theorem le_step {tg it al_ E2 E3 : Nat → Nat} {y a : Nat} (h0 : ∀ q, E2 q ≤ 1) (ha : a + 1 ≤ al_ y) (h1 : ∀ q, E3 q ≤ 1) (h2 : ∀ q, q ≠ y → E3 q = E2 q) (h3 : E3 y = 1 ↔ (E2 y = 1 ∨ ∃ a9, a9 < a ∧ emA tg it (bR E2) (y * 4 + a9))) (h5 : it (y * 4 + a) ≤ 5) : a + 1 ≤ al_ y ∧ (∀ q, up E3 y (if E3 y ≠ 0 ∨ iaB tg (bR E3) (y * 4 + a) NO (it (y * 4 + a)) = true then 1 else 0) q ≤ 1) ∧ (∀ q, q ≠ y → up E3 y (if E3 y ≠ 0 ∨ iaB tg (bR E3) (y * 4 + a) NO (it (y * 4 + a)) = true then 1 else 0) q = E2 q) ∧ (up E3 y (if E3 y ≠ 0 ∨ iaB tg (bR E3) (y * 4 + a) NO (it (y * 4 + a)) = true then 1 else 0) y = 1 ↔ (E2 y = 1 ∨ ∃ a9, a9 < a + 1 ∧ emA tg it (bR E2) (y * 4 + a9))) := by
  have hy := h1 y
  refine ⟨ha, fun q => ?_, fun q hq => by rw [up_n hq]; exact h2 q hq, ?_⟩
  · unfold up; split
    · split <;> decide
    · exact h1 q
  · rw [up_s]
    by_cases e : E3 y = 1
    · rw [if_pos (Or.inl (by omega))]
      refine ⟨fun _ => ?_, fun _ => rfl⟩
      rcases h3.mp e with q | ⟨a9, q1, q2⟩
      · exact Or.inl q
      · exact Or.inr ⟨a9, by omega, q2⟩
    · have e0 : E3 y = 0 := by omega
      have hE : E3 = E2 := by
        funext q
        by_cases q1 : q = y
        · subst q1
          have h4 : ¬ E2 q = 1 := fun q2 => e (h3.mpr (Or.inl q2))
          have := h0 q
          omega
        · exact h2 q q1
      rw [hE]
      have hE2 : E2 y = 0 := by rw [← hE]; exact e0
      have hi := @iaB_em tg it (bR E2) (y * 4 + a) h5
      by_cases q : iaB tg (bR E2) (y * 4 + a) NO (it (y * 4 + a)) = true
      · rw [if_pos (Or.inr q)]
        exact ⟨fun _ => Or.inr ⟨a, by omega, hi.mp q⟩, fun _ => rfl⟩
      · rw [if_neg (fun q2 => q2.elim (fun q3 => q3 hE2) q)]
        refine ⟨fun q2 => (by cases q2), fun q2 => ?_⟩
        exfalso
        rcases q2 with q2 | ⟨a9, q3, q4⟩
        · omega
        · by_cases q5 : a9 = a
          · subst q5; exact q (hi.mpr q4)
          · exact e (h3.mpr (Or.inr ⟨a9, by omega, q4⟩))
theorem le_fin {al_ tg it E2 E3 : Nat → Nat} {y a : Nat} (ha : a = al_ y) (h : E3 y = 1 ↔ (E2 y = 1 ∨ ∃ a9, a9 < a ∧ emA tg it (bR E2) (y * 4 + a9))) : bR E3 y = true ↔ (bR E2 y = true ∨ emR al_ it tg (bR E2) y) := by
  unfold bR
  rw [decide_eq_true_eq, decide_eq_true_eq, h, ha]
  exact Iff.rfl
