/-! small rows for the walks over what can be empty -/
theorem ne_yes {t em : Nat} (h : t ≠ NO ∧ em.testBit t = true) : (!(decide (t ≠ NO) && em.testBit t)) = false := by simp [h.1, h.2]
theorem ne_no {t em : Nat} (h : ¬ (t ≠ NO ∧ em.testBit t = true)) : (!(decide (t ≠ NO) && em.testBit t)) = true := by
  simp only [Bool.not_eq_true', Bool.and_eq_false_iff, decide_eq_false_iff_not]
  by_cases q : t ≠ NO
  · right
    cases q2 : em.testBit t with
    | false => rfl
    | true => exact absurd ⟨q, q2⟩ h
  · exact Or.inl q
theorem neC_le (tg it : Nat → Nat) (e : Nat → Bool) (a : Nat) : neC tg it e a ≤ it a := cnt_le _ _
theorem he_yes {al_ tg it : Nat → Nat} {e : Nat → Bool} {r a : Nat} (ha : a < al_ r) (h : neC tg it e (r * 4 + a) = 0) : heB al_ tg it e r = true := heB_iff.mpr ⟨a, ha, neC_0.mp h⟩
theorem he_no {al_ tg it : Nat → Nat} {e : Nat → Bool} {r : Nat} (h : ∀ a, a < al_ r → ¬ neC tg it e (r * 4 + a) = 0) : ¬ heB al_ tg it e r = true := fun q => by
  obtain ⟨a, ha, h2⟩ := heB_iff.mp q
  exact h a ha (neC_0.mpr h2)
theorem em_o {e2 y r : Nat} (h : r ≠ y) : (e2 ||| 2 ^ y).testBit r = e2.testBit r := by
  rw [Nat.testBit_or, Nat.testBit_two_pow, decide_eq_false (fun q => h q.symm), Bool.or_false]
theorem em_y {e2 y : Nat} {P : Prop} (h : P) : (fun r => (e2 ||| 2 ^ y).testBit r) y = true ↔ ((fun r => e2.testBit r) y = true ∨ P) := ⟨fun _ => Or.inr h, fun _ => or_pow_bit.mpr (Or.inr rfl)⟩
theorem em_n {e2 y : Nat} {P : Prop} (h : ¬ P) : (fun r => e2.testBit r) y = true ↔ ((fun r => e2.testBit r) y = true ∨ P) := ⟨Or.inl, fun q => q.resolve_right h⟩
theorem ed_cl {n : Nat} {al_ it tg : Nat → Nat} {e : Nat → Bool} (hc : CloT n al_ it tg) : ∀ r o, (fun r t => r < n ∧ ed al_ it tg e r t) r o → r < n ∧ o < n := by
  rintro r o ⟨h1, a, ha, k, hk, h2, h3, -⟩
  refine ⟨h1, ?_⟩
  rcases hc r a k h1 ha hk with q | q
  · exact absurd (h2.symm.trans q) h3
  · omega
