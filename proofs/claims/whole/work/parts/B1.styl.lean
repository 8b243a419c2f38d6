/-! STRAYS and resolved names of the model's draft -/
theorem sSt_iff {tx : Nat → Nat} {tl x : Nat} : sSt (gK tx tl + 1) (cN tx tl) (gPt tx tl) (gFl tx tl) x ↔ (iN tx tl (gPos tx tl x) = true ∧ gTg tx tl (gK tx tl + 1) x = NO) := by
  unfold sSt
  rw [gFl_ne]
  constructor
  · rintro ⟨h1, h2⟩
    exact ⟨h1, by unfold gTg; rw [if_pos h1]; exact h2⟩
  · rintro ⟨h1, h2⟩
    refine ⟨h1, ?_⟩
    unfold gTg at h2; rw [if_pos h1] at h2; exact h2
theorem sty_m {tx : Nat → Nat} {tl v : Nat} (htl : tl ≤ 240) (h : gF tx tl = NO) (hs : stI (gK tx tl + 1) (cN tx tl) (gAl tx tl) (gIt tx tl) (gPt tx tl) (gFl tx tl) (gPp tx tl) ((gK tx tl + 1) * 20) v) : (v = NO ∧ NoSty tx tl) ∨ (v ≠ NO ∧ Sty tx tl v) := by
  have hlt : ∀ r a k, gV tx tl r a k → (r * 4 + a) * 5 + k < (gK tx tl + 1) * 20 := fun r a k hv => by
    have hb := gV_b htl h hv
    have := hv.1
    omega
  rcases hs with ⟨h1, h2⟩ | ⟨h1, ⟨r, a, k, b1, b2, b3, b4⟩, h3⟩
  · exact Or.inl ⟨h1, fun r a k hv hi ht => h2 r a k hv (hlt r a k hv) (sSt_iff.mpr ⟨hi, ht⟩)⟩
  · obtain ⟨c1, c2⟩ := sSt_iff.mp b3
    refine Or.inr ⟨by unfold NO; omega, r, a, k, b1, c1, c2, b4, fun r2 a2 k2 v2 i2 t2 => h3 r2 a2 k2 v2 (hlt r2 a2 k2 v2) (sSt_iff.mpr ⟨i2, t2⟩)⟩
theorem drg_T {f : Nat → Nat → Nat} {tx : Nat → Nat} {tl : Nat} (h : DrG f (gK tx tl + 1) (cN tx tl) (gAl tx tl) (gIt tx tl) (gPt tx tl) (gFl tx tl)) (hN : NoSty tx tl) : DrG f (gK tx tl + 1) (cN tx tl) (gAl tx tl) (gIt tx tl) (gPt tx tl) (gTg tx tl (gK tx tl + 1)) ∧ DrR (gK tx tl + 1) (cN tx tl) (gAl tx tl) (gIt tx tl) (gPt tx tl) (gTg tx tl (gK tx tl + 1)) := by
  refine ⟨⟨h.1, h.2.1, h.2.2.1, h.2.2.2.1, fun r a k h1 h2 h3 => ?_⟩, fun r a k h1 h2 h3 h4 => ?_⟩
  · obtain ⟨e1, e2⟩ := h.2.2.2.2 r a k h1 h2 h3
    refine ⟨e1, e2.trans ?_⟩
    by_cases q : iN tx tl (gPos tx tl ((r * 4 + a) * 5 + k)) = true
    · rw [if_neg (gFl_ne.mpr q), if_neg (hN r a k ⟨h1, h2, h3⟩ q)]
    · have e3 : gFl tx tl ((r * 4 + a) * 5 + k) = NO := by unfold gFl; rw [if_neg q]
      have e4 : gTg tx tl (gK tx tl + 1) ((r * 4 + a) * 5 + k) = NO := by unfold gTg; rw [if_neg q]
      rw [if_pos e3, if_pos e4]
  · have hi : iN tx tl (gPos tx tl ((r * 4 + a) * 5 + k)) = true := Classical.byContradiction fun q => h4 (by unfold gTg; rw [if_neg q])
    unfold gTg at h4 ⊢
    rw [if_pos hi] at h4 ⊢
    refine ⟨rfl, ?_⟩
    rcases srch_spec (fun q => cN tx tl q == gPt tx tl ((r * 4 + a) * 5 + k)) (gK tx tl + 1) 0 with ⟨q, -⟩ | ⟨-, q, -⟩
    · exact absurd q h4
    · omega
