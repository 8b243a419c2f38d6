/-! THE MODEL's draft of all rules -/
def MRd (tx : Nat → Nat) (tl i : Nat) (D N Q : Nat → Nat) : Prop := ∀ r, r < i → D (1 + r) = cN tx tl r ∧ N r = nQ tx tl (cP tx tl r) ∧ MRul tx tl (cA tx tl r) r (bK tx tl (cA tx tl r) + 1) D Q ∧ bK tx tl (cA tx tl r) < 4
theorem MRul.keep {tx : Nat → Nat} {tl p r m : Nat} {D Q D9 Q9 : Nat → Nat} (h : MRul tx tl p r m D Q) (hm : m ≤ 4) (h1 : ∀ q, rR_ r q → D9 q = D q) (h2 : ∀ q, r * 20 ≤ q → q < r * 20 + 20 → Q9 q = Q q) : MRul tx tl p r m D9 Q9 := by
  refine ⟨(h1 _ (Or.inl rfl)).trans h.1, fun i hi => (h.2 i hi).keep (aK_sp tx tl _).1 (fun q hq => h1 q ?_) (fun q q1 q2 => h2 q (by omega) (by omega))⟩
  unfold aR_ at hq; unfold rR_; omega
theorem MRd.step {tx : Nat → Nat} {tl i : Nat} {D N Q D9 N9 Q9 : Nat → Nat} (h : MRd tx tl i D N Q) (hi : i < 8) (h1 : MRul tx tl (cA tx tl i) i (bK tx tl (cA tx tl i) + 1) D9 Q9) (h2 : ∀ q, ¬ rR_ i q → q ≠ 0 → q ≠ 1 + i → D9 q = D q) (h3 : D9 (1 + i) = cN tx tl i) (h4 : ∀ q, ¬ (i * 20 ≤ q ∧ q < i * 20 + 20) → Q9 q = Q q) (h5 : N9 = up N i (nQ tx tl (cP tx tl i))) (h6 : bK tx tl (cA tx tl i) < 4) : MRd tx tl (i + 1) D9 N9 Q9 := fun r hr => by
  by_cases e : r = i
  · subst e; exact ⟨h3, by rw [h5, up_s], h1, h6⟩
  · obtain ⟨a1, a2, a3, a4⟩ := h r (by omega)
    refine ⟨(h2 _ (by unfold rR_; omega) (by omega) (by omega)).trans a1, by rw [h5, up_n e]; exact a2, a3.keep (by omega) (fun q hq => h2 q ?_ ?_ ?_) (fun q q1 q2 => h4 q (by omega)), a4⟩
    · unfold rR_ at hq ⊢; omega
    · unfold rR_ at hq; omega
    · unfold rR_ at hq; omega
/-- behind a rule whose end is no stop there is a fault, and before ';' or the end there is none -/
theorem rd_stop {tx : Nat → Nat} {tl i : Nat} (htl : tl ≤ 240) (hca : cA tx tl i ≤ tl) (hcf : cF tx tl i = bF tx tl (cA tx tl i)) (hz : ∀ j, j < bK tx tl (cA tx tl i) → bZ tx tl (cA tx tl i) j = false) (hk : bK tx tl (cA tx tl i) < 4) : bE tx tl (cA tx tl i) ≤ tl ∧ (hr tx tl (bE tx tl (cA tx tl i)) = NO ∨ hr tx tl (bE tx tl (cA tx tl i)) = 59 → cF tx tl i = NO) ∧ (¬ (hr tx tl (bE tx tl (cA tx tl i)) = NO ∨ hr tx tl (bE tx tl (cA tx tl i)) = 59) → cF tx tl i = NO → False) := by
  have hb := bP_b (tx := tx) hca htl hz
  have he := aE_b (tx := tx) hb.2 htl
  obtain ⟨f1, f2⟩ := bF_at (tx := tx) (tl := tl) (p := cA tx tl i) rfl hk
  refine ⟨by rw [f2]; exact he.2, fun q => ?_, fun q q2 => ?_⟩
  · rw [hcf, f1]
    rw [f2] at q
    unfold aF
    have hst : stp (hr tx tl (aE tx tl (bP tx tl (cA tx tl i) (bK tx tl (cA tx tl i))))) = true := decide_eq_true (q.elim Or.inl (fun q2 => Or.inr (Or.inl q2)))
    rw [if_pos hst]
  · rw [hcf, f1] at q2
    rw [f2] at q
    have hst := aE_st q2 hb.2 htl
    have hst2 := of_decide_eq_true hst
    have h47 : hr tx tl (aE tx tl (bP tx tl (cA tx tl i) (bK tx tl (cA tx tl i)))) = 47 := by
      rcases hst2 with r | r | r
      · exact absurd (Or.inl r) q
      · exact absurd (Or.inr r) q
      · exact r
    have hzk := bZ_no q2 h47
    rcases srch_spec (bZ tx tl (cA tx tl i)) 4 0 with ⟨h1, _⟩ | ⟨_, _, h3, _⟩
    · have : bK tx tl (cA tx tl i) = NO := h1
      unfold NO at this; omega
    · have h4 : bZ tx tl (cA tx tl i) (bK tx tl (cA tx tl i)) = true := h3
      rw [hzk] at h4; cases h4
/-- a draft without a fault is what the text spells -/
theorem MRd.dr {f : Nat → Nat → Nat} {tx : Nat → Nat} {tl : Nat} (htl : tl ≤ 240) (h : gF tx tl = NO) (h0 : f 145 0 = gK tx tl + 1) (hm : MRd tx tl (gK tx tl + 1) (f 145) (f 146) (f 147)) : DrG f (gK tx tl + 1) (cN tx tl) (gAl tx tl) (gIt tx tl) (gPt tx tl) (gFl tx tl) ∧ ∀ r a k, sVl (gK tx tl + 1) (gAl tx tl) (gIt tx tl) r a k → gFl tx tl ((r * 4 + a) * 5 + k) ≠ NO → f 147 ((r * 4 + a) * 5 + k) = gPp tx tl ((r * 4 + a) * 5 + k) ∧ gPp tx tl ((r * 4 + a) * 5 + k) < 2147483648 := by
  have key : ∀ r a k, sVl (gK tx tl + 1) (gAl tx tl) (gIt tx tl) r a k → (f 145 (49 + 3 * ((r * 4 + a) * 5 + k)) = gPt tx tl ((r * 4 + a) * 5 + k) ∧ f 145 (49 + 3 * ((r * 4 + a) * 5 + k) + 1) = (if gFl tx tl ((r * 4 + a) * 5 + k) = NO then 0 else 1)) ∧ (gFl tx tl ((r * 4 + a) * 5 + k) ≠ NO → f 147 ((r * 4 + a) * 5 + k) = gPp tx tl ((r * 4 + a) * 5 + k) ∧ gPp tx tl ((r * 4 + a) * 5 + k) < 2147483648) := by
    intro r a k hv
    have hb := gV_b htl h hv
    obtain ⟨-, -, a3, -⟩ := hm r hv.1
    obtain ⟨-, c2⟩ := a3.2 a (by have := hv.2.1; unfold gAl at this; exact this)
    obtain ⟨d1, d2, d3, d4⟩ := c2 k hb.2.2.2.2.2.2.1
    have hple := gPp_le htl h hv
    have hp := @gPos_at tx tl r a k hb.2.1 hb.2.2.1
    unfold gPt gFl gPp
    unfold gPp at hple
    rw [hp] at hple ⊢
    refine ⟨⟨d1, ?_⟩, fun q => ⟨d4 ?_, by omega⟩⟩
    · rw [d2]
      by_cases e : iN tx tl (aP tx tl (bP tx tl (cA tx tl r) a) k) = true
      · rw [if_pos e, if_pos e, if_neg (by decide)]
      · rw [if_neg e, if_neg e, if_pos rfl]
    · exact Classical.byContradiction fun e => q (by rw [if_neg e])
  refine ⟨⟨h0, fun r hr => (hm r hr).1, fun r hr => ?_, fun r a hr ha => ?_, fun r a k hr ha hk => (key r a k ⟨hr, ha, hk⟩).1⟩, fun r a k hv => (key r a k hv).2⟩
  · obtain ⟨-, -, a3, a4⟩ := hm r hr
    exact ⟨a3.1, by unfold gAl; omega⟩
  · obtain ⟨-, -, a3, a4⟩ := hm r hr
    unfold gAl at ha
    have := (a3.2 a ha).1
    rw [gIt_at (by omega)]
    exact ⟨this, (aK_sp tx tl _).1⟩
