/-! READING the alts of a rule, purely -/
def bS (tx : Nat → Nat) (tl p j : Nat) : Nat := if j < 4 then bP tx tl p j else aE tx tl (bP tx tl p 3)
theorem bS_lt {tx : Nat → Nat} {tl p j : Nat} (h : j < 4) : bS tx tl p j = bP tx tl p j := if_pos h
theorem bS_4 {tx : Nat → Nat} {tl p j : Nat} (h : j = 4) : bS tx tl p j = aE tx tl (bP tx tl p 3) := if_neg (by omega)
theorem bZ_no {tx : Nat → Nat} {tl p j : Nat} (h1 : aF tx tl (bP tx tl p j) = NO) (h2 : hr tx tl (aE tx tl (bP tx tl p j)) = 47) : bZ tx tl p j = false := by
  unfold bZ; rw [decide_eq_false (fun q => q h1), decide_eq_false (fun q => q h2)]; rfl
theorem bZ_f {tx : Nat → Nat} {tl p j : Nat} (h1 : aF tx tl (bP tx tl p j) ≠ NO) : bZ tx tl p j = true := by unfold bZ; rw [decide_eq_true h1]; rfl
theorem bZ_h {tx : Nat → Nat} {tl p j : Nat} (h1 : hr tx tl (aE tx tl (bP tx tl p j)) ≠ 47) : bZ tx tl p j = true := by unfold bZ; rw [decide_eq_true h1, Bool.or_true]
theorem bZ_of {tx : Nat → Nat} {tl p j : Nat} (h : bZ tx tl p j = false) : aF tx tl (bP tx tl p j) = NO ∧ hr tx tl (aE tx tl (bP tx tl p j)) = 47 :=
  ⟨Classical.byContradiction fun q => (by rw [bZ_f q] at h; cases h), Classical.byContradiction fun q => (by rw [bZ_h q] at h; cases h)⟩
theorem bP_b {tx : Nat → Nat} {tl p : Nat} (hp : p ≤ tl) (htl : tl ≤ 240) : ∀ {j : Nat}, (∀ i, i < j → bZ tx tl p i = false) → p ≤ bP tx tl p j ∧ bP tx tl p j ≤ tl
  | 0, _ => ⟨Nat.le_refl _, hp⟩
  | j + 1, h => by
    have ih := bP_b hp htl (j := j) (fun i hi => h i (by omega))
    have h1 := aE_b (tx := tx) ih.2 htl
    have h2 := (bZ_of (h j (by omega))).2
    have h3 : aE tx tl (bP tx tl p j) < tl := hr_in (by rw [h2]; decide)
    show p ≤ aE tx tl (bP tx tl p j) + 1 ∧ aE tx tl (bP tx tl p j) + 1 ≤ tl
    omega
theorem bS_b {tx : Nat → Nat} {tl p j : Nat} (hp : p ≤ tl) (htl : tl ≤ 240) (h : ∀ i, i < j → bZ tx tl p i = false) (hj : j ≤ 4) : bS tx tl p j ≤ tl := by
  by_cases e : j < 4
  · rw [bS_lt e]; exact (bP_b hp htl h).2
  · rw [bS_4 (by omega)]; exact (aE_b (bP_b hp htl (j := 3) (fun i hi => h i (by omega))).2 htl).2
theorem bK_at {tx : Nat → Nat} {tl p j : Nat} (h : ∀ i, i < j → bZ tx tl p i = false) (hj : j < 4) (hz : bZ tx tl p j = true) : bK tx tl p = j := srch_at hj h hz
theorem bK_no {tx : Nat → Nat} {tl p : Nat} (h : ∀ i, i < 4 → bZ tx tl p i = false) : bK tx tl p = NO := srch_none h
theorem bF_at {tx : Nat → Nat} {tl p j : Nat} (h : bK tx tl p = j) (hj : j < 4) : bF tx tl p = aF tx tl (bP tx tl p j) ∧ bE tx tl p = aE tx tl (bP tx tl p j) := by
  unfold bF bE; rw [h, if_neg (by unfold NO; omega)]; exact ⟨rfl, rfl⟩
theorem bF_no {tx : Nat → Nat} {tl p : Nat} (h : bK tx tl p = NO) : bF tx tl p = aE tx tl (bP tx tl p 3) := if_pos h
/-- alts that are read -/
def RulD (tx : Nat → Nat) (tl p r m : Nat) (it pt tg bd pp : Nat → Nat) : Prop := ∀ i, i < m → it (r * 4 + i) = aK tx tl (bP tx tl p i) ∧ AltD tx tl (bP tx tl p i) (r * 4 + i) (aK tx tl (bP tx tl p i)) pt tg bd pp
theorem RulD.keep {tx : Nat → Nat} {tl p r m lo hi : Nat} {it pt tg bd pp it9 pt9 tg9 bd9 pp9 : Nat → Nat} (h : RulD tx tl p r m it pt tg bd pp) (hi9 : ∀ q, ¬ (lo ≤ q ∧ q < hi) → it9 q = it q) (hf : FrS (lo * 5) (hi * 5) pt tg bd pp pt9 tg9 bd9 pp9) (ho : r * 4 + m ≤ lo ∨ hi ≤ r * 4) : RulD tx tl p r m it9 pt9 tg9 bd9 pp9 := fun i hi => by
  obtain ⟨h1, h2⟩ := h i hi
  have := (aK_sp tx tl (bP tx tl p i)).1
  exact ⟨(hi9 _ (by omega)).trans h1, h2.keep hf (by omega)⟩
theorem RulD.step {tx : Nat → Nat} {tl p r j : Nat} {it pt tg bd pp it9 pt9 tg9 bd9 pp9 : Nat → Nat} (h : RulD tx tl p r j it pt tg bd pp) (h1 : it9 = up it (r * 4 + j) (aK tx tl (bP tx tl p j)) ∧ AltD tx tl (bP tx tl p j) (r * 4 + j) (aK tx tl (bP tx tl p j)) pt9 tg9 bd9 pp9) (hf : FrS ((r * 4 + j) * 5) ((r * 4 + j) * 5 + 5) pt tg bd pp pt9 tg9 bd9 pp9) : RulD tx tl p r (j + 1) it9 pt9 tg9 bd9 pp9 := fun i hi => by
  by_cases e : i = j
  · subst e; exact ⟨by rw [h1.1, up_s], h1.2⟩
  · have hk := h.keep (lo := r * 4 + j) (hi := r * 4 + j + 1) (it9 := it9) (fun q hq => by rw [h1.1, up_n (by omega)]) (pt9 := pt9) (tg9 := tg9) (bd9 := bd9) (pp9 := pp9) (by rw [show (r * 4 + j + 1) * 5 = (r * 4 + j) * 5 + 5 by omega]; exact hf) (Or.inl (Nat.le_refl _))
    exact hk i (by omega)
theorem aE_st {tx : Nat → Nat} {tl p : Nat} (h : aF tx tl p = NO) (hp : p ≤ tl) (htl : tl ≤ 240) : stp (hr tx tl (aE tx tl p)) = true := Classical.byContradiction fun q => by
  have hb := aE_b (tx := tx) hp htl
  have hs := aK_sp tx tl p
  unfold aF at h
  rw [if_neg q] at h
  by_cases e : aK tx tl p = 5
  · rw [if_pos e] at h; unfold NO at h; omega
  · rw [if_neg e] at h
    have hz : aZ tx tl p (aK tx tl p) = true := by
      unfold aK at e ⊢
      rcases srch_spec (aZ tx tl p) 5 0 with ⟨h1, -⟩ | ⟨-, h2, h3, -⟩
      · rw [if_pos h1] at e; exact absurd rfl e
      · rw [if_neg (by unfold NO; omega)]; exact h3
    have := aZ_no (tx := tx) (tl := tl) (p := p) (k := aK tx tl p) q h
    rw [hz] at this; cases this
theorem it_up {I I9 : Nat → Nat} {a : Nat} {tx : Nat → Nat} {tl p : Nat} {P : Prop} (h : ∀ q, I q ≤ 5) (h1 : aF tx tl p = NO → I9 = up I a (aK tx tl p) ∧ P) (h2 : aF tx tl p ≠ NO → I9 = I) : ∀ q, I9 q ≤ 5 := fun q => by
  by_cases e : aF tx tl p = NO
  · rw [(h1 e).1]; unfold up; split
    · exact (aK_sp tx tl p).1
    · exact h q
  · rw [h2 e]; exact h q
theorem it_fr {I I9 it : Nat → Nat} {r j : Nat} {tx : Nat → Nat} {tl p : Nat} {P : Prop} (h : ∀ q, ¬ (r * 4 ≤ q ∧ q < r * 4 + 4) → I q = it q) (h1 : aF tx tl p = NO → I9 = up I (r * 4 + j) (aK tx tl p) ∧ P) (h2 : aF tx tl p ≠ NO → I9 = I) (hj : j < 4 := by omega) : ∀ q, ¬ (r * 4 ≤ q ∧ q < r * 4 + 4) → I9 q = it q := fun q hq => by
  by_cases e : aF tx tl p = NO
  · rw [(h1 e).1, up_n (by omega)]; exact h q hq
  · rw [h2 e]; exact h q hq
theorem al_up {A : Nat → Nat} {r v : Nat} (h : ∀ q, A q ≤ 4) (hv : v ≤ 4) : ∀ q, up A r v q ≤ 4 := fun q => by
  unfold up; split
  · exact hv
  · exact h q
