/-! READING alts and rules, purely -/
def AltD (tx : Nat → Nat) (tl p a m : Nat) (pt tg bd pp : Nat → Nat) : Prop := ∀ j, j < m → pt (a * 5 + j) = iV tx tl (aP tx tl p j) ∧ tg (a * 5 + j) = (if iN tx tl (aP tx tl p j) = true then 0 else NO) ∧ bd (a * 5 + j) = iB tx tl (aP tx tl p j) ∧ (iN tx tl (aP tx tl p j) = true → pp (a * 5 + j) = iQ tx tl (aP tx tl p j))
/-- slots outside a range are as they were -/
def FrS (lo hi : Nat) (pt tg bd pp pt9 tg9 bd9 pp9 : Nat → Nat) : Prop := ∀ q, ¬ (lo ≤ q ∧ q < hi) → pt9 q = pt q ∧ tg9 q = tg q ∧ bd9 q = bd q ∧ pp9 q = pp q
theorem FrS.rf {lo hi : Nat} {pt tg bd pp : Nat → Nat} : FrS lo hi pt tg bd pp pt tg bd pp := fun _ _ => ⟨rfl, rfl, rfl, rfl⟩
theorem FrS.tr {lo hi lo2 hi2 : Nat} {pt tg bd pp pt1 tg1 bd1 pp1 pt2 tg2 bd2 pp2 : Nat → Nat} (h1 : FrS lo hi pt tg bd pp pt1 tg1 bd1 pp1) (h2 : FrS lo2 hi2 pt1 tg1 bd1 pp1 pt2 tg2 bd2 pp2) (hl : lo ≤ lo2) (hh : hi2 ≤ hi) : FrS lo hi pt tg bd pp pt2 tg2 bd2 pp2 := fun q hq => by
  obtain ⟨a1, a2, a3, a4⟩ := h1 q hq
  obtain ⟨b1, b2, b3, b4⟩ := h2 q (by omega)
  exact ⟨b1.trans a1, b2.trans a2, b3.trans a3, b4.trans a4⟩
theorem ItD.frS {tx : Nat → Nat} {tl p x : Nat} {pt tg bd pp pt9 tg9 bd9 pp9 : Nat → Nat} (h : ItD tx tl p x pt tg bd pp pt9 tg9 bd9 pp9) : FrS x (x + 1) pt tg bd pp pt9 tg9 bd9 pp9 := fun q hq => h.1 q (by omega)
theorem AltD.keep {tx : Nat → Nat} {tl p a m lo hi : Nat} {pt tg bd pp pt9 tg9 bd9 pp9 : Nat → Nat} (h : AltD tx tl p a m pt tg bd pp) (hf : FrS lo hi pt tg bd pp pt9 tg9 bd9 pp9) (ho : a * 5 + m ≤ lo ∨ hi ≤ a * 5) : AltD tx tl p a m pt9 tg9 bd9 pp9 := fun j hj => by
  obtain ⟨b1, b2, b3, b4⟩ := hf (a * 5 + j) (by omega)
  obtain ⟨c1, c2, c3, c4⟩ := h j hj
  exact ⟨b1.trans c1, b2.trans c2, b3.trans c3, fun q => b4.trans (c4 q)⟩
theorem AltD.step {tx : Nat → Nat} {tl p a k : Nat} {pt tg bd pp pt9 tg9 bd9 pp9 : Nat → Nat} (h : AltD tx tl p a k pt tg bd pp) (hi : ItD tx tl (aP tx tl p k) (a * 5 + k) pt tg bd pp pt9 tg9 bd9 pp9) (hf : iF tx tl (aP tx tl p k) = NO) : AltD tx tl p a (k + 1) pt9 tg9 bd9 pp9 := fun j hj => by
  by_cases e : j = k
  · subst e; exact hi.2 hf
  · exact (h.keep hi.frS (Or.inl (Nat.le_refl _))) j (by omega)
/-- where the reader stands ahead of item k -/
def aS (tx : Nat → Nat) (tl p k : Nat) : Nat := if k = 0 then p else iE tx tl (aP tx tl p (k - 1))
theorem aS_sk {tx : Nat → Nat} {tl p k : Nat} : sk tx tl (aS tx tl p k) = aP tx tl p k := by
  unfold aS
  cases k with
  | zero => rw [if_pos rfl]; rfl
  | succ k => rw [if_neg (by omega), Nat.add_sub_cancel]; rfl
theorem aS_s (tx : Nat → Nat) (tl p k : Nat) : aS tx tl p (k + 1) = iE tx tl (aP tx tl p k) := by unfold aS; rw [if_neg (by omega), Nat.add_sub_cancel]
theorem aZ_no {tx : Nat → Nat} {tl p k : Nat} (h1 : ¬ stp (hr tx tl (aP tx tl p k)) = true) (h2 : iF tx tl (aP tx tl p k) = NO) : aZ tx tl p k = false := by
  unfold aZ
  rw [Bool.eq_false_iff.mpr h1, decide_eq_false (fun q => q h2)]; rfl
theorem aZ_st {tx : Nat → Nat} {tl p k : Nat} (h1 : stp (hr tx tl (aP tx tl p k)) = true) : aZ tx tl p k = true := by unfold aZ; rw [h1]; rfl
theorem aZ_it {tx : Nat → Nat} {tl p k : Nat} (h1 : iF tx tl (aP tx tl p k) ≠ NO) : aZ tx tl p k = true := by unfold aZ; rw [decide_eq_true h1, Bool.or_true]
theorem aK_at {tx : Nat → Nat} {tl p k : Nat} (h : ∀ j, j < k → aZ tx tl p j = false) (hk : k ≤ 5) (hz : k < 5 → aZ tx tl p k = true) : aK tx tl p = k := by
  unfold aK
  by_cases e : k < 5
  · rw [srch_at e h (hz e), if_neg (by unfold NO; omega)]
  · have e2 : k = 5 := by omega
    subst e2
    rw [srch_none h, if_pos rfl]
theorem aF_st {tx : Nat → Nat} {tl p k : Nat} (hk : aK tx tl p = k) (h1 : stp (hr tx tl (aP tx tl p k)) = true) : aF tx tl p = NO ∧ aE tx tl p = aP tx tl p k := by
  unfold aF aE; rw [hk]; exact ⟨if_pos h1, rfl⟩
theorem aF_5 {tx : Nat → Nat} {tl p k : Nat} (hk : aK tx tl p = k) (h1 : ¬ stp (hr tx tl (aP tx tl p k)) = true) (h5 : k = 5) : aF tx tl p = aP tx tl p k := by
  unfold aF aE; rw [hk, if_neg h1, if_pos h5]
theorem aF_i {tx : Nat → Nat} {tl p k : Nat} (hk : aK tx tl p = k) (h1 : ¬ stp (hr tx tl (aP tx tl p k)) = true) (h5 : k < 5) : aF tx tl p = iF tx tl (aP tx tl p k) := by
  unfold aF aE; rw [hk, if_neg h1, if_neg (by omega)]
theorem stp_iff {c : Nat} (h : c < 256 ∨ c = NO) : (nI c = -1 ∨ nI c = 59 ∨ nI c = 47) ↔ stp c = true := by
  unfold stp
  rw [decide_eq_true_eq]
  have h1 : nI c = -1 ↔ c = NO := by
    constructor
    · intro q
      have q2 := congrArg Int32.toInt q
      rw [ci h] at q2
      rcases h with h | h
      · rw [if_neg (by unfold NO; omega)] at q2
        have : (-1 : Int32).toInt = -1 := by decide
        omega
      · exact h
    · intro q; rw [q]; decide
  have h2 : nI c = 59 ↔ c = 59 := ceq h (show 59 < 256 by decide)
  have h3 : nI c = 47 ↔ c = 47 := ceq h (show 47 < 256 by decide)
  rw [h1, h2, h3]
theorem NO_iff {c : Nat} (h : c < 256 ∨ c = NO) : nI c = -1 ↔ c = NO := by
  constructor
  · intro q
    have q2 := congrArg Int32.toInt q
    rw [ci h] at q2
    rcases h with h | h
    · rw [if_neg (by unfold NO; omega)] at q2
      have : (-1 : Int32).toInt = -1 := by decide
      omega
    · exact h
  · intro q; rw [q]; decide
theorem aP_b {tx : Nat → Nat} {tl p : Nat} (hp : p ≤ tl) (htl : tl ≤ 240) : ∀ {k : Nat}, (∀ j, j < k → aZ tx tl p j = false) → p ≤ aP tx tl p k ∧ aP tx tl p k ≤ tl
  | 0, _ => ⟨sk_ge _ _ _, sk_le hp⟩
  | k + 1, h => by
    have ih := aP_b hp htl (k := k) (fun j hj => h j (by omega))
    have hz := h k (by omega)
    have hf : iF tx tl (aP tx tl p k) = NO := Classical.byContradiction fun q => by rw [aZ_it q] at hz; cases hz
    have hb := iE_b ih.2 hf htl
    have h1 := sk_ge tx tl (iE tx tl (aP tx tl p k))
    have h2 := @sk_le tx tl (iE tx tl (aP tx tl p k)) hb.2
    show p ≤ sk tx tl _ ∧ sk tx tl _ ≤ tl
    omega
theorem aS_b {tx : Nat → Nat} {tl p k : Nat} (hp : p ≤ tl) (htl : tl ≤ 240) (h : ∀ j, j < k → aZ tx tl p j = false) : aS tx tl p k ≤ tl := by
  unfold aS
  split
  · exact hp
  · have hb := aP_b hp htl (k := k - 1) (fun j hj => h j (by omega))
    have hz := h (k - 1) (by omega)
    have hf : iF tx tl (aP tx tl p (k - 1)) = NO := Classical.byContradiction fun q => by rw [aZ_it q] at hz; cases hz
    exact (iE_b hb.2 hf htl).2
theorem aK_sp (tx : Nat → Nat) (tl p : Nat) : aK tx tl p ≤ 5 ∧ ∀ j, j < aK tx tl p → aZ tx tl p j = false := by
  unfold aK
  rcases srch_spec (aZ tx tl p) 5 0 with ⟨h1, h2⟩ | ⟨-, h2, -, h4⟩
  · rw [if_pos h1]; exact ⟨Nat.le_refl _, fun j hj => h2 j (Nat.zero_le _) (by omega)⟩
  · rw [if_neg (by unfold NO; omega)]; exact ⟨by omega, fun j hj => h4 j (Nat.zero_le _) hj⟩
theorem aE_b {tx : Nat → Nat} {tl p : Nat} (hp : p ≤ tl) (htl : tl ≤ 240) : p ≤ aE tx tl p ∧ aE tx tl p ≤ tl := aP_b hp htl (aK_sp tx tl p).2
theorem aF_b {tx : Nat → Nat} {tl p : Nat} (hp : p ≤ tl) (htl : tl ≤ 240) : aF tx tl p = NO ∨ aF tx tl p ≤ tl := by
  have h := aE_b (tx := tx) hp htl
  unfold aF; split
  · exact Or.inl rfl
  · split
    · exact Or.inr h.2
    · exact iF_b h.2
