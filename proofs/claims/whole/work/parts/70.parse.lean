/-! READING A GRAMMAR, purely: places in a text -/
def hr (tx : Nat → Nat) (tl p : Nat) : Nat := if p < tl then tx p else NO
def skF (tx : Nat → Nat) (tl : Nat) : Nat → Nat → Nat
  | 0, p => p
  | j + 1, p => if p < tl ∧ tx p = 32 then skF tx tl j (p + 1) else p
/-- the first place from one on that is no blank -/
def sk (tx : Nat → Nat) (tl p : Nat) : Nat := skF tx tl (tl - p) p
theorem sk_s {tx : Nat → Nat} {tl p : Nat} (h : p < tl) (hb : tx p = 32) : sk tx tl p = sk tx tl (p + 1) := by
  unfold sk
  rw [show tl - p = (tl - (p + 1)) + 1 by omega, skF, if_pos ⟨h, hb⟩]
theorem sk_e {tx : Nat → Nat} {tl p : Nat} (h : ¬ (p < tl ∧ tx p = 32)) : sk tx tl p = p := by
  unfold sk
  cases tl - p with
  | zero => rfl
  | succ j => rw [skF, if_neg h]
theorem skF_ge (tx : Nat → Nat) (tl : Nat) : ∀ j p, p ≤ skF tx tl j p
  | 0, p => Nat.le_refl _
  | j + 1, p => by
    rw [skF]; split
    · have := skF_ge tx tl j (p + 1); omega
    · exact Nat.le_refl _
theorem skF_le (tx : Nat → Nat) (tl : Nat) : ∀ j p, p ≤ tl → skF tx tl j p ≤ tl
  | 0, p, h => h
  | j + 1, p, h => by
    rw [skF]; split
    · exact skF_le tx tl j (p + 1) (by omega)
    · exact h
theorem skF_no (tx : Nat → Nat) (tl : Nat) : ∀ j p, tl - p ≤ j → ¬ (skF tx tl j p < tl ∧ tx (skF tx tl j p) = 32)
  | 0, p, h => by show ¬ (p < tl ∧ _); omega
  | j + 1, p, h => by
    rw [skF]; split
    · exact skF_no tx tl j (p + 1) (by omega)
    · assumption
theorem sk_ge (tx : Nat → Nat) (tl p : Nat) : p ≤ sk tx tl p := skF_ge tx tl _ p
theorem sk_le {tx : Nat → Nat} {tl p : Nat} (h : p ≤ tl) : sk tx tl p ≤ tl := skF_le tx tl _ p h
theorem sk_no (tx : Nat → Nat) (tl p : Nat) : ¬ (sk tx tl p < tl ∧ tx (sk tx tl p) = 32) := skF_no tx tl _ p (Nat.le_refl _)
theorem sk_sk (tx : Nat → Nat) (tl p : Nat) : sk tx tl (sk tx tl p) = sk tx tl p := sk_e (sk_no tx tl p)
def nmB (c : Nat) : Bool := decide (65 ≤ c ∧ c ≤ 90)
def bnB (c : Nat) : Bool := decide (c = 61 ∨ c = 62 ∨ c = 42)
def stp (c : Nat) : Bool := decide (c = NO ∨ c = 59 ∨ c = 47)
/-- where the part of an item stands -/
def iQ (tx : Nat → Nat) (tl p : Nat) : Nat := if bnB (hr tx tl p) = true then sk tx tl (p + 1) else p
def iF (tx : Nat → Nat) (tl p : Nat) : Nat := if nmB (hr tx tl (iQ tx tl p)) = true then NO else if hr tx tl (iQ tx tl p) = 39 then (if sgB (hr tx tl (iQ tx tl p + 1)) = true then NO else iQ tx tl p + 1) else iQ tx tl p
def iE (tx : Nat → Nat) (tl p : Nat) : Nat := if nmB (hr tx tl (iQ tx tl p)) = true then iQ tx tl p + 1 else iQ tx tl p + 2
def iV (tx : Nat → Nat) (tl p : Nat) : Nat := if nmB (hr tx tl (iQ tx tl p)) = true then hr tx tl (iQ tx tl p) else hr tx tl (iQ tx tl p + 1)
def iB (tx : Nat → Nat) (tl p : Nat) : Nat := if bnB (hr tx tl p) = true then hr tx tl p else 0
def iN (tx : Nat → Nat) (tl p : Nat) : Bool := nmB (hr tx tl (iQ tx tl p))
/-- the items of an alt -/
def aP (tx : Nat → Nat) (tl p : Nat) : Nat → Nat
  | 0 => sk tx tl p
  | k + 1 => sk tx tl (iE tx tl (aP tx tl p k))
def aZ (tx : Nat → Nat) (tl p k : Nat) : Bool := stp (hr tx tl (aP tx tl p k)) || decide (iF tx tl (aP tx tl p k) ≠ NO)
def aK (tx : Nat → Nat) (tl p : Nat) : Nat := if srch (aZ tx tl p) 0 5 = NO then 5 else srch (aZ tx tl p) 0 5
def aE (tx : Nat → Nat) (tl p : Nat) : Nat := aP tx tl p (aK tx tl p)
def aF (tx : Nat → Nat) (tl p : Nat) : Nat := if stp (hr tx tl (aE tx tl p)) = true then NO else if aK tx tl p = 5 then aE tx tl p else iF tx tl (aE tx tl p)
/-- the alts of a rule -/
def bP (tx : Nat → Nat) (tl p : Nat) : Nat → Nat
  | 0 => p
  | j + 1 => aE tx tl (bP tx tl p j) + 1
def bZ (tx : Nat → Nat) (tl p j : Nat) : Bool := decide (aF tx tl (bP tx tl p j) ≠ NO) || decide (hr tx tl (aE tx tl (bP tx tl p j)) ≠ 47)
def bK (tx : Nat → Nat) (tl p : Nat) : Nat := srch (bZ tx tl p) 0 4
def bF (tx : Nat → Nat) (tl p : Nat) : Nat := if bK tx tl p = NO then aE tx tl (bP tx tl p 3) else aF tx tl (bP tx tl p (bK tx tl p))
def bE (tx : Nat → Nat) (tl p : Nat) : Nat := aE tx tl (bP tx tl p (bK tx tl p))
/-- a rule's name, its colon, where its alts begin -/
def nQ (tx : Nat → Nat) (tl p : Nat) : Nat := sk tx tl p
def nC (tx : Nat → Nat) (tl p : Nat) : Nat := sk tx tl (sk tx tl p + 1)
/-- the rules: where each begins -/
def cP (tx : Nat → Nat) (tl : Nat) : Nat → Nat
  | 0 => 0
  | i + 1 => bE tx tl (nC tx tl (cP tx tl i) + 1) + 1
def cN (tx : Nat → Nat) (tl i : Nat) : Nat := hr tx tl (nQ tx tl (cP tx tl i))
/-- whether a rule's name is none, is there already, or is one too many -/
def cD (tx : Nat → Nat) (tl i : Nat) : Bool := !(nmB (cN tx tl i)) || decide (8 ≤ i) || decide (srch (fun q => cN tx tl q == cN tx tl i) 0 i ≠ NO)
def cF (tx : Nat → Nat) (tl i : Nat) : Nat := if cD tx tl i = true then nQ tx tl (cP tx tl i) else if hr tx tl (nC tx tl (cP tx tl i)) = 58 then bF tx tl (nC tx tl (cP tx tl i) + 1) else nC tx tl (cP tx tl i)
def cA (tx : Nat → Nat) (tl i : Nat) : Nat := nC tx tl (cP tx tl i) + 1
def cZ (tx : Nat → Nat) (tl i : Nat) : Bool := decide (cF tx tl i ≠ NO) || decide (hr tx tl (bE tx tl (cA tx tl i)) = NO)
/-- the last rule; the fault, if there is one -/
def gK (tx : Nat → Nat) (tl : Nat) : Nat := srch (cZ tx tl) 0 9
def gF (tx : Nat → Nat) (tl : Nat) : Nat := cF tx tl (gK tx tl)
theorem hr_lt {tx : Nat → Nat} {tl p : Nat} (h : ∀ q, tx q < 256) : hr tx tl p < 256 ∨ hr tx tl p = NO := by
  unfold hr; split
  · exact Or.inl (h p)
  · exact Or.inr rfl
theorem hr_in {tx : Nat → Nat} {tl p : Nat} (h : hr tx tl p ≠ NO) : p < tl := Classical.byContradiction fun q => h (if_neg q)
theorem hr_at {tx : Nat → Nat} {tl p : Nat} (h : p < tl) : hr tx tl p = tx p := if_pos h
theorem nm_in {tx : Nat → Nat} {tl p : Nat} (h : nmB (hr tx tl p) = true) : p < tl := hr_in (fun q => by rw [q] at h; revert h; decide)
theorem bn_in {tx : Nat → Nat} {tl p : Nat} (h : bnB (hr tx tl p) = true) : p < tl := hr_in (fun q => by rw [q] at h; revert h; decide)
theorem sg_in {tx : Nat → Nat} {tl p : Nat} (h : sgB (hr tx tl p) = true) : p < tl := hr_in (fun q => by rw [q] at h; revert h; decide)
theorem iQ_b {tx : Nat → Nat} {tl p : Nat} (h : p ≤ tl) : p ≤ iQ tx tl p ∧ iQ tx tl p ≤ tl := by
  unfold iQ; split
  · rename_i q
    have h1 := bn_in q
    have h2 := sk_ge tx tl (p + 1)
    have h3 := @sk_le tx tl (p + 1) (by omega)
    omega
  · omega
theorem iE_b {tx : Nat → Nat} {tl p : Nat} (h : p ≤ tl) (hf : iF tx tl p = NO) (htl : tl ≤ 240) : p < iE tx tl p ∧ iE tx tl p ≤ tl := by
  have hq := iQ_b (tx := tx) h
  unfold iF at hf
  unfold iE
  by_cases h1 : nmB (hr tx tl (iQ tx tl p)) = true
  · rw [if_pos h1]; have := nm_in h1; omega
  · rw [if_neg h1] at hf ⊢
    by_cases h2 : hr tx tl (iQ tx tl p) = 39
    · rw [if_pos h2] at hf
      by_cases h3 : sgB (hr tx tl (iQ tx tl p + 1)) = true
      · have := sg_in h3; omega
      · rw [if_neg h3] at hf; unfold NO at hf; omega
    · rw [if_neg h2] at hf; unfold NO at hf; omega
theorem iF_b {tx : Nat → Nat} {tl p : Nat} (h : p ≤ tl) : iF tx tl p = NO ∨ iF tx tl p ≤ tl := by
  have hq := iQ_b (tx := tx) h
  unfold iF
  by_cases h1 : nmB (hr tx tl (iQ tx tl p)) = true
  · rw [if_pos h1]; exact Or.inl rfl
  · rw [if_neg h1]
    by_cases h2 : hr tx tl (iQ tx tl p) = 39
    · rw [if_pos h2]
      have h4 : iQ tx tl p < tl := hr_in (by rw [h2]; decide)
      by_cases h3 : sgB (hr tx tl (iQ tx tl p + 1)) = true
      · rw [if_pos h3]; exact Or.inl rfl
      · rw [if_neg h3]; exact Or.inr (by omega)
    · rw [if_neg h2]; exact Or.inr hq.2
/-- the cells of the reader -/
def RdS (M : zM) (tl p : Nat) (tx : Nat → Nat) (n em : Nat) (gn al_ it pt tg bd fr af fb np pp : Nat → Nat) : Prop :=
  M[2]? = some (.inr (1, [.ref 3, .ref 13, .ref 14, .ref 1, .int (nI tl), .int (nI p)])) ∧ M[1]? = some (.inl (0, 240, .inl (ai tx))) ∧ M[13]? = some (.inl (0, 8, .inl (ai np))) ∧ M[14]? = some (.inl (0, 160, .inl (ai pp))) ∧ Seg M 3 (rulL 3 (n, gn, al_, it, pt, tg, bd, em, fr, af, fb))
/-- what a read item writes -/
def ItD (tx : Nat → Nat) (tl p x : Nat) (pt tg bd pp pt9 tg9 bd9 pp9 : Nat → Nat) : Prop := (∀ q, q ≠ x → pt9 q = pt q ∧ tg9 q = tg q ∧ bd9 q = bd q ∧ pp9 q = pp q) ∧ (iF tx tl p = NO → pt9 x = iV tx tl p ∧ tg9 x = (if iN tx tl p = true then 0 else NO) ∧ bd9 x = iB tx tl p ∧ (iN tx tl p = true → pp9 x = iQ tx tl p))
/-- numbers of items that the rules may hold -/
def SafeI (pt tg bd : Nat → Nat) : Prop := (∀ q, pt q < 128) ∧ (∀ q, tg q = 4294967295 ∨ tg q < 8) ∧ (∀ q, bd q < 128)
