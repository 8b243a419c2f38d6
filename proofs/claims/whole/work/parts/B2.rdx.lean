/-! READING A GRAMMAR: what the model's reads leaves -/
theorem mv_lt {tx : Nat → Nat} {tl q : Nat} (h : ∀ q, tx q < 256) : mv tx tl q < 4294967296 := by
  unfold mv byv
  have := h q
  split
  · split <;> omega
  · decide
theorem hr_ne {tx : Nat → Nat} {tl p : Nat} (h : ∀ q, tx q < 256) (hp : p < tl) : hr tx tl p ≠ NO := by
  rw [hr_at hp]
  have := h p
  unfold NO; omega
/-- the bonds of a draft without a fault -/
theorem MRd.bd {tx : Nat → Nat} {tl : Nat} {D N Q : Nat → Nat} (htl : tl ≤ 240) (h : gF tx tl = NO) (hm : MRd tx tl (gK tx tl + 1) D N Q) : ∀ r a k, sVl (gK tx tl + 1) (gAl tx tl) (gIt tx tl) r a k → D (49 + 3 * ((r * 4 + a) * 5 + k) + 2) = gBd tx tl ((r * 4 + a) * 5 + k) := by
  intro r a k hv
  have hb := gV_b htl h hv
  obtain ⟨-, -, a3, -⟩ := hm r hv.1
  obtain ⟨-, c2⟩ := a3.2 a (by have := hv.2.1; unfold gAl at this; exact this)
  obtain ⟨-, -, d3, -⟩ := c2 k hb.2.2.2.2.2.2.1
  have hp := @gPos_at tx tl r a k hb.2.1 hb.2.2.1
  unfold gBd
  rw [hp]
  exact d3
/-- the model's draft holds the grammar that the text spells -/
def DrC (tx : Nat → Nat) (tl : Nat) (f : Nat → Nat → Nat) : Prop := DrG f (gK tx tl + 1) (cN tx tl) (gAl tx tl) (gIt tx tl) (gPt tx tl) (gTg tx tl (gK tx tl + 1)) ∧ ∀ r a k, sVl (gK tx tl + 1) (gAl tx tl) (gIt tx tl) r a k → f 145 (49 + 3 * ((r * 4 + a) * 5 + k) + 2) = gBd tx tl ((r * 4 + a) * 5 + k)
/-- the draft copied to the row -/
def dRi (f : Nat → Nat → Nat) (i : Nat) : Nat → Nat := fun q => if q < i then f 145 q else f 140 q
theorem dRi_0 (f : Nat → Nat → Nat) : dRi f 0 = f 140 := by funext q; unfold dRi; rw [if_neg (by omega)]
theorem dRi_s {f : Nat → Nat → Nat} {i : Nat} : up (dRi f i) i (f 145 i) = dRi f (i + 1) := by
  funext q; unfold up dRi
  by_cases e : q = i
  · rw [if_pos e, if_pos (by omega), e]
  · rw [if_neg e]
    by_cases e2 : q < i
    · rw [if_pos e2, if_pos (by omega)]
    · rw [if_neg e2, if_neg (by omega)]
theorem dRi_lt {f : Nat → Nat → Nat} {i q : Nat} (h : q < i) : dRi f i q = f 145 q := if_pos h
theorem dRi_ge {f : Nat → Nat → Nat} {i q : Nat} (h : i ≤ q) : dRi f i q = f 140 q := if_neg (by omega)
theorem DrC.row {tx : Nat → Nat} {tl n : Nat} {f g : Nat → Nat → Nat} {gn al_ it pt tg bd : Nat → Nat} (h : DrC tx tl f) (hA : AgG tx tl n gn al_ it pt tg bd) (hG : SafeG n gn al_ it pt tg bd) (hg : ∀ q, q < 529 → g 140 q = f 145 q) : RowG g n gn al_ it pt tg bd := by
  obtain ⟨⟨d0, d1, d2, d3, d4⟩, d5⟩ := h
  have hn8 := hG.1
  have hn := hA.1
  refine ⟨?_, fun r hr => ?_, fun r hr => ?_, fun r a hr ha => ?_, fun x hx => ?_⟩
  · rw [hg 0 (by decide), d0, hn]
  · rw [hg _ (by omega), d1 r (by omega), (hA.2 r hr).1]
  · rw [hg _ (by omega), (d2 r (by omega)).1, (hA.2 r hr).2.1]
  · have ha4 := hG.2.2.1 r
    rw [hg _ (by omega), (d3 r a (by omega) (by rw [← (hA.2 r hr).2.1]; exact ha)).1, ((hA.2 r hr).2.2 a ha).1]
  · obtain ⟨r, a, k, hr, ha, hk, rfl⟩ := hx
    have ha4 := hG.2.2.1 r
    have hi5 := hG.2.2.2.1 (r * 4 + a)
    obtain ⟨-, e2, e3⟩ := hA.2 r hr
    obtain ⟨e4, e5⟩ := e3 a ha
    obtain ⟨e6, e7, e8⟩ := e5 k hk
    have v1 : a < gAl tx tl r := by rw [← e2]; exact ha
    have v2 : k < gIt tx tl (r * 4 + a) := by rw [← e4]; exact hk
    obtain ⟨f1, f2⟩ := d4 r a k (by omega) v1 v2
    have f3 := d5 r a k ⟨by omega, v1, v2⟩
    refine ⟨?_, ?_, ?_⟩
    · rw [hg _ (by omega), f1, e6]
    · rw [hg _ (by omega), f2, e7, hn]
    · rw [hg _ (by omega), f3, e8]
theorem dRi_F {f : Nat → Nat → Nat} {i : Nat} (h : SafeF f) (hk : ∀ q, f 145 q < 2147483648) : SafeF (fset f 140 (dRi f i)) := ⟨fun q => by
  show dRi f i q < _
  unfold dRi; split
  · exact hk _
  · exact h.1 q, h.2⟩
