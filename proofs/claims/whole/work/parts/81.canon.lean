/-! THE GRAMMAR that a text spells -/
def gPos (tx : Nat → Nat) (tl x : Nat) : Nat := aP tx tl (bP tx tl (cA tx tl (x / 20)) (x / 5 % 4)) (x % 5)
def gAl (tx : Nat → Nat) (tl i : Nat) : Nat := bK tx tl (cA tx tl i) + 1
def gIt (tx : Nat → Nat) (tl a : Nat) : Nat := aK tx tl (bP tx tl (cA tx tl (a / 4)) (a % 4))
def gPt (tx : Nat → Nat) (tl x : Nat) : Nat := iV tx tl (gPos tx tl x)
def gFl (tx : Nat → Nat) (tl x : Nat) : Nat := if iN tx tl (gPos tx tl x) = true then 0 else NO
def gBd (tx : Nat → Nat) (tl x : Nat) : Nat := iB tx tl (gPos tx tl x)
def gPp (tx : Nat → Nat) (tl x : Nat) : Nat := iQ tx tl (gPos tx tl x)
def gTg (tx : Nat → Nat) (tl n x : Nat) : Nat := if iN tx tl (gPos tx tl x) = true then srch (fun q => cN tx tl q == gPt tx tl x) 0 n else NO
theorem gPos_at {tx : Nat → Nat} {tl r a k : Nat} (ha : a < 4) (hk : k < 5) : gPos tx tl ((r * 4 + a) * 5 + k) = aP tx tl (bP tx tl (cA tx tl r) a) k := by
  unfold gPos
  rw [show ((r * 4 + a) * 5 + k) / 20 = r by omega, show ((r * 4 + a) * 5 + k) / 5 % 4 = a by omega, show ((r * 4 + a) * 5 + k) % 5 = k by omega]
theorem gIt_at {tx : Nat → Nat} {tl r a : Nat} (ha : a < 4) : gIt tx tl (r * 4 + a) = aK tx tl (bP tx tl (cA tx tl r) a) := by
  unfold gIt
  rw [show (r * 4 + a) / 4 = r by omega, show (r * 4 + a) % 4 = a by omega]
/-- what is known of the rules that are read without a fault -/
theorem gOK {tx : Nat → Nat} {tl : Nat} (htl : tl ≤ 240) (h : gF tx tl = NO) : gK tx tl < 8 ∧ ∀ r, r < gK tx tl + 1 → cP tx tl r ≤ tl ∧ cD tx tl r = false ∧ bF tx tl (cA tx tl r) = NO ∧ cA tx tl r ≤ tl ∧ cP tx tl r ≤ cA tx tl r := by
  have key : ∀ r, cP tx tl r ≤ tl → cF tx tl r = NO → cD tx tl r = false ∧ bF tx tl (cA tx tl r) = NO ∧ cA tx tl r ≤ tl ∧ cP tx tl r ≤ cA tx tl r := by
    intro r hp hf
    have h1 := @sk_le tx tl (cP tx tl r) hp
    have h0 := sk_ge tx tl (cP tx tl r)
    cases hc : cD tx tl r with
    | true =>
      rw [cF_bad hc] at hf
      exfalso
      unfold NO nQ at hf; omega
    | false =>
      have hn : nmB (cN tx tl r) = true := by
        unfold cD at hc
        rw [Bool.or_eq_false_iff, Bool.or_eq_false_iff, Bool.not_eq_false'] at hc
        exact hc.1.1
      have hn2 := nm_in hn
      unfold nQ at hn2
      have h2 := @sk_le tx tl (sk tx tl (cP tx tl r) + 1) (by omega)
      have h3 := sk_ge tx tl (sk tx tl (cP tx tl r) + 1)
      rw [cF_ok hc] at hf
      by_cases h4 : hr tx tl (nC tx tl (cP tx tl r)) = 58
      · rw [if_pos h4] at hf
        have h5 : nC tx tl (cP tx tl r) < tl := hr_in (by rw [h4]; decide)
        refine ⟨rfl, hf, ?_, ?_⟩
        · unfold cA; omega
        · unfold cA nC at *; omega
      · rw [if_neg h4] at hf
        exfalso
        unfold NO nC at hf; omega
  have hb : ∀ r, (∀ j, j < r → cZ tx tl j = false) → cP tx tl r ≤ tl := by
    intro r
    induction r with
    | zero => exact fun _ => Nat.zero_le _
    | succ r ih =>
      intro hz
      have h1 := ih (fun j hj => hz j (by omega))
      have h2 := cZ_of (hz r (by omega))
      have h3 := key r h1 h2.1
      have h4 := hr_in h2.2
      show bE tx tl _ + 1 ≤ tl
      unfold cA at h4; omega
  rcases srch_spec (cZ tx tl) 9 0 with ⟨h1, h2⟩ | ⟨-, h2, h3, h4⟩
  · exfalso
    have hz := h2 8 (by omega) (by omega)
    have h5 := cZ_of hz
    have h6 := hb 8 (fun j hj => h2 j (Nat.zero_le _) (by omega))
    have h7 := (key 8 h6 h5.1).1
    unfold cD at h7
    simp at h7
  · have hle : gK tx tl ≤ 8 := by show srch _ _ _ ≤ 8; omega
    have hz : ∀ j, j < gK tx tl → cZ tx tl j = false := fun j hj => h4 j (Nat.zero_le _) hj
    have hall : ∀ r, r < gK tx tl + 1 → cP tx tl r ≤ tl ∧ cD tx tl r = false ∧ bF tx tl (cA tx tl r) = NO ∧ cA tx tl r ≤ tl ∧ cP tx tl r ≤ cA tx tl r := by
      intro r hr
      have h5 := hb r (fun j hj => hz j (by omega))
      have h6 : cF tx tl r = NO := by
        by_cases e : r = gK tx tl
        · rw [e]; exact h
        · exact (cZ_of (hz r (by omega))).1
      exact ⟨h5, key r h5 h6⟩
    refine ⟨?_, hall⟩
    rcases Nat.lt_or_ge (gK tx tl) 8 with q | q
    · exact q
    · exfalso
      have e : gK tx tl = 8 := by omega
      have h7 := (hall 8 (by omega)).2.1
      unfold cD at h7
      simp at h7
/-- slots that the text spells -/
def gV (tx : Nat → Nat) (tl r a k : Nat) : Prop := r < gK tx tl + 1 ∧ a < gAl tx tl r ∧ k < gIt tx tl (r * 4 + a)
theorem gV_b {tx : Nat → Nat} {tl r a k : Nat} (htl : tl ≤ 240) (h : gF tx tl = NO) (hv : gV tx tl r a k) : r < 8 ∧ a < 4 ∧ k < 5 ∧ (∀ i, i < bK tx tl (cA tx tl r) → bZ tx tl (cA tx tl r) i = false) ∧ aF tx tl (bP tx tl (cA tx tl r) a) = NO ∧ bP tx tl (cA tx tl r) a ≤ tl ∧ k < aK tx tl (bP tx tl (cA tx tl r) a) ∧ cA tx tl r ≤ bP tx tl (cA tx tl r) a ∧ a ≤ bK tx tl (cA tx tl r) ∧ bK tx tl (cA tx tl r) < 4 := by
  obtain ⟨h1, h2⟩ := gOK htl h
  obtain ⟨v1, v2, v3⟩ := hv
  obtain ⟨c1, c2, c3, c4, -⟩ := h2 r v1
  obtain ⟨d1, d2, d3⟩ := bK_sp c3 c4 htl
  unfold gAl at v2
  rw [gIt_at (by omega)] at v3
  have hk := (aK_sp tx tl (bP tx tl (cA tx tl r) a)).1
  have hz : ∀ i, i < a → bZ tx tl (cA tx tl r) i = false := fun i hi => d2 i (by omega)
  have hb := bP_b (tx := tx) c4 htl hz
  refine ⟨by omega, by omega, by omega, d2, ?_, hb.2, v3, hb.1, by omega, d1⟩
  by_cases e : a = bK tx tl (cA tx tl r)
  · rw [e]; exact d3
  · exact (bZ_of (d2 a (by omega))).1
theorem aZ_of {tx : Nat → Nat} {tl p k : Nat} (h : aZ tx tl p k = false) : ¬ stp (hr tx tl (aP tx tl p k)) = true ∧ iF tx tl (aP tx tl p k) = NO := by
  unfold aZ at h
  rw [Bool.or_eq_false_iff, decide_eq_false_iff_not] at h
  exact ⟨by rw [h.1]; decide, Classical.byContradiction h.2⟩
theorem gV_i {tx : Nat → Nat} {tl r a k : Nat} (htl : tl ≤ 240) (h : gF tx tl = NO) (hv : gV tx tl r a k) : iF tx tl (gPos tx tl ((r * 4 + a) * 5 + k)) = NO := by
  obtain ⟨b1, b2, b3, b4, b5, b6, b7, -⟩ := gV_b htl h hv
  rw [gPos_at b2 b3]
  exact (aZ_of ((aK_sp tx tl _).2 k b7)).2
theorem aP_up {tx : Nat → Nat} {tl p : Nat} (hp : p ≤ tl) (htl : tl ≤ 240) {k : Nat} (hk : k < aK tx tl p) : p ≤ iQ tx tl (aP tx tl p k) ∧ iQ tx tl (aP tx tl p k) < aP tx tl p (k + 1) := by
  have hs := aK_sp tx tl p
  have hb := aP_b (tx := tx) hp htl (k := k) (fun j hj => hs.2 j (by omega))
  have hf := (aZ_of (hs.2 k hk)).2
  have hq := iQ_b (tx := tx) hb.2
  have hg := sk_ge tx tl (iE tx tl (aP tx tl p k))
  have he : iQ tx tl (aP tx tl p k) < iE tx tl (aP tx tl p k) := by unfold iE; split <;> omega
  show _ ∧ _ < sk tx tl _
  omega
theorem aP_mono {tx : Nat → Nat} {tl p : Nat} (hp : p ≤ tl) (htl : tl ≤ 240) {k : Nat} : ∀ {m : Nat}, k < m → m ≤ aK tx tl p → iQ tx tl (aP tx tl p k) < aP tx tl p m
  | 0, h, _ => by omega
  | m + 1, h, hm => by
    by_cases e : k = m
    · subst e; exact (aP_up hp htl (by omega)).2
    · have h1 := aP_mono (tx := tx) hp htl (k := k) (m := m) (by omega) (by omega)
      have h2 := aP_up (tx := tx) hp htl (k := m) (by omega)
      have hb := aP_b (tx := tx) hp htl (k := m) (fun j hj => (aK_sp tx tl p).2 j (by omega))
      have hq := iQ_b (tx := tx) hb.2
      omega
theorem bP_mono {tx : Nat → Nat} {tl p : Nat} (hp : p ≤ tl) (htl : tl ≤ 240) {i : Nat} : ∀ {m : Nat}, i < m → (∀ j, j < m → bZ tx tl p j = false) → aE tx tl (bP tx tl p i) < bP tx tl p m
  | 0, h, _ => by omega
  | m + 1, h, hz => by
    by_cases e : i = m
    · subst e; show _ < _ + 1; omega
    · have h1 := bP_mono hp htl (i := i) (m := m) (by omega) (fun j hj => hz j (by omega))
      have hb := bP_b (tx := tx) hp htl (j := m) (fun j hj => hz j (by omega))
      have h2 := aE_b (tx := tx) hb.2 htl
      show _ < aE tx tl (bP tx tl p m) + 1
      omega
theorem cP_mono {tx : Nat → Nat} {tl : Nat} (htl : tl ≤ 240) (h : gF tx tl = NO) {r : Nat} : ∀ {m : Nat}, r < m → m < gK tx tl + 1 → bE tx tl (cA tx tl r) < cP tx tl m
  | 0, h1, _ => by omega
  | m + 1, h1, h2 => by
    have hm := (gOK htl h).2 m (by omega)
    have hb := bE_b (tx := tx) hm.2.2.1 hm.2.2.2.1 htl
    show _ < bE tx tl (cA tx tl m) + 1
    by_cases e : r = m
    · subst e; omega
    · have := cP_mono htl h (r := r) (m := m) (by omega) (by omega)
      omega
/-- places grow as the slots do -/
theorem gPp_mono {tx : Nat → Nat} {tl r a k r2 a2 k2 : Nat} (htl : tl ≤ 240) (h : gF tx tl = NO) (hv : gV tx tl r a k) (hv2 : gV tx tl r2 a2 k2) (hlt : (r * 4 + a) * 5 + k < (r2 * 4 + a2) * 5 + k2) : gPp tx tl ((r * 4 + a) * 5 + k) < gPp tx tl ((r2 * 4 + a2) * 5 + k2) := by
  obtain ⟨b1, b2, b3, b4, b5, b6, b7, b8, b9, b10⟩ := gV_b htl h hv
  obtain ⟨d1, d2, d3, d4, d5, d6, d7, d8, d9, d10⟩ := gV_b htl h hv2
  unfold gPp
  rw [gPos_at b2 b3, gPos_at d2 d3]
  have e1 := aP_mono (tx := tx) b6 htl (k := k) (m := aK tx tl (bP tx tl (cA tx tl r) a)) b7 (Nat.le_refl _)
  change _ < aE tx tl _ at e1
  have e2 := (aP_up (tx := tx) d6 htl d7).1
  have hA := (gOK htl h).2 r hv.1
  have hA2 := (gOK htl h).2 r2 hv2.1
  by_cases q1 : r = r2
  · subst q1
    by_cases q2 : a = a2
    · subst q2
      have e3 := aP_mono (tx := tx) b6 htl (k := k) (m := k2) (by omega) (by omega)
      have hb := aP_b (tx := tx) b6 htl (k := k2) (fun j hj => (aK_sp tx tl _).2 j (by omega))
      have hq := iQ_b (tx := tx) hb.2
      omega
    · have e3 := bP_mono (tx := tx) hA.2.2.2.1 htl (i := a) (m := a2) (by omega) (fun j hj => d4 j (by omega))
      omega
  · have e3 := cP_mono htl h (r := r) (m := r2) (by omega) hv2.1
    have e4 : aE tx tl (bP tx tl (cA tx tl r) a) ≤ bE tx tl (cA tx tl r) := by
      by_cases q3 : a = bK tx tl (cA tx tl r)
      · rw [q3]; exact Nat.le_refl _
      · have e5 := bP_mono (tx := tx) hA.2.2.2.1 htl (i := a) (m := bK tx tl (cA tx tl r)) (by omega) b4
        have e6 := bP_b (tx := tx) hA.2.2.2.1 htl b4
        have e7 := aE_b (tx := tx) e6.2 htl
        unfold bE; omega
    omega
