/-! READING the rules, purely -/
def nOk (tx : Nat → Nat) (tl p i n : Nat) (gn : Nat → Nat) : Prop := nmB (hr tx tl (nQ tx tl p)) = true ∧ i < 8 ∧ srch (fun q => gn q == hr tx tl (nQ tx tl p)) 0 n = NO
def nF (tx : Nat → Nat) (tl p i n : Nat) (gn : Nat → Nat) : Nat := if nmB (hr tx tl (nQ tx tl p)) = true ∧ i < 8 ∧ srch (fun q => gn q == hr tx tl (nQ tx tl p)) 0 n = NO then (if hr tx tl (nC tx tl p) = 58 then NO else nC tx tl p) else nQ tx tl p
theorem nF_bad {tx : Nat → Nat} {tl p i n : Nat} {gn : Nat → Nat} (h : ¬ nOk tx tl p i n gn) : nF tx tl p i n gn = nQ tx tl p := if_neg h
theorem nF_ok {tx : Nat → Nat} {tl p i n : Nat} {gn : Nat → Nat} (h : nOk tx tl p i n gn) : nF tx tl p i n gn = (if hr tx tl (nC tx tl p) = 58 then NO else nC tx tl p) := if_pos h
theorem srch_cg {f g : Nat → Bool} : ∀ {n i : Nat}, (∀ q, i ≤ q → q < i + n → f q = g q) → srch f i n = srch g i n
  | 0, i, _ => rfl
  | n + 1, i, h => by
    rw [srch, srch, h i (Nat.le_refl _) (by omega), srch_cg (n := n) (i := i + 1) (fun q h1 h2 => h q (by omega) (by omega))]
theorem nOk_c {tx : Nat → Nat} {tl i : Nat} {gn : Nat → Nat} (hg : ∀ q, q < i → gn q = cN tx tl q) : nOk tx tl (cP tx tl i) i i gn ↔ cD tx tl i = false := by
  unfold nOk cD
  rw [srch_cg (g := fun q => cN tx tl q == cN tx tl i) (fun q _ h2 => by rw [hg q (by omega)]; rfl)]
  show (nmB (cN tx tl i) = true ∧ _ ∧ _) ↔ _
  rw [Bool.or_eq_false_iff, Bool.or_eq_false_iff, decide_eq_false_iff_not, decide_eq_false_iff_not, Bool.not_eq_false']
  constructor
  · rintro ⟨h1, h2, h3⟩
    exact ⟨⟨h1, by omega⟩, fun q => q h3⟩
  · rintro ⟨⟨h1, h2⟩, h3⟩
    exact ⟨h1, by omega, Classical.byContradiction h3⟩
theorem cF_bad {tx : Nat → Nat} {tl i : Nat} (h : cD tx tl i = true) : cF tx tl i = nQ tx tl (cP tx tl i) := by unfold cF; rw [if_pos h]
theorem cF_ok {tx : Nat → Nat} {tl i : Nat} (h : cD tx tl i = false) : cF tx tl i = (if hr tx tl (nC tx tl (cP tx tl i)) = 58 then bF tx tl (cA tx tl i) else nC tx tl (cP tx tl i)) := by unfold cF cA; rw [if_neg (by rw [h]; decide)]
/-- a rule that is read -/
def GD (tx : Nat → Nat) (tl i : Nat) (gn al_ it pt tg bd np pp : Nat → Nat) : Prop := gn i = cN tx tl i ∧ np i = nQ tx tl (cP tx tl i) ∧ al_ i = bK tx tl (cA tx tl i) + 1 ∧ RulD tx tl (cA tx tl i) i (bK tx tl (cA tx tl i) + 1) it pt tg bd pp
theorem bK_sp {tx : Nat → Nat} {tl p : Nat} (h : bF tx tl p = NO) (hp : p ≤ tl) (htl : tl ≤ 240) : bK tx tl p < 4 ∧ (∀ i, i < bK tx tl p → bZ tx tl p i = false) ∧ aF tx tl (bP tx tl p (bK tx tl p)) = NO := by
  rcases srch_spec (bZ tx tl p) 4 0 with ⟨h1, h2⟩ | ⟨-, h2, -, h4⟩
  · exfalso
    have h3 := bF_no (tx := tx) (tl := tl) (p := p) h1
    have hb := bP_b (tx := tx) hp htl (j := 3) (fun i hi => h2 i (Nat.zero_le _) (by omega))
    have := aE_b (tx := tx) hb.2 htl
    rw [h3] at h; unfold NO at h; omega
  · refine ⟨?_, fun i hi => h4 i (Nat.zero_le _) hi, ?_⟩
    · show srch _ _ _ < 4; omega
    · rw [← (bF_at rfl (show bK tx tl p < 4 by show srch _ _ _ < 4; omega)).1]; exact h
theorem bE_b {tx : Nat → Nat} {tl p : Nat} (h : bF tx tl p = NO) (hp : p ≤ tl) (htl : tl ≤ 240) : p ≤ bE tx tl p ∧ bE tx tl p ≤ tl := by
  obtain ⟨h1, h2, h3⟩ := bK_sp h hp htl
  have hb := bP_b (tx := tx) hp htl h2
  have := aE_b (tx := tx) hb.2 htl
  unfold bE; omega
theorem bF_b {tx : Nat → Nat} {tl p : Nat} (hp : p ≤ tl) (htl : tl ≤ 240) : bF tx tl p = NO ∨ bF tx tl p ≤ tl := by
  rcases srch_spec (bZ tx tl p) 4 0 with ⟨h1, h2⟩ | ⟨-, h2, -, h4⟩
  · rw [bF_no h1]
    have hb := bP_b (tx := tx) hp htl (j := 3) (fun i hi => h2 i (Nat.zero_le _) (by omega))
    exact Or.inr (aE_b hb.2 htl).2
  · have hk : bK tx tl p < 4 := by show srch _ _ _ < 4; omega
    rw [(bF_at rfl hk).1]
    exact aF_b (bP_b hp htl (fun i hi => h4 i (Nat.zero_le _) hi)).2 htl
theorem cZ_of {tx : Nat → Nat} {tl i : Nat} (h : cZ tx tl i = false) : cF tx tl i = NO ∧ hr tx tl (bE tx tl (cA tx tl i)) ≠ NO := by
  unfold cZ at h
  rw [Bool.or_eq_false_iff, decide_eq_false_iff_not, decide_eq_false_iff_not] at h
  exact ⟨Classical.byContradiction h.1, h.2⟩
theorem cZ_no {tx : Nat → Nat} {tl i : Nat} (h1 : cF tx tl i = NO) (h2 : hr tx tl (bE tx tl (cA tx tl i)) ≠ NO) : cZ tx tl i = false := by
  unfold cZ; rw [decide_eq_false (fun q => q h1), decide_eq_false h2]; rfl
theorem cZ_f {tx : Nat → Nat} {tl i : Nat} (h1 : cF tx tl i ≠ NO) : cZ tx tl i = true := by unfold cZ; rw [decide_eq_true h1]; rfl
theorem cZ_e {tx : Nat → Nat} {tl i : Nat} (h1 : hr tx tl (bE tx tl (cA tx tl i)) = NO) : cZ tx tl i = true := by unfold cZ; rw [decide_eq_true h1, Bool.or_true]
theorem gK_at {tx : Nat → Nat} {tl i : Nat} (h : ∀ j, j < i → cZ tx tl j = false) (hi : i ≤ 8) (hz : cZ tx tl i = true) : gK tx tl = i ∧ gF tx tl = cF tx tl i := by
  have e : gK tx tl = i := srch_at (by omega) h hz
  exact ⟨e, by unfold gF; rw [e]⟩
theorem GD.keep {tx : Nat → Nat} {tl i r : Nat} {gn al_ it pt tg bd np pp gn9 al9 it9 pt9 tg9 bd9 np9 pp9 : Nat → Nat} (h : GD tx tl i gn al_ it pt tg bd np pp) (hk : bK tx tl (cA tx tl i) + 1 ≤ 4) (hir : i < r) (h1 : ∀ q, q < r → gn9 q = gn q) (h2 : ∀ q, q < r → np9 q = np q) (h3 : ∀ q, q ≠ r → al9 q = al_ q) (h4 : ∀ q, ¬ (r * 4 ≤ q ∧ q < r * 4 + 4) → it9 q = it q) (h5 : FrS (r * 20) (r * 20 + 20) pt tg bd pp pt9 tg9 bd9 pp9) : GD tx tl i gn9 al9 it9 pt9 tg9 bd9 np9 pp9 := by
  obtain ⟨a1, a2, a3, a4⟩ := h
  exact ⟨(h1 i hir).trans a1, (h2 i hir).trans a2, (h3 i (by omega)).trans a3, a4.keep (lo := r * 4) (hi := r * 4 + 4) h4 (by rw [show r * 4 * 5 = r * 20 by omega, show (r * 4 + 4) * 5 = r * 20 + 20 by omega]; exact h5) (by omega)⟩
theorem rn_lt {tx : Nat → Nat} {tl p i n : Nat} {gn : Nat → Nat} (hp : p ≤ tl) (htl : tl ≤ 240) : nF tx tl p i n gn < 4294967296 := by
  have h1 := @sk_le tx tl p hp
  unfold nF
  split
  · rename_i h
    have h2 := nm_in h.1
    have h3 := @sk_le tx tl (sk tx tl p + 1) (by unfold nQ at h2; omega)
    split
    · decide
    · unfold nC; omega
  · unfold nQ; omega
theorem rn_bad {tx : Nat → Nat} {tl i : Nat} {gn : Nat → Nat} (hg : ∀ q, q < i → gn q = cN tx tl q) (h : nF tx tl (cP tx tl i) i i gn ≠ NO) : cF tx tl i = nF tx tl (cP tx tl i) i i gn := by
  by_cases hok : nOk tx tl (cP tx tl i) i i gn
  · have hcd := (nOk_c hg).mp hok
    rw [nF_ok hok] at h ⊢
    rw [cF_ok hcd]
    by_cases h2 : hr tx tl (nC tx tl (cP tx tl i)) = 58
    · rw [if_pos h2] at h; exact absurd rfl h
    · rw [if_neg h2, if_neg h2]
  · rw [nF_bad hok]
    apply cF_bad
    cases hc : cD tx tl i with
    | true => rfl
    | false => exact absurd ((nOk_c hg).mpr hc) hok
theorem gn_up {G G9 : Nat → Nat} {i v : Nat} (h : ∀ q, G q < 128) (h1 : G9 = up G i v) (hv : 65 ≤ v ∧ v ≤ 90) : ∀ q, G9 q < 128 := fun q => by
  rw [h1]; exact up_lt h (by omega) q
theorem rd_safe2 {i n9 v : Nat} {G G9 A I P T B : Nat → Nat} (hi : i < 8) (hG : ∀ q, G q < 128) (hA : ∀ q, A q ≤ 4) (hI : ∀ q, I q ≤ 5) (hS : SafeI P T B) (hn : n9 = i + 1) (hg : G9 = up G i v) (hv : 65 ≤ v ∧ v ≤ 90) : SafeG n9 G9 A I P T B := ⟨by omega, gn_up hG hg hv, hA, hI, hS.1, hS.2.1, hS.2.2⟩
theorem rd_safe {tx : Nat → Nat} {tl p i n n9 : Nat} {G G9 A I P T B N1 N9 : Nat → Nat} (hi : i ≤ 8) (hG : ∀ q, G q < 128) (hA : ∀ q, A q ≤ 4) (hI : ∀ q, I q ≤ 5) (hS : SafeI P T B) (_hn : n = i) (h1 : ¬ nOk tx tl p i i G → n9 = i ∧ G9 = G ∧ N9 = N1) (h2 : nOk tx tl p i i G → n9 = i + 1 ∧ G9 = up G i (hr tx tl (nQ tx tl p)) ∧ N9 = up N1 i (nQ tx tl p)) : SafeG n9 G9 A I P T B := by
  by_cases hok : nOk tx tl p i i G
  · obtain ⟨a1, a2, -⟩ := h2 hok
    exact rd_safe2 hok.2.1 hG hA hI hS a1 a2 (nm_lt hok.1)
  · obtain ⟨a1, a2, -⟩ := h1 hok
    exact ⟨by omega, by rw [a2]; exact hG, hA, hI, hS.1, hS.2.1, hS.2.2⟩
theorem rd_next {tx : Nat → Nat} {tl i : Nat} {G1 A1 I1 P1 T1 B1 N1 Q1 G9 A9 I9 P9 T9 B9 N9 Q9 : Nat → Nat} (_hi : i < 8) (hg : G9 = up G1 i (hr tx tl (nQ tx tl (cP tx tl i)))) (hp : N9 = up N1 i (nQ tx tl (cP tx tl i))) (iD : ∀ j, j < i → GD tx tl j G1 A1 I1 P1 T1 B1 N1 Q1) (iz : ∀ j, j < i → cZ tx tl j = false) (hY : bF tx tl (cA tx tl i) = NO → A9 i = bK tx tl (cA tx tl i) + 1 ∧ RulD tx tl (cA tx tl i) i (bK tx tl (cA tx tl i) + 1) I9 P9 T9 B9 Q9) (hf : bF tx tl (cA tx tl i) = NO) (hA : ∀ q, q ≠ i → A9 q = A1 q) (hI : ∀ q, ¬ (i * 4 ≤ q ∧ q < i * 4 + 4) → I9 q = I1 q) (hF : FrS (i * 20) (i * 20 + 20) P1 T1 B1 Q1 P9 T9 B9 Q9) (htl : tl ≤ 240) (ib : ∀ j, j < i → cA tx tl j ≤ tl) : ∀ j, j < i + 1 → GD tx tl j G9 A9 I9 P9 T9 B9 N9 Q9 := fun j hj => by
  by_cases e : j = i
  · subst e
    obtain ⟨a1, a2⟩ := hY hf
    exact ⟨by rw [hg, up_s]; rfl, by rw [hp, up_s], a1, a2⟩
  · have hcf := (cZ_of (iz j (by omega))).1
    have hbf : bF tx tl (cA tx tl j) = NO := by
      cases hc : cD tx tl j with
      | true =>
        rw [cF_bad hc] at hcf
        exfalso
        have h1 := ib j (by omega)
        unfold cA nC at h1
        have h2 := sk_ge tx tl (sk tx tl (cP tx tl j) + 1)
        unfold NO nQ at hcf
        omega
      | false =>
        rw [cF_ok hc] at hcf
        by_cases h2 : hr tx tl (nC tx tl (cP tx tl j)) = 58
        · rw [if_pos h2] at hcf; exact hcf
        · rw [if_neg h2] at hcf
          exfalso
          have h1 := ib j (by omega)
          unfold cA at h1
          unfold NO at hcf
          omega
    have hk := (bK_sp hbf (ib j (by omega)) htl).1
    exact (iD j (by omega)).keep (by omega) (by omega) (fun q hq => by rw [hg, up_n (by omega)]) (fun q hq => by rw [hp, up_n (by omega)]) hA hI hF
