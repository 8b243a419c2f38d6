/-! rounds of what is read -/
theorem gRd_iff {tx : Nat → Nat} {tl n : Nat} {gn al_ it pt tg bd : Nat → Nat} {e : Nat → Bool} (h : AgG tx tl n gn al_ it pt tg bd) (he : IsEmp n al_ it tg e) {r : Nat} : gRd tx tl r ↔ Rnd n al_ it tg e r := by
  unfold gRd
  rw [← h.1, ← RdC_cg h.aga]
  exact RdC_iff h.clo he
theorem gF_lt {tx : Nat → Nat} {tl : Nat} (htl : tl ≤ 240) : gF tx tl < 4294967296 := by
  have hsk : ∀ p, sk tx tl p < 4294967296 ∨ 4294967296 ≤ p := fun p => by
    rcases Nat.lt_or_ge p 4294967296 with q | q
    · left
      rcases Nat.le_total p tl with q2 | q2
      · have := @sk_le tx tl p q2; omega
      · rw [sk_e (by omega)]; exact q
    · exact Or.inr q
  by_cases h : gF tx tl = NO
  · rw [h]; decide
  · have key : ∀ r, (∀ j, j < r → cZ tx tl j = false) → cP tx tl r ≤ tl := by
      intro r
      induction r with
      | zero => exact fun _ => Nat.zero_le _
      | succ r ih =>
        intro hz
        have h2 := cZ_of (hz r (by omega))
        have h4 := hr_in h2.2
        show bE tx tl _ + 1 ≤ tl
        unfold cA at h4; omega
    rcases srch_spec (cZ tx tl) 9 0 with ⟨h1, h2⟩ | ⟨-, h2, h3, h4⟩
    · exfalso
      have h5 := cZ_of (h2 8 (by omega) (by omega))
      have h6 := key 8 (fun j hj => h2 j (Nat.zero_le _) (by omega))
      have h7 := h5.1
      unfold cF at h7
      have h8 : cD tx tl 8 = true := by unfold cD; simp
      rw [if_pos h8] at h7
      have := @sk_le tx tl (cP tx tl 8) h6
      unfold NO nQ at h7; omega
    · have hp := key (gK tx tl) (fun j hj => h4 j (Nat.zero_le _) hj)
      have h5 := @sk_le tx tl (cP tx tl (gK tx tl)) hp
      unfold gF
      cases hc : cD tx tl (gK tx tl) with
      | true => rw [cF_bad hc]; unfold nQ; omega
      | false =>
        have hn : nmB (cN tx tl (gK tx tl)) = true := by
          unfold cD at hc
          rw [Bool.or_eq_false_iff, Bool.or_eq_false_iff, Bool.not_eq_false'] at hc
          exact hc.1.1
        have hn2 := nm_in hn
        unfold nQ at hn2
        have h6 := @sk_le tx tl (sk tx tl (cP tx tl (gK tx tl)) + 1) (by omega)
        rw [cF_ok hc]
        by_cases h7 : hr tx tl (nC tx tl (cP tx tl (gK tx tl))) = 58
        · rw [if_pos h7]
          have h8 : nC tx tl (cP tx tl (gK tx tl)) < tl := hr_in (by rw [h7]; decide)
          rcases bF_b (tx := tx) (p := cA tx tl (gK tx tl)) (by unfold cA; omega) htl with q | q
          · rw [q]; decide
          · omega
        · rw [if_neg h7]; unfold nC; omega
theorem GrF_lt {tx : Nat → Nat} {tl v : Nat} (htl : tl ≤ 240) (h : GrF tx tl v) : v < 4294967296 := by
  rcases h with ⟨-, a2⟩ | ⟨a1, r, a, k, c1, -, -, c4, -⟩ | ⟨a1, -, r, a3, -, -, a6⟩ | ⟨-, -, -, a4⟩
  · rw [a2]; exact gF_lt htl
  · have := gPp_le htl a1 c1; omega
  · have := @sk_le tx tl (cP tx tl r) ((gOK htl a1).2 r a3).1
    rw [a6]; unfold nQ; omega
  · rw [a4]; decide
theorem gr_out {f f1 : Nat → Nat → Nat} {S : List Nat} (h : ∀ a, a ∉ S → f1 a = f a) (hs : ∀ a, a ∈ S → ¬ (a = 1 ∨ (26 ≤ a ∧ a ≤ 29) ∨ (50 ≤ a ∧ a ≤ 124)) := by decide) : ∀ a, (a = 1 ∨ (26 ≤ a ∧ a ≤ 29) ∨ (50 ≤ a ∧ a ≤ 124)) → f1 a = f a := fun a ha => h a (fun q => hs a q ha)
