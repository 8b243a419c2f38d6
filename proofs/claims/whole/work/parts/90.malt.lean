/-! THE MODEL's draft of an alt -/
/-- items of an alt (its number x) that are read -/
def MAlt (tx : Nat → Nat) (tl p x m : Nat) (D Q : Nat → Nat) : Prop := D (17 + x) = m ∧ ∀ j, j < m → D (49 + 3 * (x * 5 + j)) = iV tx tl (aP tx tl p j) ∧ D (49 + 3 * (x * 5 + j) + 1) = (if iN tx tl (aP tx tl p j) = true then 1 else 0) ∧ D (49 + 3 * (x * 5 + j) + 2) = iB tx tl (aP tx tl p j) ∧ (iN tx tl (aP tx tl p j) = true → Q (x * 5 + j) = iQ tx tl (aP tx tl p j))
/-- the draft's places of an alt -/
def aR_ (x q : Nat) : Prop := q = 17 + x ∨ (49 + 15 * x ≤ q ∧ q < 49 + 15 * x + 15)
theorem MAlt.step {tx : Nat → Nat} {tl p x k : Nat} {D Q : Nat → Nat} (h : MAlt tx tl p x k D Q) (hx : x < 32) : MAlt tx tl p x (k + 1) (up (up (up (up D (49 + 3 * (x * 5 + k) + 2) (iB tx tl (aP tx tl p k))) (49 + 3 * (x * 5 + k)) (iV tx tl (aP tx tl p k))) (49 + 3 * (x * 5 + k) + 1) (if iN tx tl (aP tx tl p k) = true then 1 else 0)) (17 + x) (k + 1)) (up Q (x * 5 + k) (iQ tx tl (aP tx tl p k))) := by
  refine ⟨up_s .., fun j hj => ?_⟩
  rw [up_n (show 49 + 3 * (x * 5 + j) ≠ 17 + x by omega), up_n (show 49 + 3 * (x * 5 + j) + 1 ≠ 17 + x by omega), up_n (show 49 + 3 * (x * 5 + j) + 2 ≠ 17 + x by omega)]
  by_cases e : j = k
  · subst e
    refine ⟨?_, up_s .., ?_, fun _ => up_s ..⟩
    · rw [up_n (by omega), up_s]
    · rw [up_n (by omega), up_n (by omega), up_s]
  · obtain ⟨h1, h2, h3, h4⟩ := h.2 j (by omega)
    refine ⟨?_, ?_, ?_, fun q => ?_⟩
    · rw [up_n (by omega), up_n (by omega), up_n (by omega)]; exact h1
    · rw [up_n (by omega), up_n (by omega), up_n (by omega)]; exact h2
    · rw [up_n (by omega), up_n (by omega), up_n (by omega)]; exact h3
    · rw [up_n (by omega)]; exact h4 q
theorem it_out {x k : Nat} {D : Nat → Nat} {b v c : Nat} {q : Nat} (hk : k < 5) (hq : ¬ aR_ x q) : up (up (up (up D (49 + 3 * (x * 5 + k) + 2) b) (49 + 3 * (x * 5 + k)) v) (49 + 3 * (x * 5 + k) + 1) c) (17 + x) (k + 1) q = D q := by
  unfold aR_ at hq
  rw [up_n (by omega), up_n (by omega), up_n (by omega), up_n (by omega)]
theorem it_bnd {x k : Nat} {D : Nat → Nat} {tx : Nat → Nat} {tl p : Nat} (hb : ∀ q, D q < 2147483648) (hk : k < 5) (hv : iV tx tl p < 128) (hB : iB tx tl p < 128) : ∀ q, up (up (up (up D (49 + 3 * (x * 5 + k) + 2) (iB tx tl p)) (49 + 3 * (x * 5 + k)) (iV tx tl p)) (49 + 3 * (x * 5 + k) + 1) (if iN tx tl p = true then 1 else 0)) (17 + x) (k + 1) q < 2147483648 :=
  up_lt (up_lt (up_lt (up_lt hb (by omega)) (by omega)) (by split <;> decide)) (by omega)
theorem iB_lt {tx : Nat → Nat} {tl p : Nat} : iB tx tl p < 128 := by
  unfold iB; split
  · rename_i q; have := bn_lt q; omega
  · decide
theorem iV_lt {tx : Nat → Nat} {tl p : Nat} (hp : p ≤ tl) (htl : tl ≤ 240) (h : iF tx tl p = NO) : iV tx tl p < 128 := by
  have hq := iQ_b (tx := tx) hp
  unfold iF at h
  unfold iV
  by_cases h1 : nmB (hr tx tl (iQ tx tl p)) = true
  · rw [if_pos h1]; have := nm_lt h1; omega
  · rw [if_neg h1] at h ⊢
    by_cases h2 : hr tx tl (iQ tx tl p) = 39
    · rw [if_pos h2] at h
      by_cases h3 : sgB (hr tx tl (iQ tx tl p + 1)) = true
      · have := sg_b h3; omega
      · rw [if_neg h3] at h
        have := hr_in (show hr tx tl (iQ tx tl p) ≠ NO by rw [h2]; decide)
        unfold NO at h; omega
    · rw [if_neg h2] at h; unfold NO at h; omega
theorem aP_sk (tx : Nat → Nat) (tl p k : Nat) : sk tx tl (aP tx tl p k) = aP tx tl p k := by
  cases k with
  | zero => exact sk_sk tx tl p
  | succ k => exact sk_sk tx tl _
/-- a letter that begins an item -/
def itB_ (c : Nat) : Prop := bnB c = true ∨ nmB c = true ∨ c = 39
theorem it_stp {c : Nat} (h : itB_ c) : ¬ stp c = true := fun q => by
  have q2 := of_decide_eq_true q
  unfold NO at q2
  rcases h with h | h | h
  · have := bn_lt h; omega
  · have := nm_lt h; omega
  · omega
theorem it_no {tx : Nat → Nat} {tl p : Nat} (h : ¬ itB_ (hr tx tl p)) : iF tx tl p = p := by
  have h1 : ¬ bnB (hr tx tl p) = true := fun q => h (Or.inl q)
  have hq : iQ tx tl p = p := by unfold iQ; rw [if_neg h1]
  unfold iF
  rw [hq, if_neg (fun q => h (Or.inr (Or.inl q))), if_neg (fun q => h (Or.inr (Or.inr q)))]
/-- where the items end -/
theorem al_end {tx : Nat → Nat} {tl p k : Nat} (hz : ∀ j, j < k → aZ tx tl p j = false) (hk : k ≤ 5) (h : ¬ itB_ (hr tx tl (aP tx tl p k))) (hp : p ≤ tl) (htl : tl ≤ 240) : aK tx tl p = k ∧ aE tx tl p = aP tx tl p k ∧ (aF tx tl p = NO ∨ aF tx tl p = aE tx tl p) := by
  have hb := aP_b (tx := tx) hp htl hz
  have hf := it_no h
  have hn : iF tx tl (aP tx tl p k) ≠ NO := by rw [hf]; unfold NO; omega
  have hK := aK_at hz hk (fun _ => aZ_it hn)
  refine ⟨hK, by unfold aE; rw [hK], ?_⟩
  by_cases q : stp (hr tx tl (aP tx tl p k)) = true
  · exact Or.inl (aF_st hK q).1
  · by_cases q5 : k = 5
    · right; rw [aF_5 hK q q5]; unfold aE; rw [hK]
    · right; rw [aF_i hK q (by omega), hf]; unfold aE; rw [hK]
