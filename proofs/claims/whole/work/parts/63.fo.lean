/-! FREE columns of a rule, as the program under proof lays them -/
theorem fo_in {it tg bd fr B B2 : Nat → Nat} {r a x by9 : Nat} (h : x ≤ it (r * 4 + a) ∧ by9 = andR (fun j => frI tg bd fr ((r * 4 + a) * 5 + j)) x (it (r * 4 + a) - x) ∧ SafeM B2 ∧ (∀ k9, x ≤ k9 → k9 < it (r * 4 + a) → B2 ((r * 4 + a) * 5 + k9) = andR (fun j => frI tg bd fr ((r * 4 + a) * 5 + j)) (k9 + 1) (it (r * 4 + a) - (k9 + 1))) ∧ ∀ q, ¬ ((r * 4 + a) * 5 ≤ q ∧ q < (r * 4 + a) * 5 + 5) → B2 q = B q) (hx : 0 < x ∧ it (r * 4 + a) ≤ 5) (hby : by9 < 1099511627776) : x - 1 ≤ it (r * 4 + a) ∧ by9 &&& letsN (bd ((r * 4 + a) * 5 + (x - 1))) (if tg ((r * 4 + a) * 5 + (x - 1)) = NO then 1099511627775 else fr (tg ((r * 4 + a) * 5 + (x - 1)))) = andR (fun j => frI tg bd fr ((r * 4 + a) * 5 + j)) (x - 1) (it (r * 4 + a) - (x - 1)) ∧ SafeM (up B2 ((r * 4 + a) * 5 + (x - 1)) by9) ∧ (∀ k9, x - 1 ≤ k9 → k9 < it (r * 4 + a) → up B2 ((r * 4 + a) * 5 + (x - 1)) by9 ((r * 4 + a) * 5 + k9) = andR (fun j => frI tg bd fr ((r * 4 + a) * 5 + j)) (k9 + 1) (it (r * 4 + a) - (k9 + 1))) ∧ ∀ q, ¬ ((r * 4 + a) * 5 ≤ q ∧ q < (r * 4 + a) * 5 + 5) → up B2 ((r * 4 + a) * 5 + (x - 1)) by9 q = B q := by
  obtain ⟨h1, h2, h3, h4, h5⟩ := h
  have e : x = (x - 1) + 1 := by omega
  refine ⟨by omega, ?_, safe_up h3 hby, fun k9 q1 q2 => ?_, fun q hq => ?_⟩
  · rw [h2, show it (r * 4 + a) - (x - 1) = (it (r * 4 + a) - x) + 1 by omega]
    have := @andR_front (fun j => frI tg bd fr ((r * 4 + a) * 5 + j)) (x - 1) (it (r * 4 + a) - x)
    rw [← e] at this
    exact this
  · unfold up
    by_cases e1 : k9 = x - 1
    · rw [if_pos (by omega), e1, h2, ← e]
    · rw [if_neg (by omega)]; exact h4 k9 (by omega) q2
  · rw [up_n (by omega)]; exact h5 q hq
theorem fo_next {al_ it tg bd fr af fb A B B2 : Nat → Nat} {r a x by9 cs : Nat} (ha : a < al_ r ∧ al_ r ≤ 4) (ics : cs = orR (fun a => frA tg bd it fr (r * 4 + a)) 0 a) (iA : SafeM A) (iB : SafeM B) (ido : ∀ a9, a9 < a → A (r * 4 + a9) = frA tg bd it fr (r * 4 + a9) ∧ ∀ k9, k9 < it (r * 4 + a9) → B ((r * 4 + a9) * 5 + k9) = andR (fun j => frI tg bd fr ((r * 4 + a9) * 5 + j)) (k9 + 1) (it (r * 4 + a9) - (k9 + 1))) (io1 : ∀ q, ¬ (r * 4 ≤ q ∧ q < r * 4 + 4) → A q = af q) (io2 : ∀ q, ¬ (r * 20 ≤ q ∧ q < r * 20 + 20) → B q = fb q) (hi5 : True) (h : x ≤ it (r * 4 + a) ∧ by9 = andR (fun j => frI tg bd fr ((r * 4 + a) * 5 + j)) x (it (r * 4 + a) - x) ∧ SafeM B2 ∧ (∀ k9, x ≤ k9 → k9 < it (r * 4 + a) → B2 ((r * 4 + a) * 5 + k9) = andR (fun j => frI tg bd fr ((r * 4 + a) * 5 + j)) (k9 + 1) (it (r * 4 + a) - (k9 + 1))) ∧ ∀ q, ¬ ((r * 4 + a) * 5 ≤ q ∧ q < (r * 4 + a) * 5 + 5) → B2 q = B q) (hx : x = 0) (hit : ∀ q, it q ≤ 5) : a + 1 ≤ al_ r ∧ cs ||| by9 = orR (fun a => frA tg bd it fr (r * 4 + a)) 0 (a + 1) ∧ SafeM (up A (r * 4 + a) by9) ∧ SafeM B2 ∧ (∀ a9, a9 < a + 1 → up A (r * 4 + a) by9 (r * 4 + a9) = frA tg bd it fr (r * 4 + a9) ∧ ∀ k9, k9 < it (r * 4 + a9) → B2 ((r * 4 + a9) * 5 + k9) = andR (fun j => frI tg bd fr ((r * 4 + a9) * 5 + j)) (k9 + 1) (it (r * 4 + a9) - (k9 + 1))) ∧ (∀ q, ¬ (r * 4 ≤ q ∧ q < r * 4 + 4) → up A (r * 4 + a) by9 q = af q) ∧ ∀ q, ¬ (r * 20 ≤ q ∧ q < r * 20 + 20) → B2 q = fb q := by
  obtain ⟨h1, h2, h3, h4, h5⟩ := h
  subst hx
  have hb : by9 = frA tg bd it fr (r * 4 + a) := by rw [h2, Nat.sub_zero]; rfl
  refine ⟨by omega, by rw [orR, ics, hb, Nat.zero_add], safe_up iA (by rw [h2]; exact andR_lt), h3, fun a9 q => ?_, fun q hq => by rw [up_n (by omega)]; exact io1 q hq, fun q hq => by rw [h5 q (by omega)]; exact io2 q hq⟩
  by_cases e : a9 = a
  · subst e
    exact ⟨by rw [up_s, hb], fun k9 hk => h4 k9 (Nat.zero_le _) hk⟩
  · obtain ⟨d1, d2⟩ := ido a9 (by omega)
    refine ⟨by rw [up_n (by omega)]; exact d1, fun k9 hk => ?_⟩
    have := hit (r * 4 + a9)
    rw [h5 _ (by omega)]; exact d2 k9 hk
