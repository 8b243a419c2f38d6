/-! ROUNDS: which rules come to which -/
theorem dc_t {P : Prop} (h : P) : @decide P (Classical.propDecidable P) = true := @decide_eq_true P (Classical.propDecidable P) h
theorem dc_f {P : Prop} (h : ¬ P) : @decide P (Classical.propDecidable P) = false := @decide_eq_false P (Classical.propDecidable P) h
theorem dc_of {P : Prop} (h : @decide P (Classical.propDecidable P) = true) : P := @of_decide_eq_true P (Classical.propDecidable P) h
def rkE (E : Nat → Nat → Prop) : Nat → Nat → Nat → Prop
  | 0, r, o => E r o
  | k + 1, r, o => rkE E k r o ∨ ∃ p, rkE E k r p ∧ E p o
theorem rkE_up {E : Nat → Nat → Prop} {k r o : Nat} (h : rkE E k r o) : ∀ {m : Nat}, k ≤ m → rkE E m r o
  | 0, hm => by rw [show k = 0 by omega] at h; exact h
  | m + 1, hm => if e : k = m + 1 then e ▸ h else Or.inl (rkE_up h (by omega))
theorem rkE_front {E : Nat → Nat → Prop} {r p : Nat} (h : E r p) : ∀ {k o : Nat}, rkE E k p o → rkE E (k + 1) r o
  | 0, o, h2 => Or.inr ⟨p, h, h2⟩
  | k + 1, o, h2 => by
    rcases h2 with q | ⟨t, q1, q2⟩
    · exact Or.inl (rkE_front h q)
    · exact Or.inr ⟨t, rkE_front h q1, q2⟩
theorem rkE_unfront {E : Nat → Nat → Prop} {r : Nat} : ∀ {k o : Nat}, rkE E (k + 1) r o → E r o ∨ ∃ p, E r p ∧ rkE E k p o
  | 0, o, h => by
    rcases h with q | ⟨t, q1, q2⟩
    · exact Or.inl q
    · exact Or.inr ⟨t, q1, q2⟩
  | k + 1, o, h => by
    rcases h with q | ⟨t, q1, q2⟩
    · rcases rkE_unfront (k := k) q with q3 | ⟨p, q3, q4⟩
      · exact Or.inl q3
      · exact Or.inr ⟨p, q3, Or.inl q4⟩
    · rcases rkE_unfront (k := k) q1 with q3 | ⟨p, q3, q4⟩
      · exact Or.inr ⟨t, q3, rkE_up (k := 0) q2 (Nat.zero_le _)⟩
      · exact Or.inr ⟨p, q3, Or.inr ⟨t, q4, q2⟩⟩
theorem rkE_stop {E : Nat → Nat → Prop} {k r : Nat} (h : ∀ o, rkE E (k + 1) r o → rkE E k r o) : ∀ {m o : Nat}, k ≤ m → rkE E m r o → rkE E k r o
  | 0, o, hm, q => by rw [show k = 0 by omega]; exact q
  | m + 1, o, hm, q => by
    by_cases e : k = m + 1
    · rw [e]; exact q
    · rcases q with q | ⟨t, q1, q2⟩
      · exact rkE_stop h (by omega) q
      · exact h o (Or.inr ⟨t, rkE_stop h (by omega) q1, q2⟩)
theorem rkE_all {E : Nat → Nat → Prop} {n : Nat} (hE : ∀ r o, E r o → o < n) (r : Nat) : ∀ {m o : Nat}, rkE E m r o → rkE E n r o := by
  have hlt : ∀ {k o : Nat}, rkE E k r o → o < n := by
    intro k
    induction k with
    | zero => exact fun h => hE _ _ h
    | succ k ih => intro o h; rcases h with q | ⟨t, _, q2⟩
                   · exact ih q
                   · exact hE _ _ q2
  have hst : ∀ o, rkE E (n + 1) r o → rkE E n r o := by
    apply Classical.byContradiction
    intro hno
    have hnk : ∀ k, k ≤ n → ∃ o, rkE E (k + 1) r o ∧ ¬ rkE E k r o := fun k hk => Classical.byContradiction fun q => by
      have h1 : ∀ o, rkE E (k + 1) r o → rkE E k r o := fun o ho => Classical.byContradiction fun q2 => q ⟨o, ho, q2⟩
      exact hno (fun o ho => rkE_up (rkE_stop h1 (m := n + 1) (by omega) ho) hk)
    have hc : ∀ k, k ≤ n + 1 → k ≤ cnt (fun o => @decide (rkE E k r o) (Classical.propDecidable _)) n := by
      intro k
      induction k with
      | zero => exact fun _ => Nat.zero_le _
      | succ k ih =>
        intro hk
        have h1 := ih (by omega)
        obtain ⟨o, o1, o2⟩ := hnk k (by omega)
        have h2 := cnt_lt_of2 (p := fun o => @decide (rkE E k r o) (Classical.propDecidable _)) (q := fun o => @decide (rkE E (k + 1) r o) (Classical.propDecidable _)) (n := n) (c := o) (fun t _ q => dc_t (Or.inl (dc_of q))) (hlt o1) (dc_f o2) (dc_t o1)
        omega
    have h1 := hc (n + 1) (Nat.le_refl _)
    have h2 := cnt_le (fun o => @decide (rkE E (n + 1) r o) (Classical.propDecidable _)) n
    omega
  intro m o h
  rcases Nat.le_total m n with q | q
  · exact rkE_up h q
  · exact rkE_stop hst q h
/-- one that comes to another by an alt whose other items can be empty -/
def ed (al_ it tg : Nat → Nat) (e : Nat → Bool) (r t : Nat) : Prop := ∃ a, a < al_ r ∧ ∃ k, k < it (r * 4 + a) ∧ tg ((r * 4 + a) * 5 + k) = t ∧ t ≠ NO ∧ ∀ k', k' < it (r * 4 + a) → k' ≠ k → tg ((r * 4 + a) * 5 + k') ≠ NO ∧ e (tg ((r * 4 + a) * 5 + k')) = true
/-- a rule that comes to itself -/
def Rnd (n : Nat) (al_ it tg : Nat → Nat) (e : Nat → Bool) (r : Nat) : Prop := rkE (fun r t => r < n ∧ ed al_ it tg e r t) n r r
def FirstR (n : Nat) (P : Nat → Prop) (v : Nat) : Prop := (v = NO ∧ ∀ r, r < n → ¬ P r) ∨ (v < n ∧ P v ∧ ∀ r, r < v → ¬ P r)
theorem FirstR.uniq {n : Nat} {P : Nat → Prop} {v w : Nat} (hv : FirstR n P v) (hw : FirstR n P w) : v = w := by
  rcases hv with ⟨v1, v2⟩ | ⟨v1, v2, v3⟩
  · rcases hw with ⟨w1, w2⟩ | ⟨w1, w2, w3⟩
    · rw [v1, w1]
    · exact absurd w2 (v2 w w1)
  · rcases hw with ⟨w1, w2⟩ | ⟨w1, w2, w3⟩
    · exact absurd v2 (w2 v v1)
    · rcases Nat.lt_or_ge v w with q | q
      · exact absurd v2 (w3 v q)
      · rcases Nat.lt_or_ge w v with q2 | q2
        · exact absurd w2 (v3 w q2)
        · omega
theorem acyc_of {n : Nat} {al_ it tg pt bd sg co : Nat → Nat} {e : Nat → Bool} (hc : CloT n al_ it tg) (he : IsEmp n al_ it tg e) (hr : ∀ r, r < n → ¬ Rnd n al_ it tg e r) : ∃ emp rk, Acyc (gE al_ it tg pt bd sg co) n emp rk := by
  let E : Nat → Nat → Prop := fun r t => r < n ∧ ed al_ it tg e r t
  have hE : ∀ r o, E r o → o < n := by
    rintro r o ⟨h1, a, ha, k, hk, h2, h3, -⟩
    rcases hc r a k h1 ha hk with q | q
    · exact absurd (h2.symm.trans q) h3
    · omega
  refine ⟨fun t => e t = true, fun r => cnt (fun o => @decide (rkE E n r o) (Classical.propDecidable _)) n, fun r hr a ha k hk => hc r a k hr ha hk, fun r hr q => (he.1 r hr).mpr q, fun r hr9 => ⟨?_, fun t ht => ?_⟩⟩
  · exact cnt_lt_of hr9 (dc_f (hr r hr9))
  · have hE1 : E r t := ⟨hr9, ht⟩
    have htn := hE r t hE1
    refine ⟨htn, ?_⟩
    refine cnt_lt_of2 (c := t) (fun o _ q => ?_) htn (dc_f (hr t htn)) (dc_t (rkE_up (E := E) (k := 0) (show rkE E 0 r t from hE1) (Nat.zero_le _)))
    exact dc_t (rkE_all hE r (rkE_front hE1 (dc_of q)))
