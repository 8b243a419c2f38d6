/-! NAMES resolved, purely -/
def itO (al_ it : Nat → Nat) (a : Nat) : Nat := if a % 4 < al_ (a / 4) then it a else 0
def nmT (n : Nat) (gn pt tg : Nat → Nat) (x : Nat) : Nat := if tg x = NO then NO else srch (fun q => gn q == pt x) 0 n
/-- names ahead of an item are resolved -/
def rsI (n : Nat) (gn al_ it pt tg : Nat → Nat) (a k : Nat) (T : Nat → Nat) : Prop := (∀ a' k', k' < itO al_ it a' → (a' < a ∨ (a' = a ∧ k' < k)) → T (a' * 5 + k') = nmT n gn pt tg (a' * 5 + k') ∧ (tg (a' * 5 + k') ≠ NO → nmT n gn pt tg (a' * 5 + k') ≠ NO)) ∧ (∀ q, a * 5 + k ≤ q → T q = tg q) ∧ ∀ q, T q = 4294967295 ∨ T q < 8
theorem rsI.start {n : Nat} {gn al_ it pt tg : Nat → Nat} (h : ∀ q, tg q = 4294967295 ∨ tg q < 8) : rsI n gn al_ it pt tg 0 0 tg := ⟨fun a' k' _ h2 => by omega, fun _ _ => rfl, h⟩
theorem itO_le {al_ it : Nat → Nat} (h : ∀ q, it q ≤ 5) (a : Nat) : itO al_ it a ≤ 5 := by unfold itO; split <;> first | exact h a | omega
theorem rsI.row {n : Nat} {gn al_ it pt tg : Nat → Nat} {a k : Nat} {T : Nat → Nat} (h : rsI n gn al_ it pt tg a k T) (hi : ∀ q, it q ≤ 5) (hk : k = itO al_ it a) : rsI n gn al_ it pt tg (a + 1) 0 T := ⟨fun a' k' h1 h2 => h.1 a' k' h1 (by
  by_cases e : a' = a
  · subst e; exact Or.inr ⟨rfl, by omega⟩
  · exact Or.inl (by omega)), fun q hq => h.2.1 q (by have := itO_le (al_ := al_) hi a; omega), h.2.2⟩
theorem rsI.sign {n : Nat} {gn al_ it pt tg : Nat → Nat} {a k : Nat} {T : Nat → Nat} (h : rsI n gn al_ it pt tg a k T) (hq : T (a * 5 + k) = NO) : rsI n gn al_ it pt tg a (k + 1) T := by
  have ht : tg (a * 5 + k) = NO := (h.2.1 _ (Nat.le_refl _)).symm.trans hq
  refine ⟨fun a' k' h1 h2 => ?_, fun q hq => h.2.1 q (by omega), h.2.2⟩
  by_cases e : a' = a ∧ k' = k
  · obtain ⟨rfl, rfl⟩ := e
    unfold nmT
    rw [if_pos ht, hq]
    exact ⟨rfl, fun q => absurd ht q⟩
  · exact h.1 a' k' h1 (by omega)
theorem srch_b8 {p : Nat → Bool} {n : Nat} (hn : n ≤ 8) : srch p 0 n = 4294967295 ∨ srch p 0 n < 8 := by
  rcases srch_spec p n 0 with ⟨q, -⟩ | ⟨-, q, -⟩
  · exact Or.inl q
  · exact Or.inr (by omega)
theorem rsI.name {n : Nat} {gn al_ it pt tg : Nat → Nat} {a k : Nat} {T : Nat → Nat} (h : rsI n gn al_ it pt tg a k T) (hi : ∀ q, it q ≤ 5) (hk : k < itO al_ it a) (hn : n ≤ 8) (hq : ¬ T (a * 5 + k) = NO) (hv : ¬ srch (fun q => gn q == pt (a * 5 + k)) 0 n = NO) : rsI n gn al_ it pt tg a (k + 1) (up T (a * 5 + k) (srch (fun q => gn q == pt (a * 5 + k)) 0 n)) := by
  have ht : ¬ tg (a * 5 + k) = NO := fun e => hq ((h.2.1 _ (Nat.le_refl _)).trans e)
  refine ⟨fun a' k' h1 h2 => ?_, fun q hq => by rw [up_n (by omega)]; exact h.2.1 q (by omega), fun q => ?_⟩
  · have b1 := itO_le (al_ := al_) hi a'
    have b2 := itO_le (al_ := al_) hi a
    by_cases e : a' = a ∧ k' = k
    · obtain ⟨rfl, rfl⟩ := e
      unfold nmT
      rw [if_neg ht, up_s]
      exact ⟨rfl, fun _ => hv⟩
    · rw [up_n (by omega)]
      exact h.1 a' k' h1 (by omega)
  · unfold up; split
    · exact srch_b8 hn
    · exact h.2.2 q
/-- how it ends: all resolved, or the first stray -/
def rsE (n : Nat) (gn al_ it pt tg pp : Nat → Nat) (v : Nat) (T : Nat → Nat) : Prop := (v = NO ∧ rsI n gn al_ it pt tg (n * 4) 0 T) ∨ ∃ a k, a < n * 4 ∧ k < itO al_ it a ∧ tg (a * 5 + k) ≠ NO ∧ nmT n gn pt tg (a * 5 + k) = NO ∧ v = pp (a * 5 + k) ∧ ∃ T0, rsI n gn al_ it pt tg a k T0
