/-! THE FIRST STRAY, as the model seeks it -/
def sVl (n : Nat) (al_ it : Nat → Nat) (r a k : Nat) : Prop := r < n ∧ a < al_ r ∧ k < it (r * 4 + a)
def sSt (n : Nat) (gn pt tg : Nat → Nat) (x : Nat) : Prop := tg x ≠ NO ∧ srch (fun q => gn q == pt x) 0 n = NO
def stI (n : Nat) (gn al_ it pt tg pl : Nat → Nat) (x0 v : Nat) : Prop := (v = NO ∧ ∀ r a k, sVl n al_ it r a k → (r * 4 + a) * 5 + k < x0 → ¬ sSt n gn pt tg ((r * 4 + a) * 5 + k)) ∨ (v < 2147483648 ∧ (∃ r a k, sVl n al_ it r a k ∧ (r * 4 + a) * 5 + k < x0 ∧ sSt n gn pt tg ((r * 4 + a) * 5 + k) ∧ v = pl ((r * 4 + a) * 5 + k)) ∧ ∀ r a k, sVl n al_ it r a k → (r * 4 + a) * 5 + k < x0 → sSt n gn pt tg ((r * 4 + a) * 5 + k) → v ≤ pl ((r * 4 + a) * 5 + k))
theorem stI.to {n : Nat} {gn al_ it pt tg pl : Nat → Nat} {x0 x1 v : Nat} (h : stI n gn al_ it pt tg pl x0 v) (h1 : x0 ≤ x1) (h2 : ∀ r a k, sVl n al_ it r a k → (r * 4 + a) * 5 + k < x1 → (r * 4 + a) * 5 + k < x0) : stI n gn al_ it pt tg pl x1 v := by
  rcases h with ⟨a1, a2⟩ | ⟨a1, ⟨r, a, k, b1, b2, b3, b4⟩, a3⟩
  · exact Or.inl ⟨a1, fun r a k q1 q2 => a2 r a k q1 (h2 r a k q1 q2)⟩
  · exact Or.inr ⟨a1, ⟨r, a, k, b1, by omega, b3, b4⟩, fun r a k q1 q2 => a3 r a k q1 (h2 r a k q1 q2)⟩
theorem slot_eq {r a k r2 a2 k2 : Nat} (h : (r * 4 + a) * 5 + k = (r2 * 4 + a2) * 5 + k2) (ha : a < 4) (hk : k < 5) (ha2 : a2 < 4) (hk2 : k2 < 5) : r = r2 ∧ a = a2 ∧ k = k2 := by omega
theorem stI.no {n : Nat} {gn al_ it pt tg pl : Nat → Nat} {r a k v : Nat} (hb : ∀ r a k, sVl n al_ it r a k → a < 4 ∧ k < 5) (h : stI n gn al_ it pt tg pl ((r * 4 + a) * 5 + k) v) (hs : ¬ sSt n gn pt tg ((r * 4 + a) * 5 + k)) : stI n gn al_ it pt tg pl ((r * 4 + a) * 5 + (k + 1)) v := by
  rcases h with ⟨a1, a2⟩ | ⟨a1, ⟨r', a', k', b1, b2, b3, b4⟩, a3⟩
  · refine Or.inl ⟨a1, fun r2 a2' k2 q1 q2 => ?_⟩
    by_cases e : (r2 * 4 + a2') * 5 + k2 = (r * 4 + a) * 5 + k
    · rw [e]; exact hs
    · exact a2 r2 a2' k2 q1 (by omega)
  · refine Or.inr ⟨a1, ⟨r', a', k', b1, by omega, b3, b4⟩, fun r2 a2' k2 q1 q2 q3 => ?_⟩
    by_cases e : (r2 * 4 + a2') * 5 + k2 = (r * 4 + a) * 5 + k
    · rw [e] at q3; exact absurd q3 hs
    · exact a3 r2 a2' k2 q1 (by omega) q3
theorem stI.yes {n : Nat} {gn al_ it pt tg pl : Nat → Nat} {r a k v : Nat} (hv : sVl n al_ it r a k) (h : stI n gn al_ it pt tg pl ((r * 4 + a) * 5 + k) v) (hs : sSt n gn pt tg ((r * 4 + a) * 5 + k)) (hp : pl ((r * 4 + a) * 5 + k) < 2147483648) (hc : v = NO ∨ pl ((r * 4 + a) * 5 + k) < v) : stI n gn al_ it pt tg pl ((r * 4 + a) * 5 + (k + 1)) (pl ((r * 4 + a) * 5 + k)) := by
  refine Or.inr ⟨hp, ⟨r, a, k, hv, by omega, hs, rfl⟩, fun r2 a2 k2 q1 q2 q3 => ?_⟩
  by_cases e : (r2 * 4 + a2) * 5 + k2 = (r * 4 + a) * 5 + k
  · rw [e]; exact Nat.le_refl _
  · rcases h with ⟨a1, a2'⟩ | ⟨a1, _, a3⟩
    · exact absurd q3 (a2' r2 a2 k2 q1 (by omega))
    · have h1 := a3 r2 a2 k2 q1 (by omega) q3
      rcases hc with hc | hc
      · unfold NO at hc; omega
      · omega
theorem stI.keep {n : Nat} {gn al_ it pt tg pl : Nat → Nat} {r a k v : Nat} (h : stI n gn al_ it pt tg pl ((r * 4 + a) * 5 + k) v) (hn : v ≠ NO) (hc : v ≤ pl ((r * 4 + a) * 5 + k)) : stI n gn al_ it pt tg pl ((r * 4 + a) * 5 + (k + 1)) v := by
  rcases h with ⟨a1, _⟩ | ⟨a1, ⟨r', a', k', b1, b2, b3, b4⟩, a3⟩
  · exact absurd a1 hn
  · refine Or.inr ⟨a1, ⟨r', a', k', b1, by omega, b3, b4⟩, fun r2 a2' k2 q1 q2 q3 => ?_⟩
    by_cases e : (r2 * 4 + a2') * 5 + k2 = (r * 4 + a) * 5 + k
    · rw [e]; exact hc
    · exact a3 r2 a2' k2 q1 (by omega) q3
theorem stI.lt {n : Nat} {gn al_ it pt tg pl : Nat → Nat} {x0 v : Nat} (h : stI n gn al_ it pt tg pl x0 v) : v = NO ∨ v < 2147483648 := by
  rcases h with ⟨a1, _⟩ | ⟨a1, _⟩
  · exact Or.inl a1
  · exact Or.inr a1
