/-! WHICH RULES one comes to, as bits -/
def edK (it tg : Nat → Nat) (e : Nat → Bool) (x k t : Nat) : Prop := tg (x * 5 + k) = t ∧ t ≠ NO ∧ ∀ k', k' < it x → k' ≠ k → tg (x * 5 + k') ≠ NO ∧ e (tg (x * 5 + k')) = true
theorem cnt_rem {p : Nat → Bool} {k : Nat} (hp : p k = true) : ∀ {n : Nat}, k < n → cnt p n = cnt (fun j => p j && decide (j ≠ k)) n + 1
  | 0, h => by omega
  | n + 1, h => by
    rw [cnt, cnt]
    by_cases e : k = n
    · subst e
      have h1 : ∀ m, m ≤ k → cnt p m = cnt (fun j => p j && decide (j ≠ k)) m := by
        intro m
        induction m with
        | zero => exact fun _ => rfl
        | succ m ih =>
          intro hm
          rw [cnt, cnt, ih (by omega)]
          have : decide (m ≠ k) = true := decide_eq_true (by omega)
          simp only [this, Bool.and_true]
      rw [h1 k (Nat.le_refl _), if_pos hp, if_neg (by simp)]
    · rw [cnt_rem hp (n := n) (by omega)]
      have : decide (n ≠ k) = true := decide_eq_true (fun q => e q.symm)
      simp only [this, Bool.and_true]
      omega
theorem solid_iff {it tg : Nat → Nat} {e : Nat → Bool} {x k : Nat} (hk : k < it x) : neC tg it e x = (if tg (x * 5 + k) ≠ NO ∧ e (tg (x * 5 + k)) = true then 0 else 1) ↔ ∀ k', k' < it x → k' ≠ k → tg (x * 5 + k') ≠ NO ∧ e (tg (x * 5 + k')) = true := by
  by_cases h : tg (x * 5 + k) ≠ NO ∧ e (tg (x * 5 + k)) = true
  · rw [if_pos h, neC_0]
    exact ⟨fun q k' h1 _ => q k' h1, fun q k' h1 => if e2 : k' = k then e2 ▸ h else q k' h1 e2⟩
  · rw [if_neg h]
    unfold neC
    have hp : (fun k => !(decide (tg (x * 5 + k) ≠ NO) && e (tg (x * 5 + k)))) k = true := by
      simp only [Bool.not_eq_true', Bool.and_eq_false_iff, decide_eq_false_iff_not]
      by_cases q : tg (x * 5 + k) ≠ NO
      · right
        cases q2 : e (tg (x * 5 + k)) with
        | false => rfl
        | true => exact absurd ⟨q, q2⟩ h
      · exact Or.inl q
    rw [cnt_rem hp hk]
    constructor
    · intro q k' h1 h2
      have := cnt_zero (Nat.succ.inj q) k' h1
      simp only [decide_eq_true h2, Bool.and_true, Bool.not_eq_false', Bool.and_eq_true, decide_eq_true_eq] at this
      exact this
    · intro q
      rw [cnt_0 (fun j hj => ?_)]
      by_cases e2 : j = k
      · simp [e2]
      · have := q j hj e2
        simp [this.1, this.2]
theorem or_pow_bit {m t d : Nat} : (m ||| 2 ^ t).testBit d = true ↔ (m.testBit d = true ∨ d = t) := by
  rw [Nat.testBit_or, Nat.testBit_two_pow, Bool.or_eq_true, decide_eq_true_eq]
  exact ⟨fun h => h.imp id Eq.symm, fun h => h.imp id Eq.symm⟩
theorem or_lt8 {a b : Nat} (ha : a < 256) (hb : b < 256) : a ||| b < 256 := Nat.or_lt_two_pow (n := 8) ha hb
theorem pow_lt8 {t : Nat} (h : t < 8) : 2 ^ t < 256 := Nat.pow_lt_pow_right (by decide) (show t < 8 from h)
/-- the alts ahead, the items ahead in this one -/
def cmI (al_ it tg : Nat → Nat) (e : Nat → Bool) (r a k m : Nat) : Prop := m < 256 ∧ ∀ t, m.testBit t = true ↔ ((∃ a', a' < a ∧ ∃ k', k' < it (r * 4 + a') ∧ edK it tg e (r * 4 + a') k' t) ∨ ∃ k', k' < k ∧ edK it tg e (r * 4 + a) k' t)
theorem cmI.start {al_ it tg : Nat → Nat} {e : Nat → Bool} {r : Nat} : cmI al_ it tg e r 0 0 0 := ⟨by decide, fun t => ⟨fun h => by simp at h, fun h => by
  rcases h with ⟨a, h1, _⟩ | ⟨k, h1, _⟩
  · omega
  · omega⟩⟩
theorem cmI.next {al_ it tg : Nat → Nat} {e : Nat → Bool} {r a k m : Nat} (h : cmI al_ it tg e r a k m) (hk : k = it (r * 4 + a)) : cmI al_ it tg e r (a + 1) 0 m := ⟨h.1, fun t => by
  rw [h.2 t]
  constructor
  · rintro (⟨a', h1, h2⟩ | ⟨k', h1, h2⟩)
    · exact Or.inl ⟨a', by omega, h2⟩
    · exact Or.inl ⟨a, by omega, k', by omega, h2⟩
  · rintro (⟨a', h1, k', h2, h3⟩ | ⟨k', h1, _⟩)
    · by_cases e1 : a' = a
      · subst e1; exact Or.inr ⟨k', by omega, h3⟩
      · exact Or.inl ⟨a', by omega, k', h2, h3⟩
    · omega⟩
theorem cmI.yes {al_ it tg : Nat → Nat} {e : Nat → Bool} {r a k m : Nat} (h : cmI al_ it tg e r a k m) (ht : tg ((r * 4 + a) * 5 + k) < 8) (hq : edK it tg e (r * 4 + a) k (tg ((r * 4 + a) * 5 + k))) : cmI al_ it tg e r a (k + 1) (m ||| 2 ^ tg ((r * 4 + a) * 5 + k)) := ⟨or_lt8 h.1 (pow_lt8 ht), fun t => by
  rw [or_pow_bit, h.2 t]
  constructor
  · rintro ((q | ⟨k', h1, h2⟩) | q)
    · exact Or.inl q
    · exact Or.inr ⟨k', by omega, h2⟩
    · exact Or.inr ⟨k, by omega, by rw [q]; exact hq⟩
  · rintro (q | ⟨k', h1, h2⟩)
    · exact Or.inl (Or.inl q)
    · by_cases e1 : k' = k
      · subst e1; exact Or.inr h2.1.symm
      · exact Or.inl (Or.inr ⟨k', by omega, h2⟩)⟩
theorem cmI.no {al_ it tg : Nat → Nat} {e : Nat → Bool} {r a k m : Nat} (h : cmI al_ it tg e r a k m) (hq : ∀ t, ¬ edK it tg e (r * 4 + a) k t) : cmI al_ it tg e r a (k + 1) m := ⟨h.1, fun t => by
  rw [h.2 t]
  constructor
  · rintro (q | ⟨k', h1, h2⟩)
    · exact Or.inl q
    · exact Or.inr ⟨k', by omega, h2⟩
  · rintro (q | ⟨k', h1, h2⟩)
    · exact Or.inl q
    · by_cases e1 : k' = k
      · subst e1; exact absurd h2 (hq t)
      · exact Or.inr ⟨k', by omega, h2⟩⟩
theorem cmI.ed {al_ it tg : Nat → Nat} {e : Nat → Bool} {r a m : Nat} (h : cmI al_ it tg e r a 0 m) (ha : a = al_ r) : ∀ t, m.testBit t = true ↔ ed al_ it tg e r t := fun t => by
  rw [h.2 t, ha]
  constructor
  · rintro (⟨a', h1, k', h2, h3⟩ | ⟨k', h1, _⟩)
    · exact ⟨a', h1, k', h2, h3.1, h3.2⟩
    · omega
  · rintro ⟨a', h1, k', h2, h3, h4⟩
    exact Or.inl ⟨a', h1, k', h2, h3, h4⟩
/-- closing, inside a pass: ahead of y, c0 at its start -/
def fcI (n : Nat) (E : Nat → Nat → Prop) (r y c0 c : Nat) : Prop := y ≤ n ∧ c < 256 ∧ (∀ o, c.testBit o = true → ∃ m, rkE E m r o) ∧ (∀ o, c0.testBit o = true → c.testBit o = true) ∧ ∀ p, p < y → c0.testBit p = true → ∀ o, E p o → c.testBit o = true
def fcP (E : Nat → Nat → Prop) (r ps c : Nat) : Prop := c < 256 ∧ (∀ o, c.testBit o = true → ∃ m, rkE E m r o) ∧ ∀ o, rkE E ps r o → c.testBit o = true
theorem fcP.go {n : Nat} {E : Nat → Nat → Prop} {r ps c : Nat} (h : fcP E r ps c) : fcI n E r 0 c c := ⟨Nat.zero_le _, h.1, h.2.1, fun _ q => q, fun p hp => absurd hp (Nat.not_lt_zero _)⟩
theorem fcI.no {n : Nat} {E : Nat → Nat → Prop} {r y c0 c : Nat} (h : fcI n E r y c0 c) (hy : y < n) (hb : c.testBit y = false) : fcI n E r (y + 1) c0 c := ⟨by omega, h.2.1, h.2.2.1, h.2.2.2.1, fun p hp q => if e : p = y then (by
  rw [e] at q
  have := h.2.2.2.1 y q
  rw [hb] at this; cases this) else h.2.2.2.2 p (by omega) q⟩
theorem fcI.yes {n : Nat} {E : Nat → Nat → Prop} {r y c0 c v : Nat} (h : fcI n E r y c0 c) (hy : y < n) (hb : c.testBit y = true) (hv : v < 256) (hE : ∀ t, v.testBit t = true ↔ E y t) : fcI n E r (y + 1) c0 (c ||| v) := by
  refine ⟨by omega, or_lt8 h.2.1 hv, fun o q => ?_, fun o q => bs_or1 c v o (h.2.2.2.1 o q), fun p hp q o ho => ?_⟩
  · rw [Nat.testBit_or, Bool.or_eq_true] at q
    rcases q with q | q
    · exact h.2.2.1 o q
    · obtain ⟨m, hm⟩ := h.2.2.1 y hb
      exact ⟨m + 1, Or.inr ⟨y, hm, (hE o).mp q⟩⟩
  · by_cases e : p = y
    · rw [e] at ho; exact bs_or2 c v o ((hE o).mpr ho)
    · exact bs_or1 c v o (h.2.2.2.2 p (by omega) q o ho)
theorem fcI.fin {n : Nat} {E : Nat → Nat → Prop} {r ps c0 c : Nat} (h0 : fcP E r ps c0) (h : fcI n E r n c0 c) (hE : ∀ r o, E r o → r < n ∧ o < n) : fcP E r (ps + 1) c := ⟨h.2.1, h.2.2.1, fun o q => by
  rcases q with q | ⟨p, q1, q2⟩
  · exact h.2.2.2.1 o (h0.2.2 o q)
  · exact h.2.2.2.2 p (hE p o q2).1 (h0.2.2 p q1) o q2⟩
theorem fcP.rnd {n : Nat} {E : Nat → Nat → Prop} {r c : Nat} (h : fcP E r n c) (hE : ∀ r o, E r o → o < n) : c.testBit r = true ↔ rkE E n r r := ⟨fun q => by
  obtain ⟨m, hm⟩ := h.2.1 r q
  exact rkE_all hE r hm, h.2.2 r⟩
