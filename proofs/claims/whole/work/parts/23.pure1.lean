/-! PURE WORDS: counting, searching, least and greatest of a row -/
abbrev NO : Nat := 4294967295
/-- the first number from i on (n of them) of which p holds; NO where there is none -/
def srch (p : Nat → Bool) (i : Nat) : Nat → Nat
  | 0 => NO
  | n + 1 => bif p i then i else srch p (i + 1) n
theorem srch_no {p : Nat → Bool} {i n : Nat} (h : 0 < n) (hp : p i = false) : srch p i n = srch p (i + 1) (n - 1) := by
  match n, h with
  | n + 1, _ => rw [srch, hp]; rfl
theorem srch_yes {p : Nat → Bool} {i n : Nat} (h : 0 < n) (hp : p i = true) : srch p i n = i := by
  match n, h with
  | n + 1, _ => rw [srch, hp]; rfl
theorem srch_end {p : Nat → Bool} {i n : Nat} (h : n = 0) : srch p i n = NO := by rw [h]; rfl
theorem srch_spec (p : Nat → Bool) : ∀ (n i : Nat), (srch p i n = NO ∧ ∀ q, i ≤ q → q < i + n → p q = false) ∨ (i ≤ srch p i n ∧ srch p i n < i + n ∧ p (srch p i n) = true ∧ ∀ q, i ≤ q → q < srch p i n → p q = false)
  | 0, i => Or.inl ⟨rfl, fun q h1 h2 => by omega⟩
  | n + 1, i => by
    cases hp : p i with
    | true =>
      rw [srch_yes (by omega) hp]
      exact Or.inr ⟨Nat.le_refl _, by omega, hp, fun q h1 h2 => by omega⟩
    | false =>
      rw [srch_no (by omega) hp, Nat.add_sub_cancel]
      rcases srch_spec p n (i + 1) with ⟨h1, h2⟩ | ⟨h1, h2, h3, h4⟩
      · refine Or.inl ⟨h1, fun q q1 q2 => ?_⟩
        rcases Nat.eq_or_lt_of_le q1 with e | e
        · rw [← e]; exact hp
        · exact h2 q e (by omega)
      · refine Or.inr ⟨by omega, by omega, h3, fun q q1 q2 => ?_⟩
        rcases Nat.eq_or_lt_of_le q1 with e | e
        · rw [← e]; exact hp
        · exact h4 q e q2
/-- how many numbers below n p has -/
def cnt (p : Nat → Bool) : Nat → Nat
  | 0 => 0
  | n + 1 => cnt p n + (if p n = true then 1 else 0)
theorem cnt_le (p : Nat → Bool) : ∀ n, cnt p n ≤ n
  | 0 => Nat.le_refl _
  | n + 1 => by
    have := cnt_le p n
    rw [cnt]
    split <;> omega
theorem cnt_s {p : Nat → Bool} {n a : Nat} {c : Prop} [Decidable c] (h : a = cnt p n) (hc : c ↔ p n = true) : a + (if c then 1 else 0) = cnt p (n + 1) := by
  rw [cnt, ← h]
  by_cases q : c
  · rw [if_pos q, if_pos (hc.mp q)]
  · rw [if_neg q, if_neg (fun r => q (hc.mpr r))]
theorem cnt_0 {p : Nat → Bool} : ∀ {n : Nat}, (∀ q, q < n → p q = false) → cnt p n = 0
  | 0, _ => rfl
  | n + 1, h => by
    rw [cnt, cnt_0 (fun q hq => h q (by omega)), if_neg (by rw [h n (by omega)]; decide)]
theorem cnt_cong {p q : Nat → Bool} : ∀ {n : Nat}, (∀ k, k < n → p k = q k) → cnt p n = cnt q n
  | 0, _ => rfl
  | n + 1, h => by rw [cnt, cnt, cnt_cong (fun k hk => h k (by omega)), h n (by omega)]
/-- the least of n places of a row from a on; NO of none -/
def mnc (g : Nat → Nat) (a : Nat) : Nat → Nat
  | 0 => NO
  | n + 1 => if mnc g a n = NO then g (a + n) else min (mnc g a n) (g (a + n))
def mxc (g : Nat → Nat) (a : Nat) : Nat → Nat
  | 0 => NO
  | n + 1 => if mxc g a n = NO then g (a + n) else max (mxc g a n) (g (a + n))
theorem mnc_b {g : Nat → Nat} {a B : Nat} (h : ∀ q, g q < B) : ∀ n, mnc g a n = NO ∨ mnc g a n < B
  | 0 => Or.inl rfl
  | n + 1 => by
    have := mnc_b (a := a) h n
    have h2 := h (a + n)
    rw [mnc]
    split <;> omega
theorem mxc_b {g : Nat → Nat} {a B : Nat} (h : ∀ q, g q < B) : ∀ n, mxc g a n = NO ∨ mxc g a n < B
  | 0 => Or.inl rfl
  | n + 1 => by
    have := mxc_b (a := a) h n
    have h2 := h (a + n)
    rw [mxc]
    split <;> omega
theorem mx_ok {a v : Nat} (ha : a = NO ∨ a < 2147483648) (hv : v < 2147483648) : (if nI a < nI v then nI v else nI a) = nI (if a = NO then v else max a v) := by
  rcases ha with rfl | ha
  · rw [if_pos, if_pos rfl]
    rw [show nI NO = (-1 : Int32) by decide, Int32.lt_iff_toInt_lt, nI_toInt (by omega)]
    have : (-1 : Int32).toInt = -1 := by decide
    omega
  · have hn : ¬ a = NO := by unfold NO; omega
    rw [if_neg hn]
    by_cases q : a < v
    · rw [if_pos ((nI_ltI ha hv).mpr q), Nat.max_eq_right (by omega)]
    · rw [if_neg (fun r => q ((nI_ltI ha hv).mp r)), Nat.max_eq_left (by omega)]
/-- a number and a whole number -/
def addz (a : Nat) (z : Int) : Nat := ((a : Int) + z).toNat
theorem addz_ok {a : Nat} {x : Int32} (h0 : 0 ≤ (a : Int) + x.toInt) (h1 : (a : Int) + x.toInt < 2147483648) (ha : a < 2147483648) : nI a + x = nI (addz a x.toInt) := by
  have h2 : -2147483648 ≤ x.toInt ∧ x.toInt < 2147483648 := ⟨Int32.le_toInt x, Int32.toInt_lt x⟩
  apply Int32.toInt_inj.mp
  rw [Int32.toInt_add, nI_toInt (by omega), nI_toInt (show addz a x.toInt < 2 ^ 31 by unfold addz; omega)]
  unfold addz
  have : ((a : Int) + x.toInt).bmod (2 ^ 32) = (a : Int) + x.toInt := Int.bmod_eq_of_le (by omega) (by omega)
  rw [this]
  omega
