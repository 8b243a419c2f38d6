/-! COLUMNS as bits: the class's and the model's ways of laying them -/
theorem lsr {x : Int64} {y : Int32} {m k : Nat} (h : x = lN m) (hy : y = nI k) (hm : m < 18446744073709551616) (hk : k < 64) : (x.toUInt64 >>> (y.toInt64.toUInt64 &&& Int64.toUInt64 63)).toInt64 = lN (m / 2 ^ k) := by
  subst h; subst hy
  exact wb_shr (by omega) hk
theorem lsl {x : Int64} {y : Int32} {m k : Nat} (h : x = lN m) (hy : y = nI k) (hk : k < 64) : x <<< (y.toInt64 &&& 63) = lN (m * 2 ^ k) := by
  subst h; subst hy
  exact wb_shl m hk
def smr (k m : Nat) : Nat := m ||| m / 2 ^ k
theorem smr_bit (k m i : Nat) : (smr k m).testBit i = (m.testBit i || m.testBit (k + i)) := by
  unfold smr
  rw [Nat.testBit_or, Nat.testBit_div_two_pow, Nat.add_comm]
theorem smr_lt {k m : Nat} (h : m < 1099511627776) : smr k m < 1099511627776 := by
  unfold smr
  have h1 : m < 2 ^ 40 := h
  have h2 : m / 2 ^ k < 2 ^ 40 := Nat.lt_of_le_of_lt (Nat.div_le_self _ _) h1
  exact Nat.or_lt_two_pow h1 h2
theorem smr_all (m i : Nat) : (smr 32 (smr 16 (smr 8 (smr 4 (smr 2 (smr 1 m)))))).testBit i = true ↔ ∃ j, j < 64 ∧ m.testBit (i + j) = true := by
  have key : ∀ (s : Nat) (f : Nat → Nat) (g : Nat → Nat), (∀ i, (f m).testBit i = true ↔ ∃ j, j < s ∧ m.testBit (i + j) = true) → (∀ i, (smr s (f m)).testBit i = true ↔ ∃ j, j < s + s ∧ m.testBit (i + j) = true) := by
    intro s f g h i
    rw [smr_bit, Bool.or_eq_true, h i, h (s + i)]
    constructor
    · rintro (⟨j, h1, h2⟩ | ⟨j, h1, h2⟩)
      · exact ⟨j, by omega, h2⟩
      · exact ⟨s + j, by omega, by rw [show i + (s + j) = s + i + j by omega]; exact h2⟩
    · rintro ⟨j, h1, h2⟩
      rcases Nat.lt_or_ge j s with q | q
      · exact Or.inl ⟨j, q, h2⟩
      · exact Or.inr ⟨j - s, by omega, by rw [show s + i + (j - s) = i + j by omega]; exact h2⟩
  have h0 : ∀ i, (id m).testBit i = true ↔ ∃ j, j < 1 ∧ m.testBit (i + j) = true := fun i => ⟨fun h => ⟨0, by decide, h⟩, fun ⟨j, h1, h2⟩ => by rw [show j = 0 by omega] at h2; exact h2⟩
  have h1 := key 1 id id h0
  have h2 := key 2 (fun m => smr 1 m) id h1
  have h3 := key 4 (fun m => smr 2 (smr 1 m)) id h2
  have h4 := key 8 (fun m => smr 4 (smr 2 (smr 1 m))) id h3
  have h5 := key 16 (fun m => smr 8 (smr 4 (smr 2 (smr 1 m)))) id h4
  exact key 32 (fun m => smr 16 (smr 8 (smr 4 (smr 2 (smr 1 m))))) id h5 i
theorem smr_log {m : Nat} (h0 : m ≠ 0) (h : m < 1099511627776) : smr 32 (smr 16 (smr 8 (smr 4 (smr 2 (smr 1 m))))) = 2 ^ (Nat.log2 m + 1) - 1 := by
  apply Nat.eq_of_testBit_eq
  intro i
  have hl := log2_bit h0
  have e : (smr 32 (smr 16 (smr 8 (smr 4 (smr 2 (smr 1 m)))))).testBit i = true ↔ (2 ^ (Nat.log2 m + 1) - 1).testBit i = true := by
    rw [smr_all, Nat.testBit_two_pow_sub_one, decide_eq_true_eq]
    constructor
    · rintro ⟨j, -, h2⟩
      have := bit_le_log2 h2
      omega
    · intro hi
      have h4 : Nat.log2 m < 40 := by
        rcases Nat.lt_or_ge (Nat.log2 m) 40 with q | q
        · exact q
        · have h5 : m < 2 ^ 40 := h
          rw [testBit_hi h5 _ q] at hl
          cases hl
      exact ⟨Nat.log2 m - i, by omega, by rw [show i + (Nat.log2 m - i) = Nat.log2 m by omega]; exact hl⟩
  cases h1 : (smr 32 (smr 16 (smr 8 (smr 4 (smr 2 (smr 1 m)))))).testBit i with
  | true => exact (e.mp h1).symm
  | false =>
    cases h2 : (2 ^ (Nat.log2 m + 1) - 1).testBit i with
    | true => rw [e.mpr h2] at h1; cases h1
    | false => rfl
theorem p2log {k : Nat} : (2 ^ (k + 1) - 1) / 2 ^ 1 = 2 ^ k - 1 := by
  rw [Nat.pow_succ]
  have := Nat.two_pow_pos k
  omega
theorem mx1 {i j : Nat} (hi : i < 2147483648) (hj : j < 2147483648) : (if nI i < nI j - 1 then nI j - 1 else nI i) = nI (max i (j - 1)) := by
  rcases Nat.eq_zero_or_pos j with e | e
  · subst e
    rw [if_neg, Nat.max_eq_left (by omega)]
    rw [show nI 0 - 1 = (-1 : Int32) by decide, Int32.lt_iff_toInt_lt, nI_toInt (by omega)]
    have : (-1 : Int32).toInt = -1 := by decide
    omega
  · have e1 : nI j - 1 = nI (j - 1) := ns rfl rfl e
    rw [e1]
    by_cases q : i < j - 1
    · rw [if_pos ((nI_ltI hi (by omega)).mpr q), Nat.max_eq_right (by omega)]
    · rw [if_neg (fun r => q ((nI_ltI hi (by omega)).mp r)), Nat.max_eq_left (by omega)]
theorem nrem {x y : Int32} {a b : Nat} (hx : x = nI a) (hy : y = nI b) (ha : a < 2147483648) (h0 : 0 < b) (hb : b < 2147483648) : x - x / y * y = nI (a % b) := by
  subst hx; subst hy
  exact pk_rem (by omega) h0 (by omega)
theorem ndiv {x y : Int32} {a b : Nat} (hx : x = nI a) (hy : y = nI b) (ha : a < 2147483648) (h0 : 0 < b) (hb : b < 2147483648) : x / y = nI (a / b) := by
  subst hx; subst hy
  exact pk_div (by omega) h0 (by omega)
/-- a flat row of columns, by rule, from, to -/
def w3 (W : Nat → Nat) : Nat → Nat → Nat → Nat := fun r p q => W ((r * 21 + p) * 21 + q)
/-- the columns ahead of an item, as the chart holds them -/
def ahd (R : Nat → Nat) (s i p : Nat) : Nat := if s % 5 = 0 then (if p = i then A40 else 0) else R ((s - 1) * 21 + p)
/-- rules as they may be: nothing leads out of a row -/
def SafeG (n : Nat) (nm al_ it pt tg bd : Nat → Nat) : Prop := n ≤ 8 ∧ (∀ q, nm q < 128) ∧ (∀ q, al_ q ≤ 4) ∧ (∀ q, it q ≤ 5) ∧ (∀ q, pt q < 128) ∧ (∀ q, tg q = 4294967295 ∨ tg q < 8) ∧ (∀ q, bd q < 128)
def SafeT (c : Nat) (sg li co : Nat → Nat) : Prop := c ≤ 20 ∧ (∀ q, sg q < 128 ∧ sg q ≠ 1) ∧ (∀ q, li q < 1000000) ∧ (∀ q, co q < 40)
def SafeM (f : Nat → Nat) : Prop := ∀ q, f q < 1099511627776
theorem safe_up {f : Nat → Nat} (h : SafeM f) {k v : Nat} (hv : v < 1099511627776) : SafeM (up f k v) := by
  intro q
  unfold up
  split
  · exact hv
  · exact h q
theorem itm_lt {E : Nat → Nat → Nat} {W : Nat → Nat → Nat → Nat} {s p q : Nat} (h : ∀ r p q, W r p q < 1099511627776) (hc : ∀ q, E 6 q < 40) : itm E W s p q < 1099511627776 := by
  unfold itm
  split
  · split
    · exact Nat.pow_lt_pow_right (by decide) (hc p)
    · decide
  · exact h _ _ _
theorem ahd_lt {R : Nat → Nat} (h : SafeM R) (s i p : Nat) : ahd R s i p < 1099511627776 := by
  unfold ahd
  split
  · split <;> decide
  · exact h _
theorem and_lt40 {a b : Nat} (h : a < 1099511627776) : a &&& b < 1099511627776 := Nat.lt_of_le_of_lt Nat.and_le_left h
theorem or_lt40 {a b : Nat} (h : a < 1099511627776) (h2 : b < 1099511627776) : a ||| b < 1099511627776 := Nat.or_lt_two_pow (n := 40) h h2
theorem nP {x : Nat} (h : 0 < x) : nI x - 1 = nI (x - 1) := ns rfl rfl h
theorem nP_toInt {x : Nat} (h : x < 2147483648) : (nI x - 1).toInt = (x : Int) - 1 := by
  rcases Nat.eq_zero_or_pos x with e | e
  · subst e; decide
  · rw [nP e, nI_toInt (by omega)]; omega
theorem nPd {a : Nat} : nI a + (-1) = nI a - 1 := by rw [Int32.sub_eq_add_neg]
theorem rch_cong {E : Nat → Nat → Nat} {W W' : Nat → Nat → Nat → Nat} {i a Q : Nat} (h : ∀ t p q, i ≤ p → p ≤ q → q ≤ Q → W t p q = W' t p q) : ∀ (k q : Nat), q ≤ Q → rch E W i a k q = rch E W' i a k q
  | 0, _, _ => rfl
  | k + 1, q, hq => by
    rw [rch, rch]
    apply orR_cong
    intro p h1 h2
    rw [rch_cong h k p (by omega)]
    congr 2
    unfold itm
    rw [h (E 2 (a * 5 + k)) p q h1 (by omega) hq]
theorem fR_cong {E : Nat → Nat → Nat} {W W' : Nat → Nat → Nat → Nat} {r i j : Nat} (h : ∀ t p q, i ≤ p → p ≤ q → q ≤ j → W t p q = W' t p q) : fR E W r i j = fR E W' r i j := by
  unfold fR
  apply orR_cong
  intro p h1 h2
  exact rch_cong h _ _ (Nat.le_refl _)
theorem orR_from {f : Nat → Nat} {i t j : Nat} (hi : i ≤ t) (ht : t ≤ j) (h : ∀ p, i ≤ p → p < t → f p = 0) : orR f t (j - t) = orR f i (j - i) := by
  rw [show j - i = (t - i) + (j - t) by omega, orR_split, orR_zero (fun p h1 h2 => h p h1 (by omega)), Nat.zero_or, show i + (t - i) = t by omega]
/-- the columns of an item behind those ahead of it, over i up to j, by its place -/
def upf (R : Nat → Nat) (E : Nat → Nat → Nat) (W : Nat → Nat → Nat → Nat) (x i j : Nat) : Nat → Nat := fun p => ahd R x i p &&& letsN (E 4 x) (itm E W x p j)
theorem upf_sign {R : Nat → Nat} {E : Nat → Nat → Nat} {W : Nat → Nat → Nat → Nat} {x i j p : Nat} (h : E 2 x = NO) (hp : p + 1 ≠ j) : upf R E W x i j p = 0 := by
  unfold upf itm
  rw [if_pos h, if_neg (fun hq => hp hq.1.symm), letsN_0, Nat.and_zero]
theorem upf_lt {R : Nat → Nat} {E : Nat → Nat → Nat} {W : Nat → Nat → Nat → Nat} {x i j : Nat} (h : SafeM R) (a n : Nat) : orR (upf R E W x i j) a n < 1099511627776 := orR_lt (k := 40) (fun p _ _ => and_lt40 (ahd_lt h x i p))
theorem orR_s {f : Nat → Nat} {a p v : Nat} (h : v = orR f a (p - a)) (hp : a ≤ p) {w : Nat} (hw : f p = w) : v ||| w = orR f a (p + 1 - a) := by
  rw [show p + 1 - a = (p - a) + 1 by omega, orR, ← h, show a + (p - a) = p by omega, hw]
theorem orR_s0 {f : Nat → Nat} {a p v : Nat} (h : v = orR f a (p - a)) (hp : a ≤ p) (hw : f p = 0) : v = orR f a (p + 1 - a) := by
  rw [← orR_s h hp hw, Nat.or_zero]
/-- the rows of a rule's items, at a place, are the columns up to them -/
def RokAt (R : Nat → Nat) (E : Nat → Nat → Nat) (W : Nat → Nat → Nat → Nat) (i r p : Nat) : Prop := ∀ a, a < E 0 r → ∀ k, k < E 1 (r * 4 + a) → R (((r * 4 + a) * 5 + k) * 21 + p) = rch E W i (r * 4 + a) (k + 1) p
theorem ahd_rch {R : Nat → Nat} {E : Nat → Nat → Nat} {W : Nat → Nat → Nat → Nat} {i r a k p : Nat} (hk5 : k < 5) (h : 0 < k → R (((r * 4 + a) * 5 + (k - 1)) * 21 + p) = rch E W i (r * 4 + a) k p) : ahd R ((r * 4 + a) * 5 + k) i p = rch E W i (r * 4 + a) k p := by
  unfold ahd
  rcases Nat.eq_zero_or_pos k with e | e
  · subst e
    rw [if_pos (by omega)]
    rfl
  · rw [if_neg (by omega), show (r * 4 + a) * 5 + k - 1 = (r * 4 + a) * 5 + (k - 1) by omega, h e]
theorem upf_rch {R : Nat → Nat} {E : Nat → Nat → Nat} {W : Nat → Nat → Nat → Nat} {i r a k j : Nat} (hk5 : k < 5) (h : ∀ p, i ≤ p → p ≤ j → 0 < k → R (((r * 4 + a) * 5 + (k - 1)) * 21 + p) = rch E W i (r * 4 + a) k p) : orR (upf R E W ((r * 4 + a) * 5 + k) i j) i (j + 1 - i) = rch E W i (r * 4 + a) (k + 1) j := by
  rw [rch]
  apply orR_cong
  intro p h1 h2
  unfold upf
  rw [ahd_rch hk5 (h p h1 (by omega))]
