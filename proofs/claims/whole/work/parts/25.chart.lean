/-! THE CHART, purely. Columns are bits of a number below 2^40. E: alts, items, targets, parts, bonds, signs, columns of the tokens. -/
abbrev A40 : Nat := 1099511627775
def gE (al_ it tg pt bd sg co : Nat → Nat) : Nat → Nat → Nat := fun x => match x with
  | 0 => al_
  | 1 => it
  | 2 => tg
  | 3 => pt
  | 4 => bd
  | 5 => sg
  | _ => co
def letsN (b m : Nat) : Nat := if m = 0 then 0 else if b = 61 then m else if b = 42 then A40 else if b = 62 then 2 ^ Nat.log2 m - 1 else 2 ^ (Nat.log2 m + 1) - 1
/-- whether a part at d fits a whole at c by a bond -/
def fitB (b c d : Nat) : Prop := if b = 61 then d = c else if b = 42 then True else if b = 62 then c < d else c ≤ d
def orR (f : Nat → Nat) (a : Nat) : Nat → Nat
  | 0 => 0
  | n + 1 => orR f a n ||| f (a + n)
def bitsub (a b : Nat) : Prop := ∀ c, a.testBit c = true → b.testBit c = true
theorem bs_rf (a : Nat) : bitsub a a := fun _ h => h
theorem bs_tr {a b c : Nat} (h1 : bitsub a b) (h2 : bitsub b c) : bitsub a c := fun x h => h2 x (h1 x h)
theorem bs_eq {a b : Nat} (h1 : bitsub a b) (h2 : bitsub b a) : a = b := by
  apply Nat.eq_of_testBit_eq
  intro i
  cases ha : a.testBit i with
  | true => exact (h1 i ha).symm
  | false =>
    cases hb : b.testBit i with
    | true => rw [h2 i hb] at ha; cases ha
    | false => rfl
theorem bs_0 (a : Nat) : bitsub 0 a := fun c h => by simp at h
theorem bs_or1 (a b : Nat) : bitsub a (a ||| b) := fun c h => by rw [Nat.testBit_or, h]; rfl
theorem bs_or2 (a b : Nat) : bitsub b (a ||| b) := fun c h => by rw [Nat.testBit_or, h, Bool.or_true]
theorem bs_or {a b c : Nat} (h1 : bitsub a c) (h2 : bitsub b c) : bitsub (a ||| b) c := fun x h => by
  rw [Nat.testBit_or, Bool.or_eq_true] at h
  exact h.elim (h1 x) (h2 x)
theorem bs_and {a b c d : Nat} (h1 : bitsub a c) (h2 : bitsub b d) : bitsub (a &&& b) (c &&& d) := fun x h => by
  rw [Nat.testBit_and, Bool.and_eq_true] at h ⊢
  exact ⟨h1 x h.1, h2 x h.2⟩
theorem bs_oror {a b c d : Nat} (h1 : bitsub a c) (h2 : bitsub b d) : bitsub (a ||| b) (c ||| d) := bs_or (bs_tr h1 (bs_or1 _ _)) (bs_tr h2 (bs_or2 _ _))
theorem orR_bit (f : Nat → Nat) (a c : Nat) : ∀ n, (orR f a n).testBit c = true ↔ ∃ p, a ≤ p ∧ p < a + n ∧ (f p).testBit c = true
  | 0 => by
    constructor
    · intro h; simp [orR] at h
    · rintro ⟨p, h1, h2, -⟩; omega
  | n + 1 => by
    rw [orR, Nat.testBit_or, Bool.or_eq_true, orR_bit f a c n]
    constructor
    · rintro (⟨p, h1, h2, h3⟩ | h)
      · exact ⟨p, h1, by omega, h3⟩
      · exact ⟨a + n, by omega, by omega, h⟩
    · rintro ⟨p, h1, h2, h3⟩
      by_cases e : p = a + n
      · subst e; exact Or.inr h3
      · exact Or.inl ⟨p, h1, by omega, h3⟩
theorem orR_cong {f g : Nat → Nat} {a : Nat} : ∀ {n : Nat}, (∀ p, a ≤ p → p < a + n → f p = g p) → orR f a n = orR g a n
  | 0, _ => rfl
  | n + 1, h => by rw [orR, orR, orR_cong (fun p h1 h2 => h p h1 (by omega)), h (a + n) (by omega) (by omega)]
theorem orR_mono {f g : Nat → Nat} {a n : Nat} (h : ∀ p, a ≤ p → p < a + n → bitsub (f p) (g p)) : bitsub (orR f a n) (orR g a n) := by
  intro c hc
  obtain ⟨p, h1, h2, h3⟩ := (orR_bit f a c n).mp hc
  exact (orR_bit g a c n).mpr ⟨p, h1, h2, h p h1 h2 c h3⟩
theorem orR_split (f : Nat → Nat) (a n : Nat) : ∀ m, orR f a (n + m) = orR f a n ||| orR f (a + n) m
  | 0 => by simp [orR]
  | m + 1 => by
    rw [show n + (m + 1) = (n + m) + 1 from rfl, orR, orR_split f a n m, orR, Nat.or_assoc]
    congr 2
    rw [Nat.add_assoc]
theorem orR_zero {f : Nat → Nat} {a : Nat} : ∀ {n : Nat}, (∀ p, a ≤ p → p < a + n → f p = 0) → orR f a n = 0
  | 0, _ => rfl
  | n + 1, h => by rw [orR, orR_zero (fun p h1 h2 => h p h1 (by omega)), h (a + n) (by omega) (by omega)]; rfl
theorem orR_lt {f : Nat → Nat} {a k : Nat} : ∀ {n : Nat}, (∀ p, a ≤ p → p < a + n → f p < 2 ^ k) → orR f a n < 2 ^ k
  | 0, _ => Nat.two_pow_pos k
  | n + 1, h => by
    rw [orR]
    exact Nat.or_lt_two_pow (orR_lt (fun p h1 h2 => h p h1 (by omega))) (h (a + n) (by omega) (by omega))
theorem testBit_hi {m c : Nat} (h : m < 2 ^ c) : ∀ d, c ≤ d → m.testBit d = false := fun d hd => Nat.testBit_lt_two_pow (Nat.lt_of_lt_of_le h (Nat.pow_le_pow_right (by decide) hd))
theorem log2_bit {m : Nat} (h : m ≠ 0) : m.testBit (Nat.log2 m) = true := by
  have h1 := Nat.log2_self_le h
  have h2 : m < 2 ^ (Nat.log2 m + 1) := Nat.lt_log2_self
  rw [Nat.testBit_eq_decide_div_mod_eq]
  have : m / 2 ^ Nat.log2 m = 1 := by
    rw [Nat.pow_succ] at h2
    exact Nat.div_eq_of_lt_le (by omega) (by omega)
  rw [this]
  rfl
theorem bit_le_log2 {m d : Nat} (h : m.testBit d = true) : d ≤ Nat.log2 m := by
  rcases Nat.lt_or_ge (Nat.log2 m) d with q | q
  · have h2 : m < 2 ^ (Nat.log2 m + 1) := Nat.lt_log2_self
    rw [testBit_hi h2 d q] at h
    cases h
  · exact q
theorem bit_ne0 {m d : Nat} (h : m.testBit d = true) : m ≠ 0 := fun e => by rw [e] at h; simp at h
theorem letsN_bit {b m : Nat} (hm : m < 2 ^ 40) (c : Nat) : (letsN b m).testBit c = true ↔ c < 40 ∧ ∃ d, m.testBit d = true ∧ fitB b c d := by
  unfold letsN fitB
  have hlt : ∀ d, m.testBit d = true → d < 40 := fun d hd => by
    rcases Nat.lt_or_ge d 40 with q | q
    · exact q
    · rw [testBit_hi hm d q] at hd; cases hd
  by_cases h0 : m = 0
  · rw [if_pos h0]
    constructor
    · intro h; simp at h
    · rintro ⟨-, d, hd, -⟩
      exact absurd h0 (bit_ne0 hd)
  · rw [if_neg h0]
    have hl := log2_bit h0
    have hl4 := hlt _ hl
    by_cases h1 : b = 61
    · simp only [if_pos h1]
      constructor
      · intro h; exact ⟨hlt c h, c, h, rfl⟩
      · rintro ⟨-, d, hd, rfl⟩; exact hd
    · simp only [if_neg h1]
      by_cases h2 : b = 42
      · simp only [if_pos h2]
        rw [show A40 = 2 ^ 40 - 1 by decide, Nat.testBit_two_pow_sub_one, decide_eq_true_eq]
        exact ⟨fun h => ⟨h, _, hl, trivial⟩, fun h => h.1⟩
      · simp only [if_neg h2]
        by_cases h3 : b = 62
        · simp only [if_pos h3]
          rw [Nat.testBit_two_pow_sub_one, decide_eq_true_eq]
          constructor
          · intro h; exact ⟨by omega, _, hl, h⟩
          · rintro ⟨-, d, hd, hc⟩
            have := bit_le_log2 hd
            omega
        · simp only [if_neg h3]
          rw [Nat.testBit_two_pow_sub_one, decide_eq_true_eq]
          constructor
          · intro h; exact ⟨by omega, _, hl, by omega⟩
          · rintro ⟨-, d, hd, hc⟩
            have := bit_le_log2 hd
            omega
theorem lt_of_bits {m k : Nat} (h : ∀ c, m.testBit c = true → c < k) : m < 2 ^ k := by
  apply Nat.lt_pow_two_of_testBit
  intro i hi
  cases hb : m.testBit i with
  | false => rfl
  | true => have := h i hb; omega
theorem letsN_lt {b m : Nat} (hm : m < 2 ^ 40) : letsN b m < 2 ^ 40 := lt_of_bits (fun c h => ((letsN_bit hm c).mp h).1)
theorem letsN_mono {b m m' : Nat} (hm : m < 2 ^ 40) (hm' : m' < 2 ^ 40) (h : bitsub m m') : bitsub (letsN b m) (letsN b m') := fun c hc => by
  obtain ⟨h1, d, h2, h3⟩ := (letsN_bit hm c).mp hc
  exact (letsN_bit hm' c).mpr ⟨h1, d, h d h2, h3⟩
theorem letsN_0 (b : Nat) : letsN b 0 = 0 := if_pos rfl
/-- where an item can stand -/
def itm (E : Nat → Nat → Nat) (W : Nat → Nat → Nat → Nat) (s p q : Nat) : Nat := if E 2 s = NO then (if q = p + 1 ∧ (E 5 p = E 3 s ∨ E 5 p = 1) then 2 ^ E 6 p else 0) else W (E 2 s) p q
/-- the columns at which the first k items of an alt are over i up to q -/
def rch (E : Nat → Nat → Nat) (W : Nat → Nat → Nat → Nat) (i a : Nat) : Nat → Nat → Nat
  | 0, q => if q = i then A40 else 0
  | k + 1, q => orR (fun p => rch E W i a k p &&& letsN (E 4 (a * 5 + k)) (itm E W (a * 5 + k) p q)) i (q + 1 - i)
/-- the columns of a rule over i up to j, by the columns of others -/
def fR (E : Nat → Nat → Nat) (W : Nat → Nat → Nat → Nat) (r i j : Nat) : Nat := orR (fun a => rch E W i (r * 4 + a) (E 1 (r * 4 + a)) j) 0 (E 0 r)
