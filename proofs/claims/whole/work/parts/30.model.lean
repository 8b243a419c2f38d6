/-! THE MODEL: its object (scalars o by their place), its rows f by their address -/
def mob (o : Nat → Nat) : List Value := [.int (nI (o 0)), .ref 140, .ref 141, .ref 142, .ref 143, .int (nI (o 5)), .ref 144, .int (nI (o 7)), .int (nI (o 8)), .int (nI (o 9)), .int (nI (o 10)), .ref 145, .ref 146, .ref 147, .ref 148, .ref 149, .ref 150, .ref 151, .ref 152, .ref 153, .ref 154, .ref 155, .ref 156, .ref 157, .ref 158, .ref 159, .ref 160, .ref 161, .ref 162, .ref 163, .ref 164, .int (nI (o 31)), .ref 165, .int (nI (o 33)), .ref 166, .ref 167, .ref 168, .ref 169, .int (nI (o 38)), .ref 170, .ref 171, .ref 172, .ref 173, .ref 174, .ref 175, .int (nI (o 45)), .int (nI (o 46)), .int (nI (o 47)), .long (lN (o 48)), .ref 176]
def mcl (k : Nat) (g : Nat → Nat) : va_E := match k with
  | 140 => .inl (0, 590, .inl (ai g))
  | 141 => .inl (0, 1180, .inl (ai g))
  | 142 => .inl (3, 2, .inl (ai g))
  | 143 => .inl (0, 610, .inl (ai g))
  | 144 => .inl (2, 240, .inl (ai g))
  | 145 => .inl (0, 529, .inl (ai g))
  | 146 => .inl (0, 8, .inl (ai g))
  | 147 => .inl (0, 160, .inl (ai g))
  | 148 => .inl (3, 8, .inl (ai g))
  | 149 => .inl (0, 8, .inl (ai g))
  | 150 => .inl (0, 20, .inl (ai g))
  | 151 => .inl (0, 20, .inl (ai g))
  | 152 => .inl (0, 20, .inl (ai g))
  | 153 => .inl (0, 160, .inl (ai g))
  | 154 => .inl (1, 8, .inr (.inl (al g)))
  | 155 => .inl (1, 8, .inr (.inl (al g)))
  | 156 => .inl (0, 21, .inl (ai g))
  | 157 => .inl (0, 21, .inl (ai g))
  | 158 => .inl (1, 3872, .inr (.inl (al g)))
  | 159 => .inl (1, 22, .inr (.inl (al g)))
  | 160 => .inl (1, 22, .inr (.inl (al g)))
  | 161 => .inl (1, 176, .inr (.inl (al g)))
  | 162 => .inl (3, 8, .inl (ai g))
  | 163 => .inl (1, 8, .inr (.inl (al g)))
  | 164 => .inl (2, 900, .inl (ai g))
  | 165 => .inl (0, 3200, .inl (ai g))
  | 166 => .inl (0, 3200, .inl (ai g))
  | 167 => .inl (0, 3200, .inl (ai g))
  | 168 => .inl (0, 6, .inl (ai g))
  | 169 => .inl (3, 126, .inl (ai g))
  | 170 => .inl (0, 21, .inl (ai g))
  | 171 => .inl (0, 21, .inl (ai g))
  | 172 => .inl (0, 32, .inl (ai g))
  | 173 => .inl (0, 32, .inl (ai g))
  | 174 => .inl (0, 32, .inl (ai g))
  | 175 => .inl (0, 32, .inl (ai g))
  | 176 => .inl (0, 590, .inl (ai g))
  | _ => .inl (0, 0, .inl (ai g))
def MM (M : zM) (o : Nat → Nat) (f : Nat → Nat → Nat) : Prop := M[139]? = some (.inr (12, mob o)) ∧ ∀ k, 140 ≤ k → k ≤ 176 → M[k]? = some (mcl k (f k))
def fset (f : Nat → Nat → Nat) (k : Nat) (g : Nat → Nat) : Nat → Nat → Nat := fun a => if a = k then g else f a
def C1 (M1 : zM) (f' : Nat → Nat → Nat) (S : List Nat) : Prop := ∀ a, a ∈ S → a ≠ 139 → M1[a]? = some (mcl a (f' a))
theorem c1_nil {M1 : zM} {f' : Nat → Nat → Nat} : C1 M1 f' [] := fun a h => by cases h
theorem c1_cons {M1 : zM} {f' : Nat → Nat → Nat} {S : List Nat} {b : Nat} (h : M1[b]? = some (mcl b (f' b))) (t : C1 M1 f' S) : C1 M1 f' (b :: S) := fun a ha hn => by
  rcases List.mem_cons.mp ha with e | e
  · rw [e]; exact h
  · exact t a e hn
theorem c1_skip {M1 : zM} {f' : Nat → Nat → Nat} {S : List Nat} (t : C1 M1 f' S) : C1 M1 f' (139 :: S) := fun a ha hn => by
  rcases List.mem_cons.mp ha with e | e
  · exact absurd e hn
  · exact t a e hn
theorem MM.of {M M1 : zM} {o o' : Nat → Nat} {f f' : Nat → Nat → Nat} {S : List Nat} (h : MM M o f) (hs : Sm M M1 S) (h0 : M1[139]? = some (.inr (12, mob o'))) (h1 : C1 M1 f' S) (h2 : ∀ a, a ∉ S → f' a = f a) : MM M1 o' f' := by
  refine ⟨h0, fun k k1 k2 => ?_⟩
  by_cases e : k ∈ S
  · exact h1 k e (by omega)
  · rw [hs.2 k e, h2 k e]
    exact h.2 k k1 k2
theorem fs_n {f : Nat → Nat → Nat} : ∀ a, a ∉ ([] : List Nat) → f a = f a := fun _ _ => rfl
theorem fs_c {f f' : Nat → Nat → Nat} {S : List Nat} {b : Nat} {g : Nat → Nat} (h : ∀ a, a ∉ S → f' a = f a) : ∀ a, a ∉ (b :: S) → fset f' b g a = f a := fun a ha => by
  unfold fset
  rw [if_neg (fun e => ha (List.mem_cons.mpr (Or.inl e)))]
  exact h a (fun q => ha (List.mem_cons.mpr (Or.inr q)))
theorem fs_k {f f' : Nat → Nat → Nat} {S : List Nat} {b : Nat} (h : ∀ a, a ∉ S → f' a = f a) : ∀ a, a ∉ (b :: S) → f' a = f a := fun a ha => h a (fun q => ha (List.mem_cons.mpr (Or.inr q)))
/-- slots that the grammar uses -/
def Slt (n : Nat) (al_ it : Nat → Nat) (x : Nat) : Prop := ∃ r a k, r < n ∧ a < al_ r ∧ k < it (r * 4 + a) ∧ x = (r * 4 + a) * 5 + k
/-- the model's row holds the grammar -/
def RelG (f : Nat → Nat → Nat) (n : Nat) (gn al_ it pt tg bd : Nat → Nat) : Prop := f 140 0 = n ∧ (∀ r, r < n → f 140 (1 + r) = gn r) ∧ (∀ r, r < n → f 140 (9 + r) = al_ r) ∧ (∀ r a, r < n → a < al_ r → f 140 (17 + (r * 4 + a)) = it (r * 4 + a)) ∧ ∀ x, Slt n al_ it x → f 140 (49 + 3 * x) = pt x ∧ f 140 (49 + 3 * x + 1) = (if tg x = NO then 0 else 1) ∧ f 140 (49 + 3 * x + 2) = bd x ∧ f 153 x = tg x
/-- the model's row holds the tokens -/
def RelT (f : Nat → Nat → Nat) (c : Nat) (sg li co : Nat → Nat) : Prop := f 140 529 = c ∧ ∀ k, k < c → f 140 (530 + k) = sg k ∧ f 140 (550 + k) = li k ∧ f 140 (570 + k) = co k
def v3 (V : Nat → Nat) : Nat → Nat → Nat → Nat := fun r p q => V (22 * (22 * r + p) + q)
/-- every number of the model's rows is small -/
def SafeF (f : Nat → Nat → Nat) : Prop := (∀ q, f 140 q < 2147483648) ∧ (∀ q, f 156 q < 2147483648) ∧ (∀ q, f 157 q < 40) ∧ (∀ q, f 158 q < 1099511627776) ∧ (∀ q, f 159 q < 1099511627776) ∧ (∀ q, f 160 q < 1099511627776)
theorem orR_pow {P : Nat → Prop} [∀ c, Decidable (P c)] {d n : Nat} : (orR (fun c => if P c then 2 ^ c else 0) 0 n).testBit d = true ↔ d < n ∧ P d := by
  rw [orR_bit]
  constructor
  · rintro ⟨p, -, h2, h3⟩
    by_cases e : P p
    · rw [if_pos e, Nat.testBit_two_pow] at h3
      have e2 : p = d := by simpa using h3
      subst e2
      exact ⟨by omega, e⟩
    · rw [if_neg e] at h3; simp at h3
  · rintro ⟨h1, h2⟩
    exact ⟨d, Nat.zero_le _, by omega, by rw [if_pos h2, Nat.testBit_two_pow]; simp⟩
theorem div_pow_ne {m k : Nat} (h0 : m ≠ 0) : m / 2 ^ k ≠ 0 ↔ k ≤ Nat.log2 m := by
  constructor
  · intro h
    rcases Nat.lt_or_ge (Nat.log2 m) k with q | q
    · have h2 : m < 2 ^ (Nat.log2 m + 1) := Nat.lt_log2_self
      have h3 : m < 2 ^ k := Nat.lt_of_lt_of_le h2 (Nat.pow_le_pow_right (by decide) q)
      exact absurd (Nat.div_eq_of_lt h3) h
    · exact q
  · intro h e
    have h1 := Nat.log2_self_le h0
    have h2 : 2 ^ k ≤ m := Nat.le_trans (Nat.pow_le_pow_right (by decide) h) h1
    have h3 := Nat.div_pos h2 (Nat.two_pow_pos k)
    omega
theorem log2_lt40 {m : Nat} (h0 : m ≠ 0) (h : m < 1099511627776) : Nat.log2 m < 40 := by
  rcases Nat.lt_or_ge (Nat.log2 m) 40 with q | q
  · exact q
  · have hl := log2_bit h0
    rw [testBit_hi (show m < 2 ^ 40 from h) _ q] at hl
    cases hl
theorem bit_ext {a b : Nat} (h : ∀ d, a.testBit d = true ↔ b.testBit d = true) : a = b := bs_eq (fun d => (h d).mp) (fun d => (h d).mpr)
theorem lets_gt {m : Nat} (h0 : m ≠ 0) (h : m < 1099511627776) : orR (fun c => if m / 2 ^ (c + 1) ≠ 0 then 2 ^ c else 0) 0 40 = 2 ^ Nat.log2 m - 1 := by
  apply bit_ext
  intro d
  rw [orR_pow, Nat.testBit_two_pow_sub_one, decide_eq_true_eq, div_pow_ne h0]
  have := log2_lt40 h0 h
  omega
theorem lets_ge {m : Nat} (h0 : m ≠ 0) (h : m < 1099511627776) : orR (fun c => if m / 2 ^ c ≠ 0 then 2 ^ c else 0) 0 40 = 2 ^ (Nat.log2 m + 1) - 1 := by
  apply bit_ext
  intro d
  rw [orR_pow, Nat.testBit_two_pow_sub_one, decide_eq_true_eq, div_pow_ne h0]
  have := log2_lt40 h0 h
  omega
theorem l_nI {a : Nat} (h : a < 2147483648) : (Int32.toInt64 (nI a)).toInt = (a : Int) := by
  rw [Int32.toInt_toInt64, nI_toInt (by omega)]
theorem l_sub1 {x : Int64} {a : Int} (h : x.toInt = a) (h1 : -9223372036854775808 < a) (h2 : a < 9223372036854775807) : (x - 1).toInt = a - 1 := by
  rw [Int64.toInt_sub, h]
  have : (1 : Int64).toInt = 1 := by decide
  rw [this]
  exact Int.bmod_eq_of_le (by omega) (by omega)
