/-! COLUMNS OF PARTS: the least bit, the columns that fit one of some wholes; how many bits -/
theorem bit_lt40 {m c : Nat} (hm : m < 1099511627776) (h : m.testBit c = true) : c < 40 := by
  rcases Nat.lt_or_ge c 40 with q | q
  · exact q
  · rw [testBit_hi (show m < 2 ^ 40 from hm) _ q] at h; cases h
theorem lsb_sp {m : Nat} (h0 : m ≠ 0) (hm : m < 1099511627776) : lsb m < 40 ∧ m.testBit (lsb m) = true ∧ ∀ c, c < lsb m → m.testBit c = false := by
  unfold lsb
  rcases srch_spec (fun c => m.testBit c) 40 0 with ⟨h1, h2⟩ | ⟨h1, h2, h3, h4⟩
  · exfalso
    obtain ⟨c, hc⟩ := Nat.exists_testBit_of_ne_zero h0
    have := h2 c (Nat.zero_le _) (by have := bit_lt40 hm hc; omega)
    rw [hc] at this; cases this
  · exact ⟨by omega, h3, fun c hc => h4 c (Nat.zero_le _) hc⟩
theorem bit_hi {l d : Nat} (hl : l ≤ 40) : (1099511627776 - 2 ^ l).testBit d = true ↔ l ≤ d ∧ d < 40 := by
  have e : 1099511627776 - 2 ^ l = 2 ^ l * (2 ^ (40 - l) - 1) := by
    rw [Nat.mul_sub, Nat.mul_one, ← Nat.pow_add, show l + (40 - l) = 40 by omega]
  rw [e, Nat.testBit_two_pow_mul, Nat.testBit_two_pow_sub_one, Bool.and_eq_true, decide_eq_true_eq, decide_eq_true_eq]
  omega
theorem prtN_bit {b m : Nat} (hm : m < 1099511627776) (d : Nat) : (prtN b m).testBit d = true ↔ d < 40 ∧ ∃ c, m.testBit c = true ∧ fitB b c d := by
  unfold prtN fitB
  by_cases h0 : m = 0
  · rw [if_pos h0]
    constructor
    · intro h; simp at h
    · rintro ⟨-, c, hc, -⟩; exact absurd h0 (bit_ne0 hc)
  · rw [if_neg h0]
    obtain ⟨l1, l2, l3⟩ := lsb_sp h0 hm
    by_cases h1 : b = 61
    · simp only [if_pos h1]
      exact ⟨fun h => ⟨bit_lt40 hm h, d, h, rfl⟩, fun ⟨_, c, hc, e⟩ => by rw [e]; exact hc⟩
    · simp only [if_neg h1]
      by_cases h2 : b = 42
      · simp only [if_pos h2]
        rw [show A40 = 2 ^ 40 - 1 from rfl, Nat.testBit_two_pow_sub_one, decide_eq_true_eq]
        exact ⟨fun h => ⟨h, _, l2, trivial⟩, fun h => h.1⟩
      · simp only [if_neg h2]
        have hle : ∀ c, m.testBit c = true → lsb m ≤ c := fun c hc => by
          rcases Nat.lt_or_ge c (lsb m) with q | q
          · rw [l3 c q] at hc; cases hc
          · exact q
        by_cases h3 : b = 62
        · simp only [if_pos h3]
          rw [bit_hi (by omega)]
          exact ⟨fun h => ⟨h.2, _, l2, by omega⟩, fun ⟨h, c, hc, e⟩ => ⟨by have := hle c hc; omega, h⟩⟩
        · simp only [if_neg h3]
          rw [bit_hi (by omega)]
          exact ⟨fun h => ⟨h.2, _, l2, h.1⟩, fun ⟨h, c, hc, e⟩ => ⟨by have := hle c hc; omega, h⟩⟩
theorem prtN_lt {b m : Nat} (hm : m < 1099511627776) : prtN b m < 1099511627776 := lt_of_bits (k := 40) (fun d h => ((prtN_bit hm d).mp h).1)
theorem lneg {m : Nat} (h : m < 18446744073709551616) : -lN m = lN (18446744073709551616 - m) := by
  apply wb_inj
  rw [Int64.toBitVec_neg, wb_tb, wb_tb]
  apply BitVec.eq_of_toNat_eq
  rw [BitVec.toNat_neg, BitVec.toNat_ofNat, BitVec.toNat_ofNat, Nat.mod_eq_of_lt (show m < 2 ^ 64 from h)]
theorem low_aux {l w : Nat} (hl : l < 64) (hm : 2 ^ l * (2 * w + 1) < 18446744073709551616) : 2 ^ l * (2 * w + 1) &&& (18446744073709551616 - 2 ^ l * (2 * w + 1)) = 2 ^ l := by
  have hp : 0 < 2 ^ l := Nat.two_pow_pos _
  have e : 2 ^ l * (2 * w + 1) = 2 ^ l * (2 * w) + 2 ^ l := by rw [Nat.mul_add, Nat.mul_one]
  have e2 : 18446744073709551616 - 2 ^ l * (2 * w + 1) = 2 ^ 64 - ((2 ^ l * (2 * w) + (2 ^ l - 1)) + 1) := by omega
  apply Nat.eq_of_testBit_eq
  intro i
  rw [Nat.testBit_and, e2, Nat.testBit_two_pow_sub_succ (by omega), Nat.testBit_two_pow_mul_add _ (by omega), Nat.testBit_two_pow, Nat.testBit_two_pow_mul]
  by_cases c1 : i < l
  · rw [decide_eq_false (show ¬ i ≥ l by omega), decide_eq_false (show ¬ l = i by omega), Bool.false_and, Bool.false_and]
  · rw [if_neg c1]
    obtain ⟨j, hj⟩ : ∃ j, i = l + j := ⟨i - l, by omega⟩
    subst hj
    rw [show l + j - l = j by omega, decide_eq_true (show l + j ≥ l by omega), Bool.true_and]
    cases j with
    | zero =>
      rw [decide_eq_true (show l + 0 < 64 by omega), decide_eq_true (show l = l + 0 by omega), Nat.testBit_zero, Nat.testBit_zero, decide_eq_true (show (2 * w + 1) % 2 = 1 by omega), decide_eq_false (show ¬ (2 * w) % 2 = 1 by omega)]
      rfl
    | succ j =>
      rw [Nat.testBit_succ, Nat.testBit_succ, show (2 * w + 1) / 2 = w by omega, show 2 * w / 2 = w by omega, decide_eq_false (show ¬ l = l + (j + 1) by omega)]
      cases w.testBit j <;> simp
theorem low_and {m : Nat} (h0 : m ≠ 0) (hm : m < 1099511627776) : m &&& (18446744073709551616 - m) = 2 ^ lsb m := by
  obtain ⟨l1, l2, l3⟩ := lsb_sp h0 hm
  generalize lsb m = l at l1 l2 l3
  have hmod : m % 2 ^ l = 0 := by
    apply Nat.eq_of_testBit_eq
    intro i
    rw [Nat.testBit_mod_two_pow, Nat.zero_testBit]
    by_cases q : i < l
    · rw [l3 i q, Bool.and_false]
    · rw [decide_eq_false q, Bool.false_and]
  have hodd : (m / 2 ^ l) % 2 = 1 := by
    rw [Nat.testBit_eq_decide_div_mod_eq] at l2
    exact of_decide_eq_true l2
  have hd : m = 2 ^ l * (2 * (m / 2 ^ l / 2) + 1) := by
    have h1 := Nat.div_add_mod m (2 ^ l)
    rw [hmod, Nat.add_zero] at h1
    rw [show 2 * (m / 2 ^ l / 2) + 1 = m / 2 ^ l by omega]
    exact h1.symm
  have h2 := low_aux (l := l) (w := m / 2 ^ l / 2) (by omega) (by rw [← hd]; omega)
  rw [← hd] at h2
  exact h2
theorem hi_and {l : Nat} (hl : l ≤ 40) : 1099511627775 &&& (18446744073709551616 - 2 ^ l) = 1099511627776 - 2 ^ l := by
  apply bit_ext
  intro d
  have hp : 2 ^ l ≤ 2 ^ 40 := Nat.pow_le_pow_right (by decide) hl
  have hp0 : 0 < 2 ^ l := Nat.two_pow_pos _
  have h4 : (2 : Nat) ^ 40 = 1099511627776 := by decide
  have h6 : (2 : Nat) ^ 64 = 18446744073709551616 := by decide
  have e2 : 18446744073709551616 - 2 ^ l = 2 ^ 64 - ((2 ^ l - 1) + 1) := by omega
  rw [bit_hi hl, Nat.testBit_and, Bool.and_eq_true, show (1099511627775 : Nat) = 2 ^ 40 - 1 from rfl, Nat.testBit_two_pow_sub_one, decide_eq_true_eq, e2, Nat.testBit_two_pow_sub_succ (by omega), Nat.testBit_two_pow_sub_one, Bool.and_eq_true, decide_eq_true_eq, Bool.not_eq_true', decide_eq_false_iff_not]
  omega
/-! how many bits, as the library counts them -/
def bs1 (M x : Nat) : Nat := x - ((x / 2) &&& M)
def bs2 (M x : Nat) : Nat := (x &&& M) + ((x / 4) &&& M)
def bs3 (M x : Nat) : Nat := (x + x / 16) &&& M
theorem and_by {lo hi a M : Nat} (hl : lo < 256) (ha : a < 256) : (lo + 256 * hi) &&& (a + 256 * M) = (lo &&& a) + 256 * (hi &&& M) := by
  have hla : lo &&& a < 2 ^ 8 := Nat.lt_of_le_of_lt Nat.and_le_left hl
  rw [Nat.add_comm lo, Nat.add_comm a, Nat.add_comm (lo &&& a), show (256 : Nat) = 2 ^ 8 from rfl]
  apply Nat.eq_of_testBit_eq
  intro i
  rw [Nat.testBit_and, Nat.testBit_two_pow_mul_add _ hl, Nat.testBit_two_pow_mul_add _ ha, Nat.testBit_two_pow_mul_add _ hla]
  split
  · rw [Nat.testBit_and]
  · rw [Nat.testBit_and]
theorem and_mod {x a : Nat} (ha : a < 256) : x &&& a = (x % 256) &&& a := by
  have h := @and_by (x % 256) (x / 256) a 0 (Nat.mod_lt _ (by decide)) ha
  rw [Nat.mul_zero, Nat.add_zero, Nat.and_zero, Nat.mul_zero, Nat.add_zero] at h
  rw [← h]
  congr 1
  omega
theorem cross1 : ∀ lo, lo < 256 → ∀ b, b < 2 → ((lo / 2 + 128 * b) &&& 85) = ((lo / 2) &&& 85) := by decide +kernel
theorem cross2 : ∀ lo, lo < 256 → ∀ b, b < 4 → ((lo / 4 + 64 * b) &&& 51) = ((lo / 4) &&& 51) := by decide +kernel
theorem bs1_by {lo hi M : Nat} (hl : lo < 256) : bs1 (85 + 256 * M) (lo + 256 * hi) = bs1 85 lo + 256 * bs1 M hi := by
  unfold bs1
  have e : (lo + 256 * hi) / 2 = (lo / 2 + 128 * (hi % 2)) + 256 * (hi / 2) := by omega
  rw [e, and_by (by omega) (by decide), cross1 lo hl (hi % 2) (Nat.mod_lt _ (by decide))]
  have h1 : (lo / 2) &&& 85 ≤ lo / 2 := Nat.and_le_left
  have h2 : (hi / 2) &&& M ≤ hi / 2 := Nat.and_le_left
  omega
theorem bs2_by {lo hi M : Nat} (hl : lo < 256) : bs2 (51 + 256 * M) (lo + 256 * hi) = bs2 51 lo + 256 * bs2 M hi := by
  unfold bs2
  have e : (lo + 256 * hi) / 4 = (lo / 4 + 64 * (hi % 4)) + 256 * (hi / 4) := by omega
  rw [e, and_by hl (by decide), and_by (by omega) (by decide), cross2 lo hl (hi % 4) (Nat.mod_lt _ (by decide))]
  omega
theorem cross3 : ∀ lo, lo < 69 → ∀ h, h < 5 → lo % 16 < 5 → ((lo + lo / 16 + 16 * h) &&& 15) = ((lo + lo / 16) &&& 15) := by decide +kernel
theorem bs3_by {lo hi M : Nat} (hl : lo < 69) (hn : lo % 16 < 5) (hh : hi % 16 < 5) : bs3 (15 + 256 * M) (lo + 256 * hi) = bs3 15 lo + 256 * bs3 M hi := by
  unfold bs3
  have e : lo + 256 * hi + (lo + 256 * hi) / 16 = (lo + lo / 16 + 16 * (hi % 16)) + 256 * (hi + hi / 16) := by omega
  rw [e, and_by (by omega) (by decide), cross3 lo hl (hi % 16) hh hn]
theorem byte12 : ∀ b, b < 256 → bs1 85 b < 256 ∧ bs2 51 (bs1 85 b) < 69 ∧ bs2 51 (bs1 85 b) % 16 < 5 ∧ bs3 15 (bs2 51 (bs1 85 b)) = cnt (fun c => b.testBit c) 8 := by decide +kernel
theorem cnt8_le (p : Nat → Bool) : cnt p 8 ≤ 8 := cnt_le p 8
theorem cnt_add (p : Nat → Bool) (a : Nat) : ∀ b, cnt p (a + b) = cnt p a + cnt (fun c => p (a + c)) b
  | 0 => rfl
  | b + 1 => by
    rw [show a + (b + 1) = (a + b) + 1 from rfl, cnt, cnt, cnt_add p a b, Nat.add_assoc]
/-- the three steps, byte by byte -/
def btS (x : Nat) : Nat := bs3 1085102592571150095 (bs2 3689348814741910323 (bs1 6148914691236517205 x))
theorem btS_5 {b0 b1 b2 b3 b4 : Nat} (h0 : b0 < 256) (h1 : b1 < 256) (h2 : b2 < 256) (h3 : b3 < 256) (h4 : b4 < 256) : btS (b0 + 256 * (b1 + 256 * (b2 + 256 * (b3 + 256 * (b4 + 256 * 0))))) = cnt (fun c => b0.testBit c) 8 + 256 * (cnt (fun c => b1.testBit c) 8 + 256 * (cnt (fun c => b2.testBit c) 8 + 256 * (cnt (fun c => b3.testBit c) 8 + 256 * (cnt (fun c => b4.testBit c) 8 + 256 * 0)))) := by
  obtain ⟨p0, q0, r0, s0⟩ := byte12 b0 h0
  obtain ⟨p1, q1, r1, s1⟩ := byte12 b1 h1
  obtain ⟨p2, q2, r2, s2⟩ := byte12 b2 h2
  obtain ⟨p3, q3, r3, s3⟩ := byte12 b3 h3
  obtain ⟨p4, q4, r4, s4⟩ := byte12 b4 h4
  unfold btS
  rw [show (6148914691236517205 : Nat) = 85 + 256 * (85 + 256 * (85 + 256 * (85 + 256 * (85 + 256 * 5592405)))) from rfl, bs1_by h0, bs1_by h1, bs1_by h2, bs1_by h3, bs1_by h4, show bs1 5592405 0 = 0 from rfl]
  rw [show (3689348814741910323 : Nat) = 51 + 256 * (51 + 256 * (51 + 256 * (51 + 256 * (51 + 256 * 3355443)))) from rfl, bs2_by p0, bs2_by p1, bs2_by p2, bs2_by p3, bs2_by p4, show bs2 3355443 0 = 0 from rfl]
  rw [show (1085102592571150095 : Nat) = 15 + 256 * (15 + 256 * (15 + 256 * (15 + 256 * (15 + 256 * 986895)))) from rfl, bs3_by q0 r0 (by omega), bs3_by q1 r1 (by omega), bs3_by q2 r2 (by omega), bs3_by q3 r3 (by omega), bs3_by q4 r4 (by decide), show bs3 986895 0 = 0 from rfl, s0, s1, s2, s3, s4]
theorem byte_bit {m k c : Nat} (hc : c < 8) : (m / 2 ^ k % 256).testBit c = m.testBit (k + c) := by
  rw [show (256 : Nat) = 2 ^ 8 from rfl, Nat.testBit_mod_two_pow, decide_eq_true hc, Bool.true_and, Nat.testBit_div_two_pow, Nat.add_comm]
theorem bc_bytes (m : Nat) : bc m = cnt (fun c => (m % 256).testBit c) 8 + cnt (fun c => (m / 256 % 256).testBit c) 8 + cnt (fun c => (m / 65536 % 256).testBit c) 8 + cnt (fun c => (m / 16777216 % 256).testBit c) 8 + cnt (fun c => (m / 4294967296 % 256).testBit c) 8 := by
  unfold bc
  rw [show (40 : Nat) = 0 + 8 + 8 + 8 + 8 + 8 from rfl, cnt_add, cnt_add, cnt_add, cnt_add, cnt_add, cnt, Nat.zero_add]
  congr 1
  · congr 1
    · congr 1
      · congr 1
        · exact cnt_cong (fun c hc => by have := @byte_bit m 0 c hc; rw [Nat.pow_zero, Nat.div_one] at this; rw [this])
        · exact cnt_cong (fun c hc => (@byte_bit m 8 c hc).symm)
      · exact cnt_cong (fun c hc => (@byte_bit m 16 c hc).symm)
    · exact cnt_cong (fun c hc => (@byte_bit m 24 c hc).symm)
  · exact cnt_cong (fun c hc => (@byte_bit m 32 c hc).symm)
theorem bt_sum {t0 t1 t2 t3 t4 x y z w : Nat} (h0 : t0 ≤ 8) (h1 : t1 ≤ 8) (h2 : t2 ≤ 8) (h3 : t3 ≤ 8) (h4 : t4 ≤ 8) (hx : x = t0 + 256 * (t1 + 256 * (t2 + 256 * (t3 + 256 * (t4 + 256 * 0))))) (hy : y = x + x / 256) (hz : z = y + y / 65536) (hw : w = z + z / 4294967296) : w % 128 = t0 + t1 + t2 + t3 + t4 ∧ x < 18446744073709551616 ∧ y < 18446744073709551616 ∧ z < 18446744073709551616 ∧ w < 18446744073709551616 := by
  have e1 : y = (t0 + t1) + 256 * ((t1 + t2) + 256 * ((t2 + t3) + 256 * ((t3 + t4) + 256 * t4))) := by omega
  have e2 : z = (t0 + t1 + t2 + t3) + 256 * ((t1 + t2 + t3 + t4) + 256 * ((t2 + t3 + t4) + 256 * ((t3 + t4) + 256 * t4))) := by omega
  have e3 : z / 4294967296 = t4 := by omega
  have e4 : w = (t0 + t1 + t2 + t3 + t4) + 256 * ((t1 + t2 + t3 + t4) + 256 * ((t2 + t3 + t4) + 256 * ((t3 + t4) + 256 * t4))) := by omega
  omega
theorem bc_lt (m : Nat) : bc m ≤ 40 := cnt_le _ _
theorem bc_count {m y z w : Nat} (hm : m < 1099511627776) (hy : y = btS m + btS m / 256) (hz : z = y + y / 65536) (hw : w = z + z / 4294967296) : w % 128 = bc m ∧ btS m < 18446744073709551616 ∧ y < 18446744073709551616 ∧ z < 18446744073709551616 ∧ w < 18446744073709551616 := by
  have e : m = m % 256 + 256 * (m / 256 % 256 + 256 * (m / 65536 % 256 + 256 * (m / 16777216 % 256 + 256 * (m / 4294967296 % 256 + 256 * 0)))) := by omega
  have h5 := btS_5 (Nat.mod_lt m (show 256 > 0 by decide)) (Nat.mod_lt (m / 256) (show 256 > 0 by decide)) (Nat.mod_lt (m / 65536) (show 256 > 0 by decide)) (Nat.mod_lt (m / 16777216) (show 256 > 0 by decide)) (Nat.mod_lt (m / 4294967296) (show 256 > 0 by decide))
  rw [← e] at h5
  rw [bc_bytes]
  exact bt_sum (cnt8_le _) (cnt8_le _) (cnt8_le _) (cnt8_le _) (cnt8_le _) h5 hy hz hw
theorem bc_low {l : Nat} (hl : l ≤ 40) : bc (2 ^ l - 1) = l := by
  unfold bc
  have h : ∀ n, cnt (fun c => (2 ^ l - 1).testBit c) n = min n l := by
    intro n
    induction n with
    | zero => rw [Nat.zero_min]; rfl
    | succ n ih =>
      rw [cnt, ih, Nat.testBit_two_pow_sub_one]
      by_cases q : n < l
      · rw [if_pos (decide_eq_true q)]; omega
      · rw [if_neg (by rw [decide_eq_false q]; decide)]; omega
  rw [h]; omega
