/-! INT BITS; copies of rules and tokens; what the letters are -/
theorem sh31F : ∀ r : Fin 32, (nI r.1 &&& 31).toBitVec.smod 32 = BitVec.ofNat 32 r.1 := by decide
theorem isr {m r : Nat} (hm : m < 2147483648) (hr : r < 32) : (nI m >>> (nI r &&& 31)) &&& 1 = nI (m / 2 ^ r % 2) := by
  apply Int32.toBitVec_inj.mp
  rw [Int32.toBitVec_and, Int32.toBitVec_shiftRight, sh31F ⟨r, hr⟩, nI_bv, nI_bv, BitVec.sshiftRight_eq']
  rw [BitVec.sshiftRight_eq_of_msb_false (by rw [BitVec.msb_eq_false_iff_two_mul_lt, BitVec.toNat_ofNat]; omega)]
  apply BitVec.eq_of_toNat_eq
  rw [BitVec.toNat_and, BitVec.toNat_ushiftRight, BitVec.toNat_ofNat, BitVec.toNat_ofNat, BitVec.toNat_ofNat, show (1 : Int32).toBitVec.toNat = 2 ^ 1 - 1 from rfl, Nat.and_two_pow_sub_one_eq_mod, Nat.shiftRight_eq_div_pow, Nat.mod_eq_of_lt (show m < 2 ^ 32 by omega), Nat.mod_eq_of_lt (show r < 2 ^ 32 by omega)]
  have : m / 2 ^ r % 2 ^ 1 < 2 := Nat.mod_lt _ (by decide)
  omega
theorem islF : ∀ r : Fin 32, (1 : Int32) <<< (nI r.1 &&& 31) = nI (2 ^ r.1) := by decide
theorem isl {r : Nat} (hr : r < 32) : (1 : Int32) <<< (nI r &&& 31) = nI (2 ^ r) := islF ⟨r, hr⟩
theorem ior {x y : Int32} {a b : Nat} (h1 : x = nI a) (h2 : y = nI b) (ha : a < 4294967296) (hb : b < 4294967296) : x ||| y = nI (a ||| b) := by
  subst h1 h2
  apply Int32.toBitVec_inj.mp
  rw [Int32.toBitVec_or, nI_bv, nI_bv, nI_bv]
  apply BitVec.eq_of_toNat_eq
  rw [BitVec.toNat_or, BitVec.toNat_ofNat, BitVec.toNat_ofNat, BitVec.toNat_ofNat, Nat.mod_eq_of_lt ha, Nat.mod_eq_of_lt hb, Nat.mod_eq_of_lt (Nat.or_lt_two_pow ha hb)]
theorem tb2 {m r : Nat} : m / 2 ^ r % 2 = (if m.testBit r = true then 1 else 0) := by
  rw [Nat.testBit_eq_decide_div_mod_eq]
  have := Nat.mod_two_eq_zero_or_one (m / 2 ^ r)
  split <;> simp_all
def gcp (f : Nat → Nat → Nat) (k k2 : Nat) : Nat → Nat → Nat := fset (fset (fset (fset (fset (fset (fset (fset (fset (fset f (k + 9) (f (k2 + 9))) (k + 8) (f (k2 + 8))) (k + 7) (f (k2 + 7))) (k + 6) (f (k2 + 6))) (k + 5) (f (k2 + 5))) (k + 4) (f (k2 + 4))) (k + 3) (f (k2 + 3))) (k + 2) (f (k2 + 2))) (k + 1) (f (k2 + 1))) k (up (up (f k) 0 (f k2 0)) 7 (f k2 7))
def tcp (f : Nat → Nat → Nat) (k k2 : Nat) : Nat → Nat → Nat := fset (fset (fset (fset f (k + 3) (f (k2 + 3))) (k + 2) (f (k2 + 2))) (k + 1) (f (k2 + 1))) k (up (f k) 0 (f k2 0))
def kHold (k : Nat) (f : Nat → Nat → Nat) : Nat → Nat → Nat := fset (tcp (gcp f (k + 1) 16) (k + 11) 26) k (up (f k) 0 1)
def kAgain (k : Nat) (f : Nat → Nat → Nat) : Nat → Nat → Nat := fset (tcp (gcp f 16 (k + 1)) 26 (k + 11)) 50 (up (f 50) 0 0)
theorem tk_lt {t : Nat} (h : (Nat.beq t 4 || Nat.beq t 5) = true) : Nat.blt t 6 = true := by
  rcases (Bool.or_eq_true_iff).mp h with q | q
  · rw [Nat.eq_of_beq_eq_true q]; rfl
  · rw [Nat.eq_of_beq_eq_true q]; rfl
theorem cbe_no {x em : Nat} (h : x = 4294967295 ∨ em / 2 ^ x % 2 = 0) (q : x ≠ NO ∧ em.testBit x = true) : False := by
  rcases h with h | h
  · exact q.1 h
  · rw [tb2, if_pos q.2] at h; cases h
