/-! SMALL THINGS of the model: bytes, counts, numbers 0 to 2 -/
theorem mx_o {co : Nat → Nat} {i a : Nat} (h : a = mxc co 0 i) (_ha : a < 40 ∨ a = NO) : (if a = NO ∨ a < co i then co i else a) = mxc co 0 (i + 1) := by
  rw [mxc, ← h, Nat.zero_add]
  by_cases e : a = NO
  · rw [if_pos (Or.inl e), if_pos e]
  · rw [if_neg e]
    by_cases e2 : a < co i
    · rw [if_pos (Or.inr e2)]; omega
    · rw [if_neg (by omega)]; omega
theorem mn_o {co : Nat → Nat} {i a : Nat} (h : a = mnc co 0 i) (_ha : a < 40 ∨ a = NO) : (if a = NO ∨ co i < a then co i else a) = mnc co 0 (i + 1) := by
  rw [mnc, ← h, Nat.zero_add]
  by_cases e : a = NO
  · rw [if_pos (Or.inl e), if_pos e]
  · rw [if_neg e]
    by_cases e2 : co i < a
    · rw [if_pos (Or.inr e2)]; omega
    · rw [if_neg (by omega)]; omega
theorem w2_eq {w : Int32} (h : 0 ≤ w.toInt ∧ w.toInt ≤ 2) (h0 : ¬ w = 0) (h1 : ¬ w = 1) : w = nI 2 := by
  apply Int32.toInt_inj.mp
  have e0 : w.toInt ≠ 0 := fun q => h0 (Int32.toInt_inj.mp q)
  have e1 : w.toInt ≠ 1 := fun q => h1 (Int32.toInt_inj.mp q)
  rw [nI_toInt (by decide)]
  omega
theorem w_no {w : Int32} {k n : Nat} (h : ¬ (0 ≤ w.toInt ∧ w.toInt ≤ n)) (hk : k ≤ n) (hn : n < 2147483648) : ¬ w = nI k := fun q => h (by rw [q, nI_toInt (by omega)]; omega)
set_option maxRecDepth 20000 in
theorem nar_F : ∀ b : Fin 256, vp_nar .byte (nI (byv b.1)) = nI (byv b.1) := by decide
theorem nar_byv {b : Nat} (h : b < 256) : vp_nar .byte (nI (byv b)) = nI (byv b) := nar_F ⟨b, h⟩
set_option maxRecDepth 20000 in
theorem by_F : ∀ b : Fin 128, (nI b.1).toInt8.toInt32 = nI b.1 := by decide
theorem by_lt {b : Nat} (h : b < 128) : (nI b).toInt8.toInt32 = nI b := by_F ⟨b, h⟩
theorem byv_lt {b : Nat} (h : b < 128) : byv b = b := if_pos h
theorem nar_lt {b : Nat} (h : b < 128) : vp_nar .byte (nI b) = nI b := by have := nar_byv (b := b) (by omega); rwa [byv_lt h] at this
theorem sg_byv {b : Nat} (h : b < 256) : (33 ≤ (nI (byv b)).toInt ∧ (nI (byv b)).toInt ≤ 126) ↔ sgB b = true := by
  unfold sgB
  rw [decide_eq_true_eq]
  by_cases e : b < 128
  · rw [byv_lt e, nI_toInt (by omega)]; omega
  · have h1 : (nI (byv b)).toInt < 0 := by
      unfold byv; rw [if_neg e]
      show (Int32.ofNat _).toInt < 0
      rw [Int32.toInt_ofNat', show (Int32.size : Nat) = 4294967296 from rfl, Int.bmod_def]
      split <;> omega
    omega
theorem byv_eqF : ∀ b : Fin 256, ∀ k : Fin 128, nI (byv b.1) = nI k.1 → b.1 = k.1 := fun b k h => by
  have hb := b.2
  have hk := k.2
  have h2 := congrArg Int32.toInt h
  rw [nI_toInt (n := k.1) (by omega)] at h2
  by_cases e : b.1 < 128
  · rw [byv_lt e, nI_toInt (by omega)] at h2; omega
  · exfalso
    have h1 : (nI (byv b.1)).toInt < 0 := by
      unfold byv; rw [if_neg e]
      show (Int32.ofNat _).toInt < 0
      rw [Int32.toInt_ofNat', show (Int32.size : Nat) = 4294967296 from rfl, Int.bmod_def]
      split <;> omega
    omega
theorem byv_eq {b k : Nat} (hb : b < 256) (hk : k < 128) : nI (byv b) = nI k ↔ b = k := ⟨byv_eqF ⟨b, hb⟩ ⟨k, hk⟩, fun e => by rw [e, byv_lt hk]⟩
