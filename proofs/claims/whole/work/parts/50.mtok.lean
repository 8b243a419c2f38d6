/-! THE MODEL's tokens, purely -/
/-- what is remembered: the row of undos behind it -/
def UnS (k : Nat) (u row U : Nat → Nat) : Prop := ∀ q, U q = if q < 61 * (if k = 10 then 9 else k) then u (q + (if k = 10 then 61 else 0)) else if q < 61 * (if k = 10 then 9 else k) + 61 then row (529 + (q - 61 * (if k = 10 then 9 else k))) else u q
def stA (li co : Nat → Nat) (x z : Int) (a : Nat) : Nat → Bool
  | 0 => true
  | n + 1 => stA li co x z a n && (decide (n < a) || !decide ((li n : Int) = x) || decide (0 ≤ (co n : Int) + z ∧ (co n : Int) + z < 40))
theorem stA_0 (li co : Nat → Nat) (x z : Int) : ∀ n, stA li co x z 0 n = stB li co x z n
  | 0 => rfl
  | n + 1 => by rw [stA, stB, stA_0 li co x z n]; simp
theorem stA_all {li co : Nat → Nat} {x z : Int} {a : Nat} : ∀ {n : Nat}, stA li co x z a n = true ↔ ∀ k, a ≤ k → k < n → (li k : Int) = x → 0 ≤ (co k : Int) + z ∧ (co k : Int) + z < 40
  | 0 => ⟨fun _ k _ hk => by omega, fun _ => rfl⟩
  | n + 1 => by
    rw [stA, Bool.and_eq_true, stA_all (n := n)]
    constructor
    · rintro ⟨h1, h2⟩ k k1 k2 e
      by_cases q : k = n
      · subst q
        simp at h2
        omega
      · exact h1 k k1 (by omega) e
    · intro h
      refine ⟨fun k k1 k2 => h k k1 (by omega), ?_⟩
      by_cases q1 : n < a
      · simp [q1]
      · by_cases q2 : (li n : Int) = x
        · have := h n (by omega) (by omega) q2
          simp [this]
        · simp [q2]
theorem stA_s {li co : Nat → Nat} {x z : Int} {a n s : Nat} (ha : a ≤ n) (h : s = (if stA li co x z a n = true then 1 else 0)) {P : Prop} [Decidable P] (hp : P ↔ (s ≠ 0 ∧ ((li n : Int) = x → 0 ≤ (co n : Int) + z ∧ (co n : Int) + z < 40))) : (if P then 1 else 0) = (if stA li co x z a (n + 1) = true then 1 else 0) := by
  have e : P ↔ stA li co x z a (n + 1) = true := by
    rw [hp, stA, Bool.and_eq_true]
    have h1 : s ≠ 0 ↔ stA li co x z a n = true := by rw [h]; split <;> simp_all
    rw [h1]
    have h2 : ¬ n < a := by omega
    simp [h2]
    intro _
    by_cases q : (li n : Int) = x <;> simp [q]
  by_cases q : P
  · rw [if_pos q, if_pos (e.mp q)]
  · rw [if_neg q, if_neg (fun r => q (e.mpr r))]
theorem RelT.rd {f : Nat → Nat → Nat} {c k : Nat} {sg li co : Nat → Nat} (ht : RelT f c sg li co) (hk : k < c) : f 140 (530 + k) = sg k ∧ f 140 (550 + k) = li k ∧ f 140 (570 + k) = co k := ht.2 k hk
/-- the row behind a move -/
def mvR (row li co : Nat → Nat) (x z : Int) (j : Nat) : Nat → Nat := fun q => if 570 ≤ q ∧ q < 570 + j then mvC li co x z (q - 570) else row q
theorem mvR_0 (row li co : Nat → Nat) (x z : Int) : mvR row li co x z 0 = row := by funext q; unfold mvR; rw [if_neg (by omega)]
theorem mvR_s {row li co : Nat → Nat} {x z : Int} {j : Nat} : up (mvR row li co x z j) (570 + j) (mvC li co x z j) = mvR row li co x z (j + 1) := by
  funext q; unfold up mvR
  by_cases e : q = 570 + j
  · rw [if_pos e, if_pos (by omega), e, Nat.add_sub_cancel_left]
  · rw [if_neg e]
    by_cases e2 : 570 ≤ q ∧ q < 570 + j
    · rw [if_pos e2, if_pos (by omega)]
    · rw [if_neg e2, if_neg (by omega)]
theorem mvR_o {row li co : Nat → Nat} {x z : Int} {j q : Nat} (h : q < 570 ∨ 570 + j ≤ q) : mvR row li co x z j q = row q := by unfold mvR; rw [if_neg (by omega)]
theorem mvR_i {row li co : Nat → Nat} {x z : Int} {j q : Nat} (h : q < j) : mvR row li co x z j (570 + q) = mvC li co x z q := by unfold mvR; rw [if_pos (by omega), Nat.add_sub_cancel_left]
theorem ite_cg {a b : Prop} [Decidable a] [Decidable b] (h : a ↔ b) : (if a then 1 else 0) = (if b then 1 else 0) := by
  by_cases q : a
  · rw [if_pos q, if_pos (h.mp q)]
  · rw [if_neg q, if_neg (fun r => q (h.mpr r))]
theorem ite_01 {a : Prop} [Decidable a] : nI (if a then 1 else 0) = 0 ∨ nI (if a then 1 else 0) = 1 := by
  split
  · exact Or.inr rfl
  · exact Or.inl rfl
theorem l_add1 {x : Int64} {a : Int} (h : x.toInt = a) (h1 : -9223372036854775808 < a) (h2 : a < 9223372036854775807) : (x + 1).toInt = a + 1 := by
  rw [Int64.toInt_add, h]
  have : (1 : Int64).toInt = 1 := by decide
  rw [this]
  exact Int.bmod_eq_of_le (by omega) (by omega)
theorem un_sh {V u : Nat → Nat} {j : Nat} (h : ∀ q, V q = if q < j then u (q + 61) else u q) (q : Nat) : up V j (V (j + 61)) q = if q < j + 1 then u (q + 61) else u q := by
  unfold up
  by_cases e : q = j
  · rw [if_pos e, if_pos (by omega), h, if_neg (by omega), e]
  · rw [if_neg e, h]
    by_cases e2 : q < j
    · rw [if_pos e2, if_pos (by omega)]
    · rw [if_neg e2, if_neg (by omega)]
theorem un_up {U w r : Nat → Nat} {b i : Nat} (h : ∀ q, U q = if b ≤ q ∧ q < b + i then r (529 + (q - b)) else w q) (_ : i < 61) (q : Nat) : up U (b + i) (r (529 + i)) q = if b ≤ q ∧ q < b + (i + 1) then r (529 + (q - b)) else w q := by
  unfold up
  by_cases e : q = b + i
  · rw [if_pos e, if_pos (by omega), e, Nat.add_sub_cancel_left]
  · rw [if_neg e, h]
    by_cases e2 : b ≤ q ∧ q < b + i
    · rw [if_pos e2, if_pos (by omega)]
    · rw [if_neg e2, if_neg (by omega)]
theorem un_fin1 {u r : Nat → Nat} {k i q : Nat} (hk : k = 10) (hi : i = 61) : (if 549 ≤ q ∧ q < 549 + i then r (529 + (q - 549)) else (if q < 549 then u (q + 61) else u q)) = if q < 61 * (if k = 10 then 9 else k) then u (q + (if k = 10 then 61 else 0)) else if q < 61 * (if k = 10 then 9 else k) + 61 then r (529 + (q - 61 * (if k = 10 then 9 else k))) else u q := by
  subst hk hi
  rw [if_pos rfl, if_pos rfl]
  by_cases e1 : q < 549
  · rw [if_neg (by omega), if_pos e1, if_pos (by omega)]
  · by_cases e2 : q < 610
    · rw [if_pos (by omega), if_neg (by omega), if_pos (by omega)]
    · rw [if_neg (by omega), if_neg e1, if_neg (by omega), if_neg (by omega)]
theorem un_fin2 {u r : Nat → Nat} {k i q : Nat} (hk : ¬ k = 10) (hi : i = 61) : (if 61 * k ≤ q ∧ q < 61 * k + i then r (529 + (q - 61 * k)) else u q) = if q < 61 * (if k = 10 then 9 else k) then u (q + (if k = 10 then 61 else 0)) else if q < 61 * (if k = 10 then 9 else k) + 61 then r (529 + (q - 61 * (if k = 10 then 9 else k))) else u q := by
  subst hi
  rw [if_neg hk, if_neg hk]
  by_cases e1 : q < 61 * k
  · rw [if_neg (by omega), if_pos e1, Nat.add_zero]
  · by_cases e2 : q < 61 * k + 61
    · rw [if_pos (by omega), if_neg e1, if_pos e2]
    · rw [if_neg (by omega), if_neg e1, if_neg e2]
theorem mv_st {li co : Nat → Nat} {x z : Int32} {c j : Nat} (hst : stB li co x.toInt z.toInt c = true) (hj : j < c) (hco : ∀ q, co q < 40) (_hz : -40 < z.toInt ∧ z.toInt < 40) : nI (co j) + (if (li j : Int) = x.toInt then z else 0) = nI (mvC li co x.toInt z.toInt j) := by
  unfold mvC
  by_cases e : (li j : Int) = x.toInt
  · rw [if_pos e, if_pos e]
    have h1 := stB_all hst j hj e
    have h2 := hco j
    exact addz_ok (by omega) (by omega) (by omega)
  · rw [if_neg e, if_neg e]; exact Int32.add_zero _
theorem mvR_lt {row li co : Nat → Nat} {x z : Int} {j B : Nat} (h : ∀ q, row q < B) (h1 : ∀ q, q < j → mvC li co x z q < B) (q : Nat) : mvR row li co x z j q < B := by
  unfold mvR; split
  · exact h1 _ (by omega)
  · exact h q
