/-! TOKENS, purely: moving a line, where a sign comes -/
/-- whether the tokens of a line would stay within the columns -/
def stB (li co : Nat → Nat) (x z : Int) : Nat → Bool
  | 0 => true
  | k + 1 => stB li co x z k && (!decide ((li k : Int) = x) || decide (0 ≤ (co k : Int) + z ∧ (co k : Int) + z < 40))
def inL (li : Nat → Nat) (x : Int) : Nat → Bool := fun k => decide ((li k : Int) = x)
def mvA (c : Nat) (li co : Nat → Nat) (x z : Int) : Nat := if ¬ (-40 < z ∧ z < 40) then 4294967295 else if cnt (inL li x) c = 0 then 4294967294 else if stB li co x z c = false then 4294967293 else cnt (inL li x) c
/-- the columns of the tokens behind a move -/
def mvC (li co : Nat → Nat) (x z : Int) : Nat → Nat := fun k => if (li k : Int) = x then addz (co k) z else co k
theorem stB_all {li co : Nat → Nat} {x z : Int} : ∀ {n : Nat}, stB li co x z n = true → ∀ k, k < n → (li k : Int) = x → 0 ≤ (co k : Int) + z ∧ (co k : Int) + z < 40
  | 0, _, k, hk, _ => by omega
  | n + 1, h, k, hk, e => by
    rw [stB, Bool.and_eq_true] at h
    by_cases g : k = n
    · subst g
      have h2 := h.2
      rw [Bool.or_eq_true] at h2
      rcases h2 with h2 | h2
      · simp [e] at h2
      · exact of_decide_eq_true h2
    · exact stB_all h.1 k (by omega) e
theorem stB_s {li co : Nat → Nat} {x z : Int} {n s : Nat} {P : Prop} [Decidable P] (h : s = (if stB li co x z n = true then 1 else 0)) (hp : P ↔ (s ≠ 0 ∧ ((li n : Int) = x → 0 ≤ (co n : Int) + z ∧ (co n : Int) + z < 40))) : (if P then 1 else 0) = (if stB li co x z (n + 1) = true then 1 else 0) := by
  have e : P ↔ stB li co x z (n + 1) = true := by
    rw [hp, stB, Bool.and_eq_true, Bool.or_eq_true]
    have h1 : s ≠ 0 ↔ stB li co x z n = true := by
      rw [h]
      by_cases q : stB li co x z n = true
      · rw [if_pos q]; exact ⟨fun _ => q, fun _ => by decide⟩
      · rw [if_neg q]; exact ⟨fun r => absurd rfl r, fun r => absurd r q⟩
    rw [h1]
    by_cases g : (li n : Int) = x
    · simp [g]
    · simp [g]
  by_cases q : P
  · rw [if_pos q, if_pos (e.mp q)]
  · rw [if_neg q, if_neg (fun r => q (e.mpr r))]
theorem nI_eqI {a : Nat} {x : Int32} (ha : a < 2147483648) : nI a = x ↔ (a : Int) = x.toInt := by
  rw [← Int32.toInt_inj, nI_toInt (by omega)]
/-- an int from 0 on is a number -/
theorem i32_nat {x : Int32} (h : 0 ≤ x.toInt) : x = nI x.toInt.toNat := by
  apply Int32.toInt_inj.mp
  have h2 := Int32.toInt_lt x
  rw [nI_toInt (by omega)]
  omega
theorem z_cp_at {f g : Nat → Nat} {sp dp n n1 j : Nat} (h1 : dp ≤ j) (h2 : j < dp + n) (h3 : j < n1) : z_cp f g sp dp n n1 j = f (sp + (j - dp)) := by
  unfold z_cp
  simp [h1, h2, h3]
theorem cnt_yes {p : Nat → Bool} {n a : Nat} (h : a = cnt p n) (hc : p n = true) : a + 1 = cnt p (n + 1) := by rw [cnt, if_pos hc, h]
theorem cnt_no {p : Nat → Bool} {n a : Nat} (h : a = cnt p n) (hc : p n = false) : a = cnt p (n + 1) := by rw [cnt, if_neg (by rw [hc]; decide), h, Nat.add_zero]
theorem addI {co : Nat → Nat} {q : Nat} {z : Int32} (h : ∀ q, co q < 40) (h1 : -40 < z.toInt) (h2 : z.toInt < 40) : (nI (co q) + z).toInt = (co q : Int) + z.toInt := by
  have := h q
  rw [Int32.toInt_add, nI_toInt (by omega)]
  exact Int.bmod_eq_of_le (by omega) (by omega)
theorem stB_o {li co : Nat → Nat} {x z : Int} {n s : Nat} (h : s = (if stB li co x z n = true then 1 else 0)) (hp : ¬ (li n : Int) = x) : s = (if stB li co x z (n + 1) = true then 1 else 0) := by
  rw [h, stB]
  simp [hp]
theorem mvC_lt {li co : Nat → Nat} {x z : Int} {c : Nat} (hst : stB li co x z c = true) (hco : ∀ q, co q < 40) {q : Nat} (hq : q < c) : mvC li co x z q < 40 := by
  unfold mvC
  split
  · rename_i e
    have := stB_all hst q hq e
    unfold addz
    omega
  · exact hco q
theorem mv_next {li co cq : Nat → Nat} {x z : Int} {c j : Nat} (h : j ≤ c ∧ (∀ q, cq q < 40) ∧ ∀ q, cq q = if q < j then mvC li co x z q else co q) (hj : j < c) (hst : stB li co x z c = true) (hco : ∀ q, co q < 40) : j + 1 ≤ c ∧ (∀ q, up cq j (mvC li co x z j) q < 40) ∧ ∀ q, up cq j (mvC li co x z j) q = if q < j + 1 then mvC li co x z q else co q := by
  refine ⟨hj, fun q => ?_, fun q => ?_⟩
  · unfold up
    split
    · exact mvC_lt hst hco hj
    · exact h.2.1 q
  · unfold up
    by_cases e : q = j
    · rw [if_pos e, if_pos (by omega), e]
    · rw [if_neg e, h.2.2 q]
      by_cases g : q < j
      · rw [if_pos g, if_pos (by omega)]
      · rw [if_neg g, if_neg (by omega)]
theorem mv_store {li co cq : Nat → Nat} {x z : Int32} {c j : Nat} (h : j ≤ c ∧ (∀ q, cq q < 40) ∧ ∀ q, cq q = if q < j then mvC li co x.toInt z.toInt q else co q) (hst : stB li co x.toInt z.toInt c = true) (hj : j < c) (hco : ∀ q, co q < 40) (hz : -40 < z.toInt ∧ z.toInt < 40) : nI (cq j) + (if (li j : Int) = x.toInt then z else 0) = nI (mvC li co x.toInt z.toInt j) := by
  rw [h.2.2 j, if_neg (by omega)]
  unfold mvC
  by_cases e : (li j : Int) = x.toInt
  · rw [if_pos e, if_pos e]
    have := stB_all hst j hj e
    exact addz_ok this.1 (by omega) (by have := hco j; omega)
  · rw [if_neg e, if_neg e]
    exact Int32.add_zero _
