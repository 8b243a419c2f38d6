/-! READING A TEXT, purely: tx its signs -/
def sgB (x : Nat) : Bool := decide (33 ≤ x ∧ x ≤ 126)
def lT (tx : Nat → Nat) : Nat → Nat
  | 0 => 0
  | k + 1 => if tx k = 10 then lT tx k + 1 else lT tx k
def cT (tx : Nat → Nat) : Nat → Nat
  | 0 => 0
  | k + 1 => if tx k = 10 then 0 else cT tx k + 1
def nT (tx : Nat → Nat) (k : Nat) : Nat := cnt (fun q => sgB (tx q)) k
/-- a row of the tokens read, of the values v by place -/
def aT (tx : Nat → Nat) (v : Nat → Nat) : Nat → Nat → Nat
  | 0 => fun _ => 0
  | k + 1 => if sgB (tx k) = true then up (aT tx v k) (nT tx k) (v k) else aT tx v k
def bdT (tx : Nat → Nat) (k : Nat) : Bool := if sgB (tx k) = true then decide (40 ≤ cT tx k ∨ 20 ≤ nT tx k) else decide (tx k ≠ 32 ∧ tx k ≠ 10)
theorem lT_le (tx : Nat → Nat) : ∀ k, lT tx k ≤ k
  | 0 => Nat.le_refl _
  | k + 1 => by
    have := lT_le tx k
    rw [lT]
    split <;> omega
theorem cT_le (tx : Nat → Nat) : ∀ k, cT tx k ≤ k
  | 0 => Nat.le_refl _
  | k + 1 => by
    have := cT_le tx k
    rw [cT]
    split <;> omega
theorem nT_s {tx : Nat → Nat} {k : Nat} (h : sgB (tx k) = true) : nT tx (k + 1) = nT tx k + 1 := by unfold nT; rw [cnt, if_pos h]
theorem nT_o {tx : Nat → Nat} {k : Nat} (h : sgB (tx k) = false) : nT tx (k + 1) = nT tx k := by unfold nT; rw [cnt, if_neg (by rw [h]; decide), Nat.add_zero]
theorem aT_s {tx v : Nat → Nat} {k : Nat} (h : sgB (tx k) = true) : aT tx v (k + 1) = up (aT tx v k) (nT tx k) (v k) := by rw [aT, if_pos h]
theorem aT_o {tx v : Nat → Nat} {k : Nat} (h : sgB (tx k) = false) : aT tx v (k + 1) = aT tx v k := by rw [aT, if_neg (by rw [h]; decide)]
/-- a row that holds the tokens read so far -/
def hT_ (tx v g : Nat → Nat) (k : Nat) : Prop := ∀ q, q < nT tx k → g q = aT tx v k q
theorem hT_s {tx v g : Nat → Nat} {k : Nat} (hg : hT_ tx v g k) (h : sgB (tx k) = true) : hT_ tx v (up g (nT tx k) (v k)) (k + 1) := by
  intro q hq
  rw [nT_s h] at hq
  rw [aT_s h]
  unfold up
  by_cases e : q = nT tx k
  · rw [if_pos e, if_pos e]
  · rw [if_neg e, if_neg e]
    exact hg q (by omega)
theorem hT_o {tx v g : Nat → Nat} {k : Nat} (hg : hT_ tx v g k) (h : sgB (tx k) = false) : hT_ tx v g (k + 1) := by
  intro q hq
  rw [nT_o h] at hq
  rw [aT_o h]
  exact hg q hq
/-- what holds of the tokens read: they stand in their order, ahead of where the reading is -/
theorem aT_srt (tx : Nat → Nat) : ∀ k, (∀ q, q < nT tx k → aT tx (lT tx) k q < lT tx k ∨ (aT tx (lT tx) k q = lT tx k ∧ aT tx (cT tx) k q < cT tx k)) ∧ Srt (nT tx k) (aT tx (lT tx) k) (aT tx (cT tx) k)
  | 0 => ⟨fun q hq => absurd hq (Nat.not_lt_zero _), fun a b _ hb => absurd hb (Nat.not_lt_zero _)⟩
  | k + 1 => by
    obtain ⟨h1, h2⟩ := aT_srt tx k
    cases hs : sgB (tx k) with
    | false =>
      rw [nT_o hs, aT_o hs, aT_o hs]
      refine ⟨fun q hq => ?_, h2⟩
      have := h1 q hq
      rw [lT, cT]
      split <;> omega
    | true =>
      have hx : ¬ tx k = 10 := fun e => by rw [e] at hs; revert hs; decide
      rw [nT_s hs, aT_s hs, aT_s hs, lT, cT, if_neg hx, if_neg hx]
      refine ⟨fun q hq => ?_, fun a b hab hb => ?_⟩
      · unfold up
        by_cases e : q = nT tx k
        · rw [if_pos e, if_pos e]; omega
        · rw [if_neg e, if_neg e]
          have := h1 q (by omega)
          omega
      · unfold up
        have ea : ¬ a = nT tx k := by omega
        by_cases e : b = nT tx k
        · simp only [if_neg ea, if_pos e]
          exact h1 a (by omega)
        · simp only [if_neg ea, if_neg e]
          exact h2 a b hab (by omega)
theorem aT_sg (tx : Nat → Nat) : ∀ k q, q < nT tx k → sgB (aT tx tx k q) = true
  | 0, q, h => absurd h (Nat.not_lt_zero _)
  | k + 1, q, h => by
    cases hs : sgB (tx k) with
    | false => rw [nT_o hs] at h; rw [aT_o hs]; exact aT_sg tx k q h
    | true =>
      rw [nT_s hs] at h
      rw [aT_s hs]
      unfold up
      by_cases e : q = nT tx k
      · rw [if_pos e]; exact hs
      · rw [if_neg e]; exact aT_sg tx k q (by omega)
/-- the columns of the tokens read are columns, where nothing was bad -/
theorem aT_co (tx : Nat → Nat) : ∀ k, (∀ q, q < k → bdT tx q = false) → nT tx k ≤ 20 ∧ ∀ q, q < nT tx k → aT tx (cT tx) k q < 40
  | 0, _ => ⟨Nat.zero_le _, fun q h => absurd h (Nat.not_lt_zero _)⟩
  | k + 1, h => by
    obtain ⟨h1, h2⟩ := aT_co tx k (fun q hq => h q (by omega))
    have hb := h k (by omega)
    cases hs : sgB (tx k) with
    | false => rw [nT_o hs, aT_o hs]; exact ⟨h1, h2⟩
    | true =>
      unfold bdT at hb
      rw [if_pos hs] at hb
      have hb2 := of_decide_eq_false hb
      rw [nT_s hs, aT_s hs]
      refine ⟨by omega, fun q hq => ?_⟩
      unfold up
      by_cases e : q = nT tx k
      · rw [if_pos e]; omega
      · rw [if_neg e]; exact h2 q (by omega)
theorem sgB_iff {x : Nat} (hx : x < 2147483648) : (33 ≤ (nI x).toInt ∧ (nI x).toInt ≤ 126) ↔ sgB x = true := by
  unfold sgB
  rw [nI_toInt (by omega), decide_eq_true_eq]
  omega
theorem srch_none {p : Nat → Bool} {n : Nat} (h : ∀ q, q < n → p q = false) : srch p 0 n = NO := by
  rcases srch_spec p n 0 with h1 | h1
  · exact h1.1
  · have := h (srch p 0 n) (by omega)
    rw [h1.2.2.1] at this
    cases this
theorem srch_at {p : Nat → Bool} {n x : Nat} (hx : x < n) (h : ∀ q, q < x → p q = false) (hp : p x = true) : srch p 0 n = x := by
  rcases srch_spec p n 0 with h1 | h1
  · have := h1.2 x (Nat.zero_le _) (by omega)
    rw [hp] at this
    cases this
  · rcases Nat.lt_trichotomy (srch p 0 n) x with q | q | q
    · have := h _ q
      rw [h1.2.2.1] at this
      cases this
    · exact q
    · have := h1.2.2.2 x (Nat.zero_le _) q
      rw [hp] at this
      cases this
theorem rt_step {p : Nat → Bool} {x : Nat} (h : ∀ q, q < x → p q = false) (hx : p x = false) : ∀ q, q < x + 1 → p q = false := fun q hq => by
  by_cases e : q = x
  · rw [e]; exact hx
  · exact h q (by omega)
theorem rt_safe {n x l d : Nat} {g1 g2 g3 : Nat → Nat} (h : SafeT n g1 g2 g3) (hn : n < 20) (hx : sgB x = true) (hl : l < 1000000) (hd : d < 40) : SafeT (n + 1) (up g1 n x) (up g2 n l) (up g3 n d) := by
  have hx2 : 33 ≤ x ∧ x ≤ 126 := of_decide_eq_true hx
  exact ⟨hn, up_sg h.2.1 (by omega), up_lt h.2.2.1 hl, up_lt h.2.2.2 hd⟩
