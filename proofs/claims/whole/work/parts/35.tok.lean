/-! TOKENS, purely: moving a line, where a sign comes -/
/-- whether the tokens of a line would stay within the columns -/
def stB (li co : Nat → Nat) (x z : Int) : Nat → Bool
  | 0 => true
  | k + 1 => stB li co x z k && (!decide ((li k : Int) = x) || decide (0 ≤ (co k : Int) + z ∧ (co k : Int) + z < 40))
def inL (li : Nat → Nat) (x : Int) : Nat → Bool := fun k => decide ((li k : Int) = x)
def mvA (c : Nat) (li co : Nat → Nat) (x z : Int) : Nat := if ¬ (-40 < z ∧ z < 40) then 4294967295 else if cnt (inL li x) c = 0 then 4294967294 else if stB li co x z c = false then 4294967293 else cnt (inL li x) c
/-- the columns of the tokens behind a move -/
def mvC (li co : Nat → Nat) (x z : Int) : Nat → Nat := fun k => if (li k : Int) = x then addz (co k) z else co k
theorem stB_all {li co : Nat → Nat} {x z : Int} : ∀ {n : Nat}, stB li co x z n = true → ∀ k, k < n → (li k : Int) = x → 0 ≤ (co k : Int) + z ∧ (co k : Int) + z < 40
  | 0, _, k, hk, _ => by omega
  | n + 1, h, k, hk, e => by
    rw [stB, Bool.and_eq_true] at h
    by_cases g : k = n
    · subst g
      have h2 := h.2
      rw [Bool.or_eq_true] at h2
      rcases h2 with h2 | h2
      · simp [e] at h2
      · exact of_decide_eq_true h2
    · exact stB_all h.1 k (by omega) e
theorem stB_s {li co : Nat → Nat} {x z : Int} {n s : Nat} {P : Prop} [Decidable P] (h : s = (if stB li co x z n = true then 1 else 0)) (hp : P ↔ (s ≠ 0 ∧ ((li n : Int) = x → 0 ≤ (co n : Int) + z ∧ (co n : Int) + z < 40))) : (if P then 1 else 0) = (if stB li co x z (n + 1) = true then 1 else 0) := by
  have e : P ↔ stB li co x z (n + 1) = true := by
    rw [hp, stB, Bool.and_eq_true, Bool.or_eq_true]
    have h1 : s ≠ 0 ↔ stB li co x z n = true := by
      rw [h]
      by_cases q : stB li co x z n = true
      · rw [if_pos q]; exact ⟨fun _ => q, fun _ => by decide⟩
      · rw [if_neg q]; exact ⟨fun r => absurd rfl r, fun r => absurd r q⟩
    rw [h1]
    by_cases g : (li n : Int) = x
    · simp [g]
    · simp [g]
  by_cases q : P
  · rw [if_pos q, if_pos (e.mp q)]
  · rw [if_neg q, if_neg (fun r => q (e.mpr r))]
theorem nI_eqI {a : Nat} {x : Int32} (ha : a < 2147483648) : nI a = x ↔ (a : Int) = x.toInt := by
  rw [← Int32.toInt_inj, nI_toInt (by omega)]
/-- an int from 0 on is a number -/
theorem i32_nat {x : Int32} (h : 0 ≤ x.toInt) : x = nI x.toInt.toNat := by
  apply Int32.toInt_inj.mp
  have h2 := Int32.toInt_lt x
  rw [nI_toInt (by omega)]
  omega
theorem z_cp_at {f g : Nat → Nat} {sp dp n n1 j : Nat} (h1 : dp ≤ j) (h2 : j < dp + n) (h3 : j < n1) : z_cp f g sp dp n n1 j = f (sp + (j - dp)) := by
  unfold z_cp
  simp [h1, h2, h3]
theorem cnt_yes {p : Nat → Bool} {n a : Nat} (h : a = cnt p n) (hc : p n = true) : a + 1 = cnt p (n + 1) := by rw [cnt, if_pos hc, h]
theorem cnt_no {p : Nat → Bool} {n a : Nat} (h : a = cnt p n) (hc : p n = false) : a = cnt p (n + 1) := by rw [cnt, if_neg (by rw [hc]; decide), h, Nat.add_zero]
theorem addI {co : Nat → Nat} {q : Nat} {z : Int32} (h : ∀ q, co q < 40) (h1 : -40 < z.toInt) (h2 : z.toInt < 40) : (nI (co q) + z).toInt = (co q : Int) + z.toInt := by
  have := h q
  rw [Int32.toInt_add, nI_toInt (by omega)]
  exact Int.bmod_eq_of_le (by omega) (by omega)
theorem stB_o {li co : Nat → Nat} {x z : Int} {n s : Nat} (h : s = (if stB li co x z n = true then 1 else 0)) (hp : ¬ (li n : Int) = x) : s = (if stB li co x z (n + 1) = true then 1 else 0) := by
  rw [h, stB]
  simp [hp]
theorem mvC_lt {li co : Nat → Nat} {x z : Int} {c : Nat} (hst : stB li co x z c = true) (hco : ∀ q, co q < 40) {q : Nat} (hq : q < c) : mvC li co x z q < 40 := by
  unfold mvC
  split
  · rename_i e
    have := stB_all hst q hq e
    unfold addz
    omega
  · exact hco q
theorem mv_next {li co cq : Nat → Nat} {x z : Int} {c j : Nat} (h : j ≤ c ∧ (∀ q, cq q < 40) ∧ ∀ q, cq q = if q < j then mvC li co x z q else co q) (hj : j < c) (hst : stB li co x z c = true) (hco : ∀ q, co q < 40) : j + 1 ≤ c ∧ (∀ q, up cq j (mvC li co x z j) q < 40) ∧ ∀ q, up cq j (mvC li co x z j) q = if q < j + 1 then mvC li co x z q else co q := by
  refine ⟨hj, fun q => ?_, fun q => ?_⟩
  · unfold up
    split
    · exact mvC_lt hst hco hj
    · exact h.2.1 q
  · unfold up
    by_cases e : q = j
    · rw [if_pos e, if_pos (by omega), e]
    · rw [if_neg e, h.2.2 q]
      by_cases g : q < j
      · rw [if_pos g, if_pos (by omega)]
      · rw [if_neg g, if_neg (by omega)]
theorem mv_store {li co cq : Nat → Nat} {x z : Int32} {c j : Nat} (h : j ≤ c ∧ (∀ q, cq q < 40) ∧ ∀ q, cq q = if q < j then mvC li co x.toInt z.toInt q else co q) (hst : stB li co x.toInt z.toInt c = true) (hj : j < c) (hco : ∀ q, co q < 40) (hz : -40 < z.toInt ∧ z.toInt < 40) : nI (cq j) + (if (li j : Int) = x.toInt then z else 0) = nI (mvC li co x.toInt z.toInt j) := by
  rw [h.2.2 j, if_neg (by omega)]
  unfold mvC
  by_cases e : (li j : Int) = x.toInt
  · rw [if_pos e, if_pos e]
    have := stB_all hst j hj e
    exact addz_ok this.1 (by omega) (by have := hco j; omega)
  · rw [if_neg e, if_neg e]
    exact Int32.add_zero _
/-- a row without one of its places -/
def tkF (x : Nat) (g : Nat → Nat) : Nat → Nat := fun q => if q < x then g q else g (q + 1)
/-- a row with one place more -/
def inF (x v : Nat) (g : Nat → Nat) : Nat → Nat := fun q => if q < x then g q else if q = x then v else g (q - 1)
theorem cp_take {g : Nat → Nat} {x c : Nat} (hx : x < c) (hc : c ≤ 20) (q : Nat) (hq : q < c - 1) : z_cp g g (x + 1) x (c - (x + 1)) 20 q = tkF x g q := by
  unfold z_cp tkF
  by_cases e : q < x
  · rw [if_neg (by omega), if_pos e]
  · rw [if_pos (by omega), if_neg e]
    congr 1
    omega
theorem cp_ins {g : Nat → Nat} {x v c : Nat} (hx : x ≤ c) (hc : c < 20) (q : Nat) (hq : q < c + 1) : up (z_cp g g x (x + 1) (c - x) 20) x v q = inF x v g q := by
  unfold up z_cp inF
  by_cases e : q < x
  · rw [if_neg (by omega), if_neg (by omega), if_pos e]
  · rw [if_neg e]
    by_cases f : q = x
    · rw [if_pos f, if_pos f]
    · rw [if_neg f, if_neg f, if_pos (by omega)]
      congr 1
      omega
theorem cp_lt {g : Nat → Nat} {B sp dp n n1 : Nat} (h : ∀ q, g q < B) (q : Nat) : z_cp g g sp dp n n1 q < B := by
  unfold z_cp
  split <;> exact h _
theorem cp_sg {g : Nat → Nat} {sp dp n n1 : Nat} (h : ∀ q, g q < 128 ∧ g q ≠ 1) (q : Nat) : z_cp g g sp dp n n1 q < 128 ∧ z_cp g g sp dp n n1 q ≠ 1 := by
  unfold z_cp
  split <;> exact h _
theorem up_lt {g : Nat → Nat} {B k v : Nat} (h : ∀ q, g q < B) (hv : v < B) (q : Nat) : up g k v q < B := by
  unfold up
  split
  · exact hv
  · exact h q
theorem up_sg {g : Nat → Nat} {k v : Nat} (h : ∀ q, g q < 128 ∧ g q ≠ 1) (hv : v < 128 ∧ v ≠ 1) (q : Nat) : up g k v q < 128 ∧ up g k v q ≠ 1 := by
  unfold up
  split
  · exact hv
  · exact h q
/-- tokens stand in their order -/
def Srt (c : Nat) (li co : Nat → Nat) : Prop := ∀ a b, a < b → b < c → li a < li b ∨ (li a = li b ∧ co a < co b)
def ahB (li co : Nat → Nat) (l d : Nat) : Nat → Bool := fun q => decide (li q < l ∨ (li q = l ∧ co q < d))
def thB (li co : Nat → Nat) (l d : Nat) : Nat → Bool := fun q => decide (li q = l ∧ co q = d)
theorem cnt_pre {p : Nat → Bool} {x : Nat} : ∀ {c : Nat}, x ≤ c → (∀ q, q < x → p q = true) → (∀ q, x ≤ q → q < c → p q = false) → cnt p c = x
  | 0, hx, _, _ => by rw [cnt]; omega
  | c + 1, hx, h1, h2 => by
    rw [cnt]
    by_cases e : x = c + 1
    · rw [if_pos (h1 c (by omega))]
      have h3 : cnt p c = c := cnt_pre (Nat.le_refl c) (fun q hq => h1 q (by omega)) (fun q q1 q2 => by omega)
      rw [h3, e]
    · rw [if_neg (by rw [h2 c (by omega) (by omega)]; decide), cnt_pre (by omega) h1 (fun q q1 q2 => h2 q q1 (by omega)), Nat.add_zero]
theorem cnt_zero {p : Nat → Bool} : ∀ {n : Nat}, cnt p n = 0 → ∀ q, q < n → p q = false
  | 0, _, q, hq => by omega
  | n + 1, h, q, hq => by
    rw [cnt] at h
    cases hp : p n with
    | true => rw [if_pos hp] at h; omega
    | false =>
      by_cases e : q = n
      · rw [e]; exact hp
      · exact cnt_zero (n := n) (by omega) q (by omega)
theorem cnt_some {p : Nat → Bool} : ∀ {n : Nat}, cnt p n ≠ 0 → ∃ q, q < n ∧ p q = true
  | 0, h => absurd rfl h
  | n + 1, h => by
    cases hp : p n with
    | true => exact ⟨n, by omega, hp⟩
    | false =>
      rw [cnt, if_neg (by rw [hp]; decide), Nat.add_zero] at h
      obtain ⟨q, q1, q2⟩ := cnt_some h
      exact ⟨q, by omega, q2⟩
theorem ah_cnt {c : Nat} {li co : Nat → Nat} {l d p : Nat} (hs : Srt c li co) (hp : p ≤ c) (h1 : ∀ q, q < p → ahB li co l d q = true) (h2 : p < c → ahB li co l d p = false) : cnt (ahB li co l d) c = p := by
  refine cnt_pre hp h1 (fun q q1 q2 => ?_)
  by_cases e : q = p
  · rw [e]; exact h2 (by omega)
  · have h3 := h2 (by omega)
    have h4 := hs p q (by omega) q2
    unfold ahB at h3 ⊢
    have h5 := of_decide_eq_false h3
    apply decide_eq_false
    omega
theorem th_at {c : Nat} {li co : Nat → Nat} {l d p : Nat} (hs : Srt c li co) (hp : p ≤ c) (h1 : ∀ q, q < p → ahB li co l d q = true) (h2 : p < c → ahB li co l d p = false) : (p < c ∧ li p = l ∧ co p = d) ↔ cnt (thB li co l d) c ≠ 0 := by
  constructor
  · rintro ⟨h3, h4, h5⟩ h0
    have h6 := cnt_zero h0 p h3
    unfold thB at h6
    have := of_decide_eq_false h6
    omega
  · intro h0
    obtain ⟨q, q1, q2⟩ := cnt_some h0
    unfold thB at q2
    have q3 := of_decide_eq_true q2
    have q4 : ¬ q < p := fun hq => by
      have h3 := h1 q hq
      unfold ahB at h3
      have := of_decide_eq_true h3
      omega
    by_cases e : q = p
    · subst e; exact ⟨q1, q3⟩
    · have h3 := h2 (by omega)
      have h4 := hs p q (by omega) q1
      unfold ahB at h3
      have h5 := of_decide_eq_false h3
      omega
theorem ite_ne {c : Prop} [Decidable c] (h : ¬ (if c then 1 else 0) = 0) : c := by
  by_cases q : c
  · exact q
  · rw [if_neg q] at h; exact absurd rfl h
theorem ite_eq0 {c : Prop} [Decidable c] (h : (if c then 1 else 0) = 0) : ¬ c := fun q => by rw [if_pos q] at h; cases h
def ptC (li co : Nat → Nat) (x d : Nat) : Nat → Nat := fun q => if x ≤ q ∧ li q = li x then co q + d - co x else co q
def ptL (li : Nat → Nat) (x : Nat) : Nat → Nat := fun q => if x ≤ q then li q + 1 else li q
/-- whether a line may be parted ahead of x, so that x stands at d -/
def ptOk (c : Nat) (li co : Nat → Nat) (x d : Nat) : Prop := ¬ (x = 0 ∨ li (x - 1) ≠ li x) ∧ ∀ q, x ≤ q → q < c → li q = li x → co q + d < co x + 40
theorem pt_end {c : Nat} {li co : Nat → Nat} {x b : Nat} (hs : Srt c li co) (hb : x ≤ b) (hb1 : ∀ q, x ≤ q → q ≤ b → li q = li x) (h2 : b + 1 < c → li (b + 1) ≠ li x) : ∀ q, b < q → q < c → li q ≠ li x := fun q q1 q2 e => by
  have h3 := h2 (by omega)
  have h4 := hb1 b hb (Nat.le_refl _)
  have h5 := hs b (b + 1) (by omega) (by omega)
  by_cases g : q = b + 1
  · rw [g] at e; exact h3 e
  · have h6 := hs (b + 1) q (by omega) q2
    omega
theorem pt_col {c : Nat} {li co : Nat → Nat} {x b d : Nat} (hs : Srt c li co) (hb : x ≤ b) (hbc : b < c) (hb1 : ∀ q, x ≤ q → q ≤ b → li q = li x) (he : ∀ q, b < q → q < c → li q ≠ li x) : co b + d < co x + 40 ↔ ∀ q, x ≤ q → q < c → li q = li x → co q + d < co x + 40 := by
  constructor
  · intro h q q1 q2 q3
    have q4 : q ≤ b := Nat.le_of_not_lt (fun hq => he q hq q2 q3)
    by_cases g : q = b
    · rw [g]; exact h
    · have h6 := hs q b (by omega) hbc
      have h7 := hb1 b hb (Nat.le_refl _)
      omega
  · intro h
    exact h b hb hbc (hb1 b hb (Nat.le_refl _))
theorem co_ge {c : Nat} {li co : Nat → Nat} {x q : Nat} (hs : Srt c li co) (hx : x ≤ q) (hq : q < c) (e : li q = li x) : co x ≤ co q := by
  by_cases g : x = q
  · rw [g]; exact Nat.le_refl _
  · have := hs x q (by omega) hq
    omega
theorem nI_sub_toInt {a b : Nat} (ha : a < 2147483648) (hb : b < 2147483648) : (nI a - nI b).toInt = (a : Int) - (b : Int) := by
  rw [Int32.toInt_sub, nI_toInt (by omega), nI_toInt (by omega)]
  exact Int.bmod_eq_of_le (by omega) (by omega)
theorem pt_sum {a b d : Nat} (ha : a < 40) (hb : b < 40) (hd : d < 40) : (nI a + (nI d - nI b)).toInt = (a : Int) + ((d : Int) - (b : Int)) := by
  rw [Int32.toInt_add, nI_toInt (by omega), nI_sub_toInt (by omega) (by omega)]
  exact Int.bmod_eq_of_le (by omega) (by omega)
theorem pt_store {c : Nat} {li co cq : Nat → Nat} {x b d j : Nat} (hs : Srt c li co) (hco : ∀ q, co q < 40) (hd : d < 40) (hxj : x ≤ j) (hj : j < c) (hcq : cq j = co j) (hb1 : ∀ q, x ≤ q → q ≤ b → li q = li x) (he : ∀ q, b < q → q < c → li q ≠ li x) : nI (cq j) + (if j ≤ b then nI d - nI (co x) else 0) = nI (ptC li co x d j) := by
  rw [hcq]
  unfold ptC
  have h1 := hco j
  have h2 := hco x
  by_cases e : j ≤ b
  · have h3 := hb1 j hxj e
    rw [if_pos e, if_pos ⟨hxj, h3⟩]
    apply Int32.toInt_inj.mp
    have h4 := co_ge hs hxj hj h3
    rw [pt_sum h1 h2 hd, nI_toInt (by omega)]
    omega
  · rw [if_neg e, if_neg (fun hq => he j (by omega) hj hq.2)]
    exact Int32.add_zero _
theorem ptC_lt {c : Nat} {li co : Nat → Nat} {x d : Nat} (h : ptOk c li co x d) (hco : ∀ q, co q < 40) (q : Nat) (hq : q < c) : ptC li co x d q < 40 := by
  unfold ptC
  split
  · rename_i e
    have := h.2 q e.1 hq e.2
    omega
  · exact hco q
theorem up_step {g h0 h1 : Nat → Nat} {x j v : Nat} (h : ∀ q, g q = if x ≤ q ∧ q < j then h1 q else h0 q) (hx : x ≤ j) (hv : v = h1 j) (q : Nat) : up g j v q = if x ≤ q ∧ q < j + 1 then h1 q else h0 q := by
  unfold up
  by_cases e : q = j
  · rw [if_pos e, if_pos (by omega), e, hv]
  · rw [if_neg e, h q]
    by_cases g1 : x ≤ q ∧ q < j
    · rw [if_pos g1, if_pos (by omega)]
    · rw [if_neg g1, if_neg (by omega)]
