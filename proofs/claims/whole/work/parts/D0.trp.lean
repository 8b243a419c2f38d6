/-! THE TREE: every node that waits is there, and there are at most 312 -/
theorem srch_sp {p : Nat → Bool} {i n : Nat} (h : srch p i n ≠ NO) : i ≤ srch p i n ∧ srch p i n < i + n ∧ p (srch p i n) = true ∧ ∀ q, i ≤ q → q < srch p i n → p q = false := by
  rcases srch_spec p n i with ⟨h1, _⟩ | h1
  · exact absurd h1 h
  · exact h1
theorem srch_ne {p : Nat → Bool} {i n q : Nat} (h1 : i ≤ q) (h2 : q < i + n) (h3 : p q = true) (hb : i + n ≤ 4294967295) : srch p i n ≠ NO := by
  rcases srch_spec p n i with ⟨_, h5⟩ | ⟨_, h5, _⟩
  · rw [h5 q h1 h2] at h3; cases h3
  · intro e
    rw [e] at h5
    have : NO = 4294967295 := rfl
    omega
theorem tC_s {E : Nat → Nat → Nat} {n y j c m p : Nat} (hj : j < 4294967295) : tC E n y j c (m + 1) p = true ↔ ∃ q, p ≤ q ∧ q ≤ j ∧ tC E n y j c m q = true ∧ tH E n (y * 5 + (E 1 y - (m + 1))) p q c = true := by
  rw [tC, decide_eq_true_eq]
  constructor
  · intro h
    obtain ⟨h1, h2, h3, -⟩ := srch_sp h
    rw [Bool.and_eq_true] at h3
    exact ⟨_, h1, by omega, h3.1, h3.2⟩
  · rintro ⟨q, h1, h2, h3, h4⟩
    exact srch_ne h1 (by omega) (by rw [h3, h4]; rfl) (by omega)
theorem tC_le {E : Nat → Nat → Nat} {n y j c : Nat} (hj : j < 4294967295) : ∀ {m p : Nat}, tC E n y j c m p = true → p ≤ j
  | 0, p, h => by rw [tC, decide_eq_true_eq] at h; omega
  | m + 1, p, h => by
    obtain ⟨q, h1, h2, -, -⟩ := (tC_s hj).mp h
    omega
theorem rch_tC {E : Nat → Nat → Nat} {n i y j c : Nat} (hj : j < 4294967295) (hij : i ≤ j) : ∀ m, m ≤ E 1 y → ((rch E (wh E n) i y (E 1 y) j).testBit c = true ↔ ∃ p, i ≤ p ∧ p ≤ j ∧ (rch E (wh E n) i y (E 1 y - m) p).testBit c = true ∧ tC E n y j c m p = true)
  | 0, _ => by
    constructor
    · intro h; exact ⟨j, hij, Nat.le_refl _, h, by rw [tC]; exact decide_eq_true rfl⟩
    · rintro ⟨p, -, -, h1, h2⟩
      rw [tC, decide_eq_true_eq] at h2
      rw [h2] at h1; exact h1
  | m + 1, hm => by
    rw [rch_tC hj hij m (by omega)]
    obtain ⟨K, hK⟩ : ∃ K, E 1 y - m = K + 1 := ⟨E 1 y - m - 1, by omega⟩
    have hK2 : E 1 y - (m + 1) = K := by omega
    rw [hK, hK2]
    constructor
    · rintro ⟨p, h1, h2, h3, h4⟩
      rw [rch, orR_bit] at h3
      obtain ⟨p1, g1, g2, g3⟩ := h3
      rw [Nat.testBit_and, Bool.and_eq_true] at g3
      exact ⟨p1, g1, by omega, g3.1, (tC_s hj).mpr ⟨p, by omega, h2, h4, by rw [hK2]; exact g3.2⟩⟩
    · rintro ⟨p, h1, h2, h3, h4⟩
      obtain ⟨q, g1, g2, g3, g4⟩ := (tC_s hj).mp h4
      rw [hK2] at g4
      refine ⟨q, by omega, g2, ?_, g3⟩
      rw [rch, orR_bit]
      exact ⟨p, h1, by omega, by rw [Nat.testBit_and, h3]; exact g4⟩
theorem tC_iff {E : Nat → Nat → Nat} {n i y j c : Nat} (hj : j < 4294967295) (hij : i ≤ j) (hc : c < 40) : tC E n y j c (E 1 y) i = true ↔ (rch E (wh E n) i y (E 1 y) j).testBit c = true := by
  rw [rch_tC hj hij (E 1 y) (Nat.le_refl _), Nat.sub_self]
  have h0 : ∀ p, (rch E (wh E n) i y 0 p).testBit c = true ↔ p = i := fun p => by
    rw [rch]
    by_cases e : p = i
    · rw [if_pos e, show A40 = 2 ^ 40 - 1 by decide, Nat.testBit_two_pow_sub_one, decide_eq_true_eq]; exact ⟨fun _ => e, fun _ => hc⟩
    · rw [if_neg e]; exact ⟨fun h => by simp at h, fun h => absurd h e⟩
  constructor
  · intro h; exact ⟨i, Nat.le_refl _, hij, (h0 i).mpr rfl, h⟩
  · rintro ⟨p, -, -, h1, h2⟩
    rw [(h0 p).mp h1] at h2; exact h2
/-- the ends of the items of an alt that is there -/
theorem tP_ok {E : Nat → Nat → Nat} {n i y j c : Nat} (hj : j < 4294967295) (hij : i ≤ j) (h : tC E n y j c (E 1 y) i = true) : ∀ k, k ≤ E 1 y → i ≤ tP E n y i j c k ∧ tP E n y i j c k ≤ j ∧ tC E n y j c (E 1 y - k) (tP E n y i j c k) = true
  | 0, _ => ⟨Nat.le_refl _, hij, h⟩
  | k + 1, hk => by
    obtain ⟨h1, h2, h3⟩ := tP_ok hj hij h k (by omega)
    rw [show E 1 y - k = (E 1 y - (k + 1)) + 1 by omega, tC, decide_eq_true_eq, show E 1 y - (E 1 y - (k + 1) + 1) = k by omega] at h3
    obtain ⟨g1, g2, g3, -⟩ := srch_sp h3
    rw [Bool.and_eq_true] at g3
    exact ⟨Nat.le_trans h1 g1, by show srch _ _ _ ≤ j; omega, g3.1⟩
theorem tP_st {E : Nat → Nat → Nat} {n i y j c : Nat} (hj : j < 4294967295) (hij : i ≤ j) (h : tC E n y j c (E 1 y) i = true) {k : Nat} (hk : k < E 1 y) : tP E n y i j c k ≤ tP E n y i j c (k + 1) ∧ tH E n (y * 5 + k) (tP E n y i j c k) (tP E n y i j c (k + 1)) c = true ∧ tL E n y j c k (tP E n y i j c k) ≠ NO := by
  obtain ⟨h1, h2, h3⟩ := tP_ok hj hij h k (by omega)
  rw [show E 1 y - k = (E 1 y - (k + 1)) + 1 by omega, tC, decide_eq_true_eq, show E 1 y - (E 1 y - (k + 1) + 1) = k by omega] at h3
  obtain ⟨g1, g2, g3, -⟩ := srch_sp h3
  rw [Bool.and_eq_true] at g3
  exact ⟨g1, g3.2, h3⟩
theorem tP_end {E : Nat → Nat → Nat} {n i y j c : Nat} (hj : j < 4294967295) (hij : i ≤ j) (h : tC E n y j c (E 1 y) i = true) : tP E n y i j c (E 1 y) = j := by
  have h1 := (tP_ok hj hij h (E 1 y) (Nat.le_refl _)).2.2
  rw [Nat.sub_self, tC, decide_eq_true_eq] at h1
  exact h1
theorem itm_lt2 {E : Nat → Nat → Nat} {n x p q : Nat} (hE : ∀ q, E 6 q < 40) : itm E (wh E n) x p q < 1099511627776 := by
  unfold itm
  split
  · split
    · exact Nat.pow_lt_pow_right (by decide) (hE p)
    · decide
  · exact wh_lt
/-- the columns of an item that fit a column of its whole -/
theorem tH_fit {E : Nat → Nat → Nat} {n x p q c : Nat} (hE : ∀ q, E 6 q < 40) (hc : c < 40) : tH E n x p q c = true ↔ itm E (wh E n) x p q &&& prtN (E 4 x) (2 ^ c) ≠ 0 := by
  have hm : itm E (wh E n) x p q < 2 ^ 40 := itm_lt2 hE
  have h2 : 2 ^ c < 1099511627776 := Nat.pow_lt_pow_right (by decide) hc
  unfold tH
  rw [letsN_bit hm]
  constructor
  · rintro ⟨-, d, h1, h3⟩
    apply bit_ne0 (d := d)
    rw [Nat.testBit_and, h1, Bool.true_and, prtN_bit h2]
    exact ⟨bit_lt40 hm h1, c, Nat.testBit_two_pow_self, h3⟩
  · intro h
    obtain ⟨d, hd⟩ := Nat.exists_testBit_of_ne_zero h
    rw [Nat.testBit_and, Bool.and_eq_true, prtN_bit h2] at hd
    obtain ⟨h1, -, c1, h3, h4⟩ := hd
    rw [Nat.testBit_two_pow, decide_eq_true_eq] at h3
    exact ⟨hc, d, h1, by rw [h3]; exact h4⟩
theorem tD_ok {E : Nat → Nat → Nat} {n x p q c : Nat} (hE : ∀ q, E 6 q < 40) (hc : c < 40) (h : tH E n x p q c = true) : tD E n x p q c < 40 ∧ (itm E (wh E n) x p q).testBit (tD E n x p q c) = true := by
  have hm : itm E (wh E n) x p q &&& prtN (E 4 x) (2 ^ c) < 1099511627776 := Nat.lt_of_le_of_lt Nat.and_le_left (itm_lt2 hE)
  obtain ⟨h1, h2, -⟩ := lsb_sp ((tH_fit hE hc).mp h) hm
  rw [Nat.testBit_and, Bool.and_eq_true] at h2
  exact ⟨h1, h2.1⟩
/-- a node that is there -/
def tV (E : Nat → Nat → Nat) (n c : Nat) (v : Nat → Nat) : Prop := v 0 < n ∧ v 2 < v 3 ∧ v 3 ≤ c ∧ v 4 < 40 ∧ (wh E n (v 0) (v 2) (v 3)).testBit (v 4) = true
theorem tA_ok {E : Nat → Nat → Nat} {n : Nat} {emp : Nat → Prop} {rk : Nat → Nat} (hA : Acyc E n emp rk) (h4 : ∀ r, E 0 r ≤ 4) {r i j c : Nat} (hr : r < n) (hij : i ≤ j) (hj : j < 4294967295) (hc : c < 40) (hw : (wh E n r i j).testBit c = true) : tA E n r i j c < E 0 r ∧ tA E n r i j c ≠ NO ∧ tC E n (r * 4 + tA E n r i j c) j c (E 1 (r * 4 + tA E n r i j c)) i = true ∧ ∀ a, a < tA E n r i j c → tC E n (r * 4 + a) j c (E 1 (r * 4 + a)) i = false := by
  rw [wh_fix hA hr hij, fR, orR_bit] at hw
  obtain ⟨a, -, h2, h3⟩ := hw
  have hN : tA E n r i j c ≠ NO := srch_ne (Nat.zero_le _) h2 h3 (by have := h4 r; omega)
  obtain ⟨-, g2, g3, g4⟩ := srch_sp hN
  refine ⟨by rw [Nat.zero_add] at g2; exact g2, hN, (tC_iff hj hij hc).mpr g3, fun b hb => ?_⟩
  cases e : tC E n (r * 4 + b) j c (E 1 (r * 4 + b)) i with
  | false => rfl
  | true => rw [(tC_iff hj hij hc)] at e; rw [g4 b (Nat.zero_le _) hb] at e; cases e
/-- at most so many nodes come of one -/
def tK (n : Nat) (rk : Nat → Nat) (v : Nat → Nat) : Nat := n * (2 * (v 3 - v 2) - 2) + rk (v 0) + 1
def sumN (g : Nat → Nat) : Nat → Nat
  | 0 => 0
  | k + 1 => sumN g k + g k
theorem sumN_cg {g h : Nat → Nat} : ∀ {n : Nat}, (∀ k, k < n → g k = h k) → sumN g n = sumN h n
  | 0, _ => rfl
  | n + 1, hk => by rw [sumN, sumN, sumN_cg (fun k hk2 => hk k (by omega)), hk n (by omega)]
abbrev tB (E : Nat → Nat → Nat) (n y i j c : Nat) (k : Nat) : Prop := E 2 (y * 5 + k) ≠ NO ∧ tP E n y i j c k < tP E n y i j c (k + 1)
def tU (E : Nat → Nat → Nat) (n : Nat) (rk : Nat → Nat) (y i j c k : Nat) : Nat := if tB E n y i j c k then n * (2 * (tP E n y i j c (k + 1) - tP E n y i j c k) - 2) + rk (E 2 (y * 5 + k)) + 1 else 0
theorem mul_st {n a : Nat} : n * (2 * (a + 1) - 2) = n * (2 * a) := by rw [show 2 * (a + 1) - 2 = 2 * a by omega]
theorem tU_le {E : Nat → Nat → Nat} {n : Nat} {rk : Nat → Nat} {y i j c k : Nat} (hr : E 2 (y * 5 + k) ≠ NO → rk (E 2 (y * 5 + k)) < n) (hb : tB E n y i j c k) : tU E n rk y i j c k + n ≤ n * (2 * (tP E n y i j c (k + 1) - tP E n y i j c k)) := by
  rw [tU, if_pos hb]
  have h1 := hr hb.1
  have h2 := hb.2
  obtain ⟨l, hl⟩ : ∃ l, tP E n y i j c (k + 1) - tP E n y i j c k = l + 1 := ⟨tP E n y i j c (k + 1) - tP E n y i j c k - 1, by omega⟩
  rw [hl, mul_st, show n * (2 * (l + 1)) = n * (2 * l) + n + n by rw [show 2 * (l + 1) = 2 * l + 1 + 1 by omega, Nat.mul_add, Nat.mul_add, Nat.mul_one]]
  omega
theorem tU_sum {E : Nat → Nat → Nat} {n : Nat} {rk : Nat → Nat} {y i j c : Nat} (hr : ∀ k, k < E 1 y → E 2 (y * 5 + k) ≠ NO → rk (E 2 (y * 5 + k)) < n) (hm : ∀ k, k < E 1 y → tP E n y i j c k ≤ tP E n y i j c (k + 1)) : ∀ k, k ≤ E 1 y → i ≤ tP E n y i j c k ∧ (sumN (tU E n rk y i j c) k = 0 ∨ (∃ k0, k0 < k ∧ tB E n y i j c k0 ∧ sumN (tU E n rk y i j c) k = tU E n rk y i j c k0 ∧ tP E n y i j c (k0 + 1) ≤ tP E n y i j c k ∧ i ≤ tP E n y i j c k0) ∨ sumN (tU E n rk y i j c) k + n + n ≤ n * (2 * (tP E n y i j c k - i)))
  | 0, _ => ⟨Nat.le_refl _, Or.inl rfl⟩
  | k + 1, hk => by
    obtain ⟨h0, h1⟩ := tU_sum hr hm k (by omega)
    have h2 := hm k (by omega)
    refine ⟨by omega, ?_⟩
    rw [sumN]
    by_cases hb : tB E n y i j c k
    · have hu := tU_le (hr k (by omega)) hb
      rcases h1 with h1 | ⟨k0, g1, g2, g3, g4, g5⟩ | h1
      · exact Or.inr (Or.inl ⟨k, by omega, hb, by rw [h1, Nat.zero_add], Nat.le_refl _, h0⟩)
      · have hu0 := tU_le (hr k0 (by omega)) g2
        refine Or.inr (Or.inr ?_)
        rw [g3]
        have g6 := g2.2
        have hmul : n * (2 * (tP E n y i j c (k0 + 1) - tP E n y i j c k0)) + n * (2 * (tP E n y i j c (k + 1) - tP E n y i j c k)) ≤ n * (2 * (tP E n y i j c (k + 1) - i)) := by
          rw [← Nat.mul_add]; exact Nat.mul_le_mul_left _ (by omega)
        omega
      · refine Or.inr (Or.inr ?_)
        have hmul : n * (2 * (tP E n y i j c k - i)) + n * (2 * (tP E n y i j c (k + 1) - tP E n y i j c k)) ≤ n * (2 * (tP E n y i j c (k + 1) - i)) := by
          rw [← Nat.mul_add]; exact Nat.mul_le_mul_left _ (by omega)
        omega
    · have hu : tU E n rk y i j c k = 0 := if_neg hb
      rw [hu, Nat.add_zero]
      rcases h1 with h1 | ⟨k0, g1, g2, g3, g4, g5⟩ | h1
      · exact Or.inl h1
      · exact Or.inr (Or.inl ⟨k0, by omega, g2, g3, by omega, g5⟩)
      · refine Or.inr (Or.inr ?_)
        have hmul : n * (2 * (tP E n y i j c k - i)) ≤ n * (2 * (tP E n y i j c (k + 1) - i)) := Nat.mul_le_mul_left _ (by omega)
        omega
theorem tP_mono {E : Nat → Nat → Nat} {n i y j c : Nat} (hm : ∀ k, k < E 1 y → tP E n y i j c k ≤ tP E n y i j c (k + 1)) {a : Nat} : ∀ {b : Nat}, a ≤ b → b ≤ E 1 y → tP E n y i j c a ≤ tP E n y i j c b
  | 0, h, _ => by have : a = 0 := by omega
                  rw [this]; exact Nat.le_refl _
  | b + 1, h, hb => by
    by_cases e : a = b + 1
    · rw [e]; exact Nat.le_refl _
    · exact Nat.le_trans (tP_mono hm (show a ≤ b by omega) (by omega)) (hm b (by omega))
theorem tU_tot {E : Nat → Nat → Nat} {n : Nat} {emp : Nat → Prop} {rk : Nat → Nat} (hA : Acyc E n emp rk) {r a i j c : Nat} (hr : r < n) (hij : i < j) (hj : j < 4294967295) (ha : a < E 0 r) (hC : tC E n (r * 4 + a) j c (E 1 (r * 4 + a)) i = true) : sumN (tU E n rk (r * 4 + a) i j c) (E 1 (r * 4 + a)) ≤ n * (2 * (j - i) - 2) + rk r := by
  have hm : ∀ k, k < E 1 (r * 4 + a) → tP E n (r * 4 + a) i j c k ≤ tP E n (r * 4 + a) i j c (k + 1) := fun k hk => (tP_st hj (by omega) hC hk).1
  have hrk : ∀ k, k < E 1 (r * 4 + a) → E 2 ((r * 4 + a) * 5 + k) ≠ NO → rk (E 2 ((r * 4 + a) * 5 + k)) < n := fun k hk hn => (hA.2.2 _ ((hA.1 r hr a ha k hk).resolve_left hn)).1
  obtain ⟨-, h1⟩ := tU_sum hrk hm (E 1 (r * 4 + a)) (Nat.le_refl _)
  have hend := tP_end hj (by omega) hC
  obtain ⟨l, hl⟩ : ∃ l, j - i = l + 1 := ⟨j - i - 1, by omega⟩
  rcases h1 with h1 | ⟨k0, g1, g2, g3, g4, g5⟩ | h1
  · rw [h1]; exact Nat.zero_le _
  · rw [g3]
    by_cases e : tP E n (r * 4 + a) i j c k0 = i ∧ tP E n (r * 4 + a) i j c (k0 + 1) = j
    · have hed : edg E emp r (E 2 ((r * 4 + a) * 5 + k0)) := by
        refine ⟨a, ha, k0, g1, rfl, g2.1, fun k' h1' h2' => ?_⟩
        have hp : tP E n (r * 4 + a) i j c k' = tP E n (r * 4 + a) i j c (k' + 1) := by
          rcases Nat.lt_or_ge k' k0 with q | q
          · have q1 := tP_mono hm (show k' + 1 ≤ k0 by omega) (by omega)
            have q2 := (tP_ok hj (by omega) hC k' (by omega)).1
            have q3 := hm k' h1'
            omega
          · have q1 := tP_mono hm (show k0 + 1 ≤ k' by omega) (by omega)
            have q2 := (tP_ok hj (by omega) hC (k' + 1) (by omega)).2.1
            have q3 := hm k' h1'
            omega
        have h3 := (tP_st hj (Nat.le_of_lt hij) hC h1').2.1
        rw [← hp] at h3
        have h4 := bit_lets_ne h3
        unfold itm at h4
        by_cases e2 : E 2 ((r * 4 + a) * 5 + k') = NO
        · rw [if_pos e2, if_neg (by omega)] at h4; exact absurd rfl h4
        · rw [if_neg e2] at h4; exact ⟨e2, wh_emp hA.2.1 _ _ h4⟩
      have h5 := ((hA.2.2 r hr).2 _ hed).2
      rw [tU, if_pos g2, e.1, e.2]
      omega
    · have hu := tU_le (hrk k0 g1) g2
      have g6 := g2.2
      have hmul : n * (2 * (tP E n (r * 4 + a) i j c (k0 + 1) - tP E n (r * 4 + a) i j c k0)) ≤ n * (2 * l) := Nat.mul_le_mul_left _ (by omega)
      rw [hl, mul_st]
      omega
  · rw [hend, hl] at h1
    rw [hl, mul_st]
    rw [show n * (2 * (l + 1)) = n * (2 * l) + n + n by rw [show 2 * (l + 1) = 2 * l + 1 + 1 by omega, Nat.mul_add, Nat.mul_add, Nat.mul_one]] at h1
    omega
def tSum (n : Nat) (rk : Nat → Nat) (s : tS) : Nat := sumN (fun w => tK n rk (s.2 w)) s.1
theorem tSum_ge {n : Nat} {rk : Nat → Nat} {s : tS} : s.1 ≤ tSum n rk s := by
  unfold tSum
  generalize s.1 = k
  induction k with
  | zero => exact Nat.zero_le _
  | succ k ih =>
    rw [sumN]
    have : 1 ≤ tK n rk (s.2 k) := by unfold tK; omega
    omega
theorem tW_sum {E : Nat → Nat → Nat} {n : Nat} {rk : Nat → Nat} {y i j c sz lv k : Nat} {s : tS} : tSum n rk (tW E n y i j c sz lv k s) = tSum n rk s + tU E n rk y i j c k := by
  unfold tW tU tSum
  by_cases h : E 2 (y * 5 + k) ≠ NO ∧ tP E n y i j c k < tP E n y i j c (k + 1)
  · rw [if_pos h, if_pos (show tB E n y i j c k from h)]
    show sumN _ (s.1 + 1) = _
    rw [sumN]
    congr 1
    · exact sumN_cg (fun w hw => congrArg (tK n rk) (if_neg (show ¬ w = s.1 by omega)))
    · show tK n rk (if s.1 = s.1 then _ else _) = _
      rw [if_pos rfl]; rfl
  · rw [if_neg h, if_neg (show ¬ tB E n y i j c k from h), Nat.add_zero]
/-- what waits is there -/
def tJ (E : Nat → Nat → Nat) (n c k : Nat) (v : Nat → Nat) : Prop := (tV E n c v) ∧ (v 6 ≤ k) ∧ (v 5 = NO ∨ v 5 < k) ∧ (v 7 < 128)
theorem tJ.ok {E : Nat → Nat → Nat} {n c k : Nat} {v : Nat → Nat} (h : tJ E n c k v) : tV E n c v := h.1
theorem tJ.lv {E : Nat → Nat → Nat} {n c k : Nat} {v : Nat → Nat} (h : tJ E n c k v) : v 6 ≤ k := h.2.1
theorem tJ.ab {E : Nat → Nat → Nat} {n c k : Nat} {v : Nat → Nat} (h : tJ E n c k v) : v 5 = NO ∨ v 5 < k := h.2.2.1
theorem tJ.bo {E : Nat → Nat → Nat} {n c k : Nat} {v : Nat → Nat} (h : tJ E n c k v) : v 7 < 128 := h.2.2.2
theorem tJ.up {E : Nat → Nat → Nat} {n c k k2 : Nat} {v : Nat → Nat} (h : tJ E n c k v) (hk : k ≤ k2) : tJ E n c k2 v := ⟨h.ok, Nat.le_trans h.lv hk, h.ab.imp id (fun q => by omega), h.bo⟩
theorem tN_J {E : Nat → Nat → Nat} {n c k t i j d ab lv bd : Nat} (h1 : t < n) (h2 : i < j) (h3 : j ≤ c) (h4 : d < 40) (h5 : (wh E n t i j).testBit d = true) (h6 : ab = NO ∨ ab < k) (h7 : lv ≤ k) (h8 : bd < 128) : tJ E n c k (tN t i j d ab lv bd) := ⟨⟨h1, h2, h3, h4, h5⟩, h7, h6, h8⟩
def tAll (E : Nat → Nat → Nat) (n c k : Nat) (s : tS) : Prop := ∀ w, w < s.1 → tJ E n c k (s.2 w)
theorem tW_all {E : Nat → Nat → Nat} {n : Nat} {emp : Nat → Prop} {rk : Nat → Nat} (hA : Acyc E n emp rk) (hE : ∀ q, E 6 q < 40) (hB : ∀ q, E 4 q < 128) {r a i j d c sz lv k : Nat} {s : tS} (hr : r < n) (hij : i < j) (hj : j ≤ c) (hc : c < 4294967295) (hd : d < 40) (ha : a < E 0 r) (hC : tC E n (r * 4 + a) j d (E 1 (r * 4 + a)) i = true) (hlv : lv ≤ sz) (hk : k < E 1 (r * 4 + a)) (h : tAll E n c (sz + 1) s) : tAll E n c (sz + 1) (tW E n (r * 4 + a) i j d sz lv k s) := by
  unfold tW
  split
  · rename_i hb
    intro w hw
    show tJ E n c (sz + 1) (if w = s.1 then _ else s.2 w)
    by_cases e : w = s.1
    · rw [if_pos e]
      have h1 := tP_st (show j < 4294967295 by omega) (Nat.le_of_lt hij) hC hk
      have h2 := tP_ok (show j < 4294967295 by omega) (Nat.le_of_lt hij) hC (k + 1) (by omega)
      have h3 := tD_ok hE hd h1.2.1
      refine tN_J ((hA.1 r hr a ha k hk).resolve_left hb.1) hb.2 (by omega) h3.1 ?_ (Or.inr (by omega)) (by omega) (hB _)
      have h4 := h3.2
      unfold itm at h4
      rw [if_neg hb.1] at h4
      exact h4
    · rw [if_neg e]
      exact h w (by have : w < s.1 + 1 := hw
                    omega)
  · exact h
/-- a run so far -/
def tR (E : Nat → Nat → Nat) (n c : Nat) (rk : Nat → Nat) (k : Nat) (u : tT) : Prop := (tAll E n c k u.2) ∧ (k + tSum n rk u.2 ≤ 312) ∧ (∀ q, q < k → tJ E n c k (u.1 q) ∧ u.1 q 1 < E 0 (u.1 q 0))
theorem tR.wai {E : Nat → Nat → Nat} {n c : Nat} {rk : Nat → Nat} {k : Nat} {u : tT} (h : tR E n c rk k u) : tAll E n c k u.2 := h.1
theorem tR.sum {E : Nat → Nat → Nat} {n c : Nat} {rk : Nat → Nat} {k : Nat} {u : tT} (h : tR E n c rk k u) : k + tSum n rk u.2 ≤ 312 := h.2.1
theorem tR.don {E : Nat → Nat → Nat} {n c : Nat} {rk : Nat → Nat} {k : Nat} {u : tT} (h : tR E n c rk k u) : ∀ q, q < k → tJ E n c k (u.1 q) ∧ u.1 q 1 < E 0 (u.1 q 0) := h.2.2
/-- the items of an opened node wait one after another -/
def tO (E : Nat → Nat → Nat) (n c : Nat) (rk : Nat → Nat) (sz y i j d lv : Nat) (s9 : tS) (k : Nat) (s : tS) : Prop := (tAll E n c (sz + 1) s) ∧ (sz + 1 + tSum n rk s + sumN (tU E n rk y i j d) k ≤ 312) ∧ (tQ E n y i j d sz lv k s = s9)
theorem tO.wai {E : Nat → Nat → Nat} {n c : Nat} {rk : Nat → Nat} {sz y i j d lv : Nat} {s9 : tS} {k : Nat} {s : tS} (h : tO E n c rk sz y i j d lv s9 k s) : tAll E n c (sz + 1) s := h.1
theorem tO.sum {E : Nat → Nat → Nat} {n c : Nat} {rk : Nat → Nat} {sz y i j d lv : Nat} {s9 : tS} {k : Nat} {s : tS} (h : tO E n c rk sz y i j d lv s9 k s) : sz + 1 + tSum n rk s + sumN (tU E n rk y i j d) k ≤ 312 := h.2.1
theorem tO.end_ {E : Nat → Nat → Nat} {n c : Nat} {rk : Nat → Nat} {sz y i j d lv : Nat} {s9 : tS} {k : Nat} {s : tS} (h : tO E n c rk sz y i j d lv s9 k s) : tQ E n y i j d sz lv k s = s9 := h.2.2
theorem tO.step {E : Nat → Nat → Nat} {n : Nat} {emp : Nat → Prop} {rk : Nat → Nat} (hA : Acyc E n emp rk) (hE : ∀ q, E 6 q < 40) (hB : ∀ q, E 4 q < 128) {r a i j d c sz lv k : Nat} {s9 s : tS} (hr : r < n) (hij : i < j) (hj : j ≤ c) (hc : c < 4294967295) (hd : d < 40) (ha : a < E 0 r) (hC : tC E n (r * 4 + a) j d (E 1 (r * 4 + a)) i = true) (hlv : lv ≤ sz) (hk : k < E 1 (r * 4 + a)) (h : tO E n c rk sz (r * 4 + a) i j d lv s9 (k + 1) s) : tO E n c rk sz (r * 4 + a) i j d lv s9 k (tW E n (r * 4 + a) i j d sz lv k s) := by
  refine ⟨tW_all hA hE hB hr hij hj hc hd ha hC hlv hk h.wai, ?_, h.end_⟩
  have := h.sum
  rw [sumN] at this
  rw [tW_sum]
  omega
theorem tO.all {E : Nat → Nat → Nat} {n : Nat} {emp : Nat → Prop} {rk : Nat → Nat} (hA : Acyc E n emp rk) (hE : ∀ q, E 6 q < 40) (hB : ∀ q, E 4 q < 128) {r a i j d c sz lv : Nat} {s9 : tS} (hr : r < n) (hij : i < j) (hj : j ≤ c) (hc : c < 4294967295) (hd : d < 40) (ha : a < E 0 r) (hC : tC E n (r * 4 + a) j d (E 1 (r * 4 + a)) i = true) (hlv : lv ≤ sz) : ∀ {k : Nat} {s : tS}, k ≤ E 1 (r * 4 + a) → tO E n c rk sz (r * 4 + a) i j d lv s9 k s → tO E n c rk sz (r * 4 + a) i j d lv s9 0 s9
  | 0, s, _, h => by have := h.end_
                     rw [tQ] at this
                     rw [this] at h; exact h
  | k + 1, s, hk, h => tO.all hA hE hB hr hij hj hc hd ha hC hlv (by omega) (tO.step hA hE hB hr hij hj hc hd ha hC hlv (by omega) h)
/-- the alt of the node that is opened next, and its items -/
theorem tR.open_ {E : Nat → Nat → Nat} {n : Nat} {emp : Nat → Prop} {rk : Nat → Nat} (hA : Acyc E n emp rk) (h4 : ∀ r, E 0 r ≤ 4) {c k : Nat} {u : tT} (hc : c < 4294967295) (h : tR E n c rk k u) (hw : u.2.1 ≠ 0) : tJ E n c k (u.2.2 (u.2.1 - 1)) ∧ tO E n c rk k (u.2.2 (u.2.1 - 1) 0 * 4 + tA E n (u.2.2 (u.2.1 - 1) 0) (u.2.2 (u.2.1 - 1) 2) (u.2.2 (u.2.1 - 1) 3) (u.2.2 (u.2.1 - 1) 4)) (u.2.2 (u.2.1 - 1) 2) (u.2.2 (u.2.1 - 1) 3) (u.2.2 (u.2.1 - 1) 4) (u.2.2 (u.2.1 - 1) 6) (tSt E n k u).2 (E 1 (u.2.2 (u.2.1 - 1) 0 * 4 + tA E n (u.2.2 (u.2.1 - 1) 0) (u.2.2 (u.2.1 - 1) 2) (u.2.2 (u.2.1 - 1) 3) (u.2.2 (u.2.1 - 1) 4))) (u.2.1 - 1, u.2.2) := by
  have hv := h.wai (u.2.1 - 1) (by omega)
  refine ⟨hv, fun w hw2 => (h.wai w (by have : w < u.2.1 - 1 := hw2
                                        omega)).up (by omega), ?_, rfl⟩
  have h1 := hv.ok.2.1
  have h2 := hv.ok.2.2.1
  have h3 := tA_ok hA h4 hv.ok.1 (show u.2.2 (u.2.1 - 1) 2 ≤ u.2.2 (u.2.1 - 1) 3 by omega) (by omega) hv.ok.2.2.2.1 hv.ok.2.2.2.2
  have ht := tU_tot hA hv.ok.1 h1 (by omega) h3.1 h3.2.2.1
  have hs := h.sum
  obtain ⟨w, hw3⟩ : ∃ w, u.2.1 = w + 1 := ⟨u.2.1 - 1, by omega⟩
  have e : tSum n rk u.2 = tSum n rk (u.2.1 - 1, u.2.2) + tK n rk (u.2.2 (u.2.1 - 1)) := by
    unfold tSum
    show sumN (fun w => tK n rk (u.2.2 w)) u.2.1 = sumN (fun w => tK n rk (u.2.2 w)) (u.2.1 - 1) + _
    rw [hw3, sumN, show w + 1 - 1 = w by omega]
  rw [e] at hs
  unfold tK at hs
  omega
theorem tR.step {E : Nat → Nat → Nat} {n : Nat} {emp : Nat → Prop} {rk : Nat → Nat} (hA : Acyc E n emp rk) (h4 : ∀ r, E 0 r ≤ 4) (hE : ∀ q, E 6 q < 40) (hB : ∀ q, E 4 q < 128) {c k : Nat} {u : tT} (hc : c < 4294967295) (h : tR E n c rk k u) (hw : u.2.1 ≠ 0) : tR E n c rk (k + 1) (tSt E n k u) := by
  obtain ⟨hv, hO⟩ := h.open_ hA h4 hc hw
  have h1 := hv.ok.2.1
  have h2 := hv.ok.2.2.1
  have h3 := tA_ok hA h4 hv.ok.1 (show u.2.2 (u.2.1 - 1) 2 ≤ u.2.2 (u.2.1 - 1) 3 by omega) (by omega) hv.ok.2.2.2.1 hv.ok.2.2.2.2
  have hf := tO.all hA hE hB hv.ok.1 h1 h2 hc hv.ok.2.2.2.1 h3.1 h3.2.2.1 hv.lv (Nat.le_refl _) hO
  refine ⟨hf.wai, ?_, fun q hq => ?_⟩
  · have := hf.sum
    rw [sumN] at this
    omega
  · show tJ E n c (k + 1) (if q = k then _ else u.1 q) ∧ (if q = k then _ else u.1 q) 1 < E 0 ((if q = k then _ else u.1 q) 0)
    by_cases e : q = k
    · rw [if_pos e]
      exact ⟨hv.up (by omega), h3.1⟩
    · rw [if_neg e]
      exact ⟨(h.don q (by omega)).1.up (by omega), (h.don q (by omega)).2⟩
theorem tR.start {E : Nat → Nat → Nat} {n : Nat} {emp : Nat → Prop} {rk : Nat → Nat} (hA : Acyc E n emp rk) (hn : n ≤ 8) {c : Nat} (hc : c ≤ 20) (h0 : 0 < c → 0 < n ∧ wh E n 0 0 c ≠ 0) : tR E n c rk 0 (tI E n c 0) := by
  refine ⟨fun w hw => ?_, ?_, fun q hq => by omega⟩
  · by_cases e : 0 < c
    · obtain ⟨g1, g2⟩ := h0 e
      obtain ⟨l1, l2, -⟩ := lsb_sp g2 wh_lt
      exact tN_J g1 e (Nat.le_refl _) l1 l2 (Or.inl rfl) (Nat.le_refl _) (by decide)
    · exfalso
      have : w < (if 0 < c then 1 else 0) := hw
      rw [if_neg e] at this; omega
  · show 0 + sumN (fun w => tK n rk (tN 0 0 c (lsb (wh E n 0 0 c)) NO 0 0)) (if 0 < c then 1 else 0) ≤ 312
    by_cases e : 0 < c
    · rw [if_pos e, sumN, sumN]
      show 0 + (0 + (n * (2 * (c - 0) - 2) + rk 0 + 1)) ≤ 312
      have h1 := (hA.2.2 0 (h0 e).1).1
      have h2 : n * (2 * (c - 0) - 2) ≤ n * 38 := Nat.mul_le_mul_left _ (by omega)
      omega
    · rw [if_neg e, sumN]; decide
theorem tR.run {E : Nat → Nat → Nat} {n : Nat} {emp : Nat → Prop} {rk : Nat → Nat} (hA : Acyc E n emp rk) (hn : n ≤ 8) (h4 : ∀ r, E 0 r ≤ 4) (hE : ∀ q, E 6 q < 40) (hB : ∀ q, E 4 q < 128) {c : Nat} (hc : c ≤ 20) (h0 : 0 < c → 0 < n ∧ wh E n 0 0 c ≠ 0) : ∀ k, (∀ q, q < k → (tI E n c q).2.1 ≠ 0) → tR E n c rk k (tI E n c k)
  | 0, _ => tR.start hA hn hc h0
  | k + 1, h => (tR.run hA hn h4 hE hB hc h0 k (fun q hq => h q (by omega))).step hA h4 hE hB (by omega) (h k (by omega))
theorem TrS.uniq {E : Nat → Nat → Nat} {n c sz sz2 : Nat} {T T2 : Nat → Nat} (h : TrS E n c sz T) (h2 : TrS E n c sz2 T2) : sz = sz2 ∧ ∀ q, q < 8 * sz → T q = T2 q := by
  have e : sz = sz2 := by
    rcases Nat.lt_trichotomy sz sz2 with q | q | q
    · exact absurd h.2.1 (h2.1 sz q)
    · exact q
    · exact absurd h2.2.1 (h.1 sz2 q)
  subst e
  refine ⟨rfl, fun q hq => ?_⟩
  have e : q = 8 * (q / 8) + q % 8 := by omega
  rw [e, h.2.2 (q / 8) (q % 8) (by omega) (Nat.mod_lt _ (by decide)), h2.2.2 (q / 8) (q % 8) (by omega) (Nat.mod_lt _ (by decide))]
