/-! COUNTING AND CHOOSING columns -/
theorem bit_clear {m : Nat} (h0 : m ≠ 0) (hm : m < 1099511627776) (i : Nat) : (m &&& (m - 1)).testBit i = (m.testBit i && decide (i ≠ lsb m)) := by
  obtain ⟨l1, l2, l3⟩ := lsb_sp h0 hm
  generalize lsb m = l at l1 l2 l3
  have hmod : m % 2 ^ l = 0 := by
    apply Nat.eq_of_testBit_eq
    intro i
    rw [Nat.testBit_mod_two_pow, Nat.zero_testBit]
    by_cases q : i < l
    · rw [l3 i q, Bool.and_false]
    · rw [decide_eq_false q, Bool.false_and]
  have hodd : (m / 2 ^ l) % 2 = 1 := by
    rw [Nat.testBit_eq_decide_div_mod_eq] at l2
    exact of_decide_eq_true l2
  have hd : m = 2 ^ l * (2 * (m / 2 ^ l / 2) + 1) := by
    have h1 := Nat.div_add_mod m (2 ^ l)
    rw [hmod, Nat.add_zero] at h1
    rw [show 2 * (m / 2 ^ l / 2) + 1 = m / 2 ^ l by omega]
    exact h1.symm
  generalize m / 2 ^ l / 2 = w at hd
  have hp : 0 < 2 ^ l := Nat.two_pow_pos _
  have e : 2 ^ l * (2 * w + 1) = 2 ^ l * (2 * w) + 2 ^ l := by rw [Nat.mul_add, Nat.mul_one]
  have e2 : m - 1 = 2 ^ l * (2 * w) + (2 ^ l - 1) := by omega
  rw [Nat.testBit_and, e2, Nat.testBit_two_pow_mul_add _ (by omega)]
  by_cases c1 : i < l
  · rw [l3 i c1, Bool.false_and, Bool.false_and]
  · rw [if_neg c1]
    obtain ⟨j, hj⟩ : ∃ j, i = l + j := ⟨i - l, by omega⟩
    subst hj
    rw [show l + j - l = j by omega, hd, Nat.testBit_two_pow_mul, show l + j - l = j by omega, decide_eq_true (show l + j ≥ l by omega), Bool.true_and]
    cases j with
    | zero => rw [Nat.testBit_zero, Nat.testBit_zero, decide_eq_false (show ¬ (2 * w) % 2 = 1 by omega), decide_eq_false (show ¬ l + 0 ≠ l by omega), Bool.and_false]
    | succ j =>
      rw [Nat.testBit_succ, Nat.testBit_succ, show (2 * w + 1) / 2 = w by omega, show 2 * w / 2 = w by omega, decide_eq_true (show l + (j + 1) ≠ l by omega), Bool.and_true, Bool.and_self]
theorem cnt_del {p q : Nat → Bool} {l : Nat} (hq : ∀ c, q c = (p c && decide (c ≠ l))) (hp : p l = true) : ∀ n, l < n → cnt q n + 1 = cnt p n
  | 0, h => by omega
  | n + 1, h => by
    rw [cnt, cnt]
    by_cases e : l = n
    · subst e
      have h1 : q l = false := by rw [hq, decide_eq_false (fun q => q rfl), Bool.and_false]
      rw [h1, hp, if_neg (by decide), if_pos rfl]
      have h2 : cnt q l = cnt p l := cnt_cong (fun k hk => by rw [hq, decide_eq_true (show k ≠ l by omega), Bool.and_true])
      omega
    · have ih := cnt_del hq hp n (by omega)
      have h1 : q n = p n := by rw [hq, decide_eq_true (show n ≠ l by omega), Bool.and_true]
      rw [h1]
      omega
theorem bc_clear {m : Nat} (h0 : m ≠ 0) (hm : m < 1099511627776) : bc (m &&& (m - 1)) + 1 = bc m := by
  obtain ⟨l1, l2, l3⟩ := lsb_sp h0 hm
  exact cnt_del (fun c => bit_clear h0 hm c) l2 40 l1
theorem bc_0 : bc 0 = 0 := cnt_0 (fun q _ => by simp)
/-- how far a column is -/
def dst (a d : Nat) : Nat := if d < a then a - d else d - a
/-- the column nearest to one, of like ones the lower -/
def NrS (m a v : Nat) : Prop := (v = NO ∧ ∀ d, d < 40 → m.testBit d = false) ∨ (v < 40 ∧ m.testBit v = true ∧ ∀ d, d < 40 → m.testBit d = true → dst a v < dst a d ∨ (dst a v = dst a d ∧ v ≤ d))
theorem NrS.uniq {m a v w : Nat} (h1 : NrS m a v) (h2 : NrS m a w) : v = w := by
  rcases h1 with ⟨a1, a2⟩ | ⟨a1, a2, a3⟩
  · rcases h2 with ⟨b1, b2⟩ | ⟨b1, b2, b3⟩
    · rw [a1, b1]
    · rw [a2 w b1] at b2; cases b2
  · rcases h2 with ⟨b1, b2⟩ | ⟨b1, b2, b3⟩
    · rw [b2 v a1] at a2; cases a2
    · have h3 := a3 w b1 b2
      have h4 := b3 v a1 a2
      omega
/-- while the model goes through the columns -/
def nrI (m a d best least : Nat) : Prop := d ≤ 40 ∧ ((best = NO ∧ least = 40 ∧ ∀ e, e < d → m.testBit e = false) ∨ (best < d ∧ m.testBit best = true ∧ least = dst a best ∧ ∀ e, e < d → m.testBit e = true → dst a best < dst a e ∨ (dst a best = dst a e ∧ best ≤ e)))
theorem nrI.no {m a d best least : Nat} (h : nrI m a d best least) (hd : d < 40) (hb : m.testBit d = false ∨ least ≤ dst a d) (ha : a < 40) : nrI m a (d + 1) best least := by
  refine ⟨by omega, ?_⟩
  rcases h.2 with ⟨h1, h2, h3⟩ | ⟨h1, h2, h3, h4⟩
  · refine Or.inl ⟨h1, h2, fun e he => ?_⟩
    by_cases q : e = d
    · subst q
      rcases hb with hb | hb
      · exact hb
      · unfold dst at hb; split at hb <;> omega
    · exact h3 e (by omega)
  · refine Or.inr ⟨by omega, h2, h3, fun e he hbe => ?_⟩
    by_cases q : e = d
    · subst q
      rcases hb with hb | hb
      · rw [hb] at hbe; cases hbe
      · omega
    · exact h4 e (by omega) hbe
theorem nrI.yes {m a d best least : Nat} (h : nrI m a d best least) (hd : d < 40) (hb : m.testBit d = true) (hl : dst a d < least) : nrI m a (d + 1) d (dst a d) := by
  refine ⟨by omega, Or.inr ⟨by omega, hb, rfl, fun e he hbe => ?_⟩⟩
  by_cases q : e = d
  · subst q; exact Or.inr ⟨rfl, Nat.le_refl _⟩
  · rcases h.2 with ⟨h1, h2, h3⟩ | ⟨h1, h2, h3, h4⟩
    · rw [h3 e (by omega)] at hbe; cases hbe
    · have := h4 e (by omega) hbe; omega
theorem nrI.fin {m a d best least : Nat} (h : nrI m a d best least) (hd : d = 40) : NrS m a best := by
  subst hd
  rcases h.2 with ⟨h1, h2, h3⟩ | ⟨h1, h2, h3, h4⟩
  · exact Or.inl ⟨h1, h3⟩
  · exact Or.inr ⟨h1, h2, h4⟩
/-- while the class goes outwards -/
def nrF (m a far : Nat) : Prop := ∀ d, d < 40 → m.testBit d = true → far ≤ dst a d
theorem nrF.low {m a far : Nat} (h : nrF m a far) (ha : a < 40) (hf : far ≤ a) (hb : m.testBit (a - far) = true) : NrS m a (a - far) := Or.inr ⟨by omega, hb, fun d hd hbd => by
  have h1 := h d hd hbd
  unfold dst at h1 ⊢
  split <;> (split at h1 <;> split <;> omega)⟩
theorem nrF.high {m a far : Nat} (h : nrF m a far) (ha : a < 40) (hl : far ≤ a → m.testBit (a - far) = false) (hf : a + far < 40) (hb : m.testBit (a + far) = true) : NrS m a (a + far) := Or.inr ⟨hf, hb, fun d hd hbd => by
  have h1 := h d hd hbd
  by_cases e : d < a ∧ a - d = far
  · exfalso
    have := hl (by omega)
    rw [show a - far = d by omega, hbd] at this
    cases this
  · unfold dst at h1 ⊢
    split <;> (split at h1 <;> split <;> omega)⟩
theorem nrF.step {m a far : Nat} (h : nrF m a far) (hl : far ≤ a → m.testBit (a - far) = false) (hf : a + far < 40 → m.testBit (a + far) = false) : nrF m a (far + 1) := fun d hd hbd => by
  have h1 := h d hd hbd
  by_cases e : dst a d = far
  · exfalso
    unfold dst at e
    split at e
    · have := hl (by omega)
      rw [show a - far = d by omega, hbd] at this; cases this
    · have := hf (by omega)
      rw [show a + far = d by omega, hbd] at this; cases this
  · omega
theorem nrF.none {m a far : Nat} (h : nrF m a far) (ha : a < 40) (hf : 40 ≤ far) : NrS m a NO := Or.inl ⟨rfl, fun d hd => by
  cases hb : m.testBit d with
  | false => rfl
  | true =>
    have := h d hd hb
    unfold dst at this
    split at this <;> omega⟩
/-! the token to blame -/
def BlK (E : Nat → Nat → Nat) (n : Nat) (fr : Nat → Nat) (c k : Nat) : Prop := (n = 0 ∨ wh E n 0 0 c ≠ 0 → k = NO) ∧ (0 < n → wh E n 0 0 c = 0 → IsBl E n fr c k)
theorem IsBl.uniq {E : Nat → Nat → Nat} {n : Nat} {fr : Nat → Nat} {c k l : Nat} (h1 : IsBl E n fr c k) (h2 : IsBl E n fr c l) : k = l := by
  rcases Nat.lt_trichotomy k l with q | q | q
  · exact absurd (h2.2.1 k q) (h1.2.2 (by have := h2.1; omega))
  · exact q
  · exact absurd (h1.2.1 l q) (h2.2.2 (by have := h1.1; omega))
theorem BlK.uniq {E : Nat → Nat → Nat} {n : Nat} {fr : Nat → Nat} {c k l : Nat} (h1 : BlK E n fr c k) (h2 : BlK E n fr c l) : k = l := by
  by_cases q : n = 0 ∨ wh E n 0 0 c ≠ 0
  · rw [h1.1 q, h2.1 q]
  · have q1 : 0 < n := Nat.pos_of_ne_zero (fun e => q (Or.inl e))
    have q2 : wh E n 0 0 c = 0 := Classical.byContradiction fun e => q (Or.inr e)
    exact (h1.2 q1 q2).uniq (h2.2 q1 q2)
def blV (w : Int32) (k c : Nat) (li : Nat → Nat) : Int32 := if w = nI 0 then nI k else if w = nI 1 then (if k = NO then -1 else if k < c then nI (li k) else if c = 0 then nI 0 else nI (li (c - 1))) else -1
/-! signs with which a part can begin, one by one -/
noncomputable def fsQ (E : Nat → Nat → Nat) (n : Nat) (fr : Nat → Nat) (r : Nat) : Nat → Bool := fun s => @decide (∃ d, Fnd E n fr 0 s r d) (Classical.propDecidable _)
theorem fsQ_iff {E : Nat → Nat → Nat} {n : Nat} {fr : Nat → Nat} {r s : Nat} : fsQ E n fr r s = true ↔ ∃ d, Fnd E n fr 0 s r d := @decide_eq_true_iff _ (Classical.propDecidable _)
def fsV (q : Nat → Bool) (x : Int32) : Nat → Nat → Nat → Int32
  | 0, _, n => if x = -1 then nI n else -1
  | k + 1, c, n => if q c = true then (if nI n = x then nI c else fsV q x k (c + 1) (n + 1)) else fsV q x k (c + 1) n
theorem fsV_y {q : Nat → Bool} {x : Int32} {k c n : Nat} (hk : 0 < k) (h : q c = true) (hn : nI n = x) : fsV q x k c n = nI c := by
  obtain ⟨j, rfl⟩ : ∃ j, k = j + 1 := ⟨k - 1, by omega⟩
  rw [fsV, if_pos h, if_pos hn]
theorem fsV_n {q : Nat → Bool} {x : Int32} {k c n : Nat} (hk : 0 < k) (h : q c = true) (hn : ¬ nI n = x) : fsV q x k c n = fsV q x (k - 1) (c + 1) (n + 1) := by
  obtain ⟨j, rfl⟩ : ∃ j, k = j + 1 := ⟨k - 1, by omega⟩
  rw [fsV, if_pos h, if_neg hn, Nat.add_sub_cancel]
theorem fsV_o {q : Nat → Bool} {x : Int32} {k c n : Nat} (hk : 0 < k) (h : ¬ q c = true) : fsV q x k c n = fsV q x (k - 1) (c + 1) n := by
  obtain ⟨j, rfl⟩ : ∃ j, k = j + 1 := ⟨k - 1, by omega⟩
  rw [fsV, if_neg h, Nat.add_sub_cancel]
theorem msk_ex (P : Nat → Nat → Prop) : ∃ g : Nat → Nat, SafeM g ∧ ∀ r c, (g r).testBit c = true ↔ c < 40 ∧ P r c := by
  have hd : ∀ r c, Decidable (P r c) := fun r c => Classical.propDecidable _
  refine ⟨fun r => orR (fun c => if P r c then 2 ^ c else 0) 0 40, fun r => lt_of_bits (k := 40) (fun c h => (orR_pow.mp h).1), fun r c => orR_pow⟩
def bgO (E : Nat → Nat → Nat) (s : Nat) (bg : Nat → Nat) (x : Nat) : Nat := if E 2 x = NO then (if E 3 x = s then A40 else 0) else bg (E 2 x)
def bgK (E : Nat → Nat → Nat) (fr br : Nat → Nat) (s : Nat) (bg : Nat → Nat) (y k : Nat) : Nat := (andR (fun j => brI (E 2) (E 4) br (y * 5 + j)) 0 k &&& rst E fr y k) &&& letsN (E 4 (y * 5 + k)) (bgO E s bg (y * 5 + k))
def bgA (E : Nat → Nat → Nat) (fr br : Nat → Nat) (s : Nat) (bg : Nat → Nat) (y : Nat) : Nat := orR (bgK E fr br s bg y) 0 (E 1 y)
theorem bgO_lt {E : Nat → Nat → Nat} {s : Nat} {bg : Nat → Nat} {x : Nat} (h : SafeM bg) : bgO E s bg x < 1099511627776 := by
  unfold bgO; split
  · split <;> decide
  · exact h _
theorem bgA_lt {E : Nat → Nat → Nat} {fr br : Nat → Nat} {s : Nat} {bg : Nat → Nat} {y : Nat} : bgA E fr br s bg y < 1099511627776 := orR_lt (k := 40) (fun _ _ _ => and_lt40 (and_lt40 andR_lt))
theorem bgA_mo {E : Nat → Nat → Nat} {n : Nat} {fr br : Nat → Nat} {s : Nat} (hcl : Clo E n) : gMo n (E 0) (fun bg y => bgA E fr br s bg y) := ⟨fun _ _ _ => bgA_lt, fun f g r a sf sg hs hr ha => orR_mono (fun k _ hk => by
  unfold bgK
  refine bs_and (bs_rf _) (letsN_mono (bgO_lt sf) (bgO_lt sg) ?_)
  unfold bgO
  by_cases e : E 2 ((r * 4 + a) * 5 + k) = NO
  · rw [if_pos e, if_pos e]; exact bs_rf _
  · rw [if_neg e, if_neg e]; exact hs _ ((hcl r hr a ha k (by omega)).resolve_left e))⟩
theorem bgA_bit {E : Nat → Nat → Nat} {fr br : Nat → Nat} {s : Nat} {bg : Nat → Nat} {y c : Nat} (hs : SafeM bg) : (bgA E fr br s bg y).testBit c = true ↔ ∃ k, k < E 1 y ∧ (andR (fun j => brI (E 2) (E 4) br (y * 5 + j)) 0 k).testBit c = true ∧ (rst E fr y k).testBit c = true ∧ ((E 2 (y * 5 + k) ≠ NO ∧ ∃ d, d < 40 ∧ (bg (E 2 (y * 5 + k))).testBit d = true ∧ fitB (E 4 (y * 5 + k)) c d) ∨ (E 2 (y * 5 + k) = NO ∧ E 3 (y * 5 + k) = s ∧ ∃ d, d < 40 ∧ fitB (E 4 (y * 5 + k)) c d)) := by
  unfold bgA bgK
  rw [orR_bit]
  constructor
  · rintro ⟨k, -, hk, hb⟩
    rw [Nat.testBit_and, Nat.testBit_and, Bool.and_eq_true, Bool.and_eq_true, letsN_bit (bgO_lt hs)] at hb
    obtain ⟨⟨b1, b2⟩, c4, d, d1, d2⟩ := hb
    refine ⟨k, by omega, b1, b2, ?_⟩
    unfold bgO at d1
    by_cases e : E 2 (y * 5 + k) = NO
    · rw [if_pos e] at d1
      by_cases e2 : E 3 (y * 5 + k) = s
      · rw [if_pos e2] at d1
        exact Or.inr ⟨e, e2, d, bit_lt40 (by decide) d1, d2⟩
      · rw [if_neg e2] at d1; simp at d1
    · rw [if_neg e] at d1
      exact Or.inl ⟨e, d, bit_lt40 (hs _) d1, d1, d2⟩
  · rintro ⟨k, hk, b1, b2, b3⟩
    refine ⟨k, Nat.zero_le _, by omega, ?_⟩
    rw [Nat.testBit_and, Nat.testBit_and, b1, b2, Bool.true_and, Bool.true_and]
    have c4 : c < 40 := ((andR_bit _ _ _ _).mp b1).1
    refine (letsN_bit (bgO_lt hs) c).mpr ⟨c4, ?_⟩
    unfold bgO
    rcases b3 with ⟨e, d, d1, d2, d3⟩ | ⟨e, e2, d, d1, d2⟩
    · exact ⟨d, by rw [if_neg e]; exact d2, d3⟩
    · refine ⟨d, ?_, d2⟩
      rw [if_pos e, if_pos e2, show A40 = 2 ^ 40 - 1 from rfl, Nat.testBit_two_pow_sub_one]
      exact decide_eq_true d1
theorem bg_iff {E : Nat → Nat → Nat} {n : Nat} {fr br : Nat → Nat} {s : Nat} {bg : Nat → Nat} (hcl : Clo E n) (hs : SafeM bg) (h : IsLfp n (aFn (E 0) (fun bg y => bgA E fr br s bg y)) bg) {r c : Nat} (hr : r < n) : (bg r).testBit c = true ↔ Bg E n fr br s r c := by
  constructor
  · intro hb
    obtain ⟨g, g1, g2⟩ := msk_ex (Bg E n fr br s)
    have h2 := h.2 g g1 (fun r hr c hc => by
      obtain ⟨a, -, a2, a3⟩ := (orR_bit _ _ _ _).mp hc
      obtain ⟨k, k1, k2, k3, k4⟩ := (bgA_bit g1).mp a3
      have c4 : c < 40 := ((andR_bit _ _ _ _).mp k2).1
      refine (g2 r c).mpr ⟨c4, Bg.cl r c a k hr (by omega) k1 k2 k3 ?_⟩
      rcases k4 with ⟨e, d, d1, d2, d3⟩ | e
      · exact Or.inl ⟨e, d, d1, ((g2 _ d).mp d2).2, d3⟩
      · exact Or.inr e) r hr c hb
    exact ((g2 r c).mp h2).2
  · intro hb
    refine hb (fun r c => r < n → (bg r).testBit c = true) (fun r c a k hr ha hk h1 h2 h3 _ => ?_) hr
    rw [h.1 r hr]
    refine (orR_bit _ _ _ _).mpr ⟨a, Nat.zero_le _, by omega, (bgA_bit hs).mpr ⟨k, hk, h1, h2, ?_⟩⟩
    rcases h3 with ⟨e, d, d1, d2, d3⟩ | e
    · exact Or.inl ⟨e, d, d1, d2 ((hcl r hr a ha k hk).resolve_left e), d3⟩
    · exact Or.inr e
def bgP (n : Nat) (al_ : Nat → Nat) (G : (Nat → Nat) → Nat → Nat) (mo : Nat) (F : Nat → Nat) : Prop := mo ≤ 1 ∧ SafeM F ∧ lsT n al_ G F ∧ (mo = 0 → IsLfp n (aFn al_ G) F)
def bgI (n : Nat) (al_ : Nat → Nat) (G : (Nat → Nat) → Nat → Nat) (F1 : Nat → Nat) (y mo : Nat) (F2 : Nat → Nat) : Prop := y ≤ n ∧ mo ≤ 1 ∧ RuI n al_ G F1 y F2 ∧ (mo = 0 → ∀ r, F2 r = F1 r) ∧ (mo ≠ 0 → tb F1 n < tb F2 n)
theorem bgP.start {n : Nat} {al_ : Nat → Nat} {G : (Nat → Nat) → Nat → Nat} {F : Nat → Nat} (h1 : SafeM F) (h3 : ∀ r, r < n → F r = 0) : bgP n al_ G 1 F := ⟨Nat.le_refl _, h1, fun g _ _ r hr => by rw [h3 r hr]; exact bs_0 _, fun q => by omega⟩
theorem bgP.go {n : Nat} {al_ : Nat → Nat} {G : (Nat → Nat) → Nat → Nat} {F : Nat → Nat} {mo : Nat} (h : bgP n al_ G mo F) : bgI n al_ G F 0 0 F := ⟨Nat.zero_le _, by decide, ⟨h.2.1, h.2.2.1, fun _ => bs_rf _, fun _ r hr => absurd hr (Nat.not_lt_zero _)⟩, fun _ _ => rfl, fun q => absurd rfl q⟩
theorem bgI.fin {n : Nat} {al_ : Nat → Nat} {G : (Nat → Nat) → Nat → Nat} {F1 F2 : Nat → Nat} {mo : Nat} (hm : gMo n al_ G) (h : bgI n al_ G F1 n mo F2) : bgP n al_ G mo F2 := ⟨h.2.1, h.2.2.1.sfr, h.2.2.1.lst, fun q => RuI.lfp hm h.2.2.1 (h.2.2.2.1 q)⟩
theorem bgI.step {n : Nat} {al_ : Nat → Nat} {G : (Nat → Nat) → Nat → Nat} {F1 F2 F3 : Nat → Nat} {y mo a : Nat} (h : bgI n al_ G F1 y mo F2) (hy : y < n) (hF : AlI n al_ G F2 y a F3) (ha : a = al_ y) : bgI n al_ G F1 (y + 1) (if mo ≠ 0 ∨ F3 y ≠ F2 y then 1 else 0) F3 := by
  obtain ⟨h1, h2, h3, h5, h6⟩ := h
  have gF : ∀ r, r < n → bitsub (F2 r) (F3 r) := fun r _ => if e : r = y then e ▸ hF.grw else by rw [hF.oth r e]; exact bs_rf _
  refine ⟨by omega, by split <;> decide, h3.step hF ha, fun q => ?_, fun q => ?_⟩
  · have hq : ¬ (mo ≠ 0 ∨ F3 y ≠ F2 y) := fun r => by rw [if_pos r] at q; cases q
    have q1 : mo = 0 := Classical.byContradiction fun r => hq (Or.inl r)
    have q2 : F3 y = F2 y := Classical.byContradiction fun r => hq (Or.inr r)
    have e1 := h5 q1
    exact fun r => if e : r = y then by rw [e, q2]; exact e1 y else (hF.oth r e).trans (e1 r)
  · have hq : mo ≠ 0 ∨ F3 y ≠ F2 y := Classical.byContradiction fun r => q (if_neg r)
    have m1 := tb_mono (n := n) gF
    have k1 := tb_mono (f := F1) (g := F2) (n := n) (fun r _ => h3.grw r)
    rcases hq with hq | hq
    · have := h6 hq; omega
    · have := tb_strict (n := n) gF hy (hF.sfr y) (fun e => hq e.symm); omega
theorem bg_meas {n mo m2 N1 : Nat} {F1 F2 : Nat → Nat} (hn : n ≤ 8) (h0 : ¬ mo = 0) (hm : (if mo = 0 then 0 else 322 - tb F1 n) < N1 + 1) (h : m2 ≠ 0 → tb F1 n < tb F2 n) : (if m2 = 0 then 0 else 322 - tb F2 n) < N1 := by
  rw [if_neg h0] at hm
  have a1 := tb_le F1 n
  split
  · omega
  · rename_i q
    have := h q
    omega
theorem BlK.lt {E : Nat → Nat → Nat} {n : Nat} {fr : Nat → Nat} {c k : Nat} (h : BlK E n fr c k) : k = NO ∨ k ≤ c := by
  by_cases q : n = 0 ∨ wh E n 0 0 c ≠ 0
  · exact Or.inl (h.1 q)
  · exact Or.inr (h.2 (Nat.pos_of_ne_zero (fun e => q (Or.inl e))) (Classical.byContradiction fun e => q (Or.inr e))).1
def GoN (E : Nat → Nat → Nat) (n : Nat) (fr : Nat → Nat) (m : Nat) : Prop := if m = 0 then fr 0 ≠ 0 else Fnd E n fr (m - 1) (E 5 (m - 1)) 0 (E 6 (m - 1))
theorem w01 {w : Int32} (h : 0 ≤ w.toInt ∧ w.toInt ≤ 1) : w = nI 0 ∨ w = nI 1 := by
  rcases (show w.toInt = 0 ∨ w.toInt = 1 by omega) with q | q
  · exact Or.inl (Int32.toInt_inj.mp (by rw [q]; decide))
  · exact Or.inr (Int32.toInt_inj.mp (by rw [q]; decide))
theorem wz_eq {w : Int32} (h : w.toInt = 0) : w = nI 0 := Int32.toInt_inj.mp (by rw [h]; decide)
theorem NrS.ex (m a : Nat) : ∃ v, NrS m a v := by
  have h : ∀ d, d ≤ 40 → ∃ best least, nrI m (min a 39) d best least := by
    intro d
    induction d with
    | zero => intro _; exact ⟨NO, 40, by decide, Or.inl ⟨rfl, rfl, fun e he => absurd he (Nat.not_lt_zero _)⟩⟩
    | succ d ih =>
      intro hd
      obtain ⟨b, l, h⟩ := ih (by omega)
      cases hb : m.testBit d with
      | false => exact ⟨b, l, h.no (by omega) (Or.inl hb) (by omega)⟩
      | true =>
        rcases Nat.lt_or_ge (dst (min a 39) d) l with q | q
        · exact ⟨d, _, h.yes (by omega) hb q⟩
        · exact ⟨b, l, h.no (by omega) (Or.inr q) (by omega)⟩
  by_cases q : a < 40
  · obtain ⟨b, l, h1⟩ := h 40 (Nat.le_refl _)
    rw [show min a 39 = a by omega] at h1
    exact ⟨b, h1.fin rfl⟩
  · by_cases q2 : ∀ d, d < 40 → m.testBit d = false
    · exact ⟨NO, Or.inl ⟨rfl, q2⟩⟩
    · -- the greatest column below 40
      have h3 : ∀ k, k ≤ 40 → (∀ d, 40 - k ≤ d → d < 40 → m.testBit d = false) ∨ ∃ v, v < 40 ∧ m.testBit v = true ∧ ∀ d, v < d → d < 40 → m.testBit d = false := by
        intro k
        induction k with
        | zero => intro _; exact Or.inl (fun d h1 h2 => by omega)
        | succ k ih =>
          intro hk
          rcases ih (by omega) with h4 | h4
          · cases hb : m.testBit (40 - (k + 1)) with
            | true => exact Or.inr ⟨40 - (k + 1), by omega, hb, fun d h1 h2 => h4 d (by omega) h2⟩
            | false => exact Or.inl (fun d h1 h2 => if e : d = 40 - (k + 1) then e ▸ hb else h4 d (by omega) h2)
          · exact Or.inr h4
      rcases h3 40 (Nat.le_refl _) with h4 | ⟨v, v1, v2, v3⟩
      · exact absurd (fun d hd => h4 d (by omega) hd) q2
      · refine ⟨v, Or.inr ⟨v1, v2, fun d hd hbd => ?_⟩⟩
        rcases Nat.lt_or_ge v d with q3 | q3
        · rw [v3 d q3 hd] at hbd; cases hbd
        · unfold dst; rw [if_pos (by omega), if_pos (by omega)]; omega
theorem itO_le5 {al_ it : Nat → Nat} (h : ∀ q, it q ≤ 5) (x : Nat) : itO al_ it x ≤ 5 := by
  unfold itO; split
  · exact h x
  · exact Nat.zero_le _
theorem hs_y {n s x y : Nat} {al_ it tg pt : Nat → Nat} (hx : x < n * 4) (hy : y < itO al_ it x) (h1 : tg (x * 5 + y) = NO) (h2 : pt (x * 5 + y) = s) : ∃ r a k, r < n ∧ a < al_ r ∧ k < it (r * 4 + a) ∧ tg ((r * 4 + a) * 5 + k) = NO ∧ pt ((r * 4 + a) * 5 + k) = s := by
  unfold itO at hy
  by_cases e : x % 4 < al_ (x / 4)
  · rw [if_pos e] at hy
    refine ⟨x / 4, x % 4, y, by omega, e, ?_, ?_, ?_⟩
    · rw [show x / 4 * 4 + x % 4 = x by omega]; exact hy
    · rw [show x / 4 * 4 + x % 4 = x by omega]; exact h1
    · rw [show x / 4 * 4 + x % 4 = x by omega]; exact h2
  · rw [if_neg e] at hy; omega
theorem Fnd.sgn {E : Nat → Nat → Nat} {n : Nat} {fr : Nat → Nat} {m s r0 d : Nat} (h : Fnd E n fr m s r0 d) (hs : s ≠ 0) : ∃ r a k, r < n ∧ a < E 0 r ∧ k < E 1 (r * 4 + a) ∧ E 2 ((r * 4 + a) * 5 + k) = NO ∧ E 3 ((r * 4 + a) * 5 + k) = s := by
  obtain ⟨r, i, c, hr, _, _, a, k, h1, h2, h3, _, _⟩ := h
  exact ⟨r, a, k, hr, h1.1, h1.2.1, h2, h3.resolve_left hs⟩
theorem bgK_eq {E : Nat → Nat → Nat} {fr br : Nat → Nat} {s : Nat} {bg : Nat → Nat} {y k ah X : Nat} (h : ah = andR (fun j => brI (E 2) (E 4) br (y * 5 + j)) 0 k) (hX : bgO E s bg (y * 5 + k) = X) : (ah &&& rst E fr y k) &&& letsN (E 4 (y * 5 + k)) X = bgK E fr br s bg y k := by
  unfold bgK; rw [h, hX]
