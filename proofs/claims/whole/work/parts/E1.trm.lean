/-! THE TREE as the model lays it -/
theorem itm_m {al_ it tg pt bd sg co sg' co' V : Nat → Nat} {n c x p q : Nat} (h5 : ∀ p, p < c → sg' p = sg p ∧ co' p = co p) (hv : VAll (gE al_ it tg pt bd sg co) n (c + 1) V) (hx : tg x = NO ∨ tg x < n) (hpq : p ≤ q) (hq : q ≤ c) : itm (gE al_ it tg pt bd sg' co') (v3 V) x p q = itm (gE al_ it tg pt bd sg co) (wh (gE al_ it tg pt bd sg co) n) x p q := by
  rw [itm_congE (Q := c) (E' := gE al_ it tg pt bd sg co) gE_0 h5 hq]
  unfold itm
  by_cases e : gE al_ it tg pt bd sg co 2 x = NO
  · rw [if_pos e, if_pos e]
  · rw [if_neg e, if_neg e]; exact hv (tg x) p q (hx.resolve_left e) hpq (by omega)
theorem rch_m {al_ it tg pt bd sg co sg' co' V : Nat → Nat} {n c r a i j k : Nat} (h5 : ∀ p, p < c → sg' p = sg p ∧ co' p = co p) (hv : VAll (gE al_ it tg pt bd sg co) n (c + 1) V) (hcl : Clo (gE al_ it tg pt bd sg co) n) (hr : r < n) (ha : a < al_ r) (hk : k ≤ it (r * 4 + a)) (hj : j ≤ c) : rch (gE al_ it tg pt bd sg' co') (v3 V) i (r * 4 + a) k j = rch (gE al_ it tg pt bd sg co) (wh (gE al_ it tg pt bd sg co) n) i (r * 4 + a) k j := by
  rw [rch_congE (Q := c) (E' := gE al_ it tg pt bd sg co) gE_0 h5 k j hj]
  exact rch_congN hcl hr ha (fun t p q h1 _ h2 h3 => hv t p q h1 h2 (by omega)) k j hk (Nat.le_refl _)
/-- of the items from x on the places that reach the end, one by one -/
def CnI (E : Nat → Nat → Nat) (n y i j d x : Nat) (C : Nat → Nat) : Prop := ∀ z, x ≤ z → z ≤ E 1 y → ∀ p, i ≤ p → p ≤ j → C (21 * z + p) = if tC E n y j d (E 1 y - z) p = true then 1 else 0
def CnP (E : Nat → Nat → Nat) (n y i j d x p : Nat) (C : Nat → Nat) : Prop := CnI E n y i j d (x + 1) C ∧ ∀ q, i ≤ q → q < p → C (21 * x + q) = if tC E n y j d (E 1 y - x) q = true then 1 else 0
theorem CnI.ce {E : Nat → Nat → Nat} {n y i j d x z : Nat} {C : Nat → Nat} (h : CnI E n y i j d x C) (e : x = z) : CnI E n y i j d z C := e ▸ h
theorem CnP.put {E : Nat → Nat → Nat} {n y i j d x p v : Nat} {C : Nat → Nat} (h : CnP E n y i j d x p C) (hj : j < 21) (hp : p ≤ j) (hv : v = if tC E n y j d (E 1 y - x) p = true then 1 else 0) : CnP E n y i j d x (p + 1) (up C (21 * x + p) v) := by
  refine ⟨fun z h1 h2 q h3 h4 => ?_, fun q h1 h2 => ?_⟩
  · rw [up_n (by omega)]; exact h.1 z h1 h2 q h3 h4
  · by_cases e : q = p
    · rw [e, up_s, hv]
    · rw [up_n (by omega)]; exact h.2 q h1 (by omega)
theorem CnP.fin {E : Nat → Nat → Nat} {n y i j d x p : Nat} {C : Nat → Nat} (h : CnP E n y i j d x p C) (hp : p = j + 1) : CnI E n y i j d x C := fun z h1 h2 q h3 h4 => by
  by_cases e : z = x
  · rw [e]; exact h.2 q h3 (by omega)
  · exact h.1 z (by omega) h2 q h3 h4
def cXB (E : Nat → Nat → Nat) (n y j d x p q b : Nat) : Prop := b ≤ 1 ∧ (b = 1 ↔ ∃ e, p ≤ e ∧ e < q ∧ tC E n y j d (E 1 y - (x + 1)) e = true ∧ tH E n (y * 5 + x) p e d = true)
theorem cXB.ini {E : Nat → Nat → Nat} {n y j d x p : Nat} : cXB E n y j d x p p 0 := ⟨by decide, ⟨fun h => by omega, fun ⟨e, h1, h2, _⟩ => by omega⟩⟩
theorem cXB.keep {E : Nat → Nat → Nat} {n y j d x p q b : Nat} (h : cXB E n y j d x p q b) (hb : b ≠ 0) : cXB E n y j d x p (q + 1) 1 := by
  have e : b = 1 := by have := h.1; omega
  obtain ⟨z, h1, h2, h3⟩ := h.2.mp e
  exact ⟨by decide, ⟨fun _ => ⟨z, h1, by omega, h3⟩, fun _ => rfl⟩⟩
theorem cXB.yes {E : Nat → Nat → Nat} {n y j d x p q b : Nat} (_h : cXB E n y j d x p q b) (hp : p ≤ q) (h1 : tC E n y j d (E 1 y - (x + 1)) q = true) (h2 : tH E n (y * 5 + x) p q d = true) : cXB E n y j d x p (q + 1) 1 := ⟨by decide, ⟨fun _ => ⟨q, hp, by omega, h1, h2⟩, fun _ => rfl⟩⟩
theorem cXB.no {E : Nat → Nat → Nat} {n y j d x p q b : Nat} (h : cXB E n y j d x p q b) (hb : b = 0) (h1 : ¬ (tC E n y j d (E 1 y - (x + 1)) q = true ∧ tH E n (y * 5 + x) p q d = true)) : cXB E n y j d x p (q + 1) 0 := by
  refine ⟨by decide, ⟨fun q => by omega, ?_⟩⟩
  rintro ⟨e, g1, g2, g3, g4⟩
  by_cases e9 : e = q
  · rw [e9] at g3 g4; exact absurd ⟨g3, g4⟩ h1
  · have := h.2.mpr ⟨e, g1, by omega, g3, g4⟩
    omega
theorem cXB.fin {E : Nat → Nat → Nat} {n y j d x p q b : Nat} (h : cXB E n y j d x p q b) (hq : q = j + 1) (hj : j < 21) (hx : x < E 1 y) : b = if tC E n y j d (E 1 y - x) p = true then 1 else 0 := by
  obtain ⟨m, hm⟩ : ∃ m, E 1 y - x = m + 1 := ⟨E 1 y - x - 1, by omega⟩
  have hi : tC E n y j d (E 1 y - x) p = true ↔ b = 1 := by
    rw [hm, tC_s (by omega), h.2, show E 1 y - (x + 1) = m by omega, show E 1 y - (m + 1) = x by omega]
    constructor
    · rintro ⟨e, g1, g2, g3, g4⟩; exact ⟨e, g1, by omega, g3, g4⟩
    · rintro ⟨e, g1, g2, g3, g4⟩; exact ⟨e, g1, by omega, g3, g4⟩
  have := h.1
  split
  · rename_i q9; exact hi.mp q9
  · rename_i q9
    have : b ≠ 1 := fun e => q9 (hi.mpr e)
    omega
theorem cn_ne {c : Prop} [Decidable c] (h : ¬ (if c then 1 else 0) = 0) : c := ite_ne h
/-- the least end is found -/
theorem tL_le {E : Nat → Nat → Nat} {n y j d k p q : Nat} (hN : tL E n y j d k p ≠ NO) (hq : q ≤ tL E n y j d k p) (hp : p ≤ q) (h1 : ¬ (tC E n y j d (E 1 y - (k + 1)) q = true ∧ tH E n (y * 5 + k) p q d = true)) : q + 1 ≤ tL E n y j d k p := by
  have h3 := (srch_sp (p := fun q => tC E n y j d (E 1 y - (k + 1)) q && tH E n (y * 5 + k) p q d) hN).2.2.1
  rw [Bool.and_eq_true] at h3
  by_cases e : q = tL E n y j d k p
  · rw [e] at h1; exact absurd h3 h1
  · omega
theorem tL_eq {E : Nat → Nat → Nat} {n y j d k p q : Nat} (hN : tL E n y j d k p ≠ NO) (hq : q ≤ tL E n y j d k p) (hp : p ≤ q) (h1 : tC E n y j d (E 1 y - (k + 1)) q = true) (h2 : tH E n (y * 5 + k) p q d = true) : q = tL E n y j d k p := by
  have h4 := (srch_sp (p := fun q => tC E n y j d (E 1 y - (k + 1)) q && tH E n (y * 5 + k) p q d) hN).2.2.2
  by_cases e : q = tL E n y j d k p
  · exact e
  · have h5 := h4 q hp (by have : q < tL E n y j d k p := by omega
                           exact this)
    rw [h1, h2] at h5; cases h5
theorem f2_61 {m b d : Nat} (h : b = 61) : m &&& prtN b (2 ^ d) = m &&& 2 ^ d := by
  unfold prtN
  rw [if_neg (Nat.ne_of_gt (Nat.two_pow_pos d)), if_pos h]
theorem lsb_pow {d : Nat} (hd : d < 40) : lsb (2 ^ d) = d := by
  obtain ⟨h1, h2, -⟩ := lsb_sp (m := 2 ^ d) (Nat.ne_of_gt (Nat.two_pow_pos d)) (Nat.pow_lt_pow_right (by decide) hd)
  rw [Nat.testBit_two_pow, decide_eq_true_eq] at h2
  exact h2.symm
theorem hi_div {m l : Nat} (hm : m < 1099511627776) (hl : l ≤ 40) : m &&& (1099511627776 - 2 ^ l) = m / 2 ^ l * 2 ^ l := by
  apply Nat.eq_of_testBit_eq
  intro i
  rw [Nat.testBit_and, Nat.mul_comm, Nat.testBit_two_pow_mul]
  by_cases e : l ≤ i
  · rw [decide_eq_true (show i ≥ l from e), Bool.true_and, Nat.testBit_div_two_pow, show i - l + l = i by omega]
    cases h : m.testBit i with
    | false => rfl
    | true => rw [Bool.true_and]; exact (bit_hi hl).mpr ⟨e, bit_lt40 hm h⟩
  · rw [decide_eq_false (show ¬ i ≥ l from e), Bool.false_and]
    cases h : (1099511627776 - 2 ^ l).testBit i with
    | false => rw [Bool.and_false]
    | true => exact absurd ((bit_hi hl).mp h).1 e
theorem f2_62 {m b d : Nat} (hm : m < 1099511627776) (hd : d < 40) (h : b = 62) : m &&& prtN b (2 ^ d) = m / 2 ^ (d + 1) * 2 ^ (d + 1) := by
  unfold prtN
  rw [if_neg (Nat.ne_of_gt (Nat.two_pow_pos d)), if_neg (by omega), if_neg (by omega), if_pos h, lsb_pow hd, hi_div hm (by omega)]
theorem f2_42 {m b d : Nat} (hm : m < 1099511627776) (_hd : d < 40) (h : b = 42) : m &&& prtN b (2 ^ d) = m := by
  unfold prtN
  rw [if_neg (Nat.ne_of_gt (Nat.two_pow_pos d)), if_neg (by omega), if_pos h]
  apply Nat.eq_of_testBit_eq
  intro i
  rw [Nat.testBit_and, show A40 = 2 ^ 40 - 1 from rfl, Nat.testBit_two_pow_sub_one]
  cases e : m.testBit i with
  | false => rfl
  | true => rw [decide_eq_true (bit_lt40 hm e)]; rfl
theorem f2_0 {m b d : Nat} (hm : m < 1099511627776) (hd : d < 40) (h1 : b ≠ 61) (h2 : b ≠ 62) (h3 : b ≠ 42) : m &&& prtN b (2 ^ d) = m / 2 ^ d * 2 ^ d := by
  unfold prtN
  rw [if_neg (Nat.ne_of_gt (Nat.two_pow_pos d)), if_neg h1, if_neg h3, if_neg h2, lsb_pow hd, hi_div hm (by omega)]
theorem tA_eq {E : Nat → Nat → Nat} {n : Nat} {emp : Nat → Prop} {rk : Nat → Nat} (hA : Acyc E n emp rk) (h4 : ∀ r, E 0 r ≤ 4) {r i j d a : Nat} (hr : r < n) (hij : i ≤ j) (hj : j < 4294967295) (hd : d < 40) (hw : (wh E n r i j).testBit d = true) (ha : a ≤ tA E n r i j d) (hb : (rch E (wh E n) i (r * 4 + a) (E 1 (r * 4 + a)) j).testBit d = true) : a = tA E n r i j d := by
  obtain ⟨_, _, _, h9⟩ := tA_ok hA h4 hr hij hj hd hw
  rcases Nat.lt_or_ge a (tA E n r i j d) with q | q
  · have := h9 a q
    rw [(tC_iff hj hij hd).mpr hb] at this; cases this
  · omega
theorem tA_nx {E : Nat → Nat → Nat} {n : Nat} {emp : Nat → Prop} {rk : Nat → Nat} (hA : Acyc E n emp rk) (h4 : ∀ r, E 0 r ≤ 4) {r i j d a : Nat} (hr : r < n) (hij : i ≤ j) (hj : j < 4294967295) (hd : d < 40) (hw : (wh E n r i j).testBit d = true) (ha : a ≤ tA E n r i j d) (hb : (rch E (wh E n) i (r * 4 + a) (E 1 (r * 4 + a)) j).testBit d = false) : a + 1 ≤ tA E n r i j d := by
  obtain ⟨_, _, h8, _⟩ := tA_ok hA h4 hr hij hj hd hw
  rcases Nat.lt_or_ge a (tA E n r i j d) with q | q
  · omega
  · have e : a = tA E n r i j d := by omega
    rw [← e, tC_iff hj hij hd, hb] at h8; cases h8
theorem TtV.take2 {E : Nat → Nat → Nat} {n k a : Nat} {T T2 V : Nat → Nat} {u : tT} (hT : TtV T k u.1) (hV : WtV V u.2) (hw : u.2.1 ≠ 0) (h1 : ∀ f, f < 8 → T2 (k * 8 + f) = V ((u.2.1 - 1) * 8 + f)) (h2 : ∀ q, q < k * 8 → T2 q = T q) (ha : a = tA E n (u.2.2 (u.2.1 - 1) 0) (u.2.2 (u.2.1 - 1) 2) (u.2.2 (u.2.1 - 1) 3) (u.2.2 (u.2.1 - 1) 4)) : TtV (up T2 (k * 8 + 1) a) (k + 1) (tSt E n k u).1 := by
  intro q f g1 g2
  show up T2 (k * 8 + 1) a (q * 8 + f) = (if q = k then (fun f => if f = 1 then _ else u.2.2 (u.2.1 - 1) f) else u.1 q) f
  by_cases e : q = k
  · subst e
    rw [if_pos rfl]
    by_cases e1 : f = 1
    · subst e1
      rw [up_s, ha]; rfl
    · show _ = if f = 1 then _ else _
      rw [if_neg e1, up_n (by omega), h1 f g2]
      exact hV (u.2.1 - 1) f (by omega) g2 e1
  · rw [if_neg e, up_n (by omega), h2 _ (by omega)]
    exact hT q f (by omega) g2
theorem weq {w : Int32} {k : Nat} (h : w.toInt = k) : w = nI k := by
  have h2 := Int32.toInt_lt w
  rw [i32_nat (x := w) (by omega), show w.toInt.toNat = k by omega]
theorem wne {w : Int32} {k : Nat} (hk : k < 2147483648) (h : w.toInt ≠ k) : ¬ w = nI k := fun e => h (by rw [e, nI_toInt hk])
theorem mn_st {co : Nat → Nat} {i q mn : Nat} (hc : ∀ z, co z < 40) (h : mn = if q = i then 39 else mnc co i (q - i)) (hq : i ≤ q) : (if co q < mn then co q else mn) = if q + 1 = i then 39 else mnc co i (q + 1 - i) := by
  rw [if_neg (show ¬ q + 1 = i by omega), show q + 1 - i = (q - i) + 1 by omega, mnc, show i + (q - i) = q by omega]
  have h1 := hc q
  by_cases e : q = i
  · rw [if_pos e] at h
    subst e
    rw [Nat.sub_self, h]
    show _ = if NO = NO then _ else _
    rw [if_pos rfl]
    split <;> omega
  · rw [if_neg e] at h
    have h2 : mnc co i (q - i) ≠ NO := by
      obtain ⟨l, hl⟩ : ∃ l, q - i = l + 1 := ⟨q - i - 1, by omega⟩
      rw [hl, mnc]
      have h3 := hc (i + l)
      have h4 := @mnc_b co i 40 hc l
      unfold NO at *
      split <;> omega
    rw [if_neg h2, ← h]
    split <;> omega
theorem mx_st {co : Nat → Nat} {i q mx : Nat} (hc : ∀ z, co z < 40) (h : mx = if q = i then 0 else mxc co i (q - i)) (hq : i ≤ q) : (if mx < co q then co q else mx) = if q + 1 = i then 0 else mxc co i (q + 1 - i) := by
  rw [if_neg (show ¬ q + 1 = i by omega), show q + 1 - i = (q - i) + 1 by omega, mxc, show i + (q - i) = q by omega]
  have h1 := hc q
  by_cases e : q = i
  · rw [if_pos e] at h
    subst e
    rw [Nat.sub_self, h]
    show _ = if NO = NO then _ else _
    rw [if_pos rfl]
    split <;> omega
  · rw [if_neg e] at h
    have h2 : mxc co i (q - i) ≠ NO := by
      obtain ⟨l, hl⟩ : ∃ l, q - i = l + 1 := ⟨q - i - 1, by omega⟩
      rw [hl, mxc]
      have h3 := hc (i + l)
      have h4 := @mxc_b co i 40 hc l
      unfold NO at *
      split <;> omega
    rw [if_neg h2, ← h]
    split <;> omega
theorem mn_b {co : Nat → Nat} {i q mn : Nat} (hc : ∀ z, co z < 40) (h : mn = if q = i then 39 else mnc co i (q - i)) (hq : i ≤ q) : mn < 40 := by
  by_cases e : q = i
  · rw [h, if_pos e]; decide
  · rw [if_neg e] at h
    obtain ⟨l, hl⟩ : ∃ l, q - i = l + 1 := ⟨q - i - 1, by omega⟩
    rw [hl, mnc] at h
    have h3 := hc (i + l)
    have h4 := @mnc_b co i 40 hc l
    unfold NO at *
    split at h <;> omega
theorem mx_b {co : Nat → Nat} {i q mx : Nat} (hc : ∀ z, co z < 40) (h : mx = if q = i then 0 else mxc co i (q - i)) (hq : i ≤ q) : mx < 40 := by
  by_cases e : q = i
  · rw [h, if_pos e]; decide
  · rw [if_neg e] at h
    obtain ⟨l, hl⟩ : ∃ l, q - i = l + 1 := ⟨q - i - 1, by omega⟩
    rw [hl, mxc] at h
    have h3 := hc (i + l)
    have h4 := @mxc_b co i 40 hc l
    unfold NO at *
    split at h <;> omega
