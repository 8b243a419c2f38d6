/-! THE TREE'S CELLS: rows of nodes, what waits, the places that reach the end -/
def treL (k sz wt : Nat) (T V Rc En Su : Nat → Nat) : List va_E := [.inr (10, [.int (nI sz), .ref (k + 4), .ref (k + 5), .int (nI wt), .ref (k + 6), .ref (k + 7), .ref (k + 8), .ref k]), .inl (0, 2560, .inl (ai T)), .inl (0, 2560, .inl (ai V)), .inl (0, 6, .inl (ai Rc)), .inl (0, 6, .inl (ai En)), .inl (0, 21, .inl (ai Su))]
theorem itm_w3 {E : Nat → Nat → Nat} {n c x p q : Nat} {W : Nat → Nat} (hC : ChS E n c W) (hx : E 2 x = NO ∨ E 2 x < n) (hpq : p ≤ q) (hq : q ≤ c) : itm E (w3 W) x p q = itm E (wh E n) x p q := by
  unfold itm
  by_cases e : E 2 x = NO
  · rw [if_pos e, if_pos e]
  · rw [if_neg e, if_neg e, hC _ _ _ (hx.resolve_left e) hpq hq]
/-- of the items from x on the places that reach the end, as bits -/
def RcI (E : Nat → Nat → Nat) (n y i j d x : Nat) (R : Nat → Nat) : Prop := ∀ z, x ≤ z → z ≤ E 1 y → ∀ p, (R z).testBit p = (decide (i ≤ p ∧ p ≤ j) && tC E n y j d (E 1 y - z) p)
def RcP (E : Nat → Nat → Nat) (n y i j d x p : Nat) (R : Nat → Nat) : Prop := RcI E n y i j d (x + 1) R ∧ ∀ q, (R x).testBit q = (decide (i ≤ q ∧ q < p) && tC E n y j d (E 1 y - x) q)
theorem bits_lt {m j : Nat} {b : Nat → Bool} (h : ∀ p, m.testBit p = (decide (p ≤ j) && b p)) (hj : j < 21) : m < 2097152 := by
  have h1 : m < 2 ^ (j + 1) := lt_of_bits (fun c hc => by
    rw [h, Bool.and_eq_true, decide_eq_true_eq] at hc
    omega)
  have h2 : 2 ^ (j + 1) ≤ 2 ^ 21 := Nat.pow_le_pow_right (by decide) (by omega)
  omega
theorem RcI.lt {E : Nat → Nat → Nat} {n y i j d x : Nat} {R : Nat → Nat} (h : RcI E n y i j d x R) (hj : j < 21) {z : Nat} (h1 : x ≤ z) (h2 : z ≤ E 1 y) : R z < 2097152 := by
  have h3 : R z < 2 ^ (j + 1) := lt_of_bits (fun c hc => by
    rw [h z h1 h2, Bool.and_eq_true, decide_eq_true_eq] at hc
    omega)
  have h4 : 2 ^ (j + 1) ≤ 2 ^ 21 := Nat.pow_le_pow_right (by decide) (by omega)
  omega
theorem RcP.lt {E : Nat → Nat → Nat} {n y i j d x p : Nat} {R : Nat → Nat} (h : RcP E n y i j d x p R) (hp : p < 22) : R x < 2097152 := by
  have h3 : R x < 2 ^ 21 := lt_of_bits (fun c hc => by
    rw [h.2, Bool.and_eq_true, decide_eq_true_eq] at hc
    omega)
  omega
theorem RcI.last {E : Nat → Nat → Nat} {n y i j d : Nat} {R : Nat → Nat} (hij : i ≤ j) : RcI E n y i j d (E 1 y) (up R (E 1 y) (2 ^ j)) := fun z h1 h2 p => by
  have e : z = E 1 y := by omega
  subst e
  rw [up_s, Nat.sub_self, tC, Nat.testBit_two_pow]
  by_cases q : p = j
  · rw [decide_eq_true q.symm, decide_eq_true q, decide_eq_true (show i ≤ p ∧ p ≤ j by omega)]; rfl
  · rw [decide_eq_false (fun h => q h.symm), decide_eq_false q, Bool.and_false]
theorem RcP.start {E : Nat → Nat → Nat} {n y i j d x : Nat} {R : Nat → Nat} (h : RcI E n y i j d (x + 1) R) : RcP E n y i j d x i (up R x 0) := by
  refine ⟨fun z h1 h2 p => by rw [up_n (show z ≠ x by omega)]; exact h z h1 h2 p, fun q => ?_⟩
  rw [up_s, decide_eq_false (show ¬ (i ≤ q ∧ q < i) by omega)]
  simp
theorem RcP.yes {E : Nat → Nat → Nat} {n y i j d x p : Nat} {R : Nat → Nat} (h : RcP E n y i j d x p R) (hp : i ≤ p) (hc : tC E n y j d (E 1 y - x) p = true) : RcP E n y i j d x (p + 1) (up R x (R x ||| 2 ^ p)) := by
  refine ⟨fun z h1 h2 p => by rw [up_n (show z ≠ x by omega)]; exact h.1 z h1 h2 p, fun q => ?_⟩
  rw [up_s, Nat.testBit_or, h.2, Nat.testBit_two_pow]
  by_cases e : q = p
  · subst e
    rw [decide_eq_true (show q = q from rfl), hc, decide_eq_true (show i ≤ q ∧ q < q + 1 by omega), Bool.or_true]; rfl
  · rw [decide_eq_false (fun g : p = q => e g.symm), Bool.or_false]
    congr 1
    exact decide_eq_decide.mpr (by omega)
theorem RcP.no {E : Nat → Nat → Nat} {n y i j d x p : Nat} {R : Nat → Nat} (h : RcP E n y i j d x p R) (hc : tC E n y j d (E 1 y - x) p = false) : RcP E n y i j d x (p + 1) R := by
  refine ⟨h.1, fun q => ?_⟩
  rw [h.2]
  by_cases e : q = p
  · subst e
    rw [hc, Bool.and_false, Bool.and_false]
  · congr 1
    exact decide_eq_decide.mpr (by omega)
theorem RcP.fin {E : Nat → Nat → Nat} {n y i j d x : Nat} {R : Nat → Nat} (h : RcP E n y i j d x (j + 1) R) : RcI E n y i j d x R := fun z h1 h2 p => by
  by_cases e : z = x
  · rw [e, h.2]
    congr 1
    exact decide_eq_decide.mpr (by omega)
  · exact h.1 z (by omega) h2 p
/-- the least end, as it is searched -/
def lEp (E : Nat → Nat → Nat) (W : Nat → Nat) (R : Nat → Nat) (d x z p e : Nat) : Bool := (R z).testBit e && decide (itm E (w3 W) x p e &&& prtN (E 4 x) (2 ^ d) ≠ 0)
theorem lEp_tL {E : Nat → Nat → Nat} {n c y i j d k p : Nat} {W R : Nat → Nat} (hC : ChS E n c W) (hx : E 2 (y * 5 + k) = NO ∨ E 2 (y * 5 + k) < n) (hE : ∀ q, E 6 q < 40) (hd : d < 40) (h : RcI E n y i j d (k + 1) R) (hk : k < E 1 y) (hip : i ≤ p) (hj : j ≤ c) : srch (lEp E W R d (y * 5 + k) (k + 1) p) p (j + 1 - p) = tL E n y j d k p := by
  unfold tL
  apply srch_cg
  intro q h1 h2
  unfold lEp
  rw [h (k + 1) (Nat.le_refl _) (by omega), decide_eq_true (show i ≤ q ∧ q ≤ j by omega), Bool.true_and, itm_w3 hC hx h1 (by omega)]
  congr 1
  cases e : tH E n (y * 5 + k) p q d with
  | true => exact decide_eq_true ((tH_fit hE hd).mp e)
  | false => exact decide_eq_false (fun g => by rw [(tH_fit hE hd).mpr g] at e; cases e)
theorem tL_C {E : Nat → Nat → Nat} {n y j d k p : Nat} (hk : k < E 1 y) : tC E n y j d (E 1 y - k) p = decide (tL E n y j d k p ≠ NO) := by
  obtain ⟨m, hm⟩ : ∃ m, E 1 y - k = m + 1 := ⟨E 1 y - k - 1, by omega⟩
  rw [hm, tC]
  unfold tL
  rw [show E 1 y - (k + 1) = m by omega, show E 1 y - (m + 1) = k by omega]
theorem tL_b {E : Nat → Nat → Nat} {n y j d k p : Nat} : tL E n y j d k p = 4294967295 ∨ tL E n y j d k p ≤ j := by
  by_cases h : tL E n y j d k p = NO
  · exact Or.inl h
  · have h1 := (srch_sp (p := fun q => tC E n y j d (E 1 y - (k + 1)) q && tH E n (y * 5 + k) p q d) h).1
    have h2 := (srch_sp (p := fun q => tC E n y j d (E 1 y - (k + 1)) q && tH E n (y * 5 + k) p q d) h).2.1
    refine Or.inr ?_
    unfold tL
    omega
/-- rows of what waits (the alt aside), rows of nodes -/
def WtV (V : Nat → Nat) (s : tS) : Prop := ∀ w f, w < s.1 → f < 8 → f ≠ 1 → V (w * 8 + f) = s.2 w f
def TtV (T : Nat → Nat) (k : Nat) (g : Nat → Nat → Nat) : Prop := ∀ q f, q < k → f < 8 → T (q * 8 + f) = g q f
theorem up8 {f x : Nat} (hf : f < 8) (h1 : f ≠ 1) : f = 0 ∨ f = 2 ∨ f = 3 ∨ f = 4 ∨ f = 5 ∨ f = 6 ∨ f = 7 := by omega
def pu8 (V : Nat → Nat) (w t i j d ab lv bd : Nat) : Nat → Nat := up (up (up (up (up (up (up V (w * 8 + 0) t) (w * 8 + 2) i) (w * 8 + 3) j) (w * 8 + 4) d) (w * 8 + 5) ab) (w * 8 + 6) lv) (w * 8 + 7) bd
theorem WtV.push {V : Nat → Nat} {s : tS} {t i j d ab lv bd : Nat} (h : WtV V s) : WtV (pu8 V s.1 t i j d ab lv bd) (s.1 + 1, fun w => if w = s.1 then tN t i j d ab lv bd else s.2 w) := by
  intro w f h1 h2 h3
  have h1 : w < s.1 + 1 := h1
  show pu8 V s.1 t i j d ab lv bd (w * 8 + f) = (if w = s.1 then _ else s.2 w) f
  unfold pu8
  by_cases e : w = s.1
  · rw [if_pos e, e]
    rcases up8 (x := 0) h2 h3 with q | q | q | q | q | q | q <;> subst q
    · rw [up_n (by omega), up_n (by omega), up_n (by omega), up_n (by omega), up_n (by omega), up_n (by omega), up_s]; rfl
    · rw [up_n (by omega), up_n (by omega), up_n (by omega), up_n (by omega), up_n (by omega), up_s]; rfl
    · rw [up_n (by omega), up_n (by omega), up_n (by omega), up_n (by omega), up_s]; rfl
    · rw [up_n (by omega), up_n (by omega), up_n (by omega), up_s]; rfl
    · rw [up_n (by omega), up_n (by omega), up_s]; rfl
    · rw [up_n (by omega), up_s]; rfl
    · rw [up_s]; rfl
  · rw [if_neg e, up_n (by omega), up_n (by omega), up_n (by omega), up_n (by omega), up_n (by omega), up_n (by omega), up_n (by omega)]
    exact h w f (by omega) h2 h3
theorem WtV.pop {V : Nat → Nat} {s : tS} (h : WtV V s) : WtV V (s.1 - 1, s.2) := fun w f h1 h2 h3 => h w f (Nat.lt_of_lt_of_le (show w < s.1 - 1 from h1) (Nat.sub_le _ _)) h2 h3
/-- the row that is taken, and its alt -/
theorem TtV.take {E : Nat → Nat → Nat} {n k : Nat} {T V : Nat → Nat} {u : tT} (hT : TtV T k u.1) (hV : WtV V u.2) (hw : u.2.1 ≠ 0) (hk : k < 320) {T9 : Nat → Nat} {a : Nat} (ha : a = tA E n (u.2.2 (u.2.1 - 1) 0) (u.2.2 (u.2.1 - 1) 2) (u.2.2 (u.2.1 - 1) 3) (u.2.2 (u.2.1 - 1) 4)) (hT9 : T9 = up (z_cp V T ((u.2.1 - 1) * 8) (k * 8) 8 2560) (k * 8 + 1) a) : TtV T9 (k + 1) (tSt E n k u).1 := by
  intro q f h1 h2
  show T9 (q * 8 + f) = (if q = k then (fun f => if f = 1 then _ else u.2.2 (u.2.1 - 1) f) else u.1 q) f
  rw [hT9]
  by_cases e : q = k
  · subst e
    rw [if_pos rfl]
    by_cases e1 : f = 1
    · subst e1
      rw [up_s, ha]; rfl
    · show _ = if f = 1 then _ else _
      rw [if_neg e1, up_n (by omega), z_cp_at (by omega) (by omega) (by omega)]
      have := hV (u.2.1 - 1) f (by omega) h2 e1
      rw [← this]
      congr 1
      omega
  · rw [if_neg e, up_n (by omega)]
    rw [← hT q f (by omega) h2]
    unfold z_cp
    rw [if_neg (by omega)]
theorem TtV.cp {k sp : Nat} {T V : Nat → Nat} {g : Nat → Nat → Nat} (hT : TtV T k g) (hk : k < 320) : TtV (z_cp V T sp (k * 8) 8 2560) k g := by
  intro q f h1 h2
  rw [← hT q f h1 h2]
  unfold z_cp
  rw [if_neg (by omega)]
theorem cp_row {k w : Nat} {T V : Nat → Nat} {s : tS} (hV : WtV V s) (hw : w < s.1) (hk : k < 320) {f : Nat} (h2 : f < 8) (h3 : f ≠ 1) : z_cp V T (w * 8) (k * 8) 8 2560 (k * 8 + f) = s.2 w f := by
  rw [z_cp_at (by omega) (by omega) (by omega), ← hV w f hw h2 h3]
  congr 1
  omega
theorem RcI.ce {E : Nat → Nat → Nat} {n y i j d x z : Nat} {R : Nat → Nat} (h : RcI E n y i j d x R) (e : x = z) : RcI E n y i j d z R := e ▸ h
theorem RcI.at0 {E : Nat → Nat → Nat} {n y i j d : Nat} {R : Nat → Nat} (h : RcI E n y i j d 0 R) (hij : i ≤ j) : (R 0).testBit i = tC E n y j d (E 1 y) i := by
  rw [h 0 (Nat.le_refl _) (Nat.zero_le _), decide_eq_true (show i ≤ i ∧ i ≤ j by omega), Bool.true_and, Nat.sub_zero]
theorem tbT {m r : Nat} (h : m / 2 ^ r % 2 ≠ 0) : m.testBit r = true := by
  rw [tb2] at h
  exact ite_ne h
theorem tbF {m r : Nat} (h : m / 2 ^ r % 2 = 0) : m.testBit r = false := by
  rw [tb2] at h
  have := ite_eq0 h
  cases e : m.testBit r with
  | false => rfl
  | true => exact absurd e this
theorem lEp_f1 {E : Nat → Nat → Nat} {W R : Nat → Nat} {d x z p e : Nat} (h : R z / 2 ^ e % 2 = 0) : lEp E W R d x z p e = false := by unfold lEp; rw [tbF h]; rfl
theorem lEp_f2 {E : Nat → Nat → Nat} {W R : Nat → Nat} {d x z p e : Nat} (h : itm E (w3 W) x p e &&& prtN (E 4 x) (2 ^ d) = 0) : lEp E W R d x z p e = false := by unfold lEp; rw [decide_eq_false (fun q => q h), Bool.and_false]
theorem lEp_t {E : Nat → Nat → Nat} {W R : Nat → Nat} {d x z p e : Nat} (h1 : R z / 2 ^ e % 2 ≠ 0) (h : itm E (w3 W) x p e &&& prtN (E 4 x) (2 ^ d) ≠ 0) : lEp E W R d x z p e = true := by unfold lEp; rw [tbT h1, decide_eq_true h]; rfl
theorem srch_nx {p : Nat → Bool} {e j v : Nat} (h : v = srch p e (j + 1 - e)) (he : e ≤ j) (hp : p e = false) : v = srch p (e + 1) (j + 1 - (e + 1)) := by
  rw [h, srch_no (by omega) hp]
  congr 1
theorem tW_yes {E : Nat → Nat → Nat} {n y i j c sz lv k p p2 D : Nat} {s : tS} (h1 : p = tP E n y i j c k) (h2 : p2 = tP E n y i j c (k + 1)) (h3 : D = tD E n (y * 5 + k) p p2 c) (ht : E 2 (y * 5 + k) ≠ NO) (hp : p < p2) : tW E n y i j c sz lv k s = (s.1 + 1, fun w => if w = s.1 then tN (E 2 (y * 5 + k)) p p2 D sz (lv + 1) (E 4 (y * 5 + k)) else s.2 w) := by
  subst h1; subst h2; subst h3
  unfold tW
  rw [if_pos ⟨ht, hp⟩]
theorem tW_no {E : Nat → Nat → Nat} {n y i j c sz lv k : Nat} {s : tS} (h : E 2 (y * 5 + k) = NO ∨ tP E n y i j c (k + 1) ≤ tP E n y i j c k) : tW E n y i j c sz lv k s = s := by
  unfold tW
  rw [if_neg]
  rintro ⟨h1, h2⟩
  rcases h with h | h
  · exact h1 h
  · omega
theorem TrS.of {E : Nat → Nat → Nat} {n c sz : Nat} {T : Nat → Nat} (h1 : ∀ k, k < sz → (tI E n c k).2.1 ≠ 0) (h2 : (tI E n c sz).2.1 = 0) (h3 : TtV T sz (tI E n c sz).1) : TrS E n c sz T := ⟨h1, h2, fun k f hk hf => by rw [Nat.mul_comm]; exact h3 k f hk hf⟩
theorem pow21 {p : Nat} (h : p ≤ 21) : 2 ^ p < 4294967296 := Nat.lt_of_le_of_lt (Nat.pow_le_pow_right (by decide) h) (by decide)
theorem WtV.pu {V : Nat → Nat} {s : tS} {w t i j d ab lv bd : Nat} (h : WtV V s) (hw : w = s.1) : WtV (pu8 V w t i j d ab lv bd) (s.1 + 1, fun w => if w = s.1 then tN t i j d ab lv bd else s.2 w) := by
  subst hw
  exact h.push
theorem WtV.ini {E : Nat → Nat → Nat} {n c v : Nat} {V : Nat → Nat} (hc : 0 < c) (hv : v = wh E n 0 0 c) : WtV (pu8 V 0 0 0 c (lsb v) 4294967295 0 0) (tI E n c 0).2 := by
  have h9 := @WtV.pu V (0, fun _ _ => 0) 0 0 0 c (lsb v) 4294967295 0 0 (fun w f q9 => absurd q9 (Nat.not_lt_zero _)) rfl
  intro w f h1 h2 h3
  have h1 : w < (if 0 < c then 1 else 0) := h1
  rw [if_pos hc] at h1
  obtain rfl : w = 0 := by omega
  rw [h9 0 f h1 h2 h3, hv]
  rfl
