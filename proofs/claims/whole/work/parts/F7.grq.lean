/-! GROWING: all of it, level by level -/
abbrev gS : Type := Nat × Nat × (Nat → Nat) × (Nat → Nat) × (Nat → Nat)
def grL (d : Nat) (s : gS) : Nat := if s.2.1 = 0 then 0 else s.2.2.2.1 (s.2.1 - 1) + if s.2.2.2.2 (s.2.1 - 1) < d then 0 else 1
def grT (ch d : Nat) (s : gS) : Option gS := if s.2.1 = 20 then none else some (s.1, s.2.1 + 1, up s.2.2.1 s.2.1 ch, up s.2.2.2.1 s.2.1 (grL d s), up s.2.2.2.2 s.2.1 d)
def grM (G : Nat → Nat → Nat) (x d : Nat) : Nat := (if G 2 x = NO then A40 else G 5 (G 2 x)) &&& prtN (G 4 x) (2 ^ d)
def grC (m sd : Nat) : Nat := nthC (fun c => m.testBit c) (drV (bc m) sd) 0 40
def grA (G : Nat → Nat → Nat) (r d sd : Nat) : Nat := nthC (fun b => (G 6 (r * 4 + b)).testBit d) (drV (cnt (fun b => (G 6 (r * 4 + b)).testBit d) (G 0 r)) sd) 0 (G 0 r)
def grI (G : Nat → Nat → Nat) (nx : Nat → Nat → gS → Option gS) (x d : Nat) (s : gS) : Option gS := if G 2 x = NO then grT (G 3 x) (grC (grM G x d) s.1) (drN s.1, s.2) else nx (G 2 x) (grC (grM G x d) s.1) (drN s.1, s.2)
def grK (f : Nat → gS → Option gS) : Nat → Nat → gS → Option gS
  | _, 0, s => some s
  | k, m + 1, s => (f k s).bind (fun t => grK f (k + 1) m t)
def grN (G : Nat → Nat → Nat) : Nat → (Nat → Nat → gS → Option gS)
  | 0 => fun _ _ _ => none
  | u + 1 => fun r d s => grK (fun k t => grI G (grN G u) ((r * 4 + grA G r d s.1) * 5 + k) d t) 0 (G 1 (r * 4 + grA G r d s.1)) (drN s.1, s.2)
theorem grK_0 {f : Nat → gS → Option gS} {k m : Nat} {s : gS} (h : m = 0) : grK f k m s = some s := by rw [h, grK]
theorem grK_no {f : Nat → gS → Option gS} {k m : Nat} {s : gS} (h : 0 < m) (h1 : f k s = none) : grK f k m s = none := by
  match m, h with
  | m + 1, _ => rw [grK, h1]; rfl
theorem grK_s {f : Nat → gS → Option gS} {k m : Nat} {s t : gS} (h : 0 < m) (h1 : f k s = some t) : grK f k m s = grK f (k + 1) (m - 1) t := by
  match m, h with
  | m + 1, _ => rw [grK, h1]; rfl
/-- a state that is well made -/
def grW (s : gS) : Prop := s.1 < 1000003 ∧ s.2.1 ≤ 20 ∧ (∀ q, q < s.2.1 → (33 ≤ s.2.2.1 q ∧ s.2.2.1 q ≤ 126) ∧ s.2.2.2.1 q ≤ q ∧ s.2.2.2.2 q < 40) ∧ Srt s.2.1 s.2.2.2.1 s.2.2.2.2
theorem grW.dr {s : gS} (h : grW s) : grW (drN s.1, s.2) := ⟨drN_lt _, h.2.1, h.2.2.1, h.2.2.2⟩
theorem grL_le {s : gS} {d : Nat} (h : grW s) : grL d s ≤ s.2.1 := by
  unfold grL
  by_cases e : s.2.1 = 0
  · rw [if_pos e]; exact Nat.zero_le _
  · rw [if_neg e]
    have h1 := (h.2.2.1 (s.2.1 - 1) (by omega)).2.1
    split <;> omega
theorem grT_w {s t : gS} {ch d : Nat} (h : grW s) (hc : 33 ≤ ch ∧ ch ≤ 126) (hd : d < 40) (ht : grT ch d s = some t) : grW t := by
  unfold grT at ht
  by_cases e : s.2.1 = 20
  · rw [if_pos e] at ht; cases ht
  · rw [if_neg e] at ht
    have h1 := Option.some.inj ht
    subst h1
    have h2 := h.2.1
    refine ⟨h.1, by show s.2.1 + 1 ≤ 20; omega, fun q hq => ?_, fun a b hab hb => ?_⟩
    · show (33 ≤ up s.2.2.1 s.2.1 ch q ∧ up s.2.2.1 s.2.1 ch q ≤ 126) ∧ up s.2.2.2.1 s.2.1 (grL d s) q ≤ q ∧ up s.2.2.2.2 s.2.1 d q < 40
      by_cases eq : q = s.2.1
      · rw [eq, up_s, up_s, up_s]; exact ⟨hc, grL_le h, hd⟩
      · rw [up_n eq, up_n eq, up_n eq]; exact h.2.2.1 q (by have : q < s.2.1 + 1 := hq; omega)
    · show up s.2.2.2.1 s.2.1 (grL d s) a < up s.2.2.2.1 s.2.1 (grL d s) b ∨ (up s.2.2.2.1 s.2.1 (grL d s) a = up s.2.2.2.1 s.2.1 (grL d s) b ∧ up s.2.2.2.2 s.2.1 d a < up s.2.2.2.2 s.2.1 d b)
      have hb1 : b < s.2.1 + 1 := hb
      have ea : a ≠ s.2.1 := by omega
      by_cases eb : b = s.2.1
      · rw [eb, up_s, up_s, up_n ea, up_n ea]
        have hL : grL d s = s.2.2.2.1 (s.2.1 - 1) + if s.2.2.2.2 (s.2.1 - 1) < d then 0 else 1 := by unfold grL; rw [if_neg (by omega)]
        rw [hL]
        by_cases e1 : a = s.2.1 - 1
        · rw [e1]; split <;> omega
        · have h3 := h.2.2.2 a (s.2.1 - 1) (by omega) (by omega)
          split <;> omega
      · rw [up_n ea, up_n eb, up_n ea, up_n eb]; exact h.2.2.2 a b hab (by omega)
theorem nthC_lt (p : Nat → Bool) : ∀ (n l i : Nat), nthC p l i n = 0 ∨ (i ≤ nthC p l i n ∧ nthC p l i n < i + n)
  | 0, l, i => Or.inl (by rw [nthC])
  | n + 1, l, i => by
    rw [nthC]
    by_cases h1 : p i = true
    · rw [if_pos h1]
      by_cases h2 : l = 0
      · rw [if_pos h2]; exact Or.inr ⟨Nat.le_refl _, by omega⟩
      · rw [if_neg h2]
        rcases nthC_lt p n (l - 1) (i + 1) with q | q
        · exact Or.inl q
        · exact Or.inr ⟨by omega, by omega⟩
    · rw [if_neg h1]
      rcases nthC_lt p n l (i + 1) with q | q
      · exact Or.inl q
      · exact Or.inr ⟨by omega, by omega⟩
theorem nthC_lt0 {p : Nat → Bool} {n l : Nat} (h : 0 < n) : nthC p l 0 n < n := by
  rcases nthC_lt p n l 0 with q | q <;> omega
theorem grC_lt (m sd : Nat) : grC m sd < 40 := nthC_lt0 (by decide)
theorem grA_lt {G : Nat → Nat → Nat} {r d sd : Nat} (h : 1 ≤ G 0 r) : grA G r d sd < G 0 r := nthC_lt0 h
/-- how many there are from i on -/
def cnf (p : Nat → Bool) : Nat → Nat → Nat
  | _, 0 => 0
  | i, n + 1 => (if p i = true then 1 else 0) + cnf p (i + 1) n
theorem cnf_cnt (p : Nat → Bool) : ∀ (n i : Nat), cnt p (i + n) = cnt p i + cnf p i n
  | 0, i => by rw [cnf]; rfl
  | n + 1, i => by
    rw [cnf, show i + (n + 1) = i + 1 + n by omega, cnf_cnt p n (i + 1), cnt]
    omega
theorem cnf_0 (p : Nat → Bool) (n : Nat) : cnf p 0 n = cnt p n := by
  have h := cnf_cnt p n 0
  rw [Nat.zero_add] at h
  rw [h, cnt, Nat.zero_add]
theorem cnf_pos {p : Nat → Bool} {l i n : Nat} (h : l < cnf p i n) : 0 < n := by
  match n, h with
  | 0, h => rw [cnf] at h; omega
  | n + 1, _ => omega
theorem cnf_yes {p : Nat → Bool} {i n : Nat} (hn : 0 < n) (hp : p i = true) : cnf p i n = 1 + cnf p (i + 1) (n - 1) := by
  match n, hn with
  | n + 1, _ => rw [cnf, if_pos hp]; rfl
theorem cnf_not {p : Nat → Bool} {i n : Nat} (hn : 0 < n) (hp : ¬ p i = true) : cnf p i n = cnf p (i + 1) (n - 1) := by
  match n, hn with
  | n + 1, _ => rw [cnf, if_neg hp, Nat.zero_add]; rfl
theorem nthC_in {p : Nat → Bool} : ∀ {n l i : Nat}, l < cnf p i n → p (nthC p l i n) = true ∧ i ≤ nthC p l i n ∧ nthC p l i n < i + n
  | 0, l, i, h => by rw [cnf] at h; omega
  | n + 1, l, i, h => by
    rw [cnf] at h
    rw [nthC]
    by_cases h1 : p i = true
    · rw [if_pos h1] at h
      rw [if_pos h1]
      by_cases h2 : l = 0
      · rw [if_pos h2]; exact ⟨h1, Nat.le_refl _, by omega⟩
      · rw [if_neg h2]
        have h3 := nthC_in (p := p) (n := n) (l := l - 1) (i := i + 1) (by omega)
        exact ⟨h3.1, by omega, by omega⟩
    · rw [if_neg h1] at h
      rw [if_neg h1]
      have h3 := nthC_in (p := p) (n := n) (l := l) (i := i + 1) (by omega)
      exact ⟨h3.1, by omega, by omega⟩
theorem drV_m {m s : Nat} (h : 0 < m) : drV m s < m := by unfold drV; rw [if_pos h]; exact Nat.mod_lt _ h
theorem bc_pos {m : Nat} (h0 : m ≠ 0) (hm : m < 1099511627776) : 0 < bc m := by have := bc_clear h0 hm; omega
theorem grC_in {m sd : Nat} (h0 : m ≠ 0) (hm : m < 1099511627776) : m.testBit (grC m sd) = true := (nthC_in (p := fun c => m.testBit c) (i := 0) (n := 40) (l := drV (bc m) sd) (by rw [cnf_0]; exact drV_m (bc_pos h0 hm))).1
/-- how the columns are walked from the least one on -/
def grV (m res l d : Nat) : Prop := (l = 0 → res = d) ∧ (0 < l → res = nthC (fun c => m.testBit c) (l - 1) (d + 1) (40 - (d + 1)) ∧ l - 1 < cnf (fun c => m.testBit c) (d + 1) (40 - (d + 1)))
theorem nthC_low {p : Nat → Bool} {l : Nat} : ∀ {n e i : Nat}, e ≤ n → (∀ q, i ≤ q → q < i + e → p q = false) → nthC p l i n = nthC p l (i + e) (n - e) ∧ cnf p i n = cnf p (i + e) (n - e)
  | n, 0, i, _, _ => ⟨rfl, rfl⟩
  | n, e + 1, i, he, h => by
    have h1 := nthC_low (p := p) (l := l) (n := n - 1) (e := e) (i := i + 1) (by omega) (fun q q1 q2 => h q (by omega) (by omega))
    have h2 : ¬ p i = true := by rw [h i (Nat.le_refl _) (by omega)]; decide
    rw [nthC_no (by omega) h2, cnf_not (by omega) h2, h1.1, h1.2, show i + 1 + e = i + (e + 1) by omega, show n - 1 - e = n - (e + 1) by omega]
    exact ⟨rfl, rfl⟩
theorem grV_start {m l : Nat} (h0 : m ≠ 0) (hm : m < 1099511627776) (hl : l < bc m) : grV m (nthC (fun c => m.testBit c) l 0 40) l (lsb m) := by
  obtain ⟨h1, h2, h3⟩ := lsb_sp h0 hm
  obtain ⟨h4, h5⟩ := nthC_low (p := fun c => m.testBit c) (l := l) (n := 40) (e := lsb m) (i := 0) (by omega) (fun q _ q2 => h3 q (by omega))
  rw [Nat.zero_add] at h4 h5
  have h6 : cnf (fun c => m.testBit c) (lsb m) (40 - lsb m) = 1 + cnf (fun c => m.testBit c) (lsb m + 1) (40 - lsb m - 1) := cnf_yes (by omega) h2
  have h7 : bc m = cnf (fun c => m.testBit c) (lsb m) (40 - lsb m) := by rw [← h5, cnf_0]; rfl
  refine ⟨fun e => ?_, fun e => ?_⟩
  · rw [h4]; exact nthC_hit (by omega) h2 e
  · refine ⟨?_, ?_⟩
    · rw [h4, nthC_nx (by omega) h2 (by omega), show 40 - lsb m - 1 = 40 - (lsb m + 1) by omega]
    · rw [show 40 - (lsb m + 1) = 40 - lsb m - 1 by omega]; omega
theorem grV.lt {m res l d : Nat} (h : grV m res l d) (hl : 0 < l) : d + 1 < 40 := by
  have := cnf_pos (h.2 hl).2
  omega
theorem grV.yes {m res l d : Nat} (h : grV m res l d) (hl : 0 < l) (hp : m.testBit (d + 1) = true) : grV m res (l - 1) (d + 1) := by
  obtain ⟨h1, h2⟩ := h.2 hl
  have h3 := h.lt hl
  have h4 : cnf (fun c => m.testBit c) (d + 1) (40 - (d + 1)) = 1 + cnf (fun c => m.testBit c) (d + 1 + 1) (40 - (d + 1) - 1) := cnf_yes (by omega) hp
  refine ⟨fun e => ?_, fun e => ⟨?_, ?_⟩⟩
  · rw [h1]; exact nthC_hit (by omega) hp e
  · rw [h1, nthC_nx (by omega) hp (by omega), show 40 - (d + 1) - 1 = 40 - (d + 1 + 1) by omega]
  · rw [show 40 - (d + 1 + 1) = 40 - (d + 1) - 1 by omega]; omega
theorem grV.no {m res l d : Nat} (h : grV m res l d) (hl : 0 < l) (hp : ¬ m.testBit (d + 1) = true) : grV m res l (d + 1) := by
  obtain ⟨h1, h2⟩ := h.2 hl
  have h3 := h.lt hl
  have h4 : cnf (fun c => m.testBit c) (d + 1) (40 - (d + 1)) = cnf (fun c => m.testBit c) (d + 1 + 1) (40 - (d + 1) - 1) := cnf_not (by omega) hp
  refine ⟨fun e => by omega, fun e => ⟨?_, ?_⟩⟩
  · rw [h1, nthC_no (by omega) hp, show 40 - (d + 1) - 1 = 40 - (d + 1 + 1) by omega]
  · rw [show 40 - (d + 1 + 1) = 40 - (d + 1) - 1 by omega]; omega
/-- the columns of an item are some, if its alt can stand there -/
theorem grM_ne {n : Nat} {al_ it pt tg bd fr af : Nat → Nat} {x d : Nat} (hd : d < 40) (hfr : ∀ r, r < n → fr r < 1099511627776) (htg : tg x ≠ NO → tg x < n) (h : (frI tg bd fr x).testBit d = true) : grM (gE al_ it tg pt bd fr af) x d ≠ 0 := by
  have hm : (if tg x = NO then A40 else fr (tg x)) < 2 ^ 40 := by
    split
    · decide
    · rename_i e; exact hfr _ (htg e)
  obtain ⟨-, c, h1, h2⟩ := (letsN_bit hm d).mp h
  intro e0
  have hc : c < 40 := bit_lt40 hm h1
  have h3 : (grM (gE al_ it tg pt bd fr af) x d).testBit c = true := by
    show ((if tg x = NO then A40 else fr (tg x)) &&& prtN (bd x) (2 ^ d)).testBit c = true
    rw [Nat.testBit_and, h1, Bool.true_and, prtN_bit (Nat.pow_lt_pow_right (by decide) hd)]
    exact ⟨hc, d, Nat.testBit_two_pow_self, h2⟩
  rw [e0] at h3
  simp at h3
theorem grM_lt {G : Nat → Nat → Nat} {x d : Nat} (hd : d < 40) : grM G x d < 1099511627776 := by
  unfold grM
  rw [Nat.and_comm]
  exact and_lt40 (prtN_lt (Nat.pow_lt_pow_right (by decide) hd))
theorem grM_in {G : Nat → Nat → Nat} {x d c : Nat} (ht : G 2 x ≠ NO) (h : (grM G x d).testBit c = true) : (G 5 (G 2 x)).testBit c = true := by
  unfold grM at h
  rw [if_neg ht, Nat.testBit_and, Bool.and_eq_true] at h
  exact h.1
/-! how it stands in the cells of the class -/
def grH (M : zM) (L : Nat) (s : gS) (sg li co : Nat → Nat) : Prop := M[45]? = some (.inr (2, [.ref 46, .ref 16, .int (nI s.1)])) ∧ Seg M 46 (tokL 46 (s.2.1, sg, li, co)) ∧ SafeT s.2.1 sg li co ∧ (∀ q, li q < L) ∧ (∀ q, q < s.2.1 → sg q = s.2.2.1 q ∧ li q = s.2.2.2.1 q ∧ co q = s.2.2.2.2 q) ∧ grW s
def grP (Mq : zM) (L : Nat) (res : Option gS) (r9 : Option Value) (M1 : zM) : Prop := (∃ t sg li co, res = some t ∧ r9 = some (.int 1) ∧ grH M1 L t sg li co ∧ Sm Mq M1 [45, 46, 47, 48, 49]) ∨ ∃ t sg li co, res = none ∧ r9 = some (.int 0) ∧ grH M1 L t sg li co ∧ Sm Mq M1 [45, 46, 47, 48, 49]
theorem grH_add {M1 : zM} {L : Nat} {s : gS} {sg li co : Nat → Nat} {ch d : Nat} (hW : grW s) (hS : SafeT s.2.1 sg li co) (hl : ∀ q, li q < L) (hq : ∀ q, q < s.2.1 → sg q = s.2.2.1 q ∧ li q = s.2.2.2.1 q ∧ co q = s.2.2.2.2 q) (hL : 240 < L) (hc : 33 ≤ ch ∧ ch ≤ 126) (hd : d < 40) (h20 : s.2.1 < 20) (h45 : M1[45]? = some (.inr (2, [.ref 46, .ref 16, .int (nI s.1)]))) (h46 : Seg M1 46 (tokL 46 (s.2.1 + 1, up sg s.2.1 ch, up li s.2.1 (if s.2.1 = 0 then 0 else li (s.2.1 - 1) + if co (s.2.1 - 1) < d then 0 else 1), up co s.2.1 d))) : ∃ t, grT ch d s = some t ∧ grH M1 L t (up sg s.2.1 ch) (up li s.2.1 (if s.2.1 = 0 then 0 else li (s.2.1 - 1) + if co (s.2.1 - 1) < d then 0 else 1)) (up co s.2.1 d) := by
  have e : (if s.2.1 = 0 then 0 else li (s.2.1 - 1) + if co (s.2.1 - 1) < d then 0 else 1) = grL d s := by
    unfold grL
    by_cases e0 : s.2.1 = 0
    · rw [if_pos e0, if_pos e0]
    · rw [if_neg e0, if_neg e0, (hq (s.2.1 - 1) (by omega)).2.1, (hq (s.2.1 - 1) (by omega)).2.2]
  rw [e] at h46 ⊢
  have hg := grL_le (d := d) hW
  have ht : grT ch d s = some (s.1, s.2.1 + 1, up s.2.2.1 s.2.1 ch, up s.2.2.2.1 s.2.1 (grL d s), up s.2.2.2.2 s.2.1 d) := by unfold grT; rw [if_neg (by omega)]
  refine ⟨_, ht, h45, h46, ⟨by show s.2.1 + 1 ≤ 20; omega, up_sg hS.2.1 ⟨by omega, by omega⟩, up_lt hS.2.2.1 (by omega), up_lt hS.2.2.2 hd⟩, up_lt hl (by omega), fun q hq1 => ?_, grT_w hW hc hd ht⟩
  have hq2 : q < s.2.1 + 1 := hq1
  show up sg s.2.1 ch q = up s.2.2.1 s.2.1 ch q ∧ up li s.2.1 (grL d s) q = up s.2.2.2.1 s.2.1 (grL d s) q ∧ up co s.2.1 d q = up s.2.2.2.2 s.2.1 d q
  by_cases eq : q = s.2.1
  · rw [eq, up_s, up_s, up_s, up_s, up_s, up_s]; exact ⟨rfl, rfl, rfl⟩
  · rw [up_n eq, up_n eq, up_n eq, up_n eq, up_n eq, up_n eq]; exact hq q (by omega)
theorem grM_no {G : Nat → Nat → Nat} {x d : Nat} (hd : d < 40) (h : G 2 x = NO) : prtN (G 4 x) (2 ^ d) = grM G x d := by
  unfold grM
  rw [if_pos h]
  apply Nat.eq_of_testBit_eq
  intro c
  rw [Nat.testBit_and]
  by_cases hc : (prtN (G 4 x) (2 ^ d)).testBit c = true
  · have h1 : c < 40 := ((prtN_bit (Nat.pow_lt_pow_right (by decide) hd) c).mp hc).1
    rw [hc, show (A40).testBit c = true from (Nat.testBit_two_pow_sub_one 40 c).trans (decide_eq_true h1)]; rfl
  · rw [Bool.eq_false_iff.mpr hc, Bool.and_false]
theorem grM_nn {G : Nat → Nat → Nat} {x d : Nat} (h : G 2 x ≠ NO) : prtN (G 4 x) (2 ^ d) &&& G 5 (G 2 x) = grM G x d := by
  unfold grM
  rw [if_neg h, Nat.and_comm]
/-- growing from a seed -/
def grR (G : Nat → Nat → Nat) (n x : Nat) : Option gS := if n = 0 ∨ G 5 0 = 0 then none else grN G 31 0 (grC (G 5 0) x) (drN x, 0, fun _ => 0, fun _ => 0, fun _ => 0)
theorem grW_0 (x : Nat) : grW (drN x, 0, fun _ => 0, fun _ => 0, fun _ => 0) := ⟨drN_lt _, Nat.zero_le _, fun q hq => absurd hq (Nat.not_lt_zero _), fun a b _ h2 => absurd h2 (Nat.not_lt_zero _)⟩
theorem ActS.bas {f f0 f9 : Nat → Nat → Nat} (h : ActS f0 f9) (hf : ∀ a, a < 45 ∨ 49 < a → f0 a = f a) : ActS f f9 := by
  obtain ⟨⟨a1, a2, a3, a4⟩, a5, a6, a7, a8⟩ := h
  rw [hf 0 (by omega)] at a1
  rw [hf 1 (by omega)] at a2
  rw [hf 50 (by omega)] at a5 a6 a7 a8
  rw [hf 26 (by omega), hf 27 (by omega), hf 28 (by omega), hf 29 (by omega)] at a7
  exact ⟨⟨a1, a2, fun a h1 h2 => (a3 a h1 h2).trans (hf a (by omega)), fun a h1 h2 => (a4 a h1 h2).trans (hf a (by omega))⟩, a5, a6, a7, fun k j h1 h2 h3 => (a8 k j h1 h2 h3).trans (hf _ (by omega))⟩
theorem TOK.grown {L : Nat} {t : gS} {sg li co : Nat → Nat} (hW : grW t) (hS : SafeT t.2.1 sg li co) (hl : ∀ q, li q < L) (hq : ∀ q, q < t.2.1 → sg q = t.2.2.1 q ∧ li q = t.2.2.2.1 q ∧ co q = t.2.2.2.2 q) : TOK L t.2.1 sg li co := ⟨hS, hl, fun q h => by rw [(hq q h).1]; exact (hW.2.2.1 q h).1, fun a b h1 h2 => by
  rw [(hq a (by omega)).2.1, (hq b h2).2.1, (hq a (by omega)).2.2, (hq b h2).2.2]
  exact hW.2.2.2 a b h1 h2⟩
