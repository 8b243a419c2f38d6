/-! PATHS: a rule's columns over i up to q by the ends of its items -/
/-- the ends of the first K items: from i, rising, each item there at column c -/
def Pth (E : Nat → Nat → Nat) (W : Nat → Nat → Nat → Nat) (i a c : Nat) (K q : Nat) (f : Nat → Nat) : Prop := f 0 = i ∧ f K = q ∧ ∀ k, k < K → f k ≤ f (k + 1) ∧ (letsN (E 4 (a * 5 + k)) (itm E W (a * 5 + k) (f k) (f (k + 1)))).testBit c = true
theorem rch_path (E : Nat → Nat → Nat) (W : Nat → Nat → Nat → Nat) (i a c : Nat) : ∀ (K q : Nat), (rch E W i a K q).testBit c = true ↔ c < 40 ∧ ∃ f, Pth E W i a c K q f
  | 0, q => by
    rw [rch]
    constructor
    · intro h
      by_cases e : q = i
      · rw [if_pos e, show A40 = 2 ^ 40 - 1 by decide, Nat.testBit_two_pow_sub_one, decide_eq_true_eq] at h
        exact ⟨h, fun _ => i, rfl, e.symm, fun k hk => by omega⟩
      · rw [if_neg e] at h; simp at h
    · rintro ⟨h, f, h0, hK, -⟩
      rw [if_pos (hK.symm.trans h0), show A40 = 2 ^ 40 - 1 by decide, Nat.testBit_two_pow_sub_one, decide_eq_true_eq]
      exact h
  | K + 1, q => by
    rw [rch, orR_bit]
    constructor
    · rintro ⟨p, h1, h2, h3⟩
      rw [Nat.testBit_and, Bool.and_eq_true, rch_path E W i a c K p] at h3
      obtain ⟨⟨hc, f, f0, fK, fs⟩, h4⟩ := h3
      refine ⟨hc, fun x => if x = K + 1 then q else f x, ?_, ?_, fun k hk => ?_⟩
      · exact (if_neg (show ¬ (0 : Nat) = K + 1 by omega)).trans f0
      · exact if_pos rfl
      · by_cases e : k = K
        · subst e
          have e1 : (fun x => if x = k + 1 then q else f x) k = p := (if_neg (show ¬ k = k + 1 by omega)).trans fK
          have e2 : (fun x => if x = k + 1 then q else f x) (k + 1) = q := if_pos rfl
          rw [e1, e2]
          exact ⟨by omega, h4⟩
        · simp only [if_neg (show ¬ k = K + 1 by omega), if_neg (show ¬ k + 1 = K + 1 by omega)]
          exact fs k (by omega)
    · rintro ⟨hc, f, f0, fK, fs⟩
      have hmon : ∀ k, k ≤ K → i ≤ f k := by
        intro k
        induction k with
        | zero => intro _; omega
        | succ k ih => intro hk; have := (fs k (by omega)).1; have := ih (by omega); omega
      obtain ⟨g1, g2⟩ := fs K (by omega)
      rw [fK] at g1 g2
      refine ⟨f K, hmon K (Nat.le_refl _), by omega, ?_⟩
      rw [Nat.testBit_and, Bool.and_eq_true, rch_path E W i a c K (f K)]
      exact ⟨⟨hc, f, f0, rfl, fun k hk => fs k (by omega)⟩, g2⟩
theorem Pth.mono {E : Nat → Nat → Nat} {W : Nat → Nat → Nat → Nat} {i a c K q : Nat} {f : Nat → Nat} (h : Pth E W i a c K q f) {x y : Nat} (hxy : x ≤ y) (hy : y ≤ K) : f x ≤ f y := by
  induction y with
  | zero => have : x = 0 := by omega
            rw [this]; exact Nat.le_refl _
  | succ y ih =>
    by_cases e : x = y + 1
    · rw [e]; exact Nat.le_refl _
    · exact Nat.le_trans (ih (by omega) (by omega)) (h.2.2 y (by omega)).1
/-- W with other columns over one span -/
def setS (W : Nat → Nat → Nat → Nat) (i j : Nat) (V : Nat → Nat) : Nat → Nat → Nat → Nat := fun r p q => if p = i ∧ q = j then V r else W r p q
theorem setS_at (W : Nat → Nat → Nat → Nat) (i j : Nat) (V : Nat → Nat) (r : Nat) : setS W i j V r i j = V r := if_pos ⟨rfl, rfl⟩
theorem setS_ne {W : Nat → Nat → Nat → Nat} {i j : Nat} {V : Nat → Nat} {r p q : Nat} (h : ¬ (p = i ∧ q = j)) : setS W i j V r p q = W r p q := if_neg h
/-- r comes to t over the same tokens: all other items of an alt can be empty -/
def edg (E : Nat → Nat → Nat) (emp : Nat → Prop) (r t : Nat) : Prop := ∃ a, a < E 0 r ∧ ∃ k, k < E 1 (r * 4 + a) ∧ E 2 ((r * 4 + a) * 5 + k) = t ∧ t ≠ NO ∧ ∀ k', k' < E 1 (r * 4 + a) → k' ≠ k → E 2 ((r * 4 + a) * 5 + k') ≠ NO ∧ emp (E 2 ((r * 4 + a) * 5 + k'))
theorem bit_lets_ne {b m c : Nat} (h : (letsN b m).testBit c = true) : m ≠ 0 := fun e => by rw [e, letsN_0] at h; simp at h
theorem fR_bit (E : Nat → Nat → Nat) (W : Nat → Nat → Nat → Nat) (r i j c : Nat) : (fR E W r i j).testBit c = true ↔ ∃ a, a < E 0 r ∧ c < 40 ∧ ∃ f, Pth E W i (r * 4 + a) c (E 1 (r * 4 + a)) j f := by
  unfold fR
  rw [orR_bit]
  constructor
  · rintro ⟨a, -, h2, h3⟩
    rw [rch_path] at h3
    exact ⟨a, by omega, h3⟩
  · rintro ⟨a, h1, h2⟩
    exact ⟨a, Nat.zero_le _, by omega, (rch_path ..).mpr h2⟩
/-- only what r comes to counts over the same tokens -/
theorem fR_local1 {E : Nat → Nat → Nat} {W : Nat → Nat → Nat → Nat} {emp : Nat → Prop} {V V' : Nat → Nat} {r i j : Nat} (hW : ∀ t p, ¬ (p = i ∧ p = j) → W t p p ≠ 0 → emp t) (hV : i = j → ∀ t, V t ≠ 0 → emp t) (he : ∀ t, edg E emp r t → V t = V' t) : bitsub (fR E (setS W i j V) r i j) (fR E (setS W i j V') r i j) := by
  intro c hc
  obtain ⟨a, ha, hc4, f, hf⟩ := (fR_bit ..).mp hc
  refine (fR_bit ..).mpr ⟨a, ha, hc4, f, hf.1, hf.2.1, fun k hk => ⟨(hf.2.2 k hk).1, ?_⟩⟩
  have h0 := hf.2.2 k hk
  -- an item over no tokens at a place that isn't the span can be empty
  have hemp : ∀ k', k' < E 1 (r * 4 + a) → f k' = f (k' + 1) → E 2 ((r * 4 + a) * 5 + k') ≠ NO ∧ emp (E 2 ((r * 4 + a) * 5 + k')) := by
    intro k' hk' e'
    have h1 := bit_lets_ne (hf.2.2 k' hk').2
    rw [← e'] at h1
    unfold itm at h1
    by_cases q : E 2 ((r * 4 + a) * 5 + k') = NO
    · rw [if_pos q, if_neg (by omega)] at h1
      exact absurd rfl h1
    · rw [if_neg q] at h1
      refine ⟨q, ?_⟩
      by_cases q2 : f k' = i ∧ f k' = j
      · rw [show setS W i j V (E 2 ((r * 4 + a) * 5 + k')) (f k') (f k') = V (E 2 ((r * 4 + a) * 5 + k')) from if_pos q2] at h1
        exact hV (q2.1.symm.trans q2.2) _ h1
      · rw [setS_ne q2] at h1
        exact hW _ _ q2 h1
  by_cases hs : f k = i ∧ f (k + 1) = j
  · have h2 := h0.2
    unfold itm at h2 ⊢
    by_cases q : E 2 ((r * 4 + a) * 5 + k) = NO
    · rw [if_pos q] at h2 ⊢
      exact h2
    · rw [if_neg q] at h2 ⊢
      rw [hs.1, hs.2, setS_at] at h2 ⊢
      rw [← he _ ⟨a, ha, k, hk, rfl, q, fun k' hk' hne => ?_⟩]
      · exact h2
      · apply hemp k' hk'
        rcases Nat.lt_or_ge k' k with hlt | hge
        · have m1 := hf.mono (Nat.zero_le k') (by omega)
          have m2 := hf.mono (show k' + 1 ≤ k by omega) (by omega)
          have m3 := hf.mono (show k' ≤ k' + 1 by omega) (by omega)
          rw [hf.1] at m1
          omega
        · have m1 := hf.mono (show k + 1 ≤ k' by omega) (by omega)
          have m2 := hf.mono (show k' + 1 ≤ E 1 (r * 4 + a) by omega) (Nat.le_refl _)
          have m3 := hf.mono (show k' ≤ k' + 1 by omega) (by omega)
          rw [hf.2.1] at m2
          omega
  · have h2 := h0.2
    unfold itm at h2 ⊢
    by_cases q : E 2 ((r * 4 + a) * 5 + k) = NO
    · rw [if_pos q] at h2 ⊢
      exact h2
    · rw [if_neg q] at h2 ⊢
      rw [setS_ne hs] at h2 ⊢
      exact h2
theorem fR_local {E : Nat → Nat → Nat} {W : Nat → Nat → Nat → Nat} {emp : Nat → Prop} {V V' : Nat → Nat} {r i j : Nat} (hW : ∀ t p, ¬ (p = i ∧ p = j) → W t p p ≠ 0 → emp t) (hV : i = j → ∀ t, V t ≠ 0 → emp t) (hV' : i = j → ∀ t, V' t ≠ 0 → emp t) (he : ∀ t, edg E emp r t → V t = V' t) : fR E (setS W i j V) r i j = fR E (setS W i j V') r i j :=
  bs_eq (fR_local1 hW hV he) (fR_local1 hW hV' (fun t h => (he t h).symm))
/-- emp is closed -/
def empCl (E : Nat → Nat → Nat) (n : Nat) (emp : Nat → Prop) : Prop := ∀ r, r < n → (∃ a, a < E 0 r ∧ ∀ k, k < E 1 (r * 4 + a) → E 2 ((r * 4 + a) * 5 + k) ≠ NO ∧ emp (E 2 ((r * 4 + a) * 5 + k))) → emp r
theorem fR_emp {E : Nat → Nat → Nat} {W : Nat → Nat → Nat → Nat} {emp : Nat → Prop} {n i : Nat} {V : Nat → Nat} (hc : empCl E n emp) (hV : ∀ t, V t ≠ 0 → emp t) {r : Nat} (hr : r < n) (h : fR E (setS W i i V) r i i ≠ 0) : emp r := by
  obtain ⟨c, hb⟩ := Nat.exists_testBit_of_ne_zero h
  obtain ⟨a, ha, -, f, hf⟩ := (fR_bit ..).mp hb
  refine hc r hr ⟨a, ha, fun k hk => ?_⟩
  have m1 := hf.mono (Nat.zero_le k) (by omega)
  have m2 := hf.mono (show k + 1 ≤ E 1 (r * 4 + a) by omega) (Nat.le_refl _)
  have m3 := hf.mono (show k ≤ k + 1 by omega) (by omega)
  rw [hf.1] at m1
  rw [hf.2.1] at m2
  have h1 := bit_lets_ne (hf.2.2 k hk).2
  rw [show f k = i by omega, show f (k + 1) = i by omega] at h1
  unfold itm at h1
  by_cases q : E 2 ((r * 4 + a) * 5 + k) = NO
  · rw [if_pos q, if_neg (by omega)] at h1
    exact absurd rfl h1
  · rw [if_neg q, setS_at] at h1
    exact ⟨q, hV _ h1⟩
/-- the columns over a span, by so many steps -/
def sf (E : Nat → Nat → Nat) (n : Nat) (W : Nat → Nat → Nat → Nat) (i j : Nat) : Nat → Nat → Nat
  | 0, _ => 0
  | f + 1, r => if r < n then fR E (setS W i j (sf E n W i j f)) r i j else 0
theorem sf_emp {E : Nat → Nat → Nat} {W : Nat → Nat → Nat → Nat} {emp : Nat → Prop} {n i : Nat} (hc : empCl E n emp) : ∀ (f r : Nat), sf E n W i i f r ≠ 0 → emp r
  | 0, r, h => absurd rfl h
  | f + 1, r, h => by
    rw [sf] at h
    by_cases q : r < n
    · rw [if_pos q] at h
      exact fR_emp hc (fun t ht => sf_emp hc f t ht) q h
    · rw [if_neg q] at h
      exact absurd rfl h
/-- what a grammar without rounds has: a rank that falls along edges -/
def Rank (E : Nat → Nat → Nat) (n : Nat) (emp : Nat → Prop) (rk : Nat → Nat) : Prop := ∀ r, r < n → rk r < n ∧ ∀ t, edg E emp r t → t < n ∧ rk t < rk r
theorem sf_stable {E : Nat → Nat → Nat} {W : Nat → Nat → Nat → Nat} {emp : Nat → Prop} {rk : Nat → Nat} {n i j : Nat} (hc : empCl E n emp) (hk : Rank E n emp rk) (hW : ∀ t p, ¬ (p = i ∧ p = j) → W t p p ≠ 0 → emp t) : ∀ (m r : Nat), r < n → rk r ≤ m → ∀ f g, rk r < f → rk r < g → sf E n W i j f r = sf E n W i j g r := by
  intro m
  induction m with
  | zero =>
    intro r hr hm f g hf hg
    match f, g, hf, hg with
    | f + 1, g + 1, _, _ =>
      rw [sf, sf, if_pos hr, if_pos hr]
      refine fR_local (emp := emp) hW (fun e t ht => ?_) (fun e t ht => ?_) (fun t ht => ?_)
      · subst e; exact sf_emp hc f t ht
      · subst e; exact sf_emp hc g t ht
      · have := ((hk r hr).2 t ht).2; omega
  | succ m ih =>
    intro r hr hm f g hf hg
    match f, g, hf, hg with
    | f + 1, g + 1, hf, hg =>
      rw [sf, sf, if_pos hr, if_pos hr]
      refine fR_local (emp := emp) hW (fun e t ht => ?_) (fun e t ht => ?_) (fun t ht => ?_)
      · subst e; exact sf_emp hc f t ht
      · subst e; exact sf_emp hc g t ht
      · obtain ⟨h1, h2⟩ := (hk r hr).2 t ht
        exact ih t h1 (by omega) f g (by omega) (by omega)
/-- THE COLUMNS over a span, those over shorter ones being given -/
def sF (E : Nat → Nat → Nat) (n : Nat) (W : Nat → Nat → Nat → Nat) (i j r : Nat) : Nat := sf E n W i j n r
theorem sF_fix {E : Nat → Nat → Nat} {W : Nat → Nat → Nat → Nat} {emp : Nat → Prop} {rk : Nat → Nat} {n i j : Nat} (hc : empCl E n emp) (hk : Rank E n emp rk) (hW : ∀ t p, ¬ (p = i ∧ p = j) → W t p p ≠ 0 → emp t) {r : Nat} (hr : r < n) : sF E n W i j r = fR E (setS W i j (sF E n W i j)) r i j := by
  have h1 := (hk r hr).1
  have h := sf_stable (i := i) (j := j) hc hk hW (rk r) r hr (Nat.le_refl _) n (n + 1) h1 (by omega)
  show sf E n W i j n r = _
  rw [h, sf, if_pos hr]
  rfl
/-- a step at a rule all of whose edges are right makes it right -/
theorem sF_step {E : Nat → Nat → Nat} {W : Nat → Nat → Nat → Nat} {emp : Nat → Prop} {rk : Nat → Nat} {n i j : Nat} (hc : empCl E n emp) (hk : Rank E n emp rk) (hW : ∀ t p, ¬ (p = i ∧ p = j) → W t p p ≠ 0 → emp t) {r : Nat} (hr : r < n) {V : Nat → Nat} (hV : i = j → ∀ t, V t ≠ 0 → emp t) (he : ∀ t, t < n → rk t < rk r → V t = sF E n W i j t) : fR E (setS W i j V) r i j = sF E n W i j r := by
  rw [sF_fix hc hk hW hr]
  refine fR_local (emp := emp) hW hV (fun e t ht => ?_) (fun t ht => ?_)
  · subst e; exact sf_emp hc n t ht
  · obtain ⟨h1, h2⟩ := (hk r hr).2 t ht
    exact he t h1 h2
