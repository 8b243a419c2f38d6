/-! FILLING the rows of a rule at a place, purely; THE COLUMNS of all spans -/
theorem rch_lt {E : Nat → Nat → Nat} {W : Nat → Nat → Nat → Nat} {i a : Nat} : ∀ (k q : Nat), rch E W i a k q < 1099511627776
  | 0, q => by rw [rch]; split <;> decide
  | k + 1, q => by
    rw [rch]
    exact orR_lt (k := 40) (fun p _ _ => and_lt40 (rch_lt k p))
theorem fR_lt {E : Nat → Nat → Nat} {W : Nat → Nat → Nat → Nat} {r i j : Nat} : fR E W r i j < 1099511627776 := orR_lt (k := 40) (fun _ _ _ => rch_lt _ _)
def FilFr (R R2 : Nat → Nat) (r j : Nat) : Prop := ∀ q, (∀ a, a < 4 → ∀ x, x < 5 → q ≠ ((r * 4 + a) * 5 + x) * 21 + j) → R2 q = R q
def FilI (R R2 : Nat → Nat) (E : Nat → Nat → Nat) (W : Nat → Nat → Nat → Nat) (i r j a x : Nat) : Prop := SafeM R2 ∧ (∀ a' z, (a' < a ∧ z < E 1 (r * 4 + a')) ∨ (a' = a ∧ z < x) → R2 (((r * 4 + a') * 5 + z) * 21 + j) = rch E W i (r * 4 + a') (z + 1) j) ∧ FilFr R R2 r j
theorem FilI.start {R : Nat → Nat} {E : Nat → Nat → Nat} {W : Nat → Nat → Nat → Nat} {i r j : Nat} (h : SafeM R) : FilI R R E W i r j 0 0 := ⟨h, fun a' z hz => by omega, fun _ _ => rfl⟩
theorem FilI.put {R R2 : Nat → Nat} {E : Nat → Nat → Nat} {W : Nat → Nat → Nat → Nat} {i r j a x : Nat} (h : FilI R R2 E W i r j a x) (hit : ∀ q, E 1 q ≤ 5) (ha : a < 4) (hx : x < 5) (hj : j < 21) : FilI R (up R2 (((r * 4 + a) * 5 + x) * 21 + j) (rch E W i (r * 4 + a) (x + 1) j)) E W i r j a (x + 1) := by
  refine ⟨safe_up h.1 (rch_lt _ _), fun a' z hz => ?_, fun q hq => ?_⟩
  · unfold up
    by_cases e : a' = a ∧ z = x
    · rw [e.1, e.2, if_pos rfl]
    · rw [if_neg (by have := hit (r * 4 + a'); omega)]
      exact h.2.1 a' z (by omega)
  · unfold up
    rw [if_neg (hq a ha x hx)]
    exact h.2.2 q hq
theorem FilI.next {R R2 : Nat → Nat} {E : Nat → Nat → Nat} {W : Nat → Nat → Nat → Nat} {i r j a x : Nat} (h : FilI R R2 E W i r j a x) (hx : x = E 1 (r * 4 + a)) : FilI R R2 E W i r j (a + 1) 0 := by
  refine ⟨h.1, fun a' z hz => h.2.1 a' z ?_, h.2.2⟩
  rcases hz with hz | hz
  · by_cases e : a' = a
    · subst e; exact Or.inr ⟨rfl, by omega⟩
    · exact Or.inl ⟨by omega, hz.2⟩
  · omega
theorem FilI.fin {R R2 : Nat → Nat} {E : Nat → Nat → Nat} {W : Nat → Nat → Nat → Nat} {i r j a : Nat} (h : FilI R R2 E W i r j a 0) (ha : a = E 0 r) : RokAt R2 E W i r j := fun a' h1 x h2 => h.2.1 a' x (Or.inl ⟨by omega, h2⟩)
theorem fil_ok {R R2 : Nat → Nat} {E : Nat → Nat → Nat} {W : Nat → Nat → Nat → Nat} {i r a x j : Nat} (hP : ∀ p, i ≤ p → p < j → RokAt R E W i r p) (ha : a < E 0 r) (hx : x < E 1 (r * 4 + a)) (hx5 : x < 5) (hj : j < 21) (h : FilI R R2 E W i r j a x) : orR (upf R2 E W ((r * 4 + a) * 5 + x) i j) i (j + 1 - i) = rch E W i (r * 4 + a) (x + 1) j := by
  refine upf_rch hx5 (fun p p1 p2 p3 => ?_)
  rcases Nat.lt_or_eq_of_le p2 with p4 | p4
  · rw [h.2.2 _ (fun a' ha' x' hx' => by omega)]
    have := hP p p1 p4 a ha (x - 1) (by omega)
    rwa [show x - 1 + 1 = x by omega] at this
  · subst p4
    have := h.2.1 a (x - 1) (Or.inr ⟨rfl, by omega⟩)
    rwa [show x - 1 + 1 = x by omega] at this
theorem RokAt.keep {R R2 : Nat → Nat} {E : Nat → Nat → Nat} {W : Nat → Nat → Nat → Nat} {i r j r' p : Nat} (h : RokAt R E W i r' p) (hf : FilFr R R2 r j) (hal : ∀ q, E 0 q ≤ 4) (hit : ∀ q, E 1 q ≤ 5) (hj : j < 21) (hp : p < 21) (hd : r' ≠ r ∨ p ≠ j) : RokAt R2 E W i r' p := fun a h1 k h2 => by
  rw [hf _ (fun a' ha' x' hx' => by have := hal r'; have := hit (r' * 4 + a); omega)]
  exact h a h1 k h2
theorem RokAt.cong {R : Nat → Nat} {E : Nat → Nat → Nat} {W W' : Nat → Nat → Nat → Nat} {i r p n : Nat} (h : RokAt R E W i r p) (hcl : ∀ a, a < E 0 r → ∀ k, k < E 1 (r * 4 + a) → E 2 ((r * 4 + a) * 5 + k) = NO ∨ E 2 ((r * 4 + a) * 5 + k) < n) (hw : ∀ a, a < E 0 r → ∀ k, k ≤ E 1 (r * 4 + a) → rch E W i (r * 4 + a) k p = rch E W' i (r * 4 + a) k p) : RokAt R E W' i r p := fun a h1 k h2 => by
  rw [h a h1 k h2, hw a h1 (k + 1) h2]
/-- the targets of the items are rules that there are -/
def Clo (E : Nat → Nat → Nat) (n : Nat) : Prop := ∀ r, r < n → ∀ a, a < E 0 r → ∀ k, k < E 1 (r * 4 + a) → E 2 ((r * 4 + a) * 5 + k) = NO ∨ E 2 ((r * 4 + a) * 5 + k) < n
theorem rch_congN {E : Nat → Nat → Nat} {W W' : Nat → Nat → Nat → Nat} {i r a n Q : Nat} (hcl : Clo E n) (hr : r < n) (ha : a < E 0 r) (h : ∀ t p q, t < n → i ≤ p → p ≤ q → q ≤ Q → W t p q = W' t p q) : ∀ (k q : Nat), k ≤ E 1 (r * 4 + a) → q ≤ Q → rch E W i (r * 4 + a) k q = rch E W' i (r * 4 + a) k q
  | 0, _, _, _ => rfl
  | k + 1, q, hk, hq => by
    rw [rch, rch]
    apply orR_cong
    intro p h1 h2
    rw [rch_congN hcl hr ha h k p (by omega) (by omega)]
    congr 2
    unfold itm
    by_cases e : E 2 ((r * 4 + a) * 5 + k) = NO
    · rw [if_pos e, if_pos e]
    · rw [if_neg e, if_neg e]
      exact h _ p q ((hcl r hr a ha k (by omega)).resolve_left e) h1 (by omega) hq
theorem fR_congN {E : Nat → Nat → Nat} {W W' : Nat → Nat → Nat → Nat} {r i j n : Nat} (hcl : Clo E n) (hr : r < n) (h : ∀ t p q, t < n → i ≤ p → p ≤ q → q ≤ j → W t p q = W' t p q) : fR E W r i j = fR E W' r i j := by
  unfold fR
  apply orR_cong
  intro p h1 h2
  exact rch_congN hcl hr (by omega) h _ _ (Nat.le_refl _) (Nat.le_refl _)
theorem RokAt.congN {R : Nat → Nat} {E : Nat → Nat → Nat} {W W' : Nat → Nat → Nat → Nat} {i r p n : Nat} (h : RokAt R E W i r p) (hcl : Clo E n) (hr : r < n) (hw : ∀ t p' q, t < n → i ≤ p' → p' ≤ q → q ≤ p → W t p' q = W' t p' q) : RokAt R E W' i r p := fun a h1 k h2 => by
  rw [h a h1 k h2, rch_congN hcl hr h1 hw (k + 1) p h2 (Nat.le_refl _)]
theorem sf_cong {E : Nat → Nat → Nat} {n : Nat} {W W' : Nat → Nat → Nat → Nat} {i j : Nat} (h : ∀ t p q, i ≤ p → p ≤ q → q ≤ j → ¬ (p = i ∧ q = j) → W t p q = W' t p q) : ∀ (f r : Nat), sf E n W i j f r = sf E n W' i j f r
  | 0, _ => rfl
  | f + 1, r => by
    rw [sf, sf]
    by_cases e : r < n
    · rw [if_pos e, if_pos e]
      apply fR_cong
      intro t p q h1 h2 h3
      by_cases g : p = i ∧ q = j
      · rw [g.1, g.2, setS_at, setS_at]
        exact sf_cong h f t
      · rw [setS_ne g, setS_ne g]
        exact h t p q h1 h2 h3 g
    · rw [if_neg e, if_neg e]
theorem sF_cong {E : Nat → Nat → Nat} {n : Nat} {W W' : Nat → Nat → Nat → Nat} {i j r : Nat} (h : ∀ t p q, i ≤ p → p ≤ q → q ≤ j → ¬ (p = i ∧ q = j) → W t p q = W' t p q) : sF E n W i j r = sF E n W' i j r := sf_cong h n r
def whT (E : Nat → Nat → Nat) (n : Nat) : Nat → Nat → Nat → Nat → Nat
  | 0 => fun _ _ _ => 0
  | d + 1 => fun r i j => if j = i + d then sF E n (whT E n d) i j r else whT E n d r i j
/-- WHERE: the columns of a rule over i up to j -/
def wh (E : Nat → Nat → Nat) (n : Nat) (r i j : Nat) : Nat := if i ≤ j then whT E n (j - i + 1) r i j else 0
theorem whT_at (E : Nat → Nat → Nat) (n d r i : Nat) : ∀ e, whT E n (d + 1 + e) r i (i + d) = sF E n (whT E n d) i (i + d) r
  | 0 => by show (if i + d = i + d then _ else _) = _; rw [if_pos rfl]
  | e + 1 => by
    show (if i + d = i + (d + 1 + e) then _ else whT E n (d + 1 + e) r i (i + d)) = _
    rw [if_neg (by omega)]
    exact whT_at E n d r i e
theorem whT_wh {E : Nat → Nat → Nat} {n D r i j : Nat} (h : i ≤ j) (hD : j - i < D) : whT E n D r i j = wh E n r i j := by
  unfold wh
  rw [if_pos h]
  obtain ⟨d, rfl⟩ : ∃ d, j = i + d := ⟨j - i, by omega⟩
  rw [show i + d - i = d by omega] at hD ⊢
  rw [show D = d + 1 + (D - d - 1) by omega, whT_at, show d + 1 = d + 1 + 0 from rfl, whT_at]
theorem wh_eq {E : Nat → Nat → Nat} {n r i j : Nat} (h : i ≤ j) : wh E n r i j = sF E n (wh E n) i j r := by
  obtain ⟨d, rfl⟩ : ∃ d, j = i + d := ⟨j - i, by omega⟩
  rw [← whT_wh (D := d + 1 + 0) h (by omega), whT_at]
  apply sF_cong
  intro t p q h1 h2 h3 h4
  exact whT_wh h2 (by omega)
theorem sf_n {E : Nat → Nat → Nat} {n : Nat} {W : Nat → Nat → Nat → Nat} {i j r : Nat} (h : ¬ r < n) : ∀ f, sf E n W i j f r = 0
  | 0 => rfl
  | f + 1 => by rw [sf, if_neg h]
theorem wh_n {E : Nat → Nat → Nat} {n r i j : Nat} (h : ¬ r < n) : wh E n r i j = 0 := by
  by_cases e : i ≤ j
  · rw [wh_eq e]; exact sf_n h n
  · unfold wh; rw [if_neg e]
theorem wh_emp {E : Nat → Nat → Nat} {n : Nat} {emp : Nat → Prop} (hc : empCl E n emp) (t p : Nat) (h : wh E n t p p ≠ 0) : emp t := by
  rw [wh_eq (Nat.le_refl p)] at h
  exact sf_emp hc n t h
theorem wh_lt {E : Nat → Nat → Nat} {n r i j : Nat} : wh E n r i j < 1099511627776 := by
  by_cases e : i ≤ j
  · rw [wh_eq e]
    show sf E n (wh E n) i j n r < _
    match n with
    | 0 => exact (by decide : 0 < 1099511627776)
    | m + 1 =>
      rw [sf]
      split
      · exact fR_lt
      · decide
  · unfold wh; rw [if_neg e]; decide
/-- a grammar without rounds: what can be empty is closed, and there is a rank -/
def Acyc (E : Nat → Nat → Nat) (n : Nat) (emp : Nat → Prop) (rk : Nat → Nat) : Prop := Clo E n ∧ empCl E n emp ∧ Rank E n emp rk
theorem wh_fix {E : Nat → Nat → Nat} {n : Nat} {emp : Nat → Prop} {rk : Nat → Nat} (h : Acyc E n emp rk) {r i j : Nat} (hr : r < n) (hij : i ≤ j) : wh E n r i j = fR E (wh E n) r i j := by
  rw [wh_eq hij, sF_fix h.2.1 h.2.2 (fun t p _ hp => wh_emp h.2.1 t p hp) hr]
  apply fR_cong
  intro t p q h1 h2 h3
  by_cases g : p = i ∧ q = j
  · rw [g.1, g.2, setS_at, wh_eq hij]
  · rw [setS_ne g]
theorem wh_step {E : Nat → Nat → Nat} {n : Nat} {emp : Nat → Prop} {rk : Nat → Nat} (h : Acyc E n emp rk) {r i j : Nat} (hr : r < n) (hij : i ≤ j) {W : Nat → Nat → Nat → Nat} (hW : ∀ t p q, t < n → i ≤ p → p ≤ q → q ≤ j → ¬ (p = i ∧ q = j) → W t p q = wh E n t p q) (hV : i = j → ∀ t, t < n → W t i j ≠ 0 → emp t) (he : ∀ t, t < n → rk t < rk r → W t i j = wh E n t i j) : fR E W r i j = wh E n r i j := by
  rw [wh_eq hij, ← sF_step (V := fun t => if t < n then W t i j else 0) h.2.1 h.2.2 (fun t p _ hp => wh_emp h.2.1 t p hp) hr (fun e t ht => ?_) (fun t h1 h2 => ?_)]
  · apply fR_congN h.1 hr
    intro t p q ht h1 h2 h3
    by_cases g : p = i ∧ q = j
    · rw [g.1, g.2, setS_at, if_pos ht]
    · rw [setS_ne g]
      exact hW t p q ht h1 h2 h3 g
  · by_cases q : t < n
    · rw [if_pos q] at ht
      exact hV e t q ht
    · rw [if_neg q] at ht
      exact absurd rfl ht
  · show (if t < n then W t i j else 0) = _
    rw [if_pos h1, ← wh_eq hij]
    exact he t h1 h2
theorem fR_empN {E : Nat → Nat → Nat} {W : Nat → Nat → Nat → Nat} {emp : Nat → Prop} {n i : Nat} (hcl : Clo E n) (hc : empCl E n emp) (hV : ∀ t, t < n → W t i i ≠ 0 → emp t) {r : Nat} (hr : r < n) (h : fR E W r i i ≠ 0) : emp r := by
  refine fR_emp (W := W) (V := fun t => if t < n then W t i i else 0) hc (fun t ht => ?_) hr (i := i) ?_
  · by_cases q : t < n
    · rw [if_pos q] at ht; exact hV t q ht
    · rw [if_neg q] at ht; exact absurd rfl ht
  · rw [← fR_congN (W := W) hcl hr]
    · exact h
    · intro t p q ht h1 h2 h3
      rw [show p = i by omega, show q = i by omega, setS_at, if_pos ht]
