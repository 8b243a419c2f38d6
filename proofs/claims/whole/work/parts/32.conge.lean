/-! WHERE hangs on the tokens of the span alone -/
theorem itm_congE {E E' : Nat → Nat → Nat} {W : Nat → Nat → Nat → Nat} {Q : Nat} (h0 : ∀ x, x < 5 → E x = E' x) (h5 : ∀ p, p < Q → E 5 p = E' 5 p ∧ E 6 p = E' 6 p) {s p q : Nat} (hq : q ≤ Q) : itm E W s p q = itm E' W s p q := by
  unfold itm
  rw [h0 2 (by decide), h0 3 (by decide)]
  by_cases e : E' 2 s = NO
  · rw [if_pos e, if_pos e]
    by_cases g : q = p + 1
    · obtain ⟨a1, a2⟩ := h5 p (by omega)
      rw [a1, a2]
    · rw [if_neg (fun hh => g hh.1), if_neg (fun hh => g hh.1)]
  · rw [if_neg e, if_neg e]
theorem rch_congE {E E' : Nat → Nat → Nat} {W : Nat → Nat → Nat → Nat} {Q i a : Nat} (h0 : ∀ x, x < 5 → E x = E' x) (h5 : ∀ p, p < Q → E 5 p = E' 5 p ∧ E 6 p = E' 6 p) : ∀ (k q : Nat), q ≤ Q → rch E W i a k q = rch E' W i a k q
  | 0, _, _ => rfl
  | k + 1, q, hq => by
    rw [rch, rch]
    apply orR_cong
    intro p h1 h2
    rw [rch_congE h0 h5 k p (by omega), itm_congE h0 h5 hq, h0 4 (by decide)]
theorem fR_congE {E E' : Nat → Nat → Nat} {W : Nat → Nat → Nat → Nat} {Q r i j : Nat} (h0 : ∀ x, x < 5 → E x = E' x) (h5 : ∀ p, p < Q → E 5 p = E' 5 p ∧ E 6 p = E' 6 p) (hj : j ≤ Q) : fR E W r i j = fR E' W r i j := by
  unfold fR
  rw [h0 0 (by decide), h0 1 (by decide)]
  apply orR_cong
  intro p h1 h2
  exact rch_congE h0 h5 _ _ hj
theorem sf_congE {E E' : Nat → Nat → Nat} {n : Nat} {W : Nat → Nat → Nat → Nat} {Q i j : Nat} (h0 : ∀ x, x < 5 → E x = E' x) (h5 : ∀ p, p < Q → E 5 p = E' 5 p ∧ E 6 p = E' 6 p) (hj : j ≤ Q) : ∀ (f r : Nat), sf E n W i j f r = sf E' n W i j f r
  | 0, _ => rfl
  | f + 1, r => by
    rw [sf, sf, show sf E n W i j f = sf E' n W i j f from funext (sf_congE h0 h5 hj f), fR_congE h0 h5 hj]
theorem whT_congE {E E' : Nat → Nat → Nat} {n Q : Nat} (h0 : ∀ x, x < 5 → E x = E' x) (h5 : ∀ p, p < Q → E 5 p = E' 5 p ∧ E 6 p = E' 6 p) : ∀ (d r i j : Nat), j ≤ Q → whT E n d r i j = whT E' n d r i j
  | 0, _, _, _, _ => rfl
  | d + 1, r, i, j, hj => by
    show (if j = i + d then sF E n (whT E n d) i j r else whT E n d r i j) = (if j = i + d then sF E' n (whT E' n d) i j r else whT E' n d r i j)
    rw [whT_congE h0 h5 d r i j hj]
    by_cases e : j = i + d
    · rw [if_pos e, if_pos e]
      show sf E n (whT E n d) i j n r = _
      rw [sf_congE h0 h5 hj]
      exact sf_cong (fun t p q _ _ h3 _ => whT_congE h0 h5 d t p q (by omega)) n r
    · rw [if_neg e, if_neg e]
theorem wh_congE {E E' : Nat → Nat → Nat} {n Q : Nat} (h0 : ∀ x, x < 5 → E x = E' x) (h5 : ∀ p, p < Q → E 5 p = E' 5 p ∧ E 6 p = E' 6 p) {r i j : Nat} (hj : j ≤ Q) : wh E n r i j = wh E' n r i j := by
  unfold wh
  rw [whT_congE h0 h5 _ r i j hj]
theorem gE_0 {al_ it tg pt bd sg co sg' co' : Nat → Nat} : ∀ x, x < 5 → gE al_ it tg pt bd sg co x = gE al_ it tg pt bd sg' co' x
  | 0, _ => rfl
  | 1, _ => rfl
  | 2, _ => rfl
  | 3, _ => rfl
  | 4, _ => rfl
  | x + 5, h => by omega
theorem VAll.congE {al_ it tg pt bd sg co sg' co' : Nat → Nat} {n Q : Nat} {V : Nat → Nat} (h : VAll (gE al_ it tg pt bd sg co) n (Q + 1) V) (h5 : ∀ p, p < Q → sg p = sg' p ∧ co p = co' p) : VAll (gE al_ it tg pt bd sg' co') n (Q + 1) V := fun t p q h1 h2 h3 => by
  rw [h t p q h1 h2 h3]
  exact wh_congE gE_0 h5 (by omega)
def Fsame (f f' : Nat → Nat → Nat) (S : List Nat) : Prop := ∀ a, a ∉ S → f' a = f a
theorem RelG.keep {f f' : Nat → Nat → Nat} {n : Nat} {gn al_ it pt tg bd : Nat → Nat} (h : RelG f n gn al_ it pt tg bd) (h1 : f' 140 = f 140) (h2 : f' 153 = f 153) : RelG f' n gn al_ it pt tg bd := by
  unfold RelG at h ⊢
  rw [h1, h2]
  exact h
theorem RelT.keep {f f' : Nat → Nat → Nat} {c : Nat} {sg li co : Nat → Nat} (h : RelT f c sg li co) (h1 : f' 140 = f 140) : RelT f' c sg li co := by
  unfold RelT at h ⊢
  rw [h1]
  exact h
