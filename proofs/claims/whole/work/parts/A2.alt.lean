/-! LEAST COLUMNS, alt by alt, as the model lays them -/
def aFn (al_ : Nat → Nat) (G : (Nat → Nat) → Nat → Nat) (fr : Nat → Nat) (r : Nat) : Nat := orR (fun a => G fr (r * 4 + a)) 0 (al_ r)
def gMo (n : Nat) (al_ : Nat → Nat) (G : (Nat → Nat) → Nat → Nat) : Prop := (∀ fr x, SafeM fr → G fr x < 1099511627776) ∧ ∀ fr g r a, SafeM fr → SafeM g → (∀ t, t < n → bitsub (fr t) (g t)) → r < n → a < al_ r → bitsub (G fr (r * 4 + a)) (G g (r * 4 + a))
def lsT (n : Nat) (al_ : Nat → Nat) (G : (Nat → Nat) → Nat → Nat) (fr : Nat → Nat) : Prop := ∀ g : Nat → Nat, SafeM g → (∀ r, r < n → bitsub (aFn al_ G g r) (g r)) → ∀ r, r < n → bitsub (fr r) (g r)
def AlI (n : Nat) (al_ : Nat → Nat) (G : (Nat → Nat) → Nat → Nat) (f1 : Nat → Nat) (y a : Nat) (fr : Nat → Nat) : Prop := (SafeM fr) ∧ (lsT n al_ G fr) ∧ (∀ q, q ≠ y → fr q = f1 q) ∧ (bitsub (f1 y) (fr y)) ∧ (fr y = f1 y → ∀ a9, a9 < a → bitsub (G f1 (y * 4 + a9)) (f1 y))
theorem AlI.sfr {n : Nat} {al_ : Nat → Nat} {G : (Nat → Nat) → Nat → Nat} {f1 : Nat → Nat} {y a : Nat} {fr : Nat → Nat} (h : AlI n al_ G f1 y a fr) : SafeM fr := h.1
theorem AlI.lst {n : Nat} {al_ : Nat → Nat} {G : (Nat → Nat) → Nat → Nat} {f1 : Nat → Nat} {y a : Nat} {fr : Nat → Nat} (h : AlI n al_ G f1 y a fr) : lsT n al_ G fr := h.2.1
theorem AlI.oth {n : Nat} {al_ : Nat → Nat} {G : (Nat → Nat) → Nat → Nat} {f1 : Nat → Nat} {y a : Nat} {fr : Nat → Nat} (h : AlI n al_ G f1 y a fr) : ∀ q, q ≠ y → fr q = f1 q := h.2.2.1
theorem AlI.grw {n : Nat} {al_ : Nat → Nat} {G : (Nat → Nat) → Nat → Nat} {f1 : Nat → Nat} {y a : Nat} {fr : Nat → Nat} (h : AlI n al_ G f1 y a fr) : bitsub (f1 y) (fr y) := h.2.2.2.1
theorem AlI.cls {n : Nat} {al_ : Nat → Nat} {G : (Nat → Nat) → Nat → Nat} {f1 : Nat → Nat} {y a : Nat} {fr : Nat → Nat} (h : AlI n al_ G f1 y a fr) : fr y = f1 y → ∀ a9, a9 < a → bitsub (G f1 (y * 4 + a9)) (f1 y) := h.2.2.2.2
def RuI (n : Nat) (al_ : Nat → Nat) (G : (Nat → Nat) → Nat → Nat) (f0 : Nat → Nat) (y : Nat) (fr : Nat → Nat) : Prop := (SafeM fr) ∧ (lsT n al_ G fr) ∧ (∀ r, bitsub (f0 r) (fr r)) ∧ ((∀ r, fr r = f0 r) → ∀ r, r < y → bitsub (aFn al_ G f0 r) (f0 r))
theorem RuI.sfr {n : Nat} {al_ : Nat → Nat} {G : (Nat → Nat) → Nat → Nat} {f0 : Nat → Nat} {y : Nat} {fr : Nat → Nat} (h : RuI n al_ G f0 y fr) : SafeM fr := h.1
theorem RuI.lst {n : Nat} {al_ : Nat → Nat} {G : (Nat → Nat) → Nat → Nat} {f0 : Nat → Nat} {y : Nat} {fr : Nat → Nat} (h : RuI n al_ G f0 y fr) : lsT n al_ G fr := h.2.1
theorem RuI.grw {n : Nat} {al_ : Nat → Nat} {G : (Nat → Nat) → Nat → Nat} {f0 : Nat → Nat} {y : Nat} {fr : Nat → Nat} (h : RuI n al_ G f0 y fr) : ∀ r, bitsub (f0 r) (fr r) := h.2.2.1
theorem RuI.cls {n : Nat} {al_ : Nat → Nat} {G : (Nat → Nat) → Nat → Nat} {f0 : Nat → Nat} {y : Nat} {fr : Nat → Nat} (h : RuI n al_ G f0 y fr) : (∀ r, fr r = f0 r) → ∀ r, r < y → bitsub (aFn al_ G f0 r) (f0 r) := h.2.2.2
theorem aFn_in {al_ : Nat → Nat} {G : (Nat → Nat) → Nat → Nat} {g : Nat → Nat} {r a : Nat} (ha : a < al_ r) : bitsub (G g (r * 4 + a)) (aFn al_ G g r) := fun c hc => (orR_bit _ _ _ _).mpr ⟨a, Nat.zero_le _, by omega, hc⟩
theorem AlI.start {n : Nat} {al_ : Nat → Nat} {G : (Nat → Nat) → Nat → Nat} {f1 : Nat → Nat} {y : Nat} (h1 : SafeM f1) (h2 : lsT n al_ G f1) : AlI n al_ G f1 y 0 f1 := ⟨h1, h2, fun _ _ => rfl, bs_rf _, fun _ a9 h => absurd h (Nat.not_lt_zero _)⟩
theorem AlI.step {n : Nat} {al_ : Nat → Nat} {G : (Nat → Nat) → Nat → Nat} {f1 fr : Nat → Nat} {y a : Nat} (hm : gMo n al_ G) (h : AlI n al_ G f1 y a fr) (hy : y < n) (ha : a < al_ y) : AlI n al_ G f1 y (a + 1) (up fr y (fr y ||| G fr (y * 4 + a))) := by
  have hs : SafeM (up fr y (fr y ||| G fr (y * 4 + a))) := safe_up h.sfr (or_lt40 (h.sfr _) (hm.1 fr _ h.sfr))
  refine ⟨hs, fun g sg hg r hr => ?_, fun q hq => (up_n hq).trans (h.oth q hq), by rw [up_s]; exact bs_tr h.grw (bs_or1 _ _), fun q a9 h9 => ?_⟩
  · by_cases e : r = y
    · rw [e, up_s]
      exact bs_or (h.lst g sg hg y hy) (bs_tr (hm.2 fr g y a h.sfr sg (h.lst g sg hg) hy ha) (bs_tr (aFn_in ha) (hg y hy)))
    · rw [up_n e]; exact h.lst g sg hg r hr
  · rw [up_s] at q
    have e1 : fr y = f1 y := bs_eq (by rw [← q]; exact bs_or1 _ _) h.grw
    have e2 : fr = f1 := by
      funext t
      by_cases e : t = y
      · rw [e]; exact e1
      · exact h.oth t e
    by_cases e : a9 = a
    · rw [e, ← e2]
      have : bitsub (G fr (y * 4 + a)) (f1 y) := by rw [← q]; exact bs_or2 _ _
      rw [← e2] at this; exact this
    · exact h.cls e1 a9 (by omega)
theorem RuI.step {n : Nat} {al_ : Nat → Nat} {G : (Nat → Nat) → Nat → Nat} {f0 f1 fr : Nat → Nat} {y a : Nat} (h : RuI n al_ G f0 y f1) (h2 : AlI n al_ G f1 y a fr) (ha : a = al_ y) : RuI n al_ G f0 (y + 1) fr := by
  have hgr : ∀ r, bitsub (f1 r) (fr r) := fun r => if e : r = y then e ▸ h2.grw else by rw [h2.oth r e]; exact bs_rf _
  refine ⟨h2.sfr, h2.lst, fun r => bs_tr (h.grw r) (hgr r), fun q r hr => ?_⟩
  have e1 : ∀ t, f1 t = f0 t := fun t => bs_eq (by rw [← q t]; exact hgr t) (h.grw t)
  by_cases e : r = y
  · subst e
    have e2 : f1 = f0 := funext e1
    have hc := h2.cls ((q r).trans (e1 r).symm)
    intro c hcb
    obtain ⟨a9, _, a2, a3⟩ := (orR_bit _ _ _ _).mp hcb
    rw [← e2] at a3 ⊢
    exact hc a9 (by omega) c a3
  · exact h.cls e1 r (by omega)
theorem RuI.lfp {n : Nat} {al_ : Nat → Nat} {G : (Nat → Nat) → Nat → Nat} {f0 fr : Nat → Nat} (hm : gMo n al_ G) (h : RuI n al_ G f0 n fr) (he : ∀ r, fr r = f0 r) : IsLfp n (aFn al_ G) fr := by
  have e : fr = f0 := funext he
  have hc := h.cls he
  rw [← e] at hc
  have hF : ∀ g, SafeM g → SafeM (aFn al_ G g) := fun g sg r => lt_of_bits (k := 40) (fun c hcb => by
    obtain ⟨a, _, _, a3⟩ := (orR_bit _ _ _ _).mp hcb
    rcases Nat.lt_or_ge c 40 with q | q
    · exact q
    · rw [testBit_hi (show G g (r * 4 + a) < 2 ^ 40 from hm.1 g _ sg) _ q] at a3; cases a3)
  have hmo : ∀ g k : Nat → Nat, SafeM g → SafeM k → (∀ t, t < n → bitsub (g t) (k t)) → ∀ r, r < n → bitsub (aFn al_ G g r) (aFn al_ G k r) := fun g k sg sk hk r hr c hcb => by
    obtain ⟨a, a1, a2, a3⟩ := (orR_bit _ _ _ _).mp hcb
    exact (orR_bit _ _ _ _).mpr ⟨a, a1, a2, hm.2 g k r a sg sk hk hr (by omega) c a3⟩
  refine ⟨fun r hr => bs_eq (h.lst (aFn al_ G fr) (hF fr h.sfr) (fun t ht => hmo _ _ (hF fr h.sfr) h.sfr hc t ht) r hr) (hc r hr), h.lst⟩
