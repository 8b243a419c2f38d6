/-! LEAST COLUMNS, by passes that go on while something is added -/
def bc (m : Nat) : Nat := cnt (fun c => m.testBit c) 40
theorem cnt_mono {p q : Nat → Bool} (h : ∀ c, p c = true → q c = true) : ∀ n, cnt p n ≤ cnt q n
  | 0 => Nat.le_refl _
  | n + 1 => by
    rw [cnt, cnt]
    have := cnt_mono h n
    cases hp : p n with
    | true => rw [if_pos rfl, if_pos (h n hp)]; omega
    | false => rw [if_neg (by decide)]; split <;> omega
theorem cnt_strict {p q : Nat → Bool} (h : ∀ c, p c = true → q c = true) : ∀ {n c : Nat}, c < n → p c = false → q c = true → cnt p n < cnt q n
  | 0, c, hc, _, _ => by omega
  | n + 1, c, hc, h1, h2 => by
    rw [cnt, cnt]
    by_cases e : c = n
    · rw [← e, if_neg (by rw [h1]; decide), if_pos h2]
      have := cnt_mono h c
      omega
    · have := cnt_strict h (n := n) (c := c) (by omega) h1 h2
      cases hp : p n with
      | true => rw [if_pos rfl, if_pos (h n hp)]; omega
      | false => rw [if_neg (by decide)]; split <;> omega
theorem bc_le (m : Nat) : bc m ≤ 40 := cnt_le _ _
theorem bc_mono {a b : Nat} (h : bitsub a b) : bc a ≤ bc b := cnt_mono h 40
theorem bc_strict {a b : Nat} (hb : b < 1099511627776) (h : bitsub a b) (hn : a ≠ b) : bc a < bc b := by
  by_cases q : bitsub b a
  · exact absurd (bs_eq h q) hn
  · have q2 : ∃ c, b.testBit c = true ∧ a.testBit c = false := Classical.byContradiction fun r => q (fun c hc => by
      cases ha : a.testBit c with
      | true => rfl
      | false => exact absurd ⟨c, hc, ha⟩ r)
    obtain ⟨c, h1, h2⟩ := q2
    have hc : c < 40 := by
      rcases Nat.lt_or_ge c 40 with r | r
      · exact r
      · rw [testBit_hi (show b < 2 ^ 40 from hb) _ r] at h1; cases h1
    exact cnt_strict h hc h2 h1
/-- how many columns in all -/
def tb (fr : Nat → Nat) : Nat → Nat
  | 0 => 0
  | n + 1 => tb fr n + bc (fr n)
theorem tb_le (fr : Nat → Nat) : ∀ n, tb fr n ≤ 40 * n
  | 0 => Nat.le_refl _
  | n + 1 => by
    rw [tb]
    have := tb_le fr n
    have := bc_le (fr n)
    omega
theorem tb_mono {f g : Nat → Nat} : ∀ {n : Nat}, (∀ r, r < n → bitsub (f r) (g r)) → tb f n ≤ tb g n
  | 0, _ => Nat.le_refl _
  | n + 1, h => by
    rw [tb, tb]
    have := tb_mono (f := f) (g := g) (n := n) (fun r hr => h r (by omega))
    have := bc_mono (h n (by omega))
    omega
theorem tb_strict {f g : Nat → Nat} : ∀ {n r : Nat}, (∀ r, r < n → bitsub (f r) (g r)) → r < n → g r < 1099511627776 → f r ≠ g r → tb f n < tb g n
  | 0, r, _, hr, _, _ => by omega
  | n + 1, r, h, hr, hg, hn => by
    rw [tb, tb]
    by_cases e : r = n
    · subst e
      have := tb_mono (f := f) (g := g) (n := r) (fun t ht => h t (by omega))
      have := bc_strict hg (h r (by omega)) hn
      omega
    · have := tb_strict (f := f) (g := g) (n := n) (r := r) (fun t ht => h t (by omega)) (by omega) hg hn
      have := bc_mono (h n (by omega))
      omega
theorem andR_bit (f : Nat → Nat) (a c : Nat) : ∀ n, (andR f a n).testBit c = true ↔ c < 40 ∧ ∀ p, a ≤ p → p < a + n → (f p).testBit c = true
  | 0 => by
    rw [andR]
    constructor
    · intro h
      refine ⟨?_, fun p p1 p2 => by omega⟩
      rcases Nat.lt_or_ge c 40 with r | r
      · exact r
      · rw [testBit_hi (show A40 < 2 ^ 40 by decide) _ r] at h; cases h
    · rintro ⟨h, -⟩
      rw [show A40 = 2 ^ 40 - 1 from rfl, Nat.testBit_two_pow_sub_one]; exact decide_eq_true h
  | n + 1 => by
    rw [andR, Nat.testBit_and, Bool.and_eq_true, andR_bit f a c n]
    constructor
    · rintro ⟨⟨h1, h2⟩, h3⟩
      exact ⟨h1, fun p p1 p2 => if e : p = a + n then e ▸ h3 else h2 p p1 (by omega)⟩
    · rintro ⟨h1, h2⟩
      exact ⟨⟨h1, fun p p1 p2 => h2 p p1 (by omega)⟩, h2 _ (by omega) (by omega)⟩
theorem andR_lt {f : Nat → Nat} {a n : Nat} : andR f a n < 1099511627776 := lt_of_bits (fun c h => ((andR_bit f a c n).mp h).1)
theorem andR_front {f : Nat → Nat} {a n : Nat} : andR f (a + 1) n &&& f a = andR f a (n + 1) := by
  apply bit_ext
  intro c
  rw [Nat.testBit_and, Bool.and_eq_true, andR_bit, andR_bit]
  constructor
  · rintro ⟨⟨h1, h2⟩, h3⟩
    exact ⟨h1, fun p p1 p2 => if e : p = a then e ▸ h3 else h2 p (by omega) (by omega)⟩
  · rintro ⟨h1, h2⟩
    exact ⟨⟨h1, fun p p1 p2 => h2 p (by omega) (by omega)⟩, h2 a (Nat.le_refl _) (by omega)⟩
theorem frI_lt {tg bd fr : Nat → Nat} (h : SafeM fr) (x : Nat) : frI tg bd fr x < 1099511627776 := letsN_lt (by split <;> first | decide | exact h _)
theorem frI_mono {tg bd fr g : Nat → Nat} {n x : Nat} (h : SafeM fr) (hg : SafeM g) (hs : ∀ r, r < n → bitsub (fr r) (g r)) (ht : tg x = NO ∨ tg x < n) : bitsub (frI tg bd fr x) (frI tg bd g x) := by
  unfold frI
  by_cases e : tg x = NO
  · rw [if_pos e, if_pos e]; exact bs_rf _
  · rw [if_neg e, if_neg e]
    exact letsN_mono (h _) (hg _) (hs _ (ht.resolve_left e))
theorem andR_mono {f g : Nat → Nat} {a n : Nat} (h : ∀ p, a ≤ p → p < a + n → bitsub (f p) (g p)) : bitsub (andR f a n) (andR g a n) := fun c hc => by
  obtain ⟨h1, h2⟩ := (andR_bit f a c n).mp hc
  exact (andR_bit g a c n).mpr ⟨h1, fun p p1 p2 => h p p1 p2 c (h2 p p1 p2)⟩
def CloT (n : Nat) (al_ it tg : Nat → Nat) : Prop := ∀ r a k, r < n → a < al_ r → k < it (r * 4 + a) → tg ((r * 4 + a) * 5 + k) = NO ∨ tg ((r * 4 + a) * 5 + k) < n
theorem frA_mono {al_ it tg bd fr g : Nat → Nat} {n r a : Nat} (hc : CloT n al_ it tg) (h : SafeM fr) (hg : SafeM g) (hs : ∀ r, r < n → bitsub (fr r) (g r)) (hr : r < n) (ha : a < al_ r) : bitsub (frA tg bd it fr (r * 4 + a)) (frA tg bd it g (r * 4 + a)) := andR_mono (fun p _ p2 => frI_mono h hg hs (hc r a p hr ha (by omega)))
theorem frR_mono {al_ it tg bd fr g : Nat → Nat} {n r : Nat} (hc : CloT n al_ it tg) (h : SafeM fr) (hg : SafeM g) (hs : ∀ r, r < n → bitsub (fr r) (g r)) (hr : r < n) : bitsub (frR al_ it tg bd fr r) (frR al_ it tg bd g r) := fun c hcb => by
  obtain ⟨a, a1, a2, a3⟩ := (orR_bit _ _ _ _).mp hcb
  exact (orR_bit _ _ _ _).mpr ⟨a, a1, a2, frA_mono hc h hg hs hr (by omega) c a3⟩
theorem frR_lt {al_ it tg bd fr : Nat → Nat} {r : Nat} : frR al_ it tg bd fr r < 1099511627776 := by
  refine lt_of_bits (k := 40) (fun c h => ?_)
  unfold frR at h
  rw [orR_bit] at h
  obtain ⟨a, _, _, a3⟩ := h
  unfold frA at a3
  rw [andR_bit] at a3
  exact a3.1
/-- the least columns are one -/
theorem IsLfp.uniq {n : Nat} {F : (Nat → Nat) → Nat → Nat} {f g : Nat → Nat} (hf : IsLfp n F f) (hg : IsLfp n F g) (sf : SafeM f) (sg : SafeM g) : ∀ r, r < n → f r = g r := fun r hr => bs_eq (hf.2 g sg (fun t ht => by rw [← hg.1 t ht]; exact bs_rf _) r hr) (hg.2 f sf (fun t ht => by rw [← hf.1 t ht]; exact bs_rf _) r hr)
/-- inside a pass of the program under proof: ahead of rule y -/
def LfI (n : Nat) (al_ it tg bd : Nat → Nat) (f0 : Nat → Nat) (y mo : Nat) (fr af fb : Nat → Nat) : Prop := (y ≤ n) ∧ (mo ≤ 1) ∧ (SafeM fr) ∧ (SafeM af) ∧ (SafeM fb) ∧ (∀ r, r < n → bitsub (fr r) (frR al_ it tg bd fr r)) ∧ (∀ g : Nat → Nat, SafeM g → (∀ r, r < n → bitsub (frR al_ it tg bd g r) (g r)) → ∀ r, r < n → bitsub (fr r) (g r)) ∧ (∀ r, r < n → bitsub (f0 r) (fr r)) ∧ (mo = 0 → (∀ r, r < n → fr r = f0 r) ∧ ∀ r, r < y → fr r = frR al_ it tg bd fr r ∧ ∀ a, a < al_ r → af (r * 4 + a) = frA tg bd it fr (r * 4 + a) ∧ ∀ k, k < it (r * 4 + a) → fb ((r * 4 + a) * 5 + k) = andR (fun j => frI tg bd fr ((r * 4 + a) * 5 + j)) (k + 1) (it (r * 4 + a) - (k + 1))) ∧ (mo ≠ 0 → tb f0 n < tb fr n)
theorem LfI.y_le {n : Nat} {al_ it tg bd : Nat → Nat} {f0 : Nat → Nat} {y mo : Nat} {fr af fb : Nat → Nat} (h : LfI n al_ it tg bd f0 y mo fr af fb) : y ≤ n := h.1
theorem LfI.mo_le {n : Nat} {al_ it tg bd : Nat → Nat} {f0 : Nat → Nat} {y mo : Nat} {fr af fb : Nat → Nat} (h : LfI n al_ it tg bd f0 y mo fr af fb) : mo ≤ 1 := h.2.1
theorem LfI.sfr {n : Nat} {al_ it tg bd : Nat → Nat} {f0 : Nat → Nat} {y mo : Nat} {fr af fb : Nat → Nat} (h : LfI n al_ it tg bd f0 y mo fr af fb) : SafeM fr := h.2.2.1
theorem LfI.saf {n : Nat} {al_ it tg bd : Nat → Nat} {f0 : Nat → Nat} {y mo : Nat} {fr af fb : Nat → Nat} (h : LfI n al_ it tg bd f0 y mo fr af fb) : SafeM af := h.2.2.2.1
theorem LfI.sfb {n : Nat} {al_ it tg bd : Nat → Nat} {f0 : Nat → Nat} {y mo : Nat} {fr af fb : Nat → Nat} (h : LfI n al_ it tg bd f0 y mo fr af fb) : SafeM fb := h.2.2.2.2.1
theorem LfI.sub {n : Nat} {al_ it tg bd : Nat → Nat} {f0 : Nat → Nat} {y mo : Nat} {fr af fb : Nat → Nat} (h : LfI n al_ it tg bd f0 y mo fr af fb) : ∀ r, r < n → bitsub (fr r) (frR al_ it tg bd fr r) := h.2.2.2.2.2.1
theorem LfI.lst {n : Nat} {al_ it tg bd : Nat → Nat} {f0 : Nat → Nat} {y mo : Nat} {fr af fb : Nat → Nat} (h : LfI n al_ it tg bd f0 y mo fr af fb) : ∀ g : Nat → Nat, SafeM g → (∀ r, r < n → bitsub (frR al_ it tg bd g r) (g r)) → ∀ r, r < n → bitsub (fr r) (g r) := h.2.2.2.2.2.2.1
theorem LfI.grw {n : Nat} {al_ it tg bd : Nat → Nat} {f0 : Nat → Nat} {y mo : Nat} {fr af fb : Nat → Nat} (h : LfI n al_ it tg bd f0 y mo fr af fb) : ∀ r, r < n → bitsub (f0 r) (fr r) := h.2.2.2.2.2.2.2.1
theorem LfI.cls {n : Nat} {al_ it tg bd : Nat → Nat} {f0 : Nat → Nat} {y mo : Nat} {fr af fb : Nat → Nat} (h : LfI n al_ it tg bd f0 y mo fr af fb) : mo = 0 → (∀ r, r < n → fr r = f0 r) ∧ ∀ r, r < y → fr r = frR al_ it tg bd fr r ∧ ∀ a, a < al_ r → af (r * 4 + a) = frA tg bd it fr (r * 4 + a) ∧ ∀ k, k < it (r * 4 + a) → fb ((r * 4 + a) * 5 + k) = andR (fun j => frI tg bd fr ((r * 4 + a) * 5 + j)) (k + 1) (it (r * 4 + a) - (k + 1)) := h.2.2.2.2.2.2.2.2.1
theorem LfI.inc {n : Nat} {al_ it tg bd : Nat → Nat} {f0 : Nat → Nat} {y mo : Nat} {fr af fb : Nat → Nat} (h : LfI n al_ it tg bd f0 y mo fr af fb) : mo ≠ 0 → tb f0 n < tb fr n := h.2.2.2.2.2.2.2.2.2
def LfP (n : Nat) (al_ it tg bd : Nat → Nat) (ps mo : Nat) (fr af fb : Nat → Nat) : Prop := (mo ≤ 1) ∧ (SafeM fr) ∧ (SafeM af) ∧ (SafeM fb) ∧ (∀ r, r < n → bitsub (fr r) (frR al_ it tg bd fr r)) ∧ (∀ g : Nat → Nat, SafeM g → (∀ r, r < n → bitsub (frR al_ it tg bd g r) (g r)) → ∀ r, r < n → bitsub (fr r) (g r)) ∧ (mo = 0 → ∀ r, r < n → fr r = frR al_ it tg bd fr r ∧ ∀ a, a < al_ r → af (r * 4 + a) = frA tg bd it fr (r * 4 + a) ∧ ∀ k, k < it (r * 4 + a) → fb ((r * 4 + a) * 5 + k) = andR (fun j => frI tg bd fr ((r * 4 + a) * 5 + j)) (k + 1) (it (r * 4 + a) - (k + 1))) ∧ (mo ≠ 0 → ps ≤ tb fr n)
theorem LfP.mo_le {n : Nat} {al_ it tg bd : Nat → Nat} {ps mo : Nat} {fr af fb : Nat → Nat} (h : LfP n al_ it tg bd ps mo fr af fb) : mo ≤ 1 := h.1
theorem LfP.sfr {n : Nat} {al_ it tg bd : Nat → Nat} {ps mo : Nat} {fr af fb : Nat → Nat} (h : LfP n al_ it tg bd ps mo fr af fb) : SafeM fr := h.2.1
theorem LfP.saf {n : Nat} {al_ it tg bd : Nat → Nat} {ps mo : Nat} {fr af fb : Nat → Nat} (h : LfP n al_ it tg bd ps mo fr af fb) : SafeM af := h.2.2.1
theorem LfP.sfb {n : Nat} {al_ it tg bd : Nat → Nat} {ps mo : Nat} {fr af fb : Nat → Nat} (h : LfP n al_ it tg bd ps mo fr af fb) : SafeM fb := h.2.2.2.1
theorem LfP.sub {n : Nat} {al_ it tg bd : Nat → Nat} {ps mo : Nat} {fr af fb : Nat → Nat} (h : LfP n al_ it tg bd ps mo fr af fb) : ∀ r, r < n → bitsub (fr r) (frR al_ it tg bd fr r) := h.2.2.2.2.1
theorem LfP.lst {n : Nat} {al_ it tg bd : Nat → Nat} {ps mo : Nat} {fr af fb : Nat → Nat} (h : LfP n al_ it tg bd ps mo fr af fb) : ∀ g : Nat → Nat, SafeM g → (∀ r, r < n → bitsub (frR al_ it tg bd g r) (g r)) → ∀ r, r < n → bitsub (fr r) (g r) := h.2.2.2.2.2.1
theorem LfP.cls {n : Nat} {al_ it tg bd : Nat → Nat} {ps mo : Nat} {fr af fb : Nat → Nat} (h : LfP n al_ it tg bd ps mo fr af fb) : mo = 0 → ∀ r, r < n → fr r = frR al_ it tg bd fr r ∧ ∀ a, a < al_ r → af (r * 4 + a) = frA tg bd it fr (r * 4 + a) ∧ ∀ k, k < it (r * 4 + a) → fb ((r * 4 + a) * 5 + k) = andR (fun j => frI tg bd fr ((r * 4 + a) * 5 + j)) (k + 1) (it (r * 4 + a) - (k + 1)) := h.2.2.2.2.2.2.1
theorem LfP.inc {n : Nat} {al_ it tg bd : Nat → Nat} {ps mo : Nat} {fr af fb : Nat → Nat} (h : LfP n al_ it tg bd ps mo fr af fb) : mo ≠ 0 → ps ≤ tb fr n := h.2.2.2.2.2.2.2
theorem LfP.go {n : Nat} {al_ it tg bd : Nat → Nat} {ps mo : Nat} {fr af fb : Nat → Nat} (h : LfP n al_ it tg bd ps mo fr af fb) : LfI n al_ it tg bd fr 0 0 fr af fb := ⟨Nat.zero_le _, by decide, h.sfr, h.saf, h.sfb, h.sub, h.lst, fun _ _ => bs_rf _, fun _ => ⟨fun _ _ => rfl, fun r hr => absurd hr (Nat.not_lt_zero _)⟩, fun q => absurd rfl q⟩
theorem LfI.fin {n : Nat} {al_ it tg bd : Nat → Nat} {ps mo m0 : Nat} {f0 a0 b0 fr af fb : Nat → Nat} (h0 : LfP n al_ it tg bd ps m0 f0 a0 b0) (hm : m0 ≠ 0) (h : LfI n al_ it tg bd f0 n mo fr af fb) : LfP n al_ it tg bd (ps + 1) mo fr af fb := ⟨h.mo_le, h.sfr, h.saf, h.sfb, h.sub, h.lst, fun q => (h.cls q).2, fun q => by have := h.inc q; have := h0.inc hm; omega⟩
/-- what a rule's own step writes -/
def AfR (al_ it tg bd fr : Nat → Nat) (y : Nat) (af fb af9 fb9 : Nat → Nat) : Prop := SafeM af9 ∧ SafeM fb9 ∧ (∀ a, a < al_ y → af9 (y * 4 + a) = frA tg bd it fr (y * 4 + a) ∧ ∀ k, k < it (y * 4 + a) → fb9 ((y * 4 + a) * 5 + k) = andR (fun j => frI tg bd fr ((y * 4 + a) * 5 + j)) (k + 1) (it (y * 4 + a) - (k + 1))) ∧ (∀ q, ¬ (y * 4 ≤ q ∧ q < y * 4 + 4) → af9 q = af q) ∧ ∀ q, ¬ (y * 20 ≤ q ∧ q < y * 20 + 20) → fb9 q = fb q
theorem up_self (g : Nat → Nat) (k : Nat) : up g k (g k) = g := up_id g k
theorem frA_at {it tg bd f g : Nat → Nat} {n a : Nat} (h : ∀ r, r < n → f r = g r) (ht : ∀ k, k < it a → tg (a * 5 + k) = NO ∨ tg (a * 5 + k) < n) : frA tg bd it f a = frA tg bd it g a := by
  apply bit_ext
  intro c
  unfold frA
  rw [andR_bit, andR_bit]
  have e : ∀ k, k < it a → frI tg bd f (a * 5 + k) = frI tg bd g (a * 5 + k) := fun k hk => by
    unfold frI
    by_cases e : tg (a * 5 + k) = NO
    · rw [if_pos e, if_pos e]
    · rw [if_neg e, if_neg e, h _ ((ht k hk).resolve_left e)]
  constructor
  · rintro ⟨h1, h2⟩
    exact ⟨h1, fun p p1 p2 => by have := h2 p p1 p2; rwa [e p (by omega)] at this⟩
  · rintro ⟨h1, h2⟩
    exact ⟨h1, fun p p1 p2 => by have := h2 p p1 p2; rwa [← e p (by omega)] at this⟩
theorem LfI.step {n : Nat} {al_ it tg bd : Nat → Nat} {f0 : Nat → Nat} {y mo : Nat} {fr af fb af9 fb9 : Nat → Nat} (hc : CloT n al_ it tg) (ha4 : ∀ r, al_ r ≤ 4) (hi5 : ∀ a, it a ≤ 5) (h : LfI n al_ it tg bd f0 y mo fr af fb) (hy : y < n) (hw : AfR al_ it tg bd fr y af fb af9 fb9) : LfI n al_ it tg bd f0 (y + 1) (if mo ≠ 0 ∨ frR al_ it tg bd fr y ≠ fr y then 1 else 0) (up fr y (frR al_ it tg bd fr y)) af9 fb9 := by
  have hsu : SafeM (up fr y (frR al_ it tg bd fr y)) := fun q => by unfold up; split <;> first | exact frR_lt | exact h.sfr q
  have hgr : ∀ r, r < n → bitsub (fr r) (up fr y (frR al_ it tg bd fr y) r) := fun r hr => by
    unfold up; split
    · rename_i e; rw [e]; exact h.sub y hy
    · exact bs_rf _
  refine ⟨by omega, by split <;> decide, hsu, hw.1, hw.2.1, fun r hr => ?_, fun g sg hg r hr => ?_, fun r hr => bs_tr (h.grw r hr) (hgr r hr), fun q => ?_, fun q => ?_⟩
  · by_cases e : r = y
    · rw [e, up_s]; exact frR_mono hc h.sfr hsu hgr hy
    · rw [up_n e]; exact bs_tr (h.sub r hr) (frR_mono hc h.sfr hsu hgr hr)
  · by_cases e : r = y
    · rw [e, up_s]; exact bs_tr (frR_mono hc h.sfr sg (h.lst g sg hg) hy) (hg y hy)
    · rw [up_n e]; exact h.lst g sg hg r hr
  · have hq : ¬ (mo ≠ 0 ∨ frR al_ it tg bd fr y ≠ fr y) := fun r => by rw [if_pos r] at q; cases q
    have hm : mo = 0 := Classical.byContradiction fun r => hq (Or.inl r)
    have hv : frR al_ it tg bd fr y = fr y := Classical.byContradiction fun r => hq (Or.inr r)
    rw [hv, up_self]
    obtain ⟨c1, c2⟩ := h.cls hm
    refine ⟨c1, fun r hr => ?_⟩
    by_cases e : r = y
    · subst e
      exact ⟨hv.symm, hw.2.2.1⟩
    · obtain ⟨d1, d2⟩ := c2 r (by omega)
      refine ⟨d1, fun a ha => ?_⟩
      obtain ⟨e1, e2⟩ := d2 a ha
      have := ha4 r
      refine ⟨by rw [hw.2.2.2.1 _ (by omega)]; exact e1, fun k hk => ?_⟩
      have := hi5 (r * 4 + a)
      rw [hw.2.2.2.2 _ (by omega)]; exact e2 k hk
  · have hq : mo ≠ 0 ∨ frR al_ it tg bd fr y ≠ fr y := Classical.byContradiction fun r => q (if_neg r)
    by_cases hm : mo = 0
    · have hv := hq.resolve_left (fun r => r hm)
      have e0 := tb_mono (f := f0) (g := fr) (n := n) h.grw
      have e1 := tb_strict (f := fr) (n := n) (r := y) hgr hy (hsu y) (by rw [up_s]; exact fun e => hv e.symm)
      omega
    · have e0 := h.inc hm
      have e1 := tb_mono (n := n) hgr
      omega
theorem LfP.lfp {n : Nat} {al_ it tg bd : Nat → Nat} {ps mo : Nat} {fr af fb : Nat → Nat} (h : LfP n al_ it tg bd ps mo fr af fb) (hm : mo = 0) : IsLfp n (frR al_ it tg bd) fr := ⟨fun r hr => (h.cls hm r hr).1, h.lst⟩
theorem LfP.over {n : Nat} {al_ it tg bd : Nat → Nat} {ps mo : Nat} {fr af fb : Nat → Nat} (h : LfP n al_ it tg bd ps mo fr af fb) (hn : n ≤ 8) (hp : 321 ≤ ps) : mo = 0 := Classical.byContradiction fun q => by
  have := h.inc q
  have := tb_le fr n
  omega
theorem LfP.start {n : Nat} {al_ it tg bd : Nat → Nat} {fr af fb : Nat → Nat} (hf : ∀ r, r < n → fr r = 0) (sf : SafeM fr) (sa : SafeM af) (sb : SafeM fb) : LfP n al_ it tg bd 0 1 fr af fb := ⟨Nat.le_refl _, sf, sa, sb, fun r hr => by rw [hf r hr]; exact bs_0 _, fun g _ _ r hr => by rw [hf r hr]; exact bs_0 _, fun q => by omega, fun _ => Nat.zero_le _⟩
theorem LfP.at0 {n : Nat} {al_ it tg bd : Nat → Nat} {ps mo : Nat} {fr af fb : Nat → Nat} (h : LfP n al_ it tg bd ps mo fr af fb) (hm : mo = 0) : LfP n al_ it tg bd 0 0 fr af fb := ⟨Nat.zero_le _, h.sfr, h.saf, h.sfb, h.sub, h.lst, fun _ => h.cls hm, fun q => absurd rfl q⟩
theorem fl_up {h g : Nat → Nat} {i v : Nat} (hh : ∀ q, h q = if q < i then v else g q) (q : Nat) : up h i v q = if q < i + 1 then v else g q := by
  unfold up
  by_cases e : q = i
  · rw [if_pos e, if_pos (by omega)]
  · rw [if_neg e, hh]
    by_cases e2 : q < i
    · rw [if_pos e2, if_pos (by omega)]
    · rw [if_neg e2, if_neg (by omega)]
