/-! what both sides compute ahead agrees -/
theorem andR_cg {f g : Nat → Nat} {a : Nat} : ∀ {n : Nat}, (∀ p, a ≤ p → p < a + n → f p = g p) → andR f a n = andR g a n
  | 0, _ => rfl
  | n + 1, h => by rw [andR, andR, andR_cg (fun p h1 h2 => h p h1 (by omega)), h (a + n) (by omega) (by omega)]
theorem rst_cg9 {E : Nat → Nat → Nat} {n : Nat} {fr fr2 : Nat → Nat} (hc : Clo E n) (hf : ∀ r, r < n → fr r = fr2 r) {r a k : Nat} (hr : r < n) (ha : a < E 0 r) : rst E fr (r * 4 + a) k = rst E fr2 (r * 4 + a) k := by
  unfold rst
  refine andR_cg (fun p h1 h2 => ?_)
  unfold frI
  rcases hc r hr a ha p (by omega) with q | q
  · rw [if_pos q, if_pos q]
  · by_cases e : E 2 ((r * 4 + a) * 5 + p) = NO
    · rw [if_pos e, if_pos e]
    · rw [if_neg e, if_neg e, hf _ q]
theorem ahC_cg {E : Nat → Nat → Nat} {n : Nat} {fr fr2 : Nat → Nat} (hc : Clo E n) (hf : ∀ r, r < n → fr r = fr2 r) {m r i c a k p : Nat} (hr : r < n) (h : ahC E n fr m r i c a k p) : ahC E n fr2 m r i c a k p := by
  obtain ⟨h1, h2, h3, h4, h5, h6⟩ := h
  exact ⟨h1, h2, h3, h4, h5, by rw [← rst_cg9 hc hf hr h1]; exact h6⟩
theorem oEd_cg {E : Nat → Nat → Nat} {n : Nat} {fr fr2 : Nat → Nat} (hc : Clo E n) (hf : ∀ r, r < n → fr r = fr2 r) {m r i c t p d : Nat} (hr : r < n) (h : oEd E n fr m r i c t p d) : oEd E n fr2 m r i c t p d := by
  obtain ⟨a, k, h1, h2⟩ := h
  exact ⟨a, k, ahC_cg hc hf hr h1, h2⟩
theorem Rea_cg {E : Nat → Nat → Nat} {n : Nat} {fr fr2 : Nat → Nat} (hc : Clo E n) (hf : ∀ r, r < n → fr r = fr2 r) {m r0 t p d : Nat} (h : Rea E n fr m r0 t p d) : Rea E n fr2 m r0 t p d := fun Q hQ => h Q ⟨hQ.1, fun r i c t p d h1 h2 h3 h4 => hQ.2 r i c t p d h1 h2 h3 (oEd_cg hc hf h1 h4)⟩
theorem Fnd_cg {E : Nat → Nat → Nat} {n : Nat} {fr fr2 : Nat → Nat} (hc : Clo E n) (hf : ∀ r, r < n → fr r = fr2 r) {m s r0 d : Nat} (h : Fnd E n fr m s r0 d) : Fnd E n fr2 m s r0 d := by
  obtain ⟨r, i, c, h1, h2, h3, a, k, h4, h5⟩ := h
  exact ⟨r, i, c, h1, h2, Rea_cg hc hf h3, a, k, ahC_cg hc hf h1 h4, h5⟩
theorem Fnd_iff {E : Nat → Nat → Nat} {n : Nat} {fr fr2 : Nat → Nat} (hc : Clo E n) (hf : ∀ r, r < n → fr r = fr2 r) {m s r0 d : Nat} : Fnd E n fr m s r0 d ↔ Fnd E n fr2 m s r0 d := ⟨Fnd_cg hc hf, Fnd_cg hc (fun r hr => (hf r hr).symm)⟩
theorem BlK_cg {E : Nat → Nat → Nat} {n : Nat} {fr fr2 : Nat → Nat} (hc : Clo E n) (hf : ∀ r, r < n → fr r = fr2 r) {c k : Nat} (h : BlK E n fr c k) : BlK E n fr2 c k := ⟨h.1, fun h1 h2 => by
  obtain ⟨a, b, d⟩ := h.2 h1 h2
  exact ⟨a, fun t ht => Fnd_cg hc hf (b t ht), fun hk q => d hk (Fnd_cg hc (fun r hr => (hf r hr).symm) q)⟩⟩
theorem GoN_cg {E : Nat → Nat → Nat} {n : Nat} {fr fr2 : Nat → Nat} (hc : Clo E n) (hf : ∀ r, r < n → fr r = fr2 r) (hn : 0 < n) {m : Nat} : GoN E n fr m ↔ GoN E n fr2 m := by
  unfold GoN
  split
  · rw [hf 0 hn]
  · exact Fnd_iff hc hf
theorem fsQ_cg {E : Nat → Nat → Nat} {n : Nat} {fr fr2 : Nat → Nat} (hc : Clo E n) (hf : ∀ r, r < n → fr r = fr2 r) (r : Nat) : fsQ E n fr r = fsQ E n fr2 r := funext (fun s => by
  rw [Bool.eq_iff_iff, fsQ_iff, fsQ_iff]
  exact ⟨fun ⟨d, h⟩ => ⟨d, Fnd_cg hc hf h⟩, fun ⟨d, h⟩ => ⟨d, Fnd_cg hc (fun r hr => (hf r hr).symm) h⟩⟩)
noncomputable def ccI (P : Prop) : Nat := @ite Nat P (Classical.propDecidable P) A40 0
theorem ccI_y {P : Prop} (h : P) : ccI P = A40 := if_pos h
theorem ccI_n {P : Prop} (h : ¬ P) : ccI P = 0 := if_neg h
theorem letsN_09 (b : Nat) : letsN b 0 = 0 := if_pos rfl
theorem br_wh {al_ it tg pt bd sg co br : Nat → Nat} {n : Nat} {emp : Nat → Prop} {rk : Nat → Nat} (hA : Acyc (gE al_ it tg pt bd sg co) n emp rk) (hl : IsLfp n (brR al_ it tg bd) br) : ∀ t, t < n → br t = wh (gE al_ it tg pt bd sg co) n t 0 0 := by
  have hr : ∀ (y k : Nat), rch (gE al_ it tg pt bd sg co) (fun t _ _ => br t) 0 y k 0 = andR (fun j => brI tg bd br (y * 5 + j)) 0 k := by
    intro y k
    induction k with
    | zero => rfl
    | succ k ih =>
      rw [rch, andR, ← ih, Nat.zero_add, show 0 + 1 - 0 = 1 from rfl, orR, orR, Nat.zero_or, Nat.add_zero]
      congr 1
      unfold brI itm
      rw [Nat.zero_add k]
      show letsN (bd (y * 5 + k)) (if tg (y * 5 + k) = NO then _ else br (tg (y * 5 + k))) = _
      by_cases e : tg (y * 5 + k) = NO
      · rw [if_pos e, if_pos e, if_neg (by omega), letsN_09]
      · rw [if_neg e, if_neg e]
  intro t ht
  refine wh_uniq hA (Nat.le_refl 0) (W := fun t _ _ => br t) (fun t p q _ _ h2 h3 h4 => absurd ⟨by omega, by omega⟩ h4) (fun _ t ht hne => ?_) (fun t ht => ?_) (rk t + 1) t ht (Nat.lt_succ_self _)
  · refine Classical.byContradiction (fun hem => hne ?_)
    have h1 := hl.2 (fun t => ccI (emp t)) (fun q => by
      by_cases e : emp q
      · show ccI (emp q) < _; rw [ccI_y e]; decide
      · show ccI (emp q) < _; rw [ccI_n e]; decide) (fun r hr1 c hc => by
      show (ccI (emp r)).testBit c = true
      obtain ⟨a, -, a2, a3⟩ := (orR_bit _ 0 c _).mp hc
      obtain ⟨c40, h4⟩ := (andR_bit _ 0 c _).mp a3
      have hemp : emp r := hA.2.1 r hr1 ⟨a, by show a < al_ r; omega, fun k hk => by
        have h5 := h4 k (Nat.zero_le _) (by show k < 0 + it (r * 4 + a); have : k < it (r * 4 + a) := hk; omega)
        unfold brI at h5
        by_cases e : tg ((r * 4 + a) * 5 + k) = NO
        · rw [if_pos e] at h5; simp at h5
        · refine ⟨e, Classical.byContradiction fun q => ?_⟩
          rw [if_neg e] at h5
          have h6 : (fun t => ccI (emp t)) (tg ((r * 4 + a) * 5 + k)) = 0 := ccI_n q
          rw [h6, letsN_09] at h5
          simp at h5⟩
      rw [ccI_y hemp, show (A40).testBit c = decide (c < 40) from Nat.testBit_two_pow_sub_one 40 c]
      exact decide_eq_true c40) t ht
    have h7 : ccI (emp t) = 0 := ccI_n hem
    refine Nat.eq_of_testBit_eq (fun c => ?_)
    rw [Nat.zero_testBit]
    refine Bool.eq_false_iff.mpr (fun q => ?_)
    have h8 := h1 c q
    rw [h7] at h8
    simp at h8
  · show br t = fR _ _ t 0 0
    rw [hl.1 t ht]
    unfold brR fR
    show orR (fun a => brA tg bd it br (t * 4 + a)) 0 (al_ t) = orR (fun a => rch _ _ 0 (t * 4 + a) (it (t * 4 + a)) 0) 0 (al_ t)
    congr 1
    funext a
    rw [hr]
    rfl
theorem RelG.row {g : Nat → Nat → Nat} {n : Nat} {gn al_ it pt tg bd : Nat → Nat} (h : RelG g n gn al_ it pt tg bd) : RowG g n gn al_ it pt tg bd := ⟨h.1, h.2.1, h.2.2.1, h.2.2.2.1, fun x hx => ⟨(h.2.2.2.2 x hx).1, (h.2.2.2.2 x hx).2.1, (h.2.2.2.2 x hx).2.2.1⟩⟩
theorem Slt.lt {n : Nat} {gn al_ it pt tg bd : Nat → Nat} (hG : SafeG n gn al_ it pt tg bd) {x : Nat} (hx : Slt n al_ it x) : x < 160 := by
  obtain ⟨r, a, k, x1, x2, x3, rfl⟩ := hx
  have := hG.1
  have := hG.2.2.1 r
  have := hG.2.2.2.1 (r * 4 + a)
  omega
theorem RowG.cg {F F2 : Nat → Nat → Nat} {n : Nat} {gn al_ it pt tg bd : Nat → Nat} (h : RowG F n gn al_ it pt tg bd) (hG : SafeG n gn al_ it pt tg bd) (e : ∀ q, q < 529 → F2 140 q = F 140 q) : RowG F2 n gn al_ it pt tg bd := by
  have hn := hG.1
  refine ⟨(e 0 (by decide)).trans h.1, fun r hr1 => (e _ (by omega)).trans (h.2.1 r hr1), fun r hr1 => (e _ (by omega)).trans (h.2.2.1 r hr1), fun r a hr1 ha1 => (e _ (by have := hG.2.2.1 r; omega)).trans (h.2.2.2.1 r a hr1 ha1), fun x hx => ?_⟩
  have hxl := Slt.lt hG hx
  have h9 := h.2.2.2.2 x hx
  exact ⟨(e _ (by omega)).trans h9.1, (e _ (by omega)).trans h9.2.1, (e _ (by omega)).trans h9.2.2⟩
theorem RelT.cg2 {F F2 : Nat → Nat → Nat} {c : Nat} {sg li co : Nat → Nat} (h : RelT F c sg li co) (hc : c ≤ 20) (e : ∀ q, 529 ≤ q → q < 590 → F2 140 q = F 140 q) : RelT F2 c sg li co := ⟨(e _ (by decide) (by decide)).trans h.1, fun k hk => ⟨(e _ (by omega) (by omega)).trans (h.2 k hk).1, (e _ (by omega) (by omega)).trans (h.2 k hk).2.1, (e _ (by omega) (by omega)).trans (h.2 k hk).2.2⟩⟩
theorem KpR.row {f g : Nat → Nat → Nat} {k j : Nat} (h : KpR f g k j) (hk : f k 0 ≠ 0) (hG : SafeG (f (k + 1) 0) (f (k + 2)) (f (k + 3)) (f (k + 4)) (f (k + 5)) (f (k + 6)) (f (k + 7))) (hc : f (k + 11) 0 ≤ 20) : RowG (fset g 140 (kRi g j 590)) (f (k + 1) 0) (f (k + 2)) (f (k + 3)) (f (k + 4)) (f (k + 5)) (f (k + 6)) (f (k + 7)) ∧ RelT (fset g 140 (kRi g j 590)) (f (k + 11) 0) (f (k + 12)) (f (k + 13)) (f (k + 14)) := by
  obtain ⟨h1, h2⟩ := h.2 hk
  have e : ∀ q, q < 590 → fset g 140 (kRi g j 590) 140 q = kRw g j 140 q := fun q hq => by rw [fset_s]; unfold kRi kRw; rw [if_pos hq]
  exact ⟨h1.cg hG (fun q hq => e q (by omega)), h2.cg2 hc (fun q _ hq => e q hq)⟩
/-- undone -/
theorem Rel.undo {L : Nat} {f g : Nat → Nat → Nat} {o R : Nat → Nat} (h : Rel L f o g) (hx : 0 < f 50 0) (hI : CInv L (chg (hBack f))) (hR : ∀ q, R q = if 529 ≤ q ∧ q < 529 + 61 then g 143 (61 * (o 5 - 1) + (q - 529)) else g 140 q) : Rel L (chg (hBack f)) (up (up o 0 0) 5 (o 5 - 1)) (fset g 140 R) := by
  have hsz := h.inv.hsz
  have hen := h.inv.hen
  have hun := h.un
  have hp : ∀ k, k < 10 → f (52 + 4 * k) 0 ≤ 20 := fun k hk => (p10_get h.inv.past k hk).safe.1
  have hlast := h.uh (f 50 0 - 1) (by omega)
  have hix : uix f (f 50 0 - 1) = 52 + 4 * ((f 50 1 + 9) % 10) := by unfold uix; omega
  rw [hix] at hlast
  have hc20 := hp ((f 50 1 + 9) % 10) (by omega)
  refine ⟨hI, h.len, h.txt, ?_, ?_, ⟨?_, h.sf.2⟩, h.s4, h.s5, h.lf, h.lb, ?_, ?_, h.ln, h.lt, h.k0, h.k1, h.b1, h.b3, h.b5, h.b8, h.b61, h.b62, h.b63⟩
  · have h9 : RowG (fset g 140 R) (f 16 0) (f 17) (f 18) (f 19) (f 20) (f 21) (f 22) := h.rg.row.cg h.inv.gram.safe (fun q hq => by rw [fset_s, hR q, if_neg (by omega)])
    exact ⟨h9.1, h9.2.1, h9.2.2.1, h9.2.2.2.1, fun x hx => ⟨(h9.2.2.2.2 x hx).1, (h9.2.2.2.2 x hx).2.1, (h9.2.2.2.2 x hx).2.2, (h.rg.2.2.2.2 x hx).2.2.2⟩⟩
  · show RelT (fset g 140 R) (f (52 + 4 * ((f 50 1 + 9) % 10)) 0) (f (52 + 4 * ((f 50 1 + 9) % 10) + 1)) (f (52 + 4 * ((f 50 1 + 9) % 10) + 2)) (f (52 + 4 * ((f 50 1 + 9) % 10) + 3))
    refine ⟨?_, fun k hk => ?_⟩
    · rw [fset_s, hR 529, if_pos (by omega), hun]; exact hlast.1
    · have h9 := hlast.2 k hk
      rw [fset_s, hR (530 + k), hR (550 + k), hR (570 + k), if_pos (by omega), if_pos (by omega), if_pos (by omega), hun, show 61 * (f 50 0 - 1) + (530 + k - 529) = 61 * (f 50 0 - 1) + 1 + k by omega, show 61 * (f 50 0 - 1) + (550 + k - 529) = 61 * (f 50 0 - 1) + 21 + k by omega, show 61 * (f 50 0 - 1) + (570 + k - 529) = 61 * (f 50 0 - 1) + 41 + k by omega]
      exact h9
  · intro q
    rw [fset_s, hR q]
    split
    · exact h.b3 _
    · exact h.sf.1 _
  · show o 5 - 1 = f 50 0 - 1; rw [hun]
  · intro k hk
    have hk1 : k < f 50 0 - 1 := hk
    have hu : uix (chg (hBack f)) k = uix f k := by
      show 52 + 4 * (((f 50 1 + 9) % 10 + 10 - (f 50 0 - 1) + k) % 10) = 52 + 4 * ((f 50 1 + 10 - f 50 0 + k) % 10)
      omega
    have hc : ∀ j, j < 4 → chg (hBack f) (uix f k + j) = f (uix f k + j) := fun j hj => by
      have hm : (f 50 1 + 10 - f 50 0 + k) % 10 < 10 := Nat.mod_lt _ (by decide)
      have h1 : 52 ≤ uix f k := by unfold uix; omega
      have h2 : uix f k + j ≤ 91 := by unfold uix; omega
      rw [chg_at (by omega) (by omega) (by omega)]
      unfold hBack
      rw [fset_n (by omega), fset_n (by omega), fset_n (by omega), fset_n (by omega), fset_n (by omega)]
    rw [hu, show chg (hBack f) (uix f k) = f (uix f k) from hc 0 (by decide), hc 1 (by decide), hc 2 (by decide), hc 3 (by decide)]
    exact h.uh k (by omega)
