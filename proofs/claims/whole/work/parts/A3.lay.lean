/-! THE MODEL's row, parts, free and bare -/
def RowG (f : Nat → Nat → Nat) (n : Nat) (gn al_ it pt tg bd : Nat → Nat) : Prop := f 140 0 = n ∧ (∀ r, r < n → f 140 (1 + r) = gn r) ∧ (∀ r, r < n → f 140 (9 + r) = al_ r) ∧ (∀ r a, r < n → a < al_ r → f 140 (17 + (r * 4 + a)) = it (r * 4 + a)) ∧ ∀ x, Slt n al_ it x → f 140 (49 + 3 * x) = pt x ∧ f 140 (49 + 3 * x + 1) = (if tg x = NO then 0 else 1) ∧ f 140 (49 + 3 * x + 2) = bd x
theorem RowG.rel {f : Nat → Nat → Nat} {n : Nat} {gn al_ it pt tg bd P : Nat → Nat} (h : RowG f n gn al_ it pt tg bd) (hP : ∀ x, Slt n al_ it x → P x = tg x) {A B : Nat → Nat} : RelG (fset (fset (fset f 155 B) 154 A) 153 P) n gn al_ it pt tg bd := ⟨h.1, h.2.1, h.2.2.1, h.2.2.2.1, fun x hx => ⟨(h.2.2.2.2 x hx).1, (h.2.2.2.2 x hx).2.1, (h.2.2.2.2 x hx).2.2, hP x hx⟩⟩
def ptI (n : Nat) (al_ it tg : Nat → Nat) (x0 : Nat) (P : Nat → Nat) : Prop := ∀ r a k, sVl n al_ it r a k → (r * 4 + a) * 5 + k < x0 → P ((r * 4 + a) * 5 + k) = tg ((r * 4 + a) * 5 + k)
theorem ptI.to {n : Nat} {al_ it tg : Nat → Nat} {x0 x1 : Nat} {P : Nat → Nat} (h : ptI n al_ it tg x0 P) (h2 : ∀ r a k, sVl n al_ it r a k → (r * 4 + a) * 5 + k < x1 → (r * 4 + a) * 5 + k < x0) : ptI n al_ it tg x1 P := fun r a k q1 q2 => h r a k q1 (h2 r a k q1 q2)
theorem ptI.step {n : Nat} {al_ it tg : Nat → Nat} {r a k : Nat} {P : Nat → Nat} (h : ptI n al_ it tg ((r * 4 + a) * 5 + k) P) : ptI n al_ it tg ((r * 4 + a) * 5 + (k + 1)) (up P ((r * 4 + a) * 5 + k) (tg ((r * 4 + a) * 5 + k))) := fun r2 a2 k2 q1 q2 => by
  unfold up
  by_cases e : (r2 * 4 + a2) * 5 + k2 = (r * 4 + a) * 5 + k
  · rw [if_pos e, e]
  · rw [if_neg e]; exact h r2 a2 k2 q1 (by omega)
theorem gMo_f {n : Nat} {al_ it tg bd : Nat → Nat} (hc : CloT n al_ it tg) : gMo n al_ (fun fr x => frA tg bd it fr x) := ⟨fun _ _ _ => andR_lt, fun _ _ _ _ sf sg hs hr ha => frA_mono hc sf sg hs hr ha⟩
theorem gMo_b {n : Nat} {al_ it tg bd : Nat → Nat} (hc : CloT n al_ it tg) : gMo n al_ (fun fr x => brA tg bd it fr x) := ⟨fun _ _ _ => andR_lt, fun f g r a sf sg hs hr ha => andR_mono (fun p _ p2 => by
  unfold brI
  by_cases e : tg ((r * 4 + a) * 5 + p) = NO
  · rw [if_pos e]; exact bs_0 _
  · rw [if_neg e, if_neg e]
    exact letsN_mono (sf _) (sg _) (hs _ ((hc r a p hr ha (by omega)).resolve_left e)))⟩
/-- inside a pass -/
def laI (n : Nat) (al_ it tg bd : Nat → Nat) (F1 B1 : Nat → Nat) (y mo : Nat) (F2 B2 : Nat → Nat) : Prop := y ≤ n ∧ mo ≤ 1 ∧ RuI n al_ (fun fr x => frA tg bd it fr x) F1 y F2 ∧ RuI n al_ (fun fr x => brA tg bd it fr x) B1 y B2 ∧ (mo = 0 → (∀ r, F2 r = F1 r) ∧ ∀ r, B2 r = B1 r) ∧ (mo ≠ 0 → tb F1 n + tb B1 n < tb F2 n + tb B2 n)
def laP (n : Nat) (al_ it tg bd : Nat → Nat) (mo : Nat) (F B : Nat → Nat) : Prop := mo ≤ 1 ∧ SafeM F ∧ SafeM B ∧ lsT n al_ (fun fr x => frA tg bd it fr x) F ∧ lsT n al_ (fun fr x => brA tg bd it fr x) B ∧ (mo = 0 → IsLfp n (frR al_ it tg bd) F ∧ IsLfp n (brR al_ it tg bd) B)
theorem laP.start {n : Nat} {al_ it tg bd F B : Nat → Nat} (h1 : SafeM F) (h2 : SafeM B) (h3 : ∀ r, r < n → F r = 0) (h4 : ∀ r, r < n → B r = 0) : laP n al_ it tg bd 1 F B := ⟨Nat.le_refl _, h1, h2, fun g _ _ r hr => by rw [h3 r hr]; exact bs_0 _, fun g _ _ r hr => by rw [h4 r hr]; exact bs_0 _, fun q => by omega⟩
theorem laP.go {n : Nat} {al_ it tg bd F B : Nat → Nat} {mo : Nat} (h : laP n al_ it tg bd mo F B) : laI n al_ it tg bd F B 0 0 F B := ⟨Nat.zero_le _, by decide, ⟨h.2.1, h.2.2.2.1, fun _ => bs_rf _, fun _ r hr => absurd hr (Nat.not_lt_zero _)⟩, ⟨h.2.2.1, h.2.2.2.2.1, fun _ => bs_rf _, fun _ r hr => absurd hr (Nat.not_lt_zero _)⟩, fun _ => ⟨fun _ => rfl, fun _ => rfl⟩, fun q => absurd rfl q⟩
theorem laI.fin {n : Nat} {al_ it tg bd F1 B1 F2 B2 : Nat → Nat} {mo : Nat} (hc : CloT n al_ it tg) (h : laI n al_ it tg bd F1 B1 n mo F2 B2) : laP n al_ it tg bd mo F2 B2 := ⟨h.2.1, h.2.2.1.sfr, h.2.2.2.1.sfr, h.2.2.1.lst, h.2.2.2.1.lst, fun q => ⟨RuI.lfp (gMo_f hc) h.2.2.1 (h.2.2.2.2.1 q).1, RuI.lfp (gMo_b hc) h.2.2.2.1 (h.2.2.2.2.1 q).2⟩⟩
theorem laI.step {n : Nat} {al_ it tg bd F1 B1 F2 B2 F3 B3 : Nat → Nat} {y mo a : Nat} (h : laI n al_ it tg bd F1 B1 y mo F2 B2) (hy : y < n) (hF : AlI n al_ (fun fr x => frA tg bd it fr x) F2 y a F3) (hB : AlI n al_ (fun fr x => brA tg bd it fr x) B2 y a B3) (ha : a = al_ y) : laI n al_ it tg bd F1 B1 (y + 1) (if mo ≠ 0 ∨ F3 y ≠ F2 y ∨ B3 y ≠ B2 y then 1 else 0) F3 B3 := by
  obtain ⟨h1, h2, h3, h4, h5, h6⟩ := h
  have gF : ∀ r, r < n → bitsub (F2 r) (F3 r) := fun r _ => if e : r = y then e ▸ hF.grw else by rw [hF.oth r e]; exact bs_rf _
  have gB : ∀ r, r < n → bitsub (B2 r) (B3 r) := fun r _ => if e : r = y then e ▸ hB.grw else by rw [hB.oth r e]; exact bs_rf _
  refine ⟨by omega, by split <;> decide, h3.step hF ha, h4.step hB ha, fun q => ?_, fun q => ?_⟩
  · have hq : ¬ (mo ≠ 0 ∨ F3 y ≠ F2 y ∨ B3 y ≠ B2 y) := fun r => by rw [if_pos r] at q; cases q
    have q1 : mo = 0 := Classical.byContradiction fun r => hq (Or.inl r)
    have q2 : F3 y = F2 y := Classical.byContradiction fun r => hq (Or.inr (Or.inl r))
    have q3 : B3 y = B2 y := Classical.byContradiction fun r => hq (Or.inr (Or.inr r))
    obtain ⟨e1, e2⟩ := h5 q1
    exact ⟨fun r => if e : r = y then by rw [e, q2]; exact e1 y else (hF.oth r e).trans (e1 r), fun r => if e : r = y then by rw [e, q3]; exact e2 y else (hB.oth r e).trans (e2 r)⟩
  · have hq : mo ≠ 0 ∨ F3 y ≠ F2 y ∨ B3 y ≠ B2 y := Classical.byContradiction fun r => q (if_neg r)
    have m1 := tb_mono (n := n) gF
    have m2 := tb_mono (n := n) gB
    have k1 := tb_mono (f := F1) (g := F2) (n := n) (fun r _ => h3.grw r)
    have k2 := tb_mono (f := B1) (g := B2) (n := n) (fun r _ => h4.grw r)
    rcases hq with hq | hq | hq
    · have := h6 hq; omega
    · have := tb_strict (n := n) gF hy (hF.sfr y) (fun e => hq e.symm); omega
    · have := tb_strict (n := n) gB hy (hB.sfr y) (fun e => hq e.symm); omega
theorem lf_no {t : Nat} (h : ¬ (if t = NO then 0 else 1) = 1) : t = NO := Classical.byContradiction fun q => h (if_neg q)
theorem la_meas {n mo m2 N1 : Nat} {F1 B1 F2 B2 : Nat → Nat} (hn : n ≤ 8) (h0 : ¬ mo = 0) (hm : (if mo = 0 then 0 else 642 - (tb F1 n + tb B1 n)) < N1 + 1) (h : m2 ≠ 0 → tb F1 n + tb B1 n < tb F2 n + tb B2 n) : (if m2 = 0 then 0 else 642 - (tb F2 n + tb B2 n)) < N1 := by
  rw [if_neg h0] at hm
  have a1 := tb_le F1 n
  have a2 := tb_le B1 n
  split
  · omega
  · rename_i q
    have := h q
    omega
