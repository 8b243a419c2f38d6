/-! GRAMMARS that agree where they are used -/
def AgA (n : Nat) (al_ it tg al2 it2 tg2 : Nat → Nat) : Prop := ∀ r, r < n → al_ r = al2 r ∧ ∀ a, a < al_ r → it (r * 4 + a) = it2 (r * 4 + a) ∧ ∀ k, k < it (r * 4 + a) → tg ((r * 4 + a) * 5 + k) = tg2 ((r * 4 + a) * 5 + k)
theorem AgA.sy {n : Nat} {al_ it tg al2 it2 tg2 : Nat → Nat} (h : AgA n al_ it tg al2 it2 tg2) : AgA n al2 it2 tg2 al_ it tg := fun r hr => by
  obtain ⟨h1, h2⟩ := h r hr
  refine ⟨h1.symm, fun a ha => ?_⟩
  obtain ⟨h3, h4⟩ := h2 a (by omega)
  exact ⟨h3.symm, fun k hk => (h4 k (by omega)).symm⟩
theorem emR_cg1 {n : Nat} {al_ it tg al2 it2 tg2 : Nat → Nat} {e : Nat → Bool} (h : AgA n al_ it tg al2 it2 tg2) {r : Nat} (hr : r < n) (q : emR al_ it tg e r) : emR al2 it2 tg2 e r := by
  obtain ⟨a, ha, hk⟩ := q
  obtain ⟨h1, h2⟩ := h r hr
  obtain ⟨h3, h4⟩ := h2 a ha
  exact ⟨a, by omega, fun k hk2 => by rw [← h4 k (by omega)]; exact hk k (by omega)⟩
theorem IsEmp.cg {n : Nat} {al_ it tg al2 it2 tg2 : Nat → Nat} {e : Nat → Bool} (h : AgA n al_ it tg al2 it2 tg2) (q : IsEmp n al_ it tg e) : IsEmp n al2 it2 tg2 e := ⟨fun r hr => (q.1 r hr).trans ⟨emR_cg1 h hr, emR_cg1 h.sy hr⟩, fun g hg r hr he => q.2 g (fun t ht q2 => hg t ht (emR_cg1 h ht q2)) r hr he⟩
theorem ed_cg1 {n : Nat} {al_ it tg al2 it2 tg2 : Nat → Nat} {e : Nat → Bool} (h : AgA n al_ it tg al2 it2 tg2) {r t : Nat} (hr : r < n) (q : ed al_ it tg e r t) : ed al2 it2 tg2 e r t := by
  obtain ⟨a, ha, k, hk, q1, q2, q3⟩ := q
  obtain ⟨h1, h2⟩ := h r hr
  obtain ⟨h3, h4⟩ := h2 a ha
  exact ⟨a, by omega, k, by omega, by rw [← h4 k hk]; exact q1, q2, fun k' hk' hn => by rw [← h4 k' (by omega)]; exact q3 k' (by omega) hn⟩
theorem ed_e {al_ it tg : Nat → Nat} {n : Nat} {e g : Nat → Bool} (hc : CloT n al_ it tg) (h : ∀ r, r < n → e r = g r) {r t : Nat} (hr : r < n) (q : ed al_ it tg e r t) : ed al_ it tg g r t := by
  obtain ⟨a, ha, k, hk, q1, q2, q3⟩ := q
  exact ⟨a, ha, k, hk, q1, q2, fun k' hk' hn => ⟨(q3 k' hk' hn).1, by rw [← h _ ((hc r a k' hr ha hk').resolve_left (q3 k' hk' hn).1)]; exact (q3 k' hk' hn).2⟩⟩
theorem Rnd_cg {n : Nat} {al_ it tg al2 it2 tg2 : Nat → Nat} {e : Nat → Bool} (h : AgA n al_ it tg al2 it2 tg2) {r : Nat} : Rnd n al_ it tg e r ↔ Rnd n al2 it2 tg2 e r := by
  unfold Rnd
  rw [show (fun r t => r < n ∧ ed al_ it tg e r t) = (fun r t => r < n ∧ ed al2 it2 tg2 e r t) from funext fun r => funext fun t => propext ⟨fun q => ⟨q.1, ed_cg1 h q.1 q.2⟩, fun q => ⟨q.1, ed_cg1 h.sy q.1 q.2⟩⟩]
theorem Rnd_e {n : Nat} {al_ it tg : Nat → Nat} {e g : Nat → Bool} (hc : CloT n al_ it tg) (h : ∀ r, r < n → e r = g r) {r : Nat} : Rnd n al_ it tg e r ↔ Rnd n al_ it tg g r := by
  unfold Rnd
  rw [show (fun r t => r < n ∧ ed al_ it tg e r t) = (fun r t => r < n ∧ ed al_ it tg g r t) from funext fun r => funext fun t => propext ⟨fun q => ⟨q.1, ed_e hc h q.1 q.2⟩, fun q => ⟨q.1, ed_e hc (fun r hr => (h r hr).symm) q.1 q.2⟩⟩]
/-- rounds, whatever way what can be empty is held -/
def RdC (n : Nat) (al_ it tg : Nat → Nat) (r : Nat) : Prop := ∃ e, IsEmp n al_ it tg e ∧ Rnd n al_ it tg e r
theorem RdC_iff {n : Nat} {al_ it tg : Nat → Nat} {e : Nat → Bool} (hc : CloT n al_ it tg) (he : IsEmp n al_ it tg e) {r : Nat} : RdC n al_ it tg r ↔ Rnd n al_ it tg e r := ⟨fun ⟨g, h1, h2⟩ => (Rnd_e hc (fun r hr => h1.uniq he r hr)).mp h2, fun h => ⟨e, he, h⟩⟩
theorem RdC_cg {n : Nat} {al_ it tg al2 it2 tg2 : Nat → Nat} (h : AgA n al_ it tg al2 it2 tg2) {r : Nat} : RdC n al_ it tg r ↔ RdC n al2 it2 tg2 r := ⟨fun ⟨g, h1, h2⟩ => ⟨g, h1.cg h, (Rnd_cg h).mp h2⟩, fun ⟨g, h1, h2⟩ => ⟨g, h1.cg h.sy, (Rnd_cg h.sy).mp h2⟩⟩
/-- a name in an alt that has no rule, and the first of them -/
def Sty (tx : Nat → Nat) (tl v : Nat) : Prop := ∃ r a k, gV tx tl r a k ∧ iN tx tl (gPos tx tl ((r * 4 + a) * 5 + k)) = true ∧ gTg tx tl (gK tx tl + 1) ((r * 4 + a) * 5 + k) = NO ∧ v = gPp tx tl ((r * 4 + a) * 5 + k) ∧ ∀ r2 a2 k2, gV tx tl r2 a2 k2 → iN tx tl (gPos tx tl ((r2 * 4 + a2) * 5 + k2)) = true → gTg tx tl (gK tx tl + 1) ((r2 * 4 + a2) * 5 + k2) = NO → v ≤ gPp tx tl ((r2 * 4 + a2) * 5 + k2)
def NoSty (tx : Nat → Nat) (tl : Nat) : Prop := ∀ r a k, gV tx tl r a k → iN tx tl (gPos tx tl ((r * 4 + a) * 5 + k)) = true → gTg tx tl (gK tx tl + 1) ((r * 4 + a) * 5 + k) ≠ NO
def gRd (tx : Nat → Nat) (tl r : Nat) : Prop := RdC (gK tx tl + 1) (gAl tx tl) (gIt tx tl) (gTg tx tl (gK tx tl + 1)) r
/-- what reading a grammar answers: the place of its fault, or NO -/
def GrF (tx : Nat → Nat) (tl v : Nat) : Prop := (gF tx tl ≠ NO ∧ v = gF tx tl) ∨ (gF tx tl = NO ∧ Sty tx tl v) ∨ (gF tx tl = NO ∧ NoSty tx tl ∧ ∃ r, r < gK tx tl + 1 ∧ gRd tx tl r ∧ (∀ q, q < r → ¬ gRd tx tl q) ∧ v = nQ tx tl (cP tx tl r)) ∨ (gF tx tl = NO ∧ NoSty tx tl ∧ (∀ q, q < gK tx tl + 1 → ¬ gRd tx tl q) ∧ v = NO)
theorem Sty.no {tx : Nat → Nat} {tl v : Nat} (h : Sty tx tl v) (h2 : NoSty tx tl) : False := by
  obtain ⟨r, a, k, h3, h4, h5, -⟩ := h
  exact h2 r a k h3 h4 h5
theorem GrF.uniq {tx : Nat → Nat} {tl v w : Nat} (hv : GrF tx tl v) (hw : GrF tx tl w) : v = w := by
  rcases hv with ⟨a1, a2⟩ | ⟨a1, a2⟩ | ⟨a1, a2, r, a3, a4, a5, a6⟩ | ⟨a1, a2, a3, a4⟩
  · rcases hw with ⟨b1, b2⟩ | ⟨b1, b2⟩ | ⟨b1, _⟩ | ⟨b1, _⟩
    · rw [a2, b2]
    · exact absurd b1 a1
    · exact absurd b1 a1
    · exact absurd b1 a1
  · rcases hw with ⟨b1, b2⟩ | ⟨b1, b2⟩ | ⟨b1, b2, _⟩ | ⟨b1, b2, _⟩
    · exact absurd a1 b1
    · obtain ⟨r, a, k, c1, c2, c3, c4, c5⟩ := a2
      obtain ⟨r', a', k', d1, d2, d3, d4, d5⟩ := b2
      have e1 := c5 r' a' k' d1 d2 d3
      have e2 := d5 r a k c1 c2 c3
      omega
    · exact absurd a2 (fun q => q.no b2)
    · exact absurd a2 (fun q => q.no b2)
  · rcases hw with ⟨b1, b2⟩ | ⟨b1, b2⟩ | ⟨b1, b2, r', b3, b4, b5, b6⟩ | ⟨b1, b2, b3, _⟩
    · exact absurd a1 b1
    · exact absurd b2 (fun q => q.no a2)
    · have e : r = r' := by
        rcases Nat.lt_or_ge r r' with q | q
        · exact absurd a4 (b5 r q)
        · rcases Nat.lt_or_ge r' r with q2 | q2
          · exact absurd b4 (a5 r' q2)
          · omega
      rw [a6, b6, e]
    · exact absurd a4 (b3 r a3)
  · rcases hw with ⟨b1, b2⟩ | ⟨b1, b2⟩ | ⟨b1, b2, r', b3, b4, _⟩ | ⟨b1, b2, b3, b4⟩
    · exact absurd a1 b1
    · exact absurd b2 (fun q => q.no a2)
    · exact absurd b4 (a3 r' b3)
    · rw [a4, b4]
/-- rules that hold what the text spells -/
def AgG (tx : Nat → Nat) (tl n : Nat) (gn al_ it pt tg bd : Nat → Nat) : Prop := n = gK tx tl + 1 ∧ ∀ r, r < n → gn r = cN tx tl r ∧ al_ r = gAl tx tl r ∧ ∀ a, a < al_ r → it (r * 4 + a) = gIt tx tl (r * 4 + a) ∧ ∀ k, k < it (r * 4 + a) → pt ((r * 4 + a) * 5 + k) = gPt tx tl ((r * 4 + a) * 5 + k) ∧ tg ((r * 4 + a) * 5 + k) = gTg tx tl n ((r * 4 + a) * 5 + k) ∧ bd ((r * 4 + a) * 5 + k) = gBd tx tl ((r * 4 + a) * 5 + k)
theorem AgG.aga {tx : Nat → Nat} {tl n : Nat} {gn al_ it pt tg bd : Nat → Nat} (h : AgG tx tl n gn al_ it pt tg bd) : AgA n al_ it tg (gAl tx tl) (gIt tx tl) (gTg tx tl n) := fun r hr => by
  obtain ⟨h1, h2, h3⟩ := h.2 r hr
  refine ⟨h2, fun a ha => ?_⟩
  obtain ⟨h4, h5⟩ := h3 a ha
  exact ⟨h4, fun k hk => (h5 k hk).2.1⟩
theorem AgG.gv {tx : Nat → Nat} {tl n : Nat} {gn al_ it pt tg bd : Nat → Nat} (h : AgG tx tl n gn al_ it pt tg bd) {r a k : Nat} (hr : r < n) (ha : a < al_ r) (hk : k < it (r * 4 + a)) : gV tx tl r a k := by
  obtain ⟨h1, h2, h3⟩ := h.2 r hr
  obtain ⟨h4, h5⟩ := h3 a ha
  have := h.1
  exact ⟨by omega, by omega, by omega⟩
theorem AgG.clo {tx : Nat → Nat} {tl n : Nat} {gn al_ it pt tg bd : Nat → Nat} (h : AgG tx tl n gn al_ it pt tg bd) : CloT n al_ it tg := fun r a k hr ha hk => by
  obtain ⟨h1, h2, h3⟩ := h.2 r hr
  obtain ⟨-, h5⟩ := h3 a ha
  rw [(h5 k hk).2.1]
  unfold gTg; split
  · rcases srch_spec (fun q => cN tx tl q == gPt tx tl ((r * 4 + a) * 5 + k)) n 0 with ⟨q, -⟩ | ⟨-, q, -⟩
    · exact Or.inl q
    · exact Or.inr (by omega)
  · exact Or.inl rfl
theorem AgG.gclo {tx : Nat → Nat} {tl n : Nat} : CloT n (gAl tx tl) (gIt tx tl) (gTg tx tl n) := fun r a k _ _ _ => by
  unfold gTg; split
  · rcases srch_spec (fun q => cN tx tl q == gPt tx tl ((r * 4 + a) * 5 + k)) n 0 with ⟨q, -⟩ | ⟨-, q, -⟩
    · exact Or.inl q
    · exact Or.inr (by omega)
  · exact Or.inl rfl
theorem gok_of {tx : Nat → Nat} {tl n em : Nat} {gn al_ it pt tg bd fr af fb : Nat → Nat} (htl : tl ≤ 240) (h : gF tx tl = NO) (hA : AgG tx tl n gn al_ it pt tg bd) (hG : SafeG n gn al_ it pt tg bd) (hN : NoSty tx tl) (hem : em < 256) (hE : IsEmp n al_ it tg (fun r => em.testBit r)) (hR : ∀ r, r < n → ¬ Rnd n al_ it tg (fun r => em.testBit r) r) (hL : LfP n al_ it tg bd 0 0 fr af fb) : GOK n gn al_ it pt tg bd em fr af fb := by
  have hn := hA.1
  have hgo := gOK htl h
  refine ⟨hG, hL.sfr, hL.saf, hL.sfb, hem, fun r hr => ?_, fun r hr => ?_, fun x hx => ?_, fun x hx => ?_, acyc_of hA.clo hE hR, hL.lfp rfl, fun r a hr ha => ((hL.cls rfl r hr).2 a ha).1, fun r a k hr ha hk => ((hL.cls rfl r hr).2 a ha).2 k hk, hE⟩
  · rw [(hA.2 r hr).1]
    have hc := (hgo.2 r (by omega)).2.1
    unfold cD at hc
    rw [Bool.or_eq_false_iff, Bool.or_eq_false_iff, Bool.not_eq_false'] at hc
    exact nm_lt hc.1.1
  · rw [(hA.2 r hr).2.1]; unfold gAl; omega
  · obtain ⟨r, a, k, h_r, ha, hk, rfl⟩ := hx
    have hv := hA.gv h_r ha hk
    obtain ⟨-, -, h3⟩ := hA.2 r h_r
    obtain ⟨-, h5⟩ := h3 a ha
    obtain ⟨e1, e2, -⟩ := h5 k hk
    have hf := gV_i htl h hv
    rw [e1, e2]
    refine ⟨fun q => ?_, fun q => ?_⟩
    · have hi : ¬ iN tx tl (gPos tx tl ((r * 4 + a) * 5 + k)) = true := fun q2 => by
        have := hN r a k hv q2
        rw [← hn] at this
        exact this q
      unfold gPt iV
      unfold iN at hi
      rw [if_neg hi]
      unfold iF at hf
      rw [if_neg hi] at hf
      have hb := (gV_b htl h hv)
      by_cases q3 : hr tx tl (iQ tx tl (gPos tx tl ((r * 4 + a) * 5 + k))) = 39
      · rw [if_pos q3] at hf
        by_cases q4 : sgB (hr tx tl (iQ tx tl (gPos tx tl ((r * 4 + a) * 5 + k)) + 1)) = true
        · exact sg_b q4
        · rw [if_neg q4] at hf
          exfalso
          have := hr_in (show hr tx tl (iQ tx tl (gPos tx tl ((r * 4 + a) * 5 + k))) ≠ NO by rw [q3]; decide)
          unfold NO at hf; omega
      · rw [if_neg q3] at hf
        exfalso
        have hb2 := aP_b (tx := tx) (tl := tl) (p := bP tx tl (cA tx tl r) a) hb.2.2.2.2.2.1 htl (k := k) (fun j hj => (aK_sp tx tl _).2 j (by have := hb.2.2.2.2.2.2.1; omega))
        rw [gPos_at hb.2.1 hb.2.2.1] at hf
        have := (iQ_b (tx := tx) hb2.2).2
        unfold NO at hf; omega
    · have hi : iN tx tl (gPos tx tl ((r * 4 + a) * 5 + k)) = true := Classical.byContradiction fun q2 => q (by unfold gTg; rw [if_neg q2])
      unfold gTg at q ⊢
      rw [if_pos hi] at q ⊢
      have hs : srch (fun q => gn q == gPt tx tl ((r * 4 + a) * 5 + k)) 0 n = srch (fun q => cN tx tl q == gPt tx tl ((r * 4 + a) * 5 + k)) 0 n := srch_cg (fun q _ h2 => by rw [(hA.2 q (by omega)).1])
      refine ⟨?_, hs⟩
      rcases srch_spec (fun q => cN tx tl q == gPt tx tl ((r * 4 + a) * 5 + k)) n 0 with ⟨q3, -⟩ | ⟨-, q3, -⟩
      · exact absurd q3 q
      · omega
  · obtain ⟨r, a, k, hr, ha, hk, rfl⟩ := hx
    obtain ⟨-, -, h3⟩ := hA.2 r hr
    obtain ⟨-, h5⟩ := h3 a ha
    rw [(h5 k hk).2.2]
    unfold gBd iB; split
    · rename_i q; have := bn_lt q; omega
    · exact Or.inl rfl
