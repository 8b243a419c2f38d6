/-! FROM what is read to what the text spells -/
theorem GD.at {tx : Nat → Nat} {tl n : Nat} {gn al_ it pt tg bd np pp : Nat → Nat} (htl : tl ≤ 240) (h : gF tx tl = NO) (hn : n = gK tx tl + 1) (hD : ∀ j, j < gK tx tl + 1 → GD tx tl j gn al_ it pt tg bd np pp) {r a : Nat} (h_r : r < n) (ha : a < al_ r) : a < 4 ∧ it (r * 4 + a) = gIt tx tl (r * 4 + a) ∧ ∀ k, k < it (r * 4 + a) → gV tx tl r a k ∧ pt ((r * 4 + a) * 5 + k) = gPt tx tl ((r * 4 + a) * 5 + k) ∧ tg ((r * 4 + a) * 5 + k) = gFl tx tl ((r * 4 + a) * 5 + k) ∧ bd ((r * 4 + a) * 5 + k) = gBd tx tl ((r * 4 + a) * 5 + k) ∧ (iN tx tl (gPos tx tl ((r * 4 + a) * 5 + k)) = true → pp ((r * 4 + a) * 5 + k) = gPp tx tl ((r * 4 + a) * 5 + k)) := by
  obtain ⟨-, -, d3, d4⟩ := hD r (by omega)
  obtain ⟨c1, c2, c3, c4, -⟩ := (gOK htl h).2 r (by omega)
  obtain ⟨b1, -, -⟩ := bK_sp c3 c4 htl
  have ha4 : a < 4 := by omega
  obtain ⟨e1, e2⟩ := d4 a (by omega)
  have hit : it (r * 4 + a) = gIt tx tl (r * 4 + a) := by rw [e1, gIt_at ha4]
  refine ⟨ha4, hit, fun k hk => ?_⟩
  have hk5 : k < 5 := by have := (aK_sp tx tl (bP tx tl (cA tx tl r) a)).1; omega
  obtain ⟨f1, f2, f3, f4⟩ := e2 k (by omega)
  unfold gPt gFl gBd gPp
  rw [gPos_at ha4 hk5]
  exact ⟨⟨by omega, by unfold gAl; omega, by omega⟩, f1, f2, f3, f4⟩
theorem itO_at {al_ it : Nat → Nat} {r a : Nat} (ha4 : a < 4) (ha : a < al_ r) : itO al_ it (r * 4 + a) = it (r * 4 + a) := by
  unfold itO
  rw [show (r * 4 + a) % 4 = a by omega, show (r * 4 + a) / 4 = r by omega, if_pos ha]
theorem nmT_g {tx : Nat → Nat} {tl n x : Nat} {gn pt tg : Nat → Nat} (hg : ∀ q, q < n → gn q = cN tx tl q) (hp : pt x = gPt tx tl x) (ht : tg x = gFl tx tl x) : nmT n gn pt tg x = gTg tx tl n x := by
  unfold nmT gTg
  rw [ht, hp]
  unfold gFl
  by_cases e : iN tx tl (gPos tx tl x) = true
  · rw [if_pos e, if_neg (by decide), if_pos e]
    exact srch_cg (fun q _ h2 => by rw [hg q (by omega)])
  · rw [if_neg e, if_pos rfl, if_neg e]
theorem gFl_ne {tx : Nat → Nat} {tl x : Nat} : gFl tx tl x ≠ NO ↔ iN tx tl (gPos tx tl x) = true := by
  unfold gFl
  by_cases e : iN tx tl (gPos tx tl x) = true
  · rw [if_pos e]; exact ⟨fun _ => e, fun _ => by decide⟩
  · rw [if_neg e]; exact ⟨fun q => absurd rfl q, fun q => absurd q e⟩
theorem gPp_le {tx : Nat → Nat} {tl r a k : Nat} (htl : tl ≤ 240) (h : gF tx tl = NO) (hv : gV tx tl r a k) : gPp tx tl ((r * 4 + a) * 5 + k) ≤ tl := by
  have hb := gV_b htl h hv
  unfold gPp
  rw [gPos_at hb.2.1 hb.2.2.1]
  exact (iQ_b (aP_b (tx := tx) hb.2.2.2.2.2.1 htl (k := k) (fun j hj => (aK_sp tx tl _).2 j (by have := hb.2.2.2.2.2.2.1; omega))).2).2
theorem sty_of {tx : Nat → Nat} {tl n v : Nat} {gn al_ it pt tg bd np pp T : Nat → Nat} (htl : tl ≤ 240) (h : gF tx tl = NO) (hn : n = gK tx tl + 1) (ha4 : ∀ q, al_ q ≤ 4) (hi5 : ∀ q, it q ≤ 5) (hD : ∀ j, j < gK tx tl + 1 → GD tx tl j gn al_ it pt tg bd np pp) (hE : rsE n gn al_ it pt tg pp v T) : (v = NO ∧ NoSty tx tl ∧ AgG tx tl n gn al_ it pt T bd) ∨ (v ≠ NO ∧ v ≤ tl ∧ Sty tx tl v) := by
  have hg : ∀ q, q < n → gn q = cN tx tl q := fun q hq => (hD q (by omega)).1
  have hal : ∀ r, r < n → al_ r = gAl tx tl r := fun r h_r => (hD r (by omega)).2.2.1
  rcases hE with ⟨e1, e2⟩ | ⟨a, k, h1, h2, h3, h4, h5, T0, h6⟩
  · refine Or.inl ⟨e1, fun r a k hv hi => ?_, hn, fun r h_r => ⟨hg r h_r, hal r h_r, fun a ha => ?_⟩⟩
    · have h_r : r < n := by have := hv.1; omega
      obtain ⟨g1, g2, g3⟩ := GD.at htl h hn hD h_r (a := a) (by rw [hal r h_r]; exact hv.2.1)
      obtain ⟨g4, g5, g6, -, -⟩ := g3 k (by rw [g2]; exact hv.2.2)
      have e3 := (e2.1 (r * 4 + a) k (by rw [itO_at g1 (by rw [hal r h_r]; exact hv.2.1), g2]; exact hv.2.2) (Or.inl (by omega))).2 (by rw [g6]; exact gFl_ne.mpr hi)
      rw [nmT_g hg g5 g6] at e3
      rw [← hn]; exact e3
    · obtain ⟨g1, g2, g3⟩ := GD.at htl h hn hD h_r ha
      refine ⟨g2, fun k hk => ?_⟩
      obtain ⟨g4, g5, g6, g7, -⟩ := g3 k hk
      have e3 := (e2.1 (r * 4 + a) k (by rw [itO_at g1 ha]; exact hk) (Or.inl (by omega))).1
      exact ⟨g5, by rw [e3]; exact nmT_g hg g5 g6, g7⟩
  · have hal4 : a % 4 < al_ (a / 4) := by
      unfold itO at h2
      split at h2
      · assumption
      · omega
    have ea : a = a / 4 * 4 + a % 4 := by omega
    have h_r : a / 4 < n := by omega
    obtain ⟨g1, g2, g3⟩ := GD.at htl h hn hD h_r hal4
    rw [← ea] at g2 g3
    have hk : k < it a := by unfold itO at h2; rw [if_pos hal4] at h2; exact h2
    obtain ⟨g4, g5, g6, g7, g8⟩ := g3 k hk
    have hi : iN tx tl (gPos tx tl (a * 5 + k)) = true := gFl_ne.mp (by rw [← g6]; exact h3)
    have hv := h5.trans (g8 hi)
    have hle := gPp_le htl h g4
    rw [← ea] at hle
    refine Or.inr ⟨by rw [hv]; unfold NO; omega, by omega, a / 4, a % 4, k, g4, by rw [← ea]; exact hi, by rw [← ea, ← hn, ← nmT_g hg g5 g6]; exact h4, by rw [← ea]; exact hv, fun r2 a2 k2 v2 i2 t2 => ?_⟩
    have h_r2 : r2 < n := by have := v2.1; omega
    have hal2 : a2 < al_ r2 := by rw [hal r2 h_r2]; exact v2.2.1
    obtain ⟨k1, k2', k3⟩ := GD.at htl h hn hD h_r2 hal2
    have hk2 : k2 < it (r2 * 4 + a2) := by rw [k2']; exact v2.2.2
    obtain ⟨m4, m5, m6, -, -⟩ := k3 k2 hk2
    rcases Nat.lt_or_ge ((r2 * 4 + a2) * 5 + k2) (a * 5 + k) with q | q
    · exfalso
      have hb2 := hi5 (r2 * 4 + a2)
      have hb1 := hi5 a
      have e3 := (h6.1 (r2 * 4 + a2) k2 (by rw [itO_at k1 hal2]; exact hk2) (by omega)).2 (by rw [m6]; exact gFl_ne.mpr i2)
      rw [nmT_g hg m5 m6, hn] at e3
      exact e3 t2
    · rcases Nat.eq_or_lt_of_le q with q2 | q2
      · rw [hv, q2]; exact Nat.le_refl _
      · have hm := gPp_mono htl h g4 v2 (by rw [← ea]; exact q2)
        rw [← ea] at hm
        omega
