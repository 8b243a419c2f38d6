/-! what growing needs of the grammar -/
theorem frA_cg {tg bd it fr fr2 : Nat → Nat} {n a : Nat} (hf : ∀ r, r < n → fr r = fr2 r) (hc : ∀ k, k < it a → tg (a * 5 + k) = NO ∨ tg (a * 5 + k) < n) : frA tg bd it fr a = frA tg bd it fr2 a := by
  unfold frA
  refine andR_cg (fun p h1 h2 => ?_)
  unfold frI
  rcases hc p (by omega) with q | q
  · rw [if_pos q, if_pos q]
  · by_cases e : tg (a * 5 + p) = NO
    · rw [if_pos e, if_pos e]
    · rw [if_neg e, if_neg e, hf _ q]
theorem Rel.gaf {L : Nat} {f g : Nat → Nat → Nat} {o : Nat → Nat} (h : Rel L f o g) : ∀ r a, r < f 16 0 → a < f 18 r → frA (f 21) (f 22) (f 19) (g 154) (r * 4 + a) = f 24 (r * 4 + a) := fun r a hr ha => by
  rw [h.inv.gram.aff r a hr ha]
  exact frA_cg h.fr (fun k hk => h.dr.clo r a k hr ha hk)
theorem GOK.gne {n : Nat} {gn al_ it pt tg bd : Nat → Nat} {em : Nat} {fr af fb : Nat → Nat} (h : GOK n gn al_ it pt tg bd em fr af fb) : ∀ r c, r < n → (fr r).testBit c = true → ∃ a, a < al_ r ∧ (af (r * 4 + a)).testBit c = true := fun r c hr hb => by
  rw [h.lfp.1 r hr] at hb
  obtain ⟨a, -, a2, a3⟩ := (orR_bit _ 0 c _).mp hb
  have ha : a < al_ r := by omega
  exact ⟨a, ha, by rw [h.aff r a hr ha]; exact a3⟩
theorem GOK.gni {n : Nat} {gn al_ it pt tg bd : Nat → Nat} {em : Nat} {fr af fb : Nat → Nat} (h : GOK n gn al_ it pt tg bd em fr af fb) : ∀ r a k d, r < n → a < al_ r → k < it (r * 4 + a) → d < 40 → (af (r * 4 + a)).testBit d = true → grM (gE al_ it tg pt bd fr af) ((r * 4 + a) * 5 + k) d ≠ 0 := fun r a k d hr ha hk hd hb => by
  rw [h.aff r a hr ha] at hb
  have h9 := ((andR_bit _ 0 d _).mp hb).2 k (Nat.zero_le _) (by omega)
  exact grM_ne (n := n) hd (fun r _ => h.sfr r) (fun q => ((h.prt _ ⟨r, a, k, hr, ha, hk, rfl⟩).2 q).1) h9
set_option maxHeartbeats 2000000 in
set_option maxRecDepth 20000 in
theorem st_move (L : Nat) (hL1 : 240 < L) (hL : L < 100000) (x z : Int32) : St zm_CG_move zm_MO_move [.int x, .int z] L := by
  intro Mq f o g hC hM hR
  have hI := hR.inv
  have hn8 : f 16 0 ≤ 8 := hI.gram.safe.1
  have hc20 : f 26 0 ≤ 20 := hI.tok.safe.1
  obtain ⟨emp, rk, hA0⟩ := hI.gram.acy
  have hA : Acyc (eAt f 16 26) (f 16 0) emp rk := hA0
  refine St.mk1 (dM := 98) (f := f) hM (by decide) (Nat.le_refl _) (c_move Mq f L hC hI hL x z) (fun r9 M1 hp => ?_)
  obtain ⟨rfl, f9, h1, h2, h3, h4, h5⟩ := hp
  refine ⟨_, f9, rfl, h1, h2, fun hM1 => ?_⟩
  by_cases hx : mvA (f 26 0) (f 28) (f 29) x.toInt z.toInt < 2147483648
  · refine Zm.mono (m_moveOk M1 o g hM1 (f 26 0) (f 27) (f 28) (f 29) hR.rt hI.tok.safe (by rw [hR.un]; exact hI.hsz) hR.sf.1 x z hx) (by decide) (fun r8 M2 hq => ?_)
    obtain ⟨rfl, R, U, q1, q2, q3, q4, q5, q6⟩ := hq
    obtain ⟨a1, a2, a3, a4, a5⟩ := h4 hx
    exact ⟨rfl, _, _, _, q1, q2, by decide, hR.actM h3 a1 q3 q4 q5 q6 a2 (fun q hq => ⟨by rw [a3], by rw [a4], a5 q hq⟩)⟩
  · refine Zm.mono (m_moveNo M1 o g hM1 (f 26 0) (f 27) (f 28) (f 29) hR.rt hI.tok.safe x z hx) (by decide) (fun r8 M2 hq => ?_)
    obtain ⟨rfl, q1, q2⟩ := hq
    exact ⟨rfl, _, _, _, q1, q2, by decide, hR.no h3 (h5 hx)⟩

set_option maxHeartbeats 2000000 in
set_option maxRecDepth 20000 in
theorem st_take (L : Nat) (hL1 : 240 < L) (hL : L < 100000) (x : Int32) : St zm_CG_take zm_MO_take [.int x] L := by
  intro Mq f o g hC hM hR
  have hI := hR.inv
  have hn8 : f 16 0 ≤ 8 := hI.gram.safe.1
  have hc20 : f 26 0 ≤ 20 := hI.tok.safe.1
  obtain ⟨emp, rk, hA0⟩ := hI.gram.acy
  have hA : Acyc (eAt f 16 26) (f 16 0) emp rk := hA0
  by_cases hx : 0 ≤ x.toInt ∧ x.toInt < f 26 0
  · obtain ⟨k, rfl, hk⟩ := i32_ex (x := x) hx.1
    refine St.mk1 (dM := 98) (f := f) hM (by decide) (Nat.le_refl _) (c_takeOk9 Mq f L hC hI hL k (by omega)) (fun r9 M1 hp => ?_)
    obtain ⟨rfl, f9, h1, h2, h3, h4, h5, h6⟩ := hp
    refine ⟨_, f9, rfl, h1, h2, fun hM1 => Zm.mono (m_takeOk M1 o g hM1 (f 26 0) (f 27) (f 28) (f 29) hR.rt hI.tok.safe (by rw [hR.un]; exact hI.hsz) hR.sf.1 k (by omega)) (by decide) (fun r8 M2 hq => ?_)⟩
    obtain ⟨rfl, R, U, q1, q2, q3, q4, q5, q6⟩ := hq
    exact ⟨rfl, _, _, _, q1, q2, by decide, hR.actM h3 h4 q3 q4 q5 q6 h5 h6⟩
  · refine St.mk1 (dM := 98) (f := f) hM (by decide) (Nat.le_refl _) (c_takeNo9 Mq f L hC hI hL x hx) (fun r9 M1 hp => ?_)
    obtain ⟨rfl, f9, h1, h2, h3, h4⟩ := hp
    refine ⟨_, f9, rfl, h1, h2, fun hM1 => Zm.mono (m_takeNo M1 o g hM1 (f 26 0) (f 27) (f 28) (f 29) hR.rt hI.tok.safe x hx) (by decide) (fun r8 M2 hq => ?_)⟩
    obtain ⟨rfl, q1, q2⟩ := hq
    exact ⟨rfl, _, _, _, q1, q2, by decide, hR.no h3 h4⟩

set_option maxHeartbeats 2000000 in
set_option maxRecDepth 20000 in
theorem st_change (L : Nat) (hL1 : 240 < L) (hL : L < 100000) (x z : Int32) : St zm_CG_change zm_MO_change [.int x, .int z] L := by
  intro Mq f o g hC hM hR
  have hI := hR.inv
  have hn8 : f 16 0 ≤ 8 := hI.gram.safe.1
  have hc20 : f 26 0 ≤ 20 := hI.tok.safe.1
  obtain ⟨emp, rk, hA0⟩ := hI.gram.acy
  have hA : Acyc (eAt f 16 26) (f 16 0) emp rk := hA0
  by_cases hz : 33 ≤ z.toInt ∧ z.toInt ≤ 126
  · by_cases hx : 0 ≤ x.toInt ∧ x.toInt < f 26 0
    · obtain ⟨k, rfl, hk⟩ := i32_ex (x := x) hx.1
      obtain ⟨s, rfl, hs⟩ := i32_ex (x := z) (by omega)
      by_cases hg : f 27 k = s
      · refine St.mk1 (dM := 98) (f := f) hM (by decide) (Nat.le_refl _) (c_changeC9 Mq f L hC hI hL k s (by omega) (by omega) hg) (fun r9 M1 hp => ?_)
        obtain ⟨rfl, f9, h1, h2, h3, h4⟩ := hp
        refine ⟨_, f9, rfl, h1, h2, fun hM1 => Zm.mono (m_changeC M1 o g hM1 (f 26 0) (f 27) (f 28) (f 29) hR.rt hI.tok.safe k s (by omega) (by omega) hg) (by decide) (fun r8 M2 hq => ?_)⟩
        obtain ⟨rfl, q1, q2⟩ := hq
        exact ⟨rfl, _, _, _, q1, q2, by decide, hR.no h3 h4⟩
      · refine St.mk1 (dM := 98) (f := f) hM (by decide) (Nat.le_refl _) (c_changeOk9 Mq f L hC hI hL k s (by omega) (by omega) hg) (fun r9 M1 hp => ?_)
        obtain ⟨rfl, f9, h1, h2, h3, h4, h5, h6, h7, h8⟩ := hp
        refine ⟨_, f9, rfl, h1, h2, fun hM1 => Zm.mono (m_changeOk M1 o g hM1 (f 26 0) (f 27) (f 28) (f 29) hR.rt hI.tok.safe (by rw [hR.un]; exact hI.hsz) hR.sf.1 k s (by omega) (by omega) hg) (by decide) (fun r8 M2 hq => ?_)⟩
        obtain ⟨rfl, R, U, q1, q2, q3, q4, q5, q6⟩ := hq
        exact ⟨rfl, _, _, _, q1, q2, by decide, hR.actM h3 h4 q3 q4 q5 q6 h5 (fun q hq => ⟨by rw [h6], by rw [h7], by rw [h8]⟩)⟩
    · refine St.mk1 (dM := 98) (f := f) hM (by decide) (Nat.le_refl _) (c_changeB9 Mq f L hC hI hL x z hz hx) (fun r9 M1 hp => ?_)
      obtain ⟨rfl, f9, h1, h2, h3, h4⟩ := hp
      refine ⟨_, f9, rfl, h1, h2, fun hM1 => Zm.mono (m_changeB M1 o g hM1 (f 26 0) (f 27) (f 28) (f 29) hR.rt hI.tok.safe x z hz hx) (by decide) (fun r8 M2 hq => ?_)⟩
      obtain ⟨rfl, q1, q2⟩ := hq
      exact ⟨rfl, _, _, _, q1, q2, by decide, hR.no h3 h4⟩
  · refine St.mk1 (dM := 98) (f := f) hM (by decide) (Nat.le_refl _) (c_changeA9 Mq f L hC hI hL x z hz) (fun r9 M1 hp => ?_)
    obtain ⟨rfl, f9, h1, h2, h3, h4⟩ := hp
    refine ⟨_, f9, rfl, h1, h2, fun hM1 => Zm.mono (m_changeA M1 o g hM1 (f 26 0) (f 27) (f 28) (f 29) hR.rt hI.tok.safe x z hz) (by decide) (fun r8 M2 hq => ?_)⟩
    obtain ⟨rfl, q1, q2⟩ := hq
    exact ⟨rfl, _, _, _, q1, q2, by decide, hR.no h3 h4⟩

set_option maxHeartbeats 2000000 in
set_option maxRecDepth 20000 in
theorem st_part (L : Nat) (hL1 : 240 < L) (hL : L < 100000) (x z : Int32) : St zm_CG_part zm_MO_part [.int x, .int z] L := by
  intro Mq f o g hC hM hR
  have hI := hR.inv
  have hn8 : f 16 0 ≤ 8 := hI.gram.safe.1
  have hc20 : f 26 0 ≤ 20 := hI.tok.safe.1
  obtain ⟨emp, rk, hA0⟩ := hI.gram.acy
  have hA : Acyc (eAt f 16 26) (f 16 0) emp rk := hA0
  by_cases hz : 0 ≤ z.toInt ∧ z.toInt < 40
  · by_cases hx : 0 ≤ x.toInt ∧ x.toInt < f 26 0
    · obtain ⟨k, rfl, hk⟩ := i32_ex (x := x) hx.1
      obtain ⟨d, rfl, hd⟩ := i32_ex (x := z) hz.1
      by_cases hp : ptOk (f 26 0) (f 28) (f 29) k d
      · refine St.mk1 (dM := 98) (f := f) hM (by decide) (Nat.le_refl _) (c_partOk9 Mq f L hC hI hL k d (by omega) (by omega) hp) (fun r9 M1 hp9 => ?_)
        obtain ⟨rfl, f9, h1, h2, h3, h4, h5, h6, h7⟩ := hp9
        refine ⟨_, f9, rfl, h1, h2, fun hM1 => Zm.mono (m_partOk M1 o g hM1 (f 26 0) (f 27) (f 28) (f 29) hR.rt hI.tok.safe (by rw [hR.un]; exact hI.hsz) hR.sf.1 k d (by omega) (by omega) hI.tok.srt hp) (by decide) (fun r8 M2 hq => ?_)⟩
        obtain ⟨rfl, R, U, q1, q2, q3, q4, q5, q6⟩ := hq
        exact ⟨rfl, _, _, _, q1, q2, by decide, hR.actM h3 h4 q3 q4 q5 q6 h5 (fun q hq => ⟨by rw [h6], (h7 q hq).1, (h7 q hq).2⟩)⟩
      · refine St.mk1 (dM := 98) (f := f) hM (by decide) (Nat.le_refl _) (c_partC9 Mq f L hC hI hL k d (by omega) (by omega) hp) (fun r9 M1 hp9 => ?_)
        obtain ⟨rfl, f9, h1, h2, h3, h4⟩ := hp9
        refine ⟨_, f9, rfl, h1, h2, fun hM1 => Zm.mono (m_partC M1 o g hM1 (f 26 0) (f 27) (f 28) (f 29) hR.rt hI.tok.safe k d (by omega) (by omega) hI.tok.srt hp) (by decide) (fun r8 M2 hq => ?_)⟩
        obtain ⟨rfl, q1, q2⟩ := hq
        exact ⟨rfl, _, _, _, q1, q2, by decide, hR.no h3 h4⟩
    · refine St.mk1 (dM := 98) (f := f) hM (by decide) (Nat.le_refl _) (c_partB9 Mq f L hC hI hL x z hz hx) (fun r9 M1 hp => ?_)
      obtain ⟨rfl, f9, h1, h2, h3, h4⟩ := hp
      refine ⟨_, f9, rfl, h1, h2, fun hM1 => Zm.mono (m_partB M1 o g hM1 (f 26 0) (f 27) (f 28) (f 29) hR.rt hI.tok.safe x z hz hx) (by decide) (fun r8 M2 hq => ?_)⟩
      obtain ⟨rfl, q1, q2⟩ := hq
      exact ⟨rfl, _, _, _, q1, q2, by decide, hR.no h3 h4⟩
  · refine St.mk1 (dM := 98) (f := f) hM (by decide) (Nat.le_refl _) (c_partA9 Mq f L hC hI hL x z hz) (fun r9 M1 hp => ?_)
    obtain ⟨rfl, f9, h1, h2, h3, h4⟩ := hp
    refine ⟨_, f9, rfl, h1, h2, fun hM1 => Zm.mono (m_partA M1 o g hM1 (f 26 0) (f 27) (f 28) (f 29) hR.rt hI.tok.safe x z hz) (by decide) (fun r8 M2 hq => ?_)⟩
    obtain ⟨rfl, q1, q2⟩ := hq
    exact ⟨rfl, _, _, _, q1, q2, by decide, hR.no h3 h4⟩

set_option maxHeartbeats 2000000 in
set_option maxRecDepth 20000 in
theorem st_put (L : Nat) (hL1 : 240 < L) (hL : L < 100000) (x z y : Int32) : St zm_CG_put zm_MO_put [.int x, .int z, .int y] L := by
  intro Mq f o g hC hM hR
  have hI := hR.inv
  have hn8 : f 16 0 ≤ 8 := hI.gram.safe.1
  have hc20 : f 26 0 ≤ 20 := hI.tok.safe.1
  obtain ⟨emp, rk, hA0⟩ := hI.gram.acy
  have hA : Acyc (eAt f 16 26) (f 16 0) emp rk := hA0
  obtain ⟨u, hu⟩ : ∃ u : Int, u = if f 26 0 = 0 then 0 else (f 28 (f 26 0 - 1) : Int) + 1 := ⟨_, rfl⟩
  have hli : f 28 (f 26 0 - 1) < L := hI.tok.lin _
  by_cases hx : (0 ≤ x.toInt ∧ x.toInt ≤ u) ∧ (0 ≤ z.toInt ∧ z.toInt < 40) ∧ 33 ≤ y.toInt ∧ y.toInt ≤ 126
  · obtain ⟨l, rfl, hl⟩ := i32_ex (x := x) hx.1.1
    obtain ⟨d, rfl, hd⟩ := i32_ex (x := z) hx.2.1.1
    obtain ⟨s, rfl, hs⟩ := i32_ex (x := y) (by omega)
    have hl0 : f 26 0 = 0 → l = 0 := fun q => by rw [if_pos q] at hu; omega
    have hl1 : 0 < f 26 0 → l ≤ f 28 (f 26 0 - 1) + 1 := fun q => by rw [if_neg (by omega)] at hu; omega
    have hl9 : l < 1000001 := by rcases Nat.eq_zero_or_pos (f 26 0) with q | q; have := hl0 q; omega; have := hl1 q; omega
    by_cases hth : cnt (thB (f 28) (f 29) l d) (f 26 0) ≠ 0 ∨ f 26 0 = 20
    · refine St.mk1 (dM := 98) (f := f) hM (by decide) (Nat.le_refl _) (c_putC9 Mq f L hC hI hL l d s (by omega) (by omega) hl0 hl1 hth) (fun r9 M1 hp => ?_)
      obtain ⟨rfl, f9, h1, h2, h3, h4⟩ := hp
      refine ⟨_, f9, rfl, h1, h2, fun hM1 => Zm.mono (m_putC M1 o g hM1 (f 26 0) (f 27) (f 28) (f 29) hR.rt hI.tok.safe l d s (by omega) (by omega) hl0 hl1 hl9 hth) (by decide) (fun r8 M2 hq => ?_)⟩
      obtain ⟨rfl, q1, q2⟩ := hq
      exact ⟨rfl, _, _, _, q1, q2, by decide, hR.no h3 h4⟩
    · refine St.mk1 (dM := 98) (f := f) hM (by decide) (Nat.le_refl _) (c_putOk9 Mq f L hC hI hL l d s (by omega) (by omega) hl0 hl1 hth) (fun r9 M1 hp => ?_)
      obtain ⟨rfl, f9, h1, h2, h3, h4, h5, h6⟩ := hp
      refine ⟨_, f9, rfl, h1, h2, fun hM1 => Zm.mono (m_putOk M1 o g hM1 (f 26 0) (f 27) (f 28) (f 29) hR.rt hI.tok.safe (by rw [hR.un]; exact hI.hsz) hR.sf.1 l d s (by omega) (by omega) hl0 hl1 hl9 hI.tok.srt hth) (by decide) (fun r8 M2 hq => ?_)⟩
      obtain ⟨rfl, R, U, q1, q2, q3, q4, q5, q6⟩ := hq
      exact ⟨rfl, _, _, _, q1, q2, by decide, hR.actM h3 h4 q3 q4 q5 q6 h5 h6⟩
  · have hx9 : ∀ u9 : Int, (f 26 0 = 0 → u9 = 0) → (0 < f 26 0 → u9 = (f 28 (f 26 0 - 1) : Int) + 1) → ¬ ((0 ≤ x.toInt ∧ x.toInt ≤ u9) ∧ (0 ≤ z.toInt ∧ z.toInt < 40) ∧ 33 ≤ y.toInt ∧ y.toInt ≤ 126) := fun u9 a1 a2 => by
      have e : u9 = u := by
        rw [hu]; split
        · exact a1 (by assumption)
        · exact a2 (by omega)
      rw [e]; exact hx
    refine St.mk1 (dM := 98) (f := f) hM (by decide) (Nat.le_refl _) (c_putA9 Mq f L hC hI hL x z y hx9) (fun r9 M1 hp => ?_)
    obtain ⟨rfl, f9, h1, h2, h3, h4⟩ := hp
    refine ⟨_, f9, rfl, h1, h2, fun hM1 => Zm.mono (m_putA M1 o g hM1 (f 26 0) (f 27) (f 28) (f 29) hR.rt hI.tok.safe x z y hx9) (by decide) (fun r8 M2 hq => ?_)⟩
    obtain ⟨rfl, q1, q2⟩ := hq
    exact ⟨rfl, _, _, _, q1, q2, by decide, hR.no h3 h4⟩

set_option maxHeartbeats 2000000 in
set_option maxRecDepth 20000 in
theorem st_undo (L : Nat) (hL1 : 240 < L) (hL : L < 100000) : St zm_CG_undo zm_MO_undo [] L := by
  intro Mq f o g hC hM hR
  have hI := hR.inv
  have hn8 : f 16 0 ≤ 8 := hI.gram.safe.1
  have hc20 : f 26 0 ≤ 20 := hI.tok.safe.1
  obtain ⟨emp, rk, hA0⟩ := hI.gram.acy
  have hA : Acyc (eAt f 16 26) (f 16 0) emp rk := hA0
  by_cases hx : f 50 0 = 0
  · exact St.mk0 hC hM hR (by decide) (by decide) (c_undoNo Mq f L hC hI hx) (m_undoNo Mq o g hM (by rw [hR.un]; exact hx))
  · refine St.mk1 (dM := 98) (f := f) hM (by decide) (Nat.le_refl _) (c_undoOk Mq f L hC hI (by omega)) (fun r9 M1 hp => ?_)
    obtain ⟨rfl, h1, h2, h3⟩ := hp
    refine ⟨_, _, rfl, h1, h2, fun hM1 => Zm.mono (m_undoOk M1 o g hM1 (by rw [hR.un]; omega) (by rw [hR.un]; exact hI.hsz)) (by decide) (fun r8 M2 hq => ?_)⟩
    obtain ⟨rfl, R, q1, q2, q3⟩ := hq
    exact ⟨by rw [hR.un], _, _, _, q1, q2, by decide, (hR.undo (by omega) h3 q3).mono (Nat.le_succ _)⟩

set_option maxHeartbeats 2000000 in
set_option maxRecDepth 20000 in
theorem st_keep (L : Nat) (hL1 : 240 < L) (hL : L < 100000) (x : Int32) : St zm_CG_keep zm_MO_keep [.int x] L := by
  intro Mq f o g hC hM hR
  have hI := hR.inv
  have hn8 : f 16 0 ≤ 8 := hI.gram.safe.1
  have hc20 : f 26 0 ≤ 20 := hI.tok.safe.1
  obtain ⟨emp, rk, hA0⟩ := hI.gram.acy
  have hA : Acyc (eAt f 16 26) (f 16 0) emp rk := hA0
  by_cases hx : 0 ≤ x.toInt ∧ x.toInt < 2
  · obtain ⟨k, rfl, hk⟩ := i32_ex (x := x) hx.1
    rcases (show k = 0 ∨ k = 1 by omega) with rfl | rfl
    · refine St.mk1 (dM := 98) (f := f) hM (by decide) (Nat.le_refl _) (c_keep0 Mq f L hC hI) (fun r9 M1 hp => ?_)
      obtain ⟨rfl, h1, h2, h3⟩ := hp
      refine ⟨_, _, rfl, h1, h2, fun hM1 => Zm.mono (m_keep0 M1 o g hM1) (by decide) (fun r8 M2 hq => ?_)⟩
      obtain ⟨rfl, K, q1, q2, q3⟩ := hq
      exact ⟨rfl, _, _, _, q1, q2, by decide, hR.hold0 h3 q3⟩
    · refine St.mk1 (dM := 98) (f := f) hM (by decide) (Nat.le_refl _) (c_keep1 Mq f L hC hI) (fun r9 M1 hp => ?_)
      obtain ⟨rfl, h1, h2, h3⟩ := hp
      refine ⟨_, _, rfl, h1, h2, fun hM1 => Zm.mono (m_keep1 M1 o g hM1) (by decide) (fun r8 M2 hq => ?_)⟩
      obtain ⟨rfl, K, q1, q2, q3⟩ := hq
      exact ⟨rfl, _, _, _, q1, q2, by decide, hR.hold1 h3 q3⟩
  · exact St.mk0 hC hM hR (by decide) (by decide) (c_keepNo Mq f L hC hI x hx) (m_keepNo Mq o g hM x hx)

set_option maxHeartbeats 2000000 in
set_option maxRecDepth 20000 in
theorem st_again (L : Nat) (hL1 : 240 < L) (hL : L < 100000) (x : Int32) : St zm_CG_again zm_MO_again [.int x] L := by
  intro Mq f o g hC hM hR
  have hI := hR.inv
  have hn8 : f 16 0 ≤ 8 := hI.gram.safe.1
  have hc20 : f 26 0 ≤ 20 := hI.tok.safe.1
  obtain ⟨emp, rk, hA0⟩ := hI.gram.acy
  have hA : Acyc (eAt f 16 26) (f 16 0) emp rk := hA0
  by_cases hx : 0 ≤ x.toInt ∧ x.toInt < 2
  · obtain ⟨k, rfl, hk⟩ := i32_ex (x := x) hx.1
    rcases (show k = 0 ∨ k = 1 by omega) with rfl | rfl
    · by_cases hk9 : f 95 0 = 0
      · exact St.mk0 hC hM hR (by decide) (by decide) (c_againE0 Mq f L hC hI hk9) (m_againE0 Mq o g hM (by rw [hR.k0.1]; exact hk9))
      · refine St.mk1 (dM := 98) (f := f) hM (by decide) (Nat.le_refl _) (c_again0 Mq f L hC hI hk9) (fun r9 M1 hp => ?_)
        obtain ⟨rfl, h1, h2, h3⟩ := hp
        refine ⟨_, _, rfl, h1, h2, fun hM1 => Zm.mono (m_again0 M1 o g hM1 (f 96 0) (f 97) (f 98) (f 99) (f 100) (f 101) (f 102) (hR.k0.row hk9 hI.kg.1.safe hI.kt.1.safe.1).1 hI.kg.1.safe hR.sf hI.kg.1.dr hR.s4 hR.s5 hR.b1 (by rw [hR.k0.1]; have h9 := hI.kh.1; omega)) (by decide) (fun r8 M2 hq => ?_)⟩
        obtain ⟨rfl, P, F, B, q1, q2, q3, q4, q5, q6, q7⟩ := hq
        exact ⟨rfl, _, _, _, q1, q2, by decide, hR.again0 hk9 h3 q3 q4 q5 q6 q7⟩
    · by_cases hk9 : f 110 0 = 0
      · exact St.mk0 hC hM hR (by decide) (by decide) (c_againE1 Mq f L hC hI hk9) (m_againE1 Mq o g hM (by rw [hR.k1.1]; exact hk9))
      · refine St.mk1 (dM := 98) (f := f) hM (by decide) (Nat.le_refl _) (c_again1 Mq f L hC hI hk9) (fun r9 M1 hp => ?_)
        obtain ⟨rfl, h1, h2, h3⟩ := hp
        refine ⟨_, _, rfl, h1, h2, fun hM1 => Zm.mono (m_again1 M1 o g hM1 (f 111 0) (f 112) (f 113) (f 114) (f 115) (f 116) (f 117) (hR.k1.row hk9 hI.kg.2.safe hI.kt.2.safe.1).1 hI.kg.2.safe hR.sf hI.kg.2.dr hR.s4 hR.s5 hR.b1 (by rw [hR.k1.1]; have h9 := hI.kh.2; omega)) (by decide) (fun r8 M2 hq => ?_)⟩
        obtain ⟨rfl, P, F, B, q1, q2, q3, q4, q5, q6, q7⟩ := hq
        exact ⟨rfl, _, _, _, q1, q2, by decide, hR.again1 hk9 h3 q3 q4 q5 q6 q7⟩
  · exact St.mk0 hC hM hR (by decide) (by decide) (c_againNo Mq f L hC hI x hx) (m_againNo Mq o g hM x hx)

set_option maxHeartbeats 2000000 in
set_option maxRecDepth 20000 in
theorem st_alike (L : Nat) (hL1 : 240 < L) (hL : L < 100000) (x : Int32) : St zm_CG_alike zm_MO_alike [.int x] L := by
  intro Mq f o g hC hM hR
  have hI := hR.inv
  have hn8 : f 16 0 ≤ 8 := hI.gram.safe.1
  have hc20 : f 26 0 ≤ 20 := hI.tok.safe.1
  obtain ⟨emp, rk, hA0⟩ := hI.gram.acy
  have hA : Acyc (eAt f 16 26) (f 16 0) emp rk := hA0
  by_cases hx : 0 ≤ x.toInt ∧ x.toInt < 2
  · obtain ⟨k, rfl, hk⟩ := i32_ex (x := x) hx.1
    rcases (show k = 0 ∨ k = 1 by omega) with rfl | rfl
    · by_cases hk9 : f 95 0 = 0
      · exact St.mk0 hC hM hR (by decide) (by decide) (c_alikeE0 Mq f L hC hI hk9) (m_alikeE0 Mq o g hM (by rw [hR.k0.1]; exact hk9))
      · obtain ⟨emp2, rk2, hA2⟩ := hI.kg.1.acy
        refine St.mk1 (dM := 98) (f := f) hM (by decide) (Nat.le_refl _) (c_alike0 Mq f L hC hI hk9) (fun r9 M1 hp => ?_)
        obtain ⟨b, rfl, hb1, hb, f9, h1, h2, h3, h4⟩ := hp
        refine ⟨_, f9, rfl, h1, h3, fun hM1 => Zm.mono (m_alike0 M1 o g hM1 (f 16 0) (f 17) (f 18) (f 19) (f 20) (f 21) (f 22) hR.rg hI.gram.safe hR.sf (f 26 0) (f 27) (f 28) (f 29) hR.rt hI.tok.safe emp rk hA hR.dr hR.s4 hR.s5 hR.b1 (f 96 0) (f 97) (f 98) (f 99) (f 100) (f 101) (f 102) (hR.k0.row hk9 hI.kg.1.safe hI.kt.1.safe.1).1 hI.kg.1.safe hI.kg.1.dr (f 106 0) (f 107) (f 108) (f 109) (hR.k0.row hk9 hI.kg.1.safe hI.kt.1.safe.1).2 hI.kt.1.safe emp2 rk2 hA2 (by rw [hR.k0.1]; have h9 := hI.kh.1; omega)) (by decide) (fun r8 M2 hq => ?_)⟩
        obtain ⟨b2, rfl, hc1, hc, o9, g9, q1, q2, q3, q4, q5, q6, ⟨q7, q8, q9, q10⟩, q11, q12⟩ := hq
        refine ⟨?_, _, _, _, q1, q2, by decide, hR.keepL h2 h4 (q11 5 (by decide) (by decide) (by decide)) (q11 7 (by decide) (by decide) (by decide)) (q11 31 (by decide) (by decide) (by decide)) q3 (by decide) q4 q5 q6 q7 q8 q9 q10⟩
        show some (Value.int (if (tFit (eAt f 16 26) (f 16 0) (f 26 0)) ∧ (tFit (eAt f 96 106) (f 96 0) (f 106 0)) then nI b2 else -1)) = some (Value.int (if (tFit (eAt f 16 26) (f 16 0) (f 26 0)) ∧ (tFit (eAt f 96 106) (f 96 0) (f 106 0)) then nI b else -1))
        by_cases hT : (tFit (eAt f 16 26) (f 16 0) (f 26 0)) ∧ (tFit (eAt f 96 106) (f 96 0) (f 106 0))
        · have hB : b2 = b := by have h9 := (hc hT).trans (hb hT).symm; omega
          rw [hB]
        · rw [if_neg hT, if_neg hT]
    · by_cases hk9 : f 110 0 = 0
      · exact St.mk0 hC hM hR (by decide) (by decide) (c_alikeE1 Mq f L hC hI hk9) (m_alikeE1 Mq o g hM (by rw [hR.k1.1]; exact hk9))
      · obtain ⟨emp2, rk2, hA2⟩ := hI.kg.2.acy
        refine St.mk1 (dM := 98) (f := f) hM (by decide) (Nat.le_refl _) (c_alike1 Mq f L hC hI hk9) (fun r9 M1 hp => ?_)
        obtain ⟨b, rfl, hb1, hb, f9, h1, h2, h3, h4⟩ := hp
        refine ⟨_, f9, rfl, h1, h3, fun hM1 => Zm.mono (m_alike1 M1 o g hM1 (f 16 0) (f 17) (f 18) (f 19) (f 20) (f 21) (f 22) hR.rg hI.gram.safe hR.sf (f 26 0) (f 27) (f 28) (f 29) hR.rt hI.tok.safe emp rk hA hR.dr hR.s4 hR.s5 hR.b1 (f 111 0) (f 112) (f 113) (f 114) (f 115) (f 116) (f 117) (hR.k1.row hk9 hI.kg.2.safe hI.kt.2.safe.1).1 hI.kg.2.safe hI.kg.2.dr (f 121 0) (f 122) (f 123) (f 124) (hR.k1.row hk9 hI.kg.2.safe hI.kt.2.safe.1).2 hI.kt.2.safe emp2 rk2 hA2 (by rw [hR.k1.1]; have h9 := hI.kh.2; omega)) (by decide) (fun r8 M2 hq => ?_)⟩
        obtain ⟨b2, rfl, hc1, hc, o9, g9, q1, q2, q3, q4, q5, q6, ⟨q7, q8, q9, q10⟩, q11, q12⟩ := hq
        refine ⟨?_, _, _, _, q1, q2, by decide, hR.keepL h2 h4 (q11 5 (by decide) (by decide) (by decide)) (q11 7 (by decide) (by decide) (by decide)) (q11 31 (by decide) (by decide) (by decide)) q3 (by decide) q4 q5 q6 q7 q8 q9 q10⟩
        show some (Value.int (if (tFit (eAt f 16 26) (f 16 0) (f 26 0)) ∧ (tFit (eAt f 111 121) (f 111 0) (f 121 0)) then nI b2 else -1)) = some (Value.int (if (tFit (eAt f 16 26) (f 16 0) (f 26 0)) ∧ (tFit (eAt f 111 121) (f 111 0) (f 121 0)) then nI b else -1))
        by_cases hT : (tFit (eAt f 16 26) (f 16 0) (f 26 0)) ∧ (tFit (eAt f 111 121) (f 111 0) (f 121 0))
        · have hB : b2 = b := by have h9 := (hc hT).trans (hb hT).symm; omega
          rw [hB]
        · rw [if_neg hT, if_neg hT]
  · exact St.mk0 hC hM hR (by decide) (by decide) (c_alikeNo Mq f L hC hI x hx) (m_alikeNo Mq o g hM x hx)

set_option maxHeartbeats 2000000 in
set_option maxRecDepth 20000 in
theorem st_grow (L : Nat) (hL1 : 240 < L) (hL : L < 100000) (x : Int32) : St zm_CG_grow zm_MO_grow [.int x] L := by
  intro Mq f o g hC hM hR
  have hI := hR.inv
  have hn8 : f 16 0 ≤ 8 := hI.gram.safe.1
  have hc20 : f 26 0 ≤ 20 := hI.tok.safe.1
  obtain ⟨emp, rk, hA0⟩ := hI.gram.acy
  have hA : Acyc (eAt f 16 26) (f 16 0) emp rk := hA0
  by_cases hx : 0 ≤ x.toInt ∧ x.toInt ≤ 999999
  · obtain ⟨k, rfl, hk⟩ := i32_ex (x := x) hx.1
    refine St.mk1 (dM := 98) (f := f) hM (by decide) (Nat.le_refl _) (c_growOk Mq f L hC hI hL1 k (by omega)) (fun r9 M1 hp => ?_)
    have hmo := fun (hM1 : MM M1 o g) => m_growOk M1 o g hM1 (f 16 0) (f 17) (f 18) (f 19) (f 20) (f 21) (f 22) hR.rg hI.gram.safe hR.sf hR.s4 hR.s5 (f 23) (f 24) hR.fr hR.gaf hI.gram.saf (GOK.gne hI.gram) (GOK.gni hI.gram) (fun x9 h9 => ⟨(hI.gram.prt x9 h9).1, fun q9 => ((hI.gram.prt x9 h9).2 q9).1⟩) (by rw [hR.un]; exact hI.hsz) k (by omega)
    rcases hp with ⟨t, e1, rfl, f9, h1, h2, h3, h4, h5, h6⟩ | ⟨e1, rfl, f9, h1, h2, h3, h4⟩
    · refine ⟨_, f9, rfl, h1, h2, fun hM1 => Zm.mono (hmo hM1) (by decide) (fun r8 M2 hq => ?_)⟩
      obtain ⟨o9, g9, q1, q2, q3, q4, q5, q6⟩ := hq
      rcases q6 with ⟨t2, e2, rfl, a1, a2, a3, a4, a5⟩ | ⟨e2, -⟩
      · have et : t2 = t := Option.some.inj (e2.symm.trans e1)
        subst et
        exact ⟨rfl, _, _, _, q1, q2, by decide, hR.act h3 h4 a1 (q4 7 (by decide) (by decide) (by decide) (by decide) (by decide) (by decide)) (q4 31 (by decide) (by decide) (by decide) (by decide) (by decide) (by decide)) (fun a ha => q3 a ((by decide : ∀ a, a ∈ [141, 142, 144, 145, 148, 153, 154, 155, 156, 157, 158, 159, 160, 161, 162, 163, 164] → a ∉ [139, 140, 143, 150, 151, 152, 172, 173, 174, 175]) a ha)) a3 a4 a2 (by rw [h5]; exact a5.cg h6)⟩
      · exact absurd (e2.symm.trans e1) (by intro q; cases q)
    · refine ⟨_, f9, rfl, h1, h2, fun hM1 => Zm.mono (hmo hM1) (by decide) (fun r8 M2 hq => ?_)⟩
      obtain ⟨o9, g9, q1, q2, q3, q4, q5, q6⟩ := hq
      rcases q6 with ⟨t2, e2, -⟩ | ⟨e2, rfl, a1, a2, a3⟩
      · exact absurd (e2.symm.trans e1) (by intro q; cases q)
      · exact ⟨rfl, _, _, _, q1, q2, by decide, hR.keep h3 h4 a1 (q4 7 (by decide) (by decide) (by decide) (by decide) (by decide) (by decide)) (q4 31 (by decide) (by decide) (by decide) (by decide) (by decide) (by decide)) (fun a ha => by
          by_cases e140 : a = 140
          · rw [e140]; exact a2
          · by_cases e143 : a = 143
            · rw [e143]; exact a3
            · exact q3 a (fun q => by revert ha; revert q; simp; omega)) ⟨by rw [a2]; exact hR.sf.1, by rw [q3 156 (by decide)]; exact hR.sf.2.1, by rw [q3 157 (by decide)]; exact hR.sf.2.2.1, by rw [q3 158 (by decide)]; exact hR.sf.2.2.2.1, by rw [q3 159 (by decide)]; exact hR.sf.2.2.2.2.1, by rw [q3 160 (by decide)]; exact hR.sf.2.2.2.2.2⟩ (by rw [q3 161 (by decide)]; exact hR.b61) (by rw [q3 162 (by decide)]; exact hR.b62) (by rw [q3 163 (by decide)]; exact hR.b63)⟩
  · exact St.mk0 hC hM hR (by decide) (by decide) (c_growNo Mq f L hC hI x hx) (m_growNo Mq o g hM x hx)

set_option maxHeartbeats 2000000 in
set_option maxRecDepth 20000 in
theorem st_repair (L : Nat) (hL1 : 240 < L) (hL : L < 100000) (x : Int32) : St zm_CG_repair zm_MO_repair [.int x] L := by
  intro Mq f o g hC hM hR
  have hI := hR.inv
  have hn8 : f 16 0 ≤ 8 := hI.gram.safe.1
  have hc20 : f 26 0 ≤ 20 := hI.tok.safe.1
  obtain ⟨emp, rk, hA0⟩ := hI.gram.acy
  have hA : Acyc (eAt f 16 26) (f 16 0) emp rk := hA0
  by_cases hx : 0 ≤ x.toInt ∧ x.toInt ≤ 1
  · obtain ⟨k, rfl, hk⟩ := i32_ex (x := x) hx.1
    refine St.mk1 (dM := 98) (f := f) hM (by decide) (Nat.le_refl _) (c_repairOk Mq f L hC hI k (by omega)) (fun r9 M1 hp => ?_)
    obtain ⟨p1, p2, f9, h1, h2, h3, h4⟩ := hp
    by_cases hF : f 16 0 = 0 ∨ wh (eAt f 16 26) (f 16 0) 0 0 (f 26 0) ≠ 0
    · refine ⟨_, f9, p1 hF, h1, h3, fun hM1 => Zm.mono (m_repairOk M1 o g hM1 (f 16 0) (f 17) (f 18) (f 19) (f 20) (f 21) (f 22) hR.rg hI.gram.safe hR.sf (f 26 0) (f 27) (f 28) (f 29) hR.rt hI.tok.safe emp rk hA k (by omega)) (by decide) (fun r8 M2 hq => ?_)⟩
      obtain ⟨a1, a2, g9, q1, q2, q3, q4⟩ := hq
      exact ⟨a1 hF, _, _, _, q1, q2, by decide, hR.kF h2 h4 rfl rfl rfl q3 (by decide) q4 (by rw [q3 161 (by decide)]; exact hR.b61)⟩
    · obtain ⟨l, b, hQ, hv⟩ := p2 hF
      refine ⟨_, f9, hv, h1, h3, fun hM1 => Zm.mono (m_repairOk M1 o g hM1 (f 16 0) (f 17) (f 18) (f 19) (f 20) (f 21) (f 22) hR.rg hI.gram.safe hR.sf (f 26 0) (f 27) (f 28) (f 29) hR.rt hI.tok.safe emp rk hA k (by omega)) (by decide) (fun r8 M2 hq => ?_)⟩
      obtain ⟨a1, a2, g9, q1, q2, q3, q4⟩ := hq
      obtain ⟨l2, b2, hQ2, hv2⟩ := a2 hF
      obtain ⟨u1, u2⟩ := RepQ.uniq hQ2 hQ
      refine ⟨?_, _, _, _, q1, q2, by decide, hR.kF h2 h4 rfl rfl rfl q3 (by decide) q4 (by rw [q3 161 (by decide)]; exact hR.b61)⟩
      rw [hv2, ← u1]
      unfold repA
      by_cases e : b2 = 0
      · rw [if_pos e, if_pos e]
      · rw [u2 e]
  · exact St.mk0 hC hM hR (by decide) (by decide) (c_repairNo Mq f L hC hI x hx) (m_repairNo Mq o g hM x hx)
