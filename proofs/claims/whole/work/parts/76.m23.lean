set_option maxHeartbeats 4000000 in
set_option maxRecDepth 100000 in
theorem c_readAlts (Mq : zM) (tl p : Nat) (tx : Nat → Nat) (n em : Nat) (gn al_ it pt tg bd fr af fb np pp : Nat → Nat) (hD : RdS Mq tl p tx n em gn al_ it pt tg bd fr af fb np pp) (htx : ∀ q, tx q < 256) (htl : tl ≤ 240) (hp : p ≤ tl) (hSI : SafeI pt tg bd) (ha4 : ∀ q, al_ q ≤ 4) (hi5 : ∀ q, it q ≤ 5) (r : Nat) (hr8 : r < 8) : Zm 3 zm_GrammarReader_readAlts [.ref 2, .int (nI r)] Mq (fun r9 M1 => r9 = some (.int (nI (bF tx tl p))) ∧ ∃ al9 it9 pt9 tg9 bd9 pp9, RdS M1 tl (if bF tx tl p = NO then bE tx tl p else bF tx tl p) tx n em gn al9 it9 pt9 tg9 bd9 fr af fb np pp9 ∧ Sm Mq M1 [2, 5, 6, 7, 8, 9, 14] ∧ (bF tx tl p = NO → al9 r = bK tx tl p + 1 ∧ RulD tx tl p r (bK tx tl p + 1) it9 pt9 tg9 bd9 pp9) ∧ (∀ q9, q9 ≠ r → al9 q9 = al_ q9) ∧ (∀ q9, ¬ (r * 4 ≤ q9 ∧ q9 < r * 4 + 4) → it9 q9 = it q9) ∧ FrS (r * 20) (r * 20 + 20) pt tg bd pp pt9 tg9 bd9 pp9 ∧ SafeI pt9 tg9 bd9 ∧ (∀ q9, al9 q9 ≤ 4) ∧ ∀ q9, it9 q9 ≤ 5) := by
  show Zw 3 zm_GrammarReader_readAlts 0 [some (.ref 2), some (.int (nI r)), none, none] [] Mq _
  refine zw_n 2 (ls' := [some (.ref 2), some (.int (nI r)), some (.int 0), none]) rfl ?_
  have lp2 : ∀ (n2 : Nat) (j : Nat) (q : Nat) (A1 : Nat → Nat) (I1 : Nat → Nat) (P1 : Nat → Nat) (T1 : Nat → Nat) (B1 : Nat → Nat) (Q1 : Nat → Nat) (M_2 : zM), Sm Mq M_2 [2, 5, 6, 7, 8, 9, 14] → M_2[2]? = some (.inr (1, [.ref 3, .ref 13, .ref 14, .ref 1, .int (nI tl), .int (nI q)])) → M_2[5]? = some (.inl (0, 8, .inl (ai A1))) → M_2[6]? = some (.inl (0, 32, .inl (ai I1))) → M_2[7]? = some (.inl (0, 160, .inl (ai P1))) → M_2[8]? = some (.inl (0, 160, .inl (ai T1))) → M_2[9]? = some (.inl (0, 160, .inl (ai B1))) → M_2[14]? = some (.inl (0, 160, .inl (ai Q1))) → (j ≤ 4 ∧ q = bS tx tl p j ∧ (∀ i, i < j → bZ tx tl p i = false) ∧ RulD tx tl p r j I1 P1 T1 B1 Q1 ∧ (∀ q9, q9 ≠ r → A1 q9 = al_ q9) ∧ (∀ q9, ¬ (r * 4 ≤ q9 ∧ q9 < r * 4 + 4) → I1 q9 = it q9) ∧ FrS (r * 20) (r * 20 + 20) pt tg bd pp P1 T1 B1 Q1 ∧ SafeI P1 T1 B1 ∧ (∀ q9, A1 q9 ≤ 4) ∧ ∀ q9, I1 q9 ≤ 5) → 5 - j < n2 → Zw 3 zm_GrammarReader_readAlts 2 [some (.ref 2), some (.int (nI r)), some (.int (nI j)), none] [] M_2 (fun r9 M1 => r9 = some (.int (nI (bF tx tl p))) ∧ ∃ al9 it9 pt9 tg9 bd9 pp9, RdS M1 tl (if bF tx tl p = NO then bE tx tl p else bF tx tl p) tx n em gn al9 it9 pt9 tg9 bd9 fr af fb np pp9 ∧ Sm Mq M1 [2, 5, 6, 7, 8, 9, 14] ∧ (bF tx tl p = NO → al9 r = bK tx tl p + 1 ∧ RulD tx tl p r (bK tx tl p + 1) it9 pt9 tg9 bd9 pp9) ∧ (∀ q9, q9 ≠ r → al9 q9 = al_ q9) ∧ (∀ q9, ¬ (r * 4 ≤ q9 ∧ q9 < r * 4 + 4) → it9 q9 = it q9) ∧ FrS (r * 20) (r * 20 + 20) pt tg bd pp pt9 tg9 bd9 pp9 ∧ SafeI pt9 tg9 bd9 ∧ (∀ q9, al9 q9 ≤ 4) ∧ ∀ q9, it9 q9 ≤ 5) := by
    intro n2
    induction n2 with
    | zero => intro j q A1 I1 P1 T1 B1 Q1 M_2 _ _ _ _ _ _ _ _ _ h; exact absurd h (Nat.not_lt_zero _)
    | succ n2 ih2 =>
      intro j q A1 I1 P1 T1 B1 Q1 M_2 s_2 f2_0 f2_1 f2_2 f2_3 f2_4 f2_5 f2_6 hi2 hm2
      obtain ⟨ij, iq, iz, iR, iA, iI, iFr, iS, iA4, iI5⟩ := hi2
      have hq9 : q ≤ tl := by rw [iq]; exact bS_b hp htl iz ij
      refine zw_n 2 rfl ?_
      refine zw_igeN (a := j) (b := 4) rfl rfl rfl (by omega) (by omega) (fun c4 => ?_) (fun c4 => ?_)
      · -- 4 to 68
        refine zw_n 1 rfl ?_
        refine zw_get (v := .int (nI q)) rfl f2_0 rfl ?_
        refine zw_iret rfl rfl ?_
        have hj9 : j = 4 := by omega
        have hk9 := bK_no (fun i hi => iz i (by omega))
        have hf9 := bF_no hk9
        have hb9 : bF tx tl p ≠ NO := by rw [hf9, ← bS_4 hj9, ← iq]; unfold NO; omega
        exact ⟨by rw [hf9, ← bS_4 hj9, ← iq], A1, I1, P1, T1, B1, Q1, by rw [if_neg hb9, hf9, ← bS_4 hj9, ← iq]; exact ⟨f2_0, Sm.at s_2 (by decide) hD.2.1, Sm.at s_2 (by decide) hD.2.2.1, f2_6, (seg10 (Sm.at s_2 (by decide) (hD.2.2.2.2.get 0 rfl)) (Sm.at s_2 (by decide) (hD.2.2.2.2.get 1 rfl)) f2_1 f2_2 f2_3 f2_4 f2_5 (Sm.at s_2 (by decide) (hD.2.2.2.2.get 7 rfl)) (Sm.at s_2 (by decide) (hD.2.2.2.2.get 8 rfl)) (Sm.at s_2 (by decide) (hD.2.2.2.2.get 9 rfl)))⟩, s_2, fun q9 => absurd q9 hb9, iA, iI, iFr, iS, iA4, iI5⟩
      · -- 4 to 7
        have hj4 : j < 4 := by omega
        have hm9 := f2_0
        rw [iq, bS_lt hj4] at hm9
        have hbp := bP_b hp htl iz
        have hab := aE_b (tx := tx) hbp.2 htl
        have hfb := aF_b (tx := tx) hbp.2 htl
        refine zw_n 1 rfl ?_
        refine zw_get (v := .ref 3) rfl hm9 rfl ?_
        refine zw_get (v := .ref 5) rfl (Sm.at s_2 (by decide) (hD.2.2.2.2.get 0 rfl)) rfl ?_
        refine zw_n 4 rfl ?_
        refine zw_top (na (a := j) (b := 1) rfl rfl) ?_
        refine zw_iastN (g := A1) (j := r) (v := (j + 1)) rfl f2_1 rfl (by decide) (by omega) (rfl) ?_
        generalize ez2513 : List.set M_2 5 _ = Mz2512
        refine zw_n 4 rfl ?_
        refine zw_top (nm (a := r) (b := 4) rfl rfl) ?_
        refine zw_n 2 rfl ?_
        refine zw_top (na (a := r * 4) (b := j) rfl rfl) ?_
        refine zw_callV (as := [.int (nI ((r * 4) + j))]) (rest := []) rfl rfl rfl (zat_set ez2513 (by decide) hm9) rfl rfl rfl (by decide) (c_readItems Mz2512 tl (bP tx tl p j) tx n em gn (up A1 r (j + 1)) I1 P1 T1 B1 fr af fb np Q1 ⟨zat_set ez2513 (by decide) hm9, zat_set ez2513 (by decide) (Sm.at s_2 (by decide) hD.2.1), zat_set ez2513 (by decide) (Sm.at s_2 (by decide) hD.2.2.1), zat_set ez2513 (by decide) f2_6, (seg10 (zat_set ez2513 (by decide) (Sm.at s_2 (by decide) (hD.2.2.2.2.get 0 rfl))) (zat_set ez2513 (by decide) (Sm.at s_2 (by decide) (hD.2.2.2.2.get 1 rfl))) (zat_self ez2513 f2_1) (zat_set ez2513 (by decide) f2_2) (zat_set ez2513 (by decide) f2_3) (zat_set ez2513 (by decide) f2_4) (zat_set ez2513 (by decide) f2_5) (zat_set ez2513 (by decide) (Sm.at s_2 (by decide) (hD.2.2.2.2.get 7 rfl))) (zat_set ez2513 (by decide) (Sm.at s_2 (by decide) (hD.2.2.2.2.get 8 rfl))) (zat_set ez2513 (by decide) (Sm.at s_2 (by decide) (hD.2.2.2.2.get 9 rfl))))⟩ htx htl (by omega) iS ((r * 4) + j) (by omega)) (fun rz2526 Mz2527 hz2528 => ?_)
        obtain ⟨hAz2514, itz2515, ptz2516, tgz2517, bdz2518, ppz2519, hBz2520, hSz2521, hYz2522, hNz2523, hFz2524, hIz2525⟩ := hz2528
        rw [hAz2514]
        show Zw 3 zm_GrammarReader_readAlts 28 [some (.ref 2), some (.int (nI r)), some (.int (nI j)), none] [.int (nI (aF tx tl (bP tx tl p j)))] Mz2527 _
        refine zw_n 3 (ls' := [some (.ref 2), some (.int (nI r)), some (.int (nI j)), some (.int (nI (aF tx tl (bP tx tl p j))))]) rfl ?_
        refine zw_ineM (a := aF tx tl (bP tx tl p j)) rfl rfl (by rcases hfb with q9 | q9 <;> (first | (rw [q9]; decide) | omega)) (fun c31 => ?_) (fun c31 => ?_)
        · -- 31 to 43
          refine zw_n 1 rfl ?_
          refine zw_iret rfl rfl ?_
          have hn9 : aF tx tl (bP tx tl p j) ≠ NO := c31
          have hk9 := bK_at iz hj4 (bZ_f hn9)
          have hf9 := (bF_at hk9 hj4).1
          have iA9 : ∀ q9, q9 ≠ r → up A1 r (j + 1) q9 = al_ q9 := fun q9 h9 => (up_n h9).trans (iA q9 h9)
          exact ⟨by rw [hf9], up A1 r (j + 1), itz2515, ptz2516, tgz2517, bdz2518, ppz2519, by have h9 : RdS Mz2527 tl (if aF tx tl (bP tx tl p j) = NO then aE tx tl (bP tx tl p j) else aF tx tl (bP tx tl p j)) tx n em gn (up A1 r (j + 1)) itz2515 ptz2516 tgz2517 bdz2518 fr af fb np ppz2519 := ⟨hBz2520.1, Sm.at hSz2521 (by decide) (zat_set ez2513 (by decide) (Sm.at s_2 (by decide) hD.2.1)), Sm.at hSz2521 (by decide) (zat_set ez2513 (by decide) (Sm.at s_2 (by decide) hD.2.2.1)), hBz2520.2.2.2.1, (seg10 (Sm.at hSz2521 (by decide) (zat_set ez2513 (by decide) (Sm.at s_2 (by decide) (hD.2.2.2.2.get 0 rfl)))) (Sm.at hSz2521 (by decide) (zat_set ez2513 (by decide) (Sm.at s_2 (by decide) (hD.2.2.2.2.get 1 rfl)))) (Sm.at hSz2521 (by decide) (zat_self ez2513 f2_1)) (hBz2520.2.2.2.2.get 3 rfl) (hBz2520.2.2.2.2.get 4 rfl) (hBz2520.2.2.2.2.get 5 rfl) (hBz2520.2.2.2.2.get 6 rfl) (Sm.at hSz2521 (by decide) (zat_set ez2513 (by decide) (Sm.at s_2 (by decide) (hD.2.2.2.2.get 7 rfl)))) (Sm.at hSz2521 (by decide) (zat_set ez2513 (by decide) (Sm.at s_2 (by decide) (hD.2.2.2.2.get 8 rfl)))) (Sm.at hSz2521 (by decide) (zat_set ez2513 (by decide) (Sm.at s_2 (by decide) (hD.2.2.2.2.get 9 rfl)))))⟩; rw [if_neg hn9] at h9; rw [hf9, if_neg hn9]; exact h9, Sm.tw (Sm.tset s_2 ez2513 (by decide)) hSz2521 (by decide), fun q9 => absurd q9 (by rw [hf9]; exact hn9), iA9, (it_fr iI hYz2522 hNz2523), iFr.tr hFz2524 (by omega) (by omega), hIz2525, (al_up iA4 (by omega)), (it_up iI5 hYz2522 hNz2523)⟩
        · -- 31 to 34
          have hm8 := hBz2520.1
          rw [if_pos (show aF tx tl (bP tx tl p j) = NO from c31)] at hm8
          refine zw_n 1 rfl ?_
          refine zw_callV (as := []) (rest := []) rfl rfl rfl hm8 rfl rfl rfl (by decide) (c_here Mz2527 tl (aE tx tl (bP tx tl p j)) tx n em gn (up A1 r (j + 1)) itz2515 ptz2516 tgz2517 bdz2518 fr af fb np ppz2519 ⟨hm8, Sm.at hSz2521 (by decide) (zat_set ez2513 (by decide) (Sm.at s_2 (by decide) hD.2.1)), Sm.at hSz2521 (by decide) (zat_set ez2513 (by decide) (Sm.at s_2 (by decide) hD.2.2.1)), hBz2520.2.2.2.1, (seg10 (Sm.at hSz2521 (by decide) (zat_set ez2513 (by decide) (Sm.at s_2 (by decide) (hD.2.2.2.2.get 0 rfl)))) (Sm.at hSz2521 (by decide) (zat_set ez2513 (by decide) (Sm.at s_2 (by decide) (hD.2.2.2.2.get 1 rfl)))) (Sm.at hSz2521 (by decide) (zat_self ez2513 f2_1)) (hBz2520.2.2.2.2.get 3 rfl) (hBz2520.2.2.2.2.get 4 rfl) (hBz2520.2.2.2.2.get 5 rfl) (hBz2520.2.2.2.2.get 6 rfl) (Sm.at hSz2521 (by decide) (zat_set ez2513 (by decide) (Sm.at s_2 (by decide) (hD.2.2.2.2.get 7 rfl)))) (Sm.at hSz2521 (by decide) (zat_set ez2513 (by decide) (Sm.at s_2 (by decide) (hD.2.2.2.2.get 8 rfl)))) (Sm.at hSz2521 (by decide) (zat_set ez2513 (by decide) (Sm.at s_2 (by decide) (hD.2.2.2.2.get 9 rfl)))))⟩ htx htl (by omega)) (fun rz2529 Mz2530 hz2531 => ?_)
          rw [hz2531.1, hz2531.2]
          show Zw 3 zm_GrammarReader_readAlts 38 [some (.ref 2), some (.int (nI r)), some (.int (nI j)), some (.int (nI (aF tx tl (bP tx tl p j))))] [.int (nI (hr tx tl (aE tx tl (bP tx tl p j))))] Mz2527 _
          refine zw_n 1 rfl ?_
          refine zw_ieq rfl (fun c40 => ?_) (fun c40 => ?_)
          · -- 40 to 45
            refine zw_n 3 rfl ?_
            refine zw_top (na (a := j) (b := 1) rfl rfl) ?_
            refine zw_n 1 rfl ?_
            refine zw_igeN (a := j + 1) (b := 4) rfl rfl rfl (by omega) (by omega) (fun c49 => ?_) (fun c49 => ?_)
            · -- 49 to 62
              refine zw_inc rfl (x' := (nI (j + 1))) (ls' := [some (.ref 2), some (.int (nI r)), some (.int (nI (j + 1))), some (.int (nI (aF tx tl (bP tx tl p j))))]) rfl (na (a := j) (b := 1) rfl rfl) rfl ?_
              refine zw_n 1 rfl ?_
              refine zw_ls (ls' := [some (.ref 2), some (.int (nI r)), some (.int (nI (j + 1))), none]) ⟨Or.inr rfl, Or.inr rfl, Or.inr rfl, Or.inl rfl, trivial⟩ ?_
              exact ih2 (j + 1) (aE tx tl (bP tx tl p j)) (up A1 r (j + 1)) itz2515 ptz2516 tgz2517 bdz2518 ppz2519 Mz2527 (Sm.tw (Sm.tset s_2 ez2513 (by decide)) hSz2521 (by decide)) hm8 (Sm.at hSz2521 (by decide) (zat_self ez2513 f2_1)) (hBz2520.2.2.2.2.get 3 rfl) (hBz2520.2.2.2.2.get 4 rfl) (hBz2520.2.2.2.2.get 5 rfl) (hBz2520.2.2.2.2.get 6 rfl) hBz2520.2.2.2.1 (⟨by omega, by rw [bS_4 (by omega), show j = 3 by omega], rt_step iz (bZ_no c31 ((ceq (hr_lt htx) (show 47 < 256 by decide)).mp c40)), iR.step (hYz2522 c31) hFz2524, fun q9 h9 => (up_n h9).trans (iA q9 h9), (it_fr iI hYz2522 hNz2523), iFr.tr hFz2524 (by omega) (by omega), hIz2525, (al_up iA4 (by omega)), (it_up iI5 hYz2522 hNz2523)⟩) (by omega)
            · -- 49 to 52
              refine zw_n 2 rfl ?_
              refine zw_get (v := .int (nI (aE tx tl (bP tx tl p j)))) rfl hm8 rfl ?_
              refine zw_n 2 rfl ?_
              refine zw_top (na (a := aE tx tl (bP tx tl p j)) (b := 1) rfl rfl) ?_
              refine zw_put rfl hm8 (rfl) (Nat.le_of_ble_eq_true rfl) ?_
              generalize ez2533 : List.set Mz2527 2 _ = Mz2532
              refine zw_inc rfl (x' := (nI (j + 1))) (ls' := [some (.ref 2), some (.int (nI r)), some (.int (nI (j + 1))), some (.int (nI (aF tx tl (bP tx tl p j))))]) rfl (na (a := j) (b := 1) rfl rfl) rfl ?_
              refine zw_n 1 rfl ?_
              refine zw_ls (ls' := [some (.ref 2), some (.int (nI r)), some (.int (nI (j + 1))), none]) ⟨Or.inr rfl, Or.inr rfl, Or.inr rfl, Or.inl rfl, trivial⟩ ?_
              exact ih2 (j + 1) ((aE tx tl (bP tx tl p j)) + 1) (up A1 r (j + 1)) itz2515 ptz2516 tgz2517 bdz2518 ppz2519 Mz2532 (Sm.tset (Sm.tw (Sm.tset s_2 ez2513 (by decide)) hSz2521 (by decide)) ez2533 (by decide)) (zat_self ez2533 hm8) (zat_set ez2533 (by decide) (Sm.at hSz2521 (by decide) (zat_self ez2513 f2_1))) (zat_set ez2533 (by decide) (hBz2520.2.2.2.2.get 3 rfl)) (zat_set ez2533 (by decide) (hBz2520.2.2.2.2.get 4 rfl)) (zat_set ez2533 (by decide) (hBz2520.2.2.2.2.get 5 rfl)) (zat_set ez2533 (by decide) (hBz2520.2.2.2.2.get 6 rfl)) (zat_set ez2533 (by decide) hBz2520.2.2.2.1) (⟨by omega, by rw [bS_lt (by omega)]; rfl, rt_step iz (bZ_no c31 ((ceq (hr_lt htx) (show 47 < 256 by decide)).mp c40)), iR.step (hYz2522 c31) hFz2524, fun q9 h9 => (up_n h9).trans (iA q9 h9), (it_fr iI hYz2522 hNz2523), iFr.tr hFz2524 (by omega) (by omega), hIz2525, (al_up iA4 (by omega)), (it_up iI5 hYz2522 hNz2523)⟩) (by omega)
          · -- 40 to 43
            refine zw_n 1 rfl ?_
            refine zw_iret rfl rfl ?_
            have hn9 : aF tx tl (bP tx tl p j) = NO := c31
            have h47 : ¬ hr tx tl (aE tx tl (bP tx tl p j)) = 47 := fun q9 => c40 ((ceq (hr_lt htx) (show 47 < 256 by decide)).mpr q9)
            have hk9 := bK_at iz hj4 (bZ_h h47)
            have hf9 := bF_at hk9 hj4
            have iA9 : ∀ q9, q9 ≠ r → up A1 r (j + 1) q9 = al_ q9 := fun q9 h9 => (up_n h9).trans (iA q9 h9)
            exact ⟨by rw [hf9.1], up A1 r (j + 1), itz2515, ptz2516, tgz2517, bdz2518, ppz2519, by rw [hf9.1, if_pos hn9, hf9.2]; exact ⟨hm8, Sm.at hSz2521 (by decide) (zat_set ez2513 (by decide) (Sm.at s_2 (by decide) hD.2.1)), Sm.at hSz2521 (by decide) (zat_set ez2513 (by decide) (Sm.at s_2 (by decide) hD.2.2.1)), hBz2520.2.2.2.1, (seg10 (Sm.at hSz2521 (by decide) (zat_set ez2513 (by decide) (Sm.at s_2 (by decide) (hD.2.2.2.2.get 0 rfl)))) (Sm.at hSz2521 (by decide) (zat_set ez2513 (by decide) (Sm.at s_2 (by decide) (hD.2.2.2.2.get 1 rfl)))) (Sm.at hSz2521 (by decide) (zat_self ez2513 f2_1)) (hBz2520.2.2.2.2.get 3 rfl) (hBz2520.2.2.2.2.get 4 rfl) (hBz2520.2.2.2.2.get 5 rfl) (hBz2520.2.2.2.2.get 6 rfl) (Sm.at hSz2521 (by decide) (zat_set ez2513 (by decide) (Sm.at s_2 (by decide) (hD.2.2.2.2.get 7 rfl)))) (Sm.at hSz2521 (by decide) (zat_set ez2513 (by decide) (Sm.at s_2 (by decide) (hD.2.2.2.2.get 8 rfl)))) (Sm.at hSz2521 (by decide) (zat_set ez2513 (by decide) (Sm.at s_2 (by decide) (hD.2.2.2.2.get 9 rfl)))))⟩, Sm.tw (Sm.tset s_2 ez2513 (by decide)) hSz2521 (by decide), fun _ => ⟨by rw [up_s, hk9], by rw [hk9]; exact iR.step (hYz2522 hn9) hFz2524⟩, iA9, (it_fr iI hYz2522 hNz2523), iFr.tr hFz2524 (by omega) (by omega), hIz2525, (al_up iA4 (by omega)), (it_up iI5 hYz2522 hNz2523)⟩
  exact lp2 _ 0 p al_ it pt tg bd pp Mq Sm.rf hD.1 (hD.2.2.2.2.get 2 rfl) (hD.2.2.2.2.get 3 rfl) (hD.2.2.2.2.get 4 rfl) (hD.2.2.2.2.get 5 rfl) (hD.2.2.2.2.get 6 rfl) hD.2.2.2.1 (⟨Nat.zero_le _, rfl, fun j hj => absurd hj (Nat.not_lt_zero _), fun j hj => absurd hj (Nat.not_lt_zero _), fun _ _ => rfl, fun _ _ => rfl, FrS.rf, hSI, ha4, hi5⟩) (Nat.lt_succ_self _)
