set_option maxHeartbeats 4000000 in
set_option maxRecDepth 100000 in
theorem c_readName (Mq : zM) (tl p : Nat) (tx : Nat → Nat) (n em : Nat) (gn al_ it pt tg bd fr af fb np pp : Nat → Nat) (hD : RdS Mq tl p tx n em gn al_ it pt tg bd fr af fb np pp) (htx : ∀ q, tx q < 256) (htl : tl ≤ 240) (hp : p ≤ tl) (hgn : ∀ q, gn q < 128) (i : Nat) (hi8 : i ≤ 8) (hni : n = i) : Zm 1 zm_GrammarReader_readName [.ref 2, .int (nI i)] Mq (fun r9 M1 => r9 = some (.int (nI (nF tx tl p i n gn))) ∧ ∃ n9 gn9 np9, RdS M1 tl (if nF tx tl p i n gn = NO then nC tx tl p + 1 else nF tx tl p i n gn) tx n9 em gn9 al_ it pt tg bd fr af fb np9 pp ∧ Sm Mq M1 [2, 3, 4, 13] ∧ (¬ nOk tx tl p i n gn → n9 = n ∧ gn9 = gn ∧ np9 = np) ∧ (nOk tx tl p i n gn → n9 = i + 1 ∧ gn9 = up gn i (hr tx tl (nQ tx tl p)) ∧ np9 = up np i (nQ tx tl p))) := by
  show Zw 1 zm_GrammarReader_readName 0 [some (.ref 2), some (.int (nI i)), none] [] Mq _
  refine zw_n 1 rfl ?_
  refine zw_callV (as := []) (rest := []) rfl rfl rfl hD.1 rfl rfl rfl (by decide) (c_skipBlanks Mq tl p tx n em gn al_ it pt tg bd fr af fb np pp ⟨hD.1, hD.2.1, hD.2.2.1, hD.2.2.2.1, (seg10 (hD.2.2.2.2.get 0 rfl) (hD.2.2.2.2.get 1 rfl) (hD.2.2.2.2.get 2 rfl) (hD.2.2.2.2.get 3 rfl) (hD.2.2.2.2.get 4 rfl) (hD.2.2.2.2.get 5 rfl) (hD.2.2.2.2.get 6 rfl) (hD.2.2.2.2.get 7 rfl) (hD.2.2.2.2.get 8 rfl) (hD.2.2.2.2.get 9 rfl))⟩ htx htl (by omega)) (fun rz2537 Mz2538 hz2539 => ?_)
  obtain ⟨hAz2534, hBz2535, hSz2536⟩ := hz2539
  rw [hAz2534]
  have hgehBz2535 := sk_ge tx tl p
  have hlehBz2535 := @sk_le tx tl p (by omega)
  show Zw 1 zm_GrammarReader_readName 4 [some (.ref 2), some (.int (nI i)), none] [] Mz2538 _
  refine zw_n 1 rfl ?_
  refine zw_callV (as := []) (rest := []) rfl rfl rfl hBz2535 rfl rfl rfl (by decide) (c_here Mz2538 tl (sk tx tl p) tx n em gn al_ it pt tg bd fr af fb np pp ⟨hBz2535, Sm.at hSz2536 (by decide) hD.2.1, Sm.at hSz2536 (by decide) hD.2.2.1, Sm.at hSz2536 (by decide) hD.2.2.2.1, (seg10 (Sm.at hSz2536 (by decide) (hD.2.2.2.2.get 0 rfl)) (Sm.at hSz2536 (by decide) (hD.2.2.2.2.get 1 rfl)) (Sm.at hSz2536 (by decide) (hD.2.2.2.2.get 2 rfl)) (Sm.at hSz2536 (by decide) (hD.2.2.2.2.get 3 rfl)) (Sm.at hSz2536 (by decide) (hD.2.2.2.2.get 4 rfl)) (Sm.at hSz2536 (by decide) (hD.2.2.2.2.get 5 rfl)) (Sm.at hSz2536 (by decide) (hD.2.2.2.2.get 6 rfl)) (Sm.at hSz2536 (by decide) (hD.2.2.2.2.get 7 rfl)) (Sm.at hSz2536 (by decide) (hD.2.2.2.2.get 8 rfl)) (Sm.at hSz2536 (by decide) (hD.2.2.2.2.get 9 rfl)))⟩ htx htl (by omega)) (fun rz2540 Mz2541 hz2542 => ?_)
  rw [hz2542.1, hz2542.2]
  show Zw 1 zm_GrammarReader_readName 8 [some (.ref 2), some (.int (nI i)), none] [.int (nI (hr tx tl (sk tx tl p)))] Mz2538 _
  refine zw_n 2 (ls' := [some (.ref 2), some (.int (nI i)), some (.int (nI (hr tx tl (sk tx tl p))))]) rfl ?_
  refine zw_callS (as := [.int (nI (hr tx tl (sk tx tl p)))]) (rest := []) rfl rfl rfl rfl rfl rfl (by decide) (c_isName _ (hr tx tl (sk tx tl p)) (hr_lt htx)) (fun rz2543 Mz2544 hz2545 => ?_)
  rw [hz2545.1, hz2545.2]
  show Zw 1 zm_GrammarReader_readName 13 [some (.ref 2), some (.int (nI i)), some (.int (nI (hr tx tl (sk tx tl p))))] [.int (nI (if nmB (hr tx tl (sk tx tl p)) = true then 1 else 0))] Mz2538 _
  refine zw_eq0N (a := if nmB (hr tx tl (sk tx tl p)) = true then 1 else 0) rfl rfl (ite_b) (fun c13 => ?_) (fun c13 => ?_)
  · -- 13 to 34
    have hbad : ¬ nOk tx tl p i n gn := fun q9 => by first | exact ite_eq0 c13 q9.1 | (have := q9.2.1; omega) | exact c31 q9.2.2
    refine zw_n 1 rfl ?_
    refine zw_get (v := .int (nI (sk tx tl p))) rfl hBz2535 rfl ?_
    refine zw_iret rfl rfl ?_
    have hv9 := nF_bad hbad
    have hn9 : nF tx tl p i n gn ≠ NO := by rw [hv9]; unfold NO nQ; omega
    exact ⟨by rw [hv9]; rfl, n, gn, np, by rw [if_neg hn9, hv9]; exact ⟨hBz2535, Sm.at hSz2536 (by decide) hD.2.1, Sm.at hSz2536 (by decide) hD.2.2.1, Sm.at hSz2536 (by decide) hD.2.2.2.1, (seg10 (Sm.at hSz2536 (by decide) (hD.2.2.2.2.get 0 rfl)) (Sm.at hSz2536 (by decide) (hD.2.2.2.2.get 1 rfl)) (Sm.at hSz2536 (by decide) (hD.2.2.2.2.get 2 rfl)) (Sm.at hSz2536 (by decide) (hD.2.2.2.2.get 3 rfl)) (Sm.at hSz2536 (by decide) (hD.2.2.2.2.get 4 rfl)) (Sm.at hSz2536 (by decide) (hD.2.2.2.2.get 5 rfl)) (Sm.at hSz2536 (by decide) (hD.2.2.2.2.get 6 rfl)) (Sm.at hSz2536 (by decide) (hD.2.2.2.2.get 7 rfl)) (Sm.at hSz2536 (by decide) (hD.2.2.2.2.get 8 rfl)) (Sm.at hSz2536 (by decide) (hD.2.2.2.2.get 9 rfl)))⟩, Sm.tw Sm.rf hSz2536 (by decide), fun _ => ⟨rfl, rfl, rfl⟩, fun q9 => absurd q9 hbad⟩
  · -- 13 to 16
    have hnm := ite_ne c13
    have hnl := nm_lt hnm
    have hin := nm_in hnm
    refine zw_n 2 rfl ?_
    refine zw_igeN (a := i) (b := 8) rfl rfl rfl (by omega) (by omega) (fun c19 => ?_) (fun c19 => ?_)
    · -- 19 to 34
      have hbad : ¬ nOk tx tl p i n gn := fun q9 => by first | exact ite_eq0 c13 q9.1 | (have := q9.2.1; omega) | exact c31 q9.2.2
      refine zw_n 1 rfl ?_
      refine zw_get (v := .int (nI (sk tx tl p))) rfl hBz2535 rfl ?_
      refine zw_iret rfl rfl ?_
      have hv9 := nF_bad hbad
      have hn9 : nF tx tl p i n gn ≠ NO := by rw [hv9]; unfold NO nQ; omega
      exact ⟨by rw [hv9]; rfl, n, gn, np, by rw [if_neg hn9, hv9]; exact ⟨hBz2535, Sm.at hSz2536 (by decide) hD.2.1, Sm.at hSz2536 (by decide) hD.2.2.1, Sm.at hSz2536 (by decide) hD.2.2.2.1, (seg10 (Sm.at hSz2536 (by decide) (hD.2.2.2.2.get 0 rfl)) (Sm.at hSz2536 (by decide) (hD.2.2.2.2.get 1 rfl)) (Sm.at hSz2536 (by decide) (hD.2.2.2.2.get 2 rfl)) (Sm.at hSz2536 (by decide) (hD.2.2.2.2.get 3 rfl)) (Sm.at hSz2536 (by decide) (hD.2.2.2.2.get 4 rfl)) (Sm.at hSz2536 (by decide) (hD.2.2.2.2.get 5 rfl)) (Sm.at hSz2536 (by decide) (hD.2.2.2.2.get 6 rfl)) (Sm.at hSz2536 (by decide) (hD.2.2.2.2.get 7 rfl)) (Sm.at hSz2536 (by decide) (hD.2.2.2.2.get 8 rfl)) (Sm.at hSz2536 (by decide) (hD.2.2.2.2.get 9 rfl)))⟩, Sm.tw Sm.rf hSz2536 (by decide), fun _ => ⟨rfl, rfl, rfl⟩, fun q9 => absurd q9 hbad⟩
    · -- 19 to 22
      refine zw_n 1 rfl ?_
      refine zw_get (v := .ref 3) rfl hBz2535 rfl ?_
      refine zw_n 1 rfl ?_
      refine zw_callV (as := [.int (nI (hr tx tl (sk tx tl p)))]) (rest := []) rfl rfl rfl (Sm.at hSz2536 (by decide) (hD.2.2.2.2.get 0 rfl)) rfl rfl rfl (by decide) (c_named Mz2538 3 n em gn al_ it pt tg bd fr af fb (seg10 (Sm.at hSz2536 (by decide) (hD.2.2.2.2.get 0 rfl)) (Sm.at hSz2536 (by decide) (hD.2.2.2.2.get 1 rfl)) (Sm.at hSz2536 (by decide) (hD.2.2.2.2.get 2 rfl)) (Sm.at hSz2536 (by decide) (hD.2.2.2.2.get 3 rfl)) (Sm.at hSz2536 (by decide) (hD.2.2.2.2.get 4 rfl)) (Sm.at hSz2536 (by decide) (hD.2.2.2.2.get 5 rfl)) (Sm.at hSz2536 (by decide) (hD.2.2.2.2.get 6 rfl)) (Sm.at hSz2536 (by decide) (hD.2.2.2.2.get 7 rfl)) (Sm.at hSz2536 (by decide) (hD.2.2.2.2.get 8 rfl)) (Sm.at hSz2536 (by decide) (hD.2.2.2.2.get 9 rfl))) (by omega) (hr tx tl (sk tx tl p)) (by omega) (fun q => Nat.lt_trans (hgn q) (by decide))) (fun rz2546 Mz2547 hz2548 => ?_)
      rw [hz2548.1, hz2548.2]
      show Zw 1 zm_GrammarReader_readName 30 [some (.ref 2), some (.int (nI i)), some (.int (nI (hr tx tl (sk tx tl p))))] [.int (nI (srch (fun q => gn q == (hr tx tl (sk tx tl p))) 0 n))] Mz2538 _
      refine zw_n 1 rfl ?_
      refine zw_ieqM (a := srch (fun q => gn q == (hr tx tl (sk tx tl p))) 0 n) rfl rfl (by rcases srch_spec (fun q => gn q == hr tx tl (sk tx tl p)) n 0 with ⟨q9, _⟩ | ⟨_, q9, _, _⟩ <;> (first | (rw [q9]; decide) | omega)) (fun c31 => ?_) (fun c31 => ?_)
      · -- 31 to 39
        have hok : nOk tx tl p i n gn := ⟨hnm, by omega, c31⟩
        refine zw_n 1 rfl ?_
        refine zw_get (v := .ref 3) rfl hBz2535 rfl ?_
        refine zw_get (v := .ref 4) rfl (Sm.at hSz2536 (by decide) (hD.2.2.2.2.get 0 rfl)) rfl ?_
        refine zw_n 2 rfl ?_
        refine zw_iastN (g := gn) (j := i) (v := (hr tx tl (sk tx tl p))) rfl (Sm.at hSz2536 (by decide) (hD.2.2.2.2.get 1 rfl)) rfl (by decide) (by omega) (rfl) ?_
        generalize ez2550 : List.set Mz2538 4 _ = Mz2549
        refine zw_n 1 rfl ?_
        refine zw_get (v := .ref 3) rfl (zat_set ez2550 (by decide) hBz2535) rfl ?_
        refine zw_n 3 rfl ?_
        refine zw_top (na (a := i) (b := 1) rfl rfl) ?_
        refine zw_put rfl (zat_set ez2550 (by decide) (Sm.at hSz2536 (by decide) (hD.2.2.2.2.get 0 rfl))) (rfl) (Nat.le_of_ble_eq_true rfl) ?_
        generalize ez2552 : List.set Mz2549 3 _ = Mz2551
        refine zw_n 1 rfl ?_
        refine zw_get (v := .ref 13) rfl (zat_set ez2552 (by decide) (zat_set ez2550 (by decide) hBz2535)) rfl ?_
        refine zw_n 2 rfl ?_
        refine zw_get (v := .int (nI (sk tx tl p))) rfl (zat_set ez2552 (by decide) (zat_set ez2550 (by decide) hBz2535)) rfl ?_
        refine zw_iastN (g := np) (j := i) (v := (sk tx tl p)) rfl (zat_set ez2552 (by decide) (zat_set ez2550 (by decide) (Sm.at hSz2536 (by decide) hD.2.2.1))) rfl (by decide) (by omega) (rfl) ?_
        generalize ez2554 : List.set Mz2551 13 _ = Mz2553
        refine zw_n 2 rfl ?_
        refine zw_get (v := .int (nI (sk tx tl p))) rfl (zat_set ez2554 (by decide) (zat_set ez2552 (by decide) (zat_set ez2550 (by decide) hBz2535))) rfl ?_
        refine zw_n 2 rfl ?_
        refine zw_top (na (a := sk tx tl p) (b := 1) rfl rfl) ?_
        refine zw_put rfl (zat_set ez2554 (by decide) (zat_set ez2552 (by decide) (zat_set ez2550 (by decide) hBz2535))) (rfl) (Nat.le_of_ble_eq_true rfl) ?_
        generalize ez2556 : List.set Mz2553 2 _ = Mz2555
        refine zw_n 1 rfl ?_
        refine zw_callV (as := []) (rest := []) rfl rfl rfl (zat_self ez2556 (zat_set ez2554 (by decide) (zat_set ez2552 (by decide) (zat_set ez2550 (by decide) hBz2535)))) rfl rfl rfl (by decide) (c_skipBlanks Mz2555 tl ((sk tx tl p) + 1) tx (i + 1) em (up gn i (hr tx tl (sk tx tl p))) al_ it pt tg bd fr af fb (up np i (sk tx tl p)) pp ⟨zat_self ez2556 (zat_set ez2554 (by decide) (zat_set ez2552 (by decide) (zat_set ez2550 (by decide) hBz2535))), zat_set ez2556 (by decide) (zat_set ez2554 (by decide) (zat_set ez2552 (by decide) (zat_set ez2550 (by decide) (Sm.at hSz2536 (by decide) hD.2.1)))), zat_set ez2556 (by decide) (zat_self ez2554 (zat_set ez2552 (by decide) (zat_set ez2550 (by decide) (Sm.at hSz2536 (by decide) hD.2.2.1)))), zat_set ez2556 (by decide) (zat_set ez2554 (by decide) (zat_set ez2552 (by decide) (zat_set ez2550 (by decide) (Sm.at hSz2536 (by decide) hD.2.2.2.1)))), (seg10 (zat_set ez2556 (by decide) (zat_set ez2554 (by decide) (zat_self ez2552 (zat_set ez2550 (by decide) (Sm.at hSz2536 (by decide) (hD.2.2.2.2.get 0 rfl)))))) (zat_set ez2556 (by decide) (zat_set ez2554 (by decide) (zat_set ez2552 (by decide) (zat_self ez2550 (Sm.at hSz2536 (by decide) (hD.2.2.2.2.get 1 rfl)))))) (zat_set ez2556 (by decide) (zat_set ez2554 (by decide) (zat_set ez2552 (by decide) (zat_set ez2550 (by decide) (Sm.at hSz2536 (by decide) (hD.2.2.2.2.get 2 rfl)))))) (zat_set ez2556 (by decide) (zat_set ez2554 (by decide) (zat_set ez2552 (by decide) (zat_set ez2550 (by decide) (Sm.at hSz2536 (by decide) (hD.2.2.2.2.get 3 rfl)))))) (zat_set ez2556 (by decide) (zat_set ez2554 (by decide) (zat_set ez2552 (by decide) (zat_set ez2550 (by decide) (Sm.at hSz2536 (by decide) (hD.2.2.2.2.get 4 rfl)))))) (zat_set ez2556 (by decide) (zat_set ez2554 (by decide) (zat_set ez2552 (by decide) (zat_set ez2550 (by decide) (Sm.at hSz2536 (by decide) (hD.2.2.2.2.get 5 rfl)))))) (zat_set ez2556 (by decide) (zat_set ez2554 (by decide) (zat_set ez2552 (by decide) (zat_set ez2550 (by decide) (Sm.at hSz2536 (by decide) (hD.2.2.2.2.get 6 rfl)))))) (zat_set ez2556 (by decide) (zat_set ez2554 (by decide) (zat_set ez2552 (by decide) (zat_set ez2550 (by decide) (Sm.at hSz2536 (by decide) (hD.2.2.2.2.get 7 rfl)))))) (zat_set ez2556 (by decide) (zat_set ez2554 (by decide) (zat_set ez2552 (by decide) (zat_set ez2550 (by decide) (Sm.at hSz2536 (by decide) (hD.2.2.2.2.get 8 rfl)))))) (zat_set ez2556 (by decide) (zat_set ez2554 (by decide) (zat_set ez2552 (by decide) (zat_set ez2550 (by decide) (Sm.at hSz2536 (by decide) (hD.2.2.2.2.get 9 rfl)))))))⟩ htx htl (by omega)) (fun rz2560 Mz2561 hz2562 => ?_)
        obtain ⟨hAz2557, hBz2558, hSz2559⟩ := hz2562
        rw [hAz2557]
        have hgehBz2558 := sk_ge tx tl ((sk tx tl p) + 1)
        have hlehBz2558 := @sk_le tx tl ((sk tx tl p) + 1) (by omega)
        show Zw 1 zm_GrammarReader_readName 83 [some (.ref 2), some (.int (nI i)), some (.int (nI (hr tx tl (sk tx tl p))))] [] Mz2561 _
        refine zw_n 1 rfl ?_
        refine zw_callV (as := []) (rest := []) rfl rfl rfl hBz2558 rfl rfl rfl (by decide) (c_here Mz2561 tl (sk tx tl ((sk tx tl p) + 1)) tx (i + 1) em (up gn i (hr tx tl (sk tx tl p))) al_ it pt tg bd fr af fb (up np i (sk tx tl p)) pp ⟨hBz2558, Sm.at hSz2559 (by decide) (zat_set ez2556 (by decide) (zat_set ez2554 (by decide) (zat_set ez2552 (by decide) (zat_set ez2550 (by decide) (Sm.at hSz2536 (by decide) hD.2.1))))), Sm.at hSz2559 (by decide) (zat_set ez2556 (by decide) (zat_self ez2554 (zat_set ez2552 (by decide) (zat_set ez2550 (by decide) (Sm.at hSz2536 (by decide) hD.2.2.1))))), Sm.at hSz2559 (by decide) (zat_set ez2556 (by decide) (zat_set ez2554 (by decide) (zat_set ez2552 (by decide) (zat_set ez2550 (by decide) (Sm.at hSz2536 (by decide) hD.2.2.2.1))))), (seg10 (Sm.at hSz2559 (by decide) (zat_set ez2556 (by decide) (zat_set ez2554 (by decide) (zat_self ez2552 (zat_set ez2550 (by decide) (Sm.at hSz2536 (by decide) (hD.2.2.2.2.get 0 rfl))))))) (Sm.at hSz2559 (by decide) (zat_set ez2556 (by decide) (zat_set ez2554 (by decide) (zat_set ez2552 (by decide) (zat_self ez2550 (Sm.at hSz2536 (by decide) (hD.2.2.2.2.get 1 rfl))))))) (Sm.at hSz2559 (by decide) (zat_set ez2556 (by decide) (zat_set ez2554 (by decide) (zat_set ez2552 (by decide) (zat_set ez2550 (by decide) (Sm.at hSz2536 (by decide) (hD.2.2.2.2.get 2 rfl))))))) (Sm.at hSz2559 (by decide) (zat_set ez2556 (by decide) (zat_set ez2554 (by decide) (zat_set ez2552 (by decide) (zat_set ez2550 (by decide) (Sm.at hSz2536 (by decide) (hD.2.2.2.2.get 3 rfl))))))) (Sm.at hSz2559 (by decide) (zat_set ez2556 (by decide) (zat_set ez2554 (by decide) (zat_set ez2552 (by decide) (zat_set ez2550 (by decide) (Sm.at hSz2536 (by decide) (hD.2.2.2.2.get 4 rfl))))))) (Sm.at hSz2559 (by decide) (zat_set ez2556 (by decide) (zat_set ez2554 (by decide) (zat_set ez2552 (by decide) (zat_set ez2550 (by decide) (Sm.at hSz2536 (by decide) (hD.2.2.2.2.get 5 rfl))))))) (Sm.at hSz2559 (by decide) (zat_set ez2556 (by decide) (zat_set ez2554 (by decide) (zat_set ez2552 (by decide) (zat_set ez2550 (by decide) (Sm.at hSz2536 (by decide) (hD.2.2.2.2.get 6 rfl))))))) (Sm.at hSz2559 (by decide) (zat_set ez2556 (by decide) (zat_set ez2554 (by decide) (zat_set ez2552 (by decide) (zat_set ez2550 (by decide) (Sm.at hSz2536 (by decide) (hD.2.2.2.2.get 7 rfl))))))) (Sm.at hSz2559 (by decide) (zat_set ez2556 (by decide) (zat_set ez2554 (by decide) (zat_set ez2552 (by decide) (zat_set ez2550 (by decide) (Sm.at hSz2536 (by decide) (hD.2.2.2.2.get 8 rfl))))))) (Sm.at hSz2559 (by decide) (zat_set ez2556 (by decide) (zat_set ez2554 (by decide) (zat_set ez2552 (by decide) (zat_set ez2550 (by decide) (Sm.at hSz2536 (by decide) (hD.2.2.2.2.get 9 rfl))))))))⟩ htx htl (by omega)) (fun rz2563 Mz2564 hz2565 => ?_)
        rw [hz2565.1, hz2565.2]
        show Zw 1 zm_GrammarReader_readName 87 [some (.ref 2), some (.int (nI i)), some (.int (nI (hr tx tl (sk tx tl p))))] [.int (nI (hr tx tl (sk tx tl ((sk tx tl p) + 1))))] Mz2561 _
        refine zw_n 1 rfl ?_
        refine zw_ieq rfl (fun c89 => ?_) (fun c89 => ?_)
        · -- 89 to 97
          have h58 : hr tx tl (nC tx tl p) = 58 := (ceq (hr_lt htx) (show 58 < 256 by decide)).mp c89
          have h59 : nC tx tl p < tl := hr_in (by rw [h58]; decide)
          unfold nC at h59
          refine zw_n 2 rfl ?_
          refine zw_get (v := .int (nI (sk tx tl ((sk tx tl p) + 1)))) rfl hBz2558 rfl ?_
          refine zw_n 2 rfl ?_
          refine zw_top (na (a := sk tx tl ((sk tx tl p) + 1)) (b := 1) rfl rfl) ?_
          refine zw_put rfl hBz2558 (rfl) (Nat.le_of_ble_eq_true rfl) ?_
          generalize ez2567 : List.set Mz2561 2 _ = Mz2566
          refine zw_n 1 rfl ?_
          refine zw_iret rfl rfl ?_
          have hv9 : nF tx tl p i n gn = NO := by rw [nF_ok hok]; exact if_pos h58
          exact ⟨by rw [hv9]; decide, i + 1, up gn i (hr tx tl (nQ tx tl p)), up np i (nQ tx tl p), by rw [if_pos hv9]; exact ⟨zat_self ez2567 hBz2558, zat_set ez2567 (by decide) (Sm.at hSz2559 (by decide) (zat_set ez2556 (by decide) (zat_set ez2554 (by decide) (zat_set ez2552 (by decide) (zat_set ez2550 (by decide) (Sm.at hSz2536 (by decide) hD.2.1)))))), zat_set ez2567 (by decide) (Sm.at hSz2559 (by decide) (zat_set ez2556 (by decide) (zat_self ez2554 (zat_set ez2552 (by decide) (zat_set ez2550 (by decide) (Sm.at hSz2536 (by decide) hD.2.2.1)))))), zat_set ez2567 (by decide) (Sm.at hSz2559 (by decide) (zat_set ez2556 (by decide) (zat_set ez2554 (by decide) (zat_set ez2552 (by decide) (zat_set ez2550 (by decide) (Sm.at hSz2536 (by decide) hD.2.2.2.1)))))), (seg10 (zat_set ez2567 (by decide) (Sm.at hSz2559 (by decide) (zat_set ez2556 (by decide) (zat_set ez2554 (by decide) (zat_self ez2552 (zat_set ez2550 (by decide) (Sm.at hSz2536 (by decide) (hD.2.2.2.2.get 0 rfl)))))))) (zat_set ez2567 (by decide) (Sm.at hSz2559 (by decide) (zat_set ez2556 (by decide) (zat_set ez2554 (by decide) (zat_set ez2552 (by decide) (zat_self ez2550 (Sm.at hSz2536 (by decide) (hD.2.2.2.2.get 1 rfl)))))))) (zat_set ez2567 (by decide) (Sm.at hSz2559 (by decide) (zat_set ez2556 (by decide) (zat_set ez2554 (by decide) (zat_set ez2552 (by decide) (zat_set ez2550 (by decide) (Sm.at hSz2536 (by decide) (hD.2.2.2.2.get 2 rfl)))))))) (zat_set ez2567 (by decide) (Sm.at hSz2559 (by decide) (zat_set ez2556 (by decide) (zat_set ez2554 (by decide) (zat_set ez2552 (by decide) (zat_set ez2550 (by decide) (Sm.at hSz2536 (by decide) (hD.2.2.2.2.get 3 rfl)))))))) (zat_set ez2567 (by decide) (Sm.at hSz2559 (by decide) (zat_set ez2556 (by decide) (zat_set ez2554 (by decide) (zat_set ez2552 (by decide) (zat_set ez2550 (by decide) (Sm.at hSz2536 (by decide) (hD.2.2.2.2.get 4 rfl)))))))) (zat_set ez2567 (by decide) (Sm.at hSz2559 (by decide) (zat_set ez2556 (by decide) (zat_set ez2554 (by decide) (zat_set ez2552 (by decide) (zat_set ez2550 (by decide) (Sm.at hSz2536 (by decide) (hD.2.2.2.2.get 5 rfl)))))))) (zat_set ez2567 (by decide) (Sm.at hSz2559 (by decide) (zat_set ez2556 (by decide) (zat_set ez2554 (by decide) (zat_set ez2552 (by decide) (zat_set ez2550 (by decide) (Sm.at hSz2536 (by decide) (hD.2.2.2.2.get 6 rfl)))))))) (zat_set ez2567 (by decide) (Sm.at hSz2559 (by decide) (zat_set ez2556 (by decide) (zat_set ez2554 (by decide) (zat_set ez2552 (by decide) (zat_set ez2550 (by decide) (Sm.at hSz2536 (by decide) (hD.2.2.2.2.get 7 rfl)))))))) (zat_set ez2567 (by decide) (Sm.at hSz2559 (by decide) (zat_set ez2556 (by decide) (zat_set ez2554 (by decide) (zat_set ez2552 (by decide) (zat_set ez2550 (by decide) (Sm.at hSz2536 (by decide) (hD.2.2.2.2.get 8 rfl)))))))) (zat_set ez2567 (by decide) (Sm.at hSz2559 (by decide) (zat_set ez2556 (by decide) (zat_set ez2554 (by decide) (zat_set ez2552 (by decide) (zat_set ez2550 (by decide) (Sm.at hSz2536 (by decide) (hD.2.2.2.2.get 9 rfl)))))))))⟩, Sm.tset (Sm.tw (Sm.tset (Sm.tset (Sm.tset (Sm.tset (Sm.tw Sm.rf hSz2536 (by decide)) ez2550 (by decide)) ez2552 (by decide)) ez2554 (by decide)) ez2556 (by decide)) hSz2559 (by decide)) ez2567 (by decide), fun q9 => absurd hok q9, fun _ => ⟨rfl, rfl, rfl⟩⟩
        · -- 89 to 92
          have h58 : ¬ hr tx tl (nC tx tl p) = 58 := fun q9 => c89 ((ceq (hr_lt htx) (show 58 < 256 by decide)).mpr q9)
          refine zw_n 1 rfl ?_
          refine zw_get (v := .int (nI (sk tx tl ((sk tx tl p) + 1)))) rfl hBz2558 rfl ?_
          refine zw_iret rfl rfl ?_
          have hv9 : nF tx tl p i n gn = nC tx tl p := by rw [nF_ok hok]; exact if_neg h58
          have hn9 : nF tx tl p i n gn ≠ NO := by rw [hv9]; unfold NO nC; omega
          exact ⟨by rw [hv9]; rfl, i + 1, up gn i (hr tx tl (nQ tx tl p)), up np i (nQ tx tl p), by rw [if_neg hn9, hv9]; exact ⟨hBz2558, Sm.at hSz2559 (by decide) (zat_set ez2556 (by decide) (zat_set ez2554 (by decide) (zat_set ez2552 (by decide) (zat_set ez2550 (by decide) (Sm.at hSz2536 (by decide) hD.2.1))))), Sm.at hSz2559 (by decide) (zat_set ez2556 (by decide) (zat_self ez2554 (zat_set ez2552 (by decide) (zat_set ez2550 (by decide) (Sm.at hSz2536 (by decide) hD.2.2.1))))), Sm.at hSz2559 (by decide) (zat_set ez2556 (by decide) (zat_set ez2554 (by decide) (zat_set ez2552 (by decide) (zat_set ez2550 (by decide) (Sm.at hSz2536 (by decide) hD.2.2.2.1))))), (seg10 (Sm.at hSz2559 (by decide) (zat_set ez2556 (by decide) (zat_set ez2554 (by decide) (zat_self ez2552 (zat_set ez2550 (by decide) (Sm.at hSz2536 (by decide) (hD.2.2.2.2.get 0 rfl))))))) (Sm.at hSz2559 (by decide) (zat_set ez2556 (by decide) (zat_set ez2554 (by decide) (zat_set ez2552 (by decide) (zat_self ez2550 (Sm.at hSz2536 (by decide) (hD.2.2.2.2.get 1 rfl))))))) (Sm.at hSz2559 (by decide) (zat_set ez2556 (by decide) (zat_set ez2554 (by decide) (zat_set ez2552 (by decide) (zat_set ez2550 (by decide) (Sm.at hSz2536 (by decide) (hD.2.2.2.2.get 2 rfl))))))) (Sm.at hSz2559 (by decide) (zat_set ez2556 (by decide) (zat_set ez2554 (by decide) (zat_set ez2552 (by decide) (zat_set ez2550 (by decide) (Sm.at hSz2536 (by decide) (hD.2.2.2.2.get 3 rfl))))))) (Sm.at hSz2559 (by decide) (zat_set ez2556 (by decide) (zat_set ez2554 (by decide) (zat_set ez2552 (by decide) (zat_set ez2550 (by decide) (Sm.at hSz2536 (by decide) (hD.2.2.2.2.get 4 rfl))))))) (Sm.at hSz2559 (by decide) (zat_set ez2556 (by decide) (zat_set ez2554 (by decide) (zat_set ez2552 (by decide) (zat_set ez2550 (by decide) (Sm.at hSz2536 (by decide) (hD.2.2.2.2.get 5 rfl))))))) (Sm.at hSz2559 (by decide) (zat_set ez2556 (by decide) (zat_set ez2554 (by decide) (zat_set ez2552 (by decide) (zat_set ez2550 (by decide) (Sm.at hSz2536 (by decide) (hD.2.2.2.2.get 6 rfl))))))) (Sm.at hSz2559 (by decide) (zat_set ez2556 (by decide) (zat_set ez2554 (by decide) (zat_set ez2552 (by decide) (zat_set ez2550 (by decide) (Sm.at hSz2536 (by decide) (hD.2.2.2.2.get 7 rfl))))))) (Sm.at hSz2559 (by decide) (zat_set ez2556 (by decide) (zat_set ez2554 (by decide) (zat_set ez2552 (by decide) (zat_set ez2550 (by decide) (Sm.at hSz2536 (by decide) (hD.2.2.2.2.get 8 rfl))))))) (Sm.at hSz2559 (by decide) (zat_set ez2556 (by decide) (zat_set ez2554 (by decide) (zat_set ez2552 (by decide) (zat_set ez2550 (by decide) (Sm.at hSz2536 (by decide) (hD.2.2.2.2.get 9 rfl))))))))⟩, Sm.tw (Sm.tset (Sm.tset (Sm.tset (Sm.tset (Sm.tw Sm.rf hSz2536 (by decide)) ez2550 (by decide)) ez2552 (by decide)) ez2554 (by decide)) ez2556 (by decide)) hSz2559 (by decide), fun q9 => absurd hok q9, fun _ => ⟨rfl, rfl, rfl⟩⟩
      · -- 31 to 34
        have hbad : ¬ nOk tx tl p i n gn := fun q9 => by first | exact ite_eq0 c13 q9.1 | (have := q9.2.1; omega) | exact c31 q9.2.2
        refine zw_n 1 rfl ?_
        refine zw_get (v := .int (nI (sk tx tl p))) rfl hBz2535 rfl ?_
        refine zw_iret rfl rfl ?_
        have hv9 := nF_bad hbad
        have hn9 : nF tx tl p i n gn ≠ NO := by rw [hv9]; unfold NO nQ; omega
        exact ⟨by rw [hv9]; rfl, n, gn, np, by rw [if_neg hn9, hv9]; exact ⟨hBz2535, Sm.at hSz2536 (by decide) hD.2.1, Sm.at hSz2536 (by decide) hD.2.2.1, Sm.at hSz2536 (by decide) hD.2.2.2.1, (seg10 (Sm.at hSz2536 (by decide) (hD.2.2.2.2.get 0 rfl)) (Sm.at hSz2536 (by decide) (hD.2.2.2.2.get 1 rfl)) (Sm.at hSz2536 (by decide) (hD.2.2.2.2.get 2 rfl)) (Sm.at hSz2536 (by decide) (hD.2.2.2.2.get 3 rfl)) (Sm.at hSz2536 (by decide) (hD.2.2.2.2.get 4 rfl)) (Sm.at hSz2536 (by decide) (hD.2.2.2.2.get 5 rfl)) (Sm.at hSz2536 (by decide) (hD.2.2.2.2.get 6 rfl)) (Sm.at hSz2536 (by decide) (hD.2.2.2.2.get 7 rfl)) (Sm.at hSz2536 (by decide) (hD.2.2.2.2.get 8 rfl)) (Sm.at hSz2536 (by decide) (hD.2.2.2.2.get 9 rfl)))⟩, Sm.tw Sm.rf hSz2536 (by decide), fun _ => ⟨rfl, rfl, rfl⟩, fun q9 => absurd q9 hbad⟩

set_option maxHeartbeats 4000000 in
set_option maxRecDepth 100000 in
theorem c_readRules (Mq : zM) (tl p : Nat) (tx : Nat → Nat) (n em : Nat) (gn al_ it pt tg bd fr af fb np pp : Nat → Nat) (hD : RdS Mq tl p tx n em gn al_ it pt tg bd fr af fb np pp) (htx : ∀ q, tx q < 256) (htl : tl ≤ 240) (hp : p = 0) (hn0 : n = 0) (hgn : ∀ q, gn q < 128) (ha4 : ∀ q, al_ q ≤ 4) (hi5 : ∀ q, it q ≤ 5) (hSI : SafeI pt tg bd) : Zm 4 zm_GrammarReader_readRules [.ref 2] Mq (fun r9 M1 => r9 = some (.int (nI (gF tx tl))) ∧ ∃ p9 n9 gn9 al9 it9 pt9 tg9 bd9 np9 pp9, RdS M1 tl p9 tx n9 em gn9 al9 it9 pt9 tg9 bd9 fr af fb np9 pp9 ∧ Sm Mq M1 [2, 3, 4, 5, 6, 7, 8, 9, 13, 14] ∧ SafeG n9 gn9 al9 it9 pt9 tg9 bd9 ∧ (gF tx tl = NO → n9 = gK tx tl + 1 ∧ ∀ j, j < gK tx tl + 1 → GD tx tl j gn9 al9 it9 pt9 tg9 bd9 np9 pp9)) := by
  show Zw 4 zm_GrammarReader_readRules 0 [some (.ref 2), none, none] [] Mq _
  refine zw_n 2 (ls' := [some (.ref 2), some (.int 0), none]) rfl ?_
  have lp2 : ∀ (n2 : Nat) (i : Nat) (q : Nat) (n1 : Nat) (G1 : Nat → Nat) (A1 : Nat → Nat) (I1 : Nat → Nat) (P1 : Nat → Nat) (T1 : Nat → Nat) (B1 : Nat → Nat) (N1 : Nat → Nat) (Q1 : Nat → Nat) (M_2 : zM), Sm Mq M_2 [2, 3, 4, 5, 6, 7, 8, 9, 13, 14] → M_2[2]? = some (.inr (1, [.ref 3, .ref 13, .ref 14, .ref 1, .int (nI tl), .int (nI q)])) → M_2[3]? = some (.inr (8, [.int (nI n1), .ref 4, .ref 5, .ref 6, .ref 7, .ref 8, .ref 9, .int (nI em), .ref 10, .ref 11, .ref 12])) → M_2[4]? = some (.inl (0, 8, .inl (ai G1))) → M_2[5]? = some (.inl (0, 8, .inl (ai A1))) → M_2[6]? = some (.inl (0, 32, .inl (ai I1))) → M_2[13]? = some (.inl (0, 8, .inl (ai N1))) → M_2[7]? = some (.inl (0, 160, .inl (ai P1))) → M_2[8]? = some (.inl (0, 160, .inl (ai T1))) → M_2[9]? = some (.inl (0, 160, .inl (ai B1))) → M_2[14]? = some (.inl (0, 160, .inl (ai Q1))) → (i ≤ 8 ∧ q = cP tx tl i ∧ q ≤ tl ∧ n1 = i ∧ (∀ j, j < i → cZ tx tl j = false) ∧ (∀ j, j < i → GD tx tl j G1 A1 I1 P1 T1 B1 N1 Q1) ∧ (∀ q9, G1 q9 < 128) ∧ (∀ q9, A1 q9 ≤ 4) ∧ (∀ q9, I1 q9 ≤ 5) ∧ SafeI P1 T1 B1 ∧ ∀ j, j < i → cA tx tl j ≤ tl) → 9 - i < n2 → Zw 4 zm_GrammarReader_readRules 2 [some (.ref 2), some (.int (nI i)), none] [] M_2 (fun r9 M1 => r9 = some (.int (nI (gF tx tl))) ∧ ∃ p9 n9 gn9 al9 it9 pt9 tg9 bd9 np9 pp9, RdS M1 tl p9 tx n9 em gn9 al9 it9 pt9 tg9 bd9 fr af fb np9 pp9 ∧ Sm Mq M1 [2, 3, 4, 5, 6, 7, 8, 9, 13, 14] ∧ SafeG n9 gn9 al9 it9 pt9 tg9 bd9 ∧ (gF tx tl = NO → n9 = gK tx tl + 1 ∧ ∀ j, j < gK tx tl + 1 → GD tx tl j gn9 al9 it9 pt9 tg9 bd9 np9 pp9)) := by
    intro n2
    induction n2 with
    | zero => intro i q n1 G1 A1 I1 P1 T1 B1 N1 Q1 M_2 _ _ _ _ _ _ _ _ _ _ _ _ h; exact absurd h (Nat.not_lt_zero _)
    | succ n2 ih2 =>
      intro i q n1 G1 A1 I1 P1 T1 B1 N1 Q1 M_2 s_2 f2_0 f2_1 f2_2 f2_3 f2_4 f2_5 f2_6 f2_7 f2_8 f2_9 hi2 hm2
      obtain ⟨ii, iq, iqt, i_n, iz, iD, iG, iA4, iI5, iS, ib⟩ := hi2
      refine zw_n 2 rfl ?_
      refine zw_igtN (a := i) (b := 8) rfl rfl rfl (by omega) (by omega) (fun c5 => ?_) (fun c5 => ?_)
      · -- 5 to 56
        exfalso
        omega
      · -- 5 to 8
        have hm9 := f2_0
        rw [iq] at hm9
        have hm3 := f2_1
        rw [i_n] at hm3
        have hnq := @sk_le tx tl (cP tx tl i) (by omega)
        have hng := sk_ge tx tl (cP tx tl i)
        refine zw_n 2 rfl ?_
        refine zw_callV (as := [.int (nI i)]) (rest := []) rfl rfl rfl hm9 rfl rfl rfl (by decide) (c_readName M_2 tl (cP tx tl i) tx i em G1 A1 I1 P1 T1 B1 fr af fb N1 Q1 ⟨hm9, Sm.at s_2 (by decide) hD.2.1, f2_5, f2_9, (seg10 hm3 f2_2 f2_3 f2_4 f2_6 f2_7 f2_8 (Sm.at s_2 (by decide) (hD.2.2.2.2.get 7 rfl)) (Sm.at s_2 (by decide) (hD.2.2.2.2.get 8 rfl)) (Sm.at s_2 (by decide) (hD.2.2.2.2.get 9 rfl)))⟩ htx htl (by omega) iG i (by omega) (by omega)) (fun rz2576 Mz2577 hz2578 => ?_)
        obtain ⟨hAz2568, nz2569, gnz2570, npz2571, hBz2572, hSz2573, hXz2574, hYz2575⟩ := hz2578
        rw [hAz2568]
        show Zw 4 zm_GrammarReader_readRules 13 [some (.ref 2), some (.int (nI i)), none] [.int (nI (nF tx tl (cP tx tl i) i i G1))] Mz2577 _
        refine zw_n 3 (ls' := [some (.ref 2), some (.int (nI i)), some (.int (nI (nF tx tl (cP tx tl i) i i G1)))]) rfl ?_
        refine zw_ineM (a := nF tx tl (cP tx tl i) i i G1) rfl rfl (rn_lt (by omega) htl) (fun c16 => ?_) (fun c16 => ?_)
        · -- 16 to 25
          refine zw_n 2 rfl ?_
          refine zw_ineM (a := nF tx tl (cP tx tl i) i i G1) rfl rfl (by first | exact rn_lt (by omega) htl | (rcases hfb with q9 | q9 <;> (first | (rw [q9]; decide) | omega))) (fun c27 => ?_) (fun c27 => ?_)
          · -- 27 to 38
            refine zw_n 1 rfl ?_
            refine zw_iret rfl rfl ?_
            have hn9 : nF tx tl (cP tx tl i) i i G1 ≠ NO := c16
            have hcf : cF tx tl i = nF tx tl (cP tx tl i) i i G1 := rn_bad (fun q9 h9 => (iD q9 h9).1) hn9
            have hg9 := gK_at iz (by omega) (cZ_f (by rw [hcf]; exact hn9))
            exact ⟨by rw [hg9.2, hcf], if nF tx tl (cP tx tl i) i i G1 = NO then nC tx tl (cP tx tl i) + 1 else nF tx tl (cP tx tl i) i i G1, nz2569, gnz2570, A1, I1, P1, T1, B1, npz2571, Q1, ⟨hBz2572.1, Sm.at hSz2573 (by decide) (Sm.at s_2 (by decide) hD.2.1), hBz2572.2.2.1, Sm.at hSz2573 (by decide) f2_9, (seg10 (hBz2572.2.2.2.2.get 0 rfl) (hBz2572.2.2.2.2.get 1 rfl) (Sm.at hSz2573 (by decide) f2_3) (Sm.at hSz2573 (by decide) f2_4) (Sm.at hSz2573 (by decide) f2_6) (Sm.at hSz2573 (by decide) f2_7) (Sm.at hSz2573 (by decide) f2_8) (Sm.at hSz2573 (by decide) (Sm.at s_2 (by decide) (hD.2.2.2.2.get 7 rfl))) (Sm.at hSz2573 (by decide) (Sm.at s_2 (by decide) (hD.2.2.2.2.get 8 rfl))) (Sm.at hSz2573 (by decide) (Sm.at s_2 (by decide) (hD.2.2.2.2.get 9 rfl))))⟩, Sm.tw s_2 hSz2573 (by decide), rd_safe (by omega) iG iA4 iI5 iS i_n (hXz2574) (hYz2575), fun q9 => absurd (hg9.2.symm.trans q9) (by rw [hcf]; exact hn9)⟩
          · -- 27 to 30
            exfalso
            exact c16 c27
        · -- 16 to 19
          have hv9 : nF tx tl (cP tx tl i) i i G1 = NO := c16
          have hok : nOk tx tl (cP tx tl i) i i G1 := Classical.byContradiction fun q9 => by
            rw [nF_bad q9] at hv9
            unfold NO nQ at hv9
            omega
          have hcd := (nOk_c (fun q9 h9 => (iD q9 h9).1)).mp hok
          have h58 : hr tx tl (nC tx tl (cP tx tl i)) = 58 := Classical.byContradiction fun q9 => by
            rw [nF_ok hok, if_neg q9] at hv9
            have := nm_in hok.1
            have := @sk_le tx tl (sk tx tl (cP tx tl i) + 1) (by unfold nQ at this; omega)
            unfold NO nC at hv9
            omega
          have h59 : nC tx tl (cP tx tl i) < tl := hr_in (by rw [h58]; decide)
          have hcf : cF tx tl i = bF tx tl (cA tx tl i) := by rw [cF_ok hcd, if_pos h58]
          have hfb := bF_b (tx := tx) (p := cA tx tl i) (by unfold cA; omega) htl
          have hi8 : i < 8 := hok.2.1
          have hm8 := hBz2572.1
          rw [if_pos hv9] at hm8
          change Mz2577[2]? = some (.inr (1, [.ref 3, .ref 13, .ref 14, .ref 1, .int (nI tl), .int (nI (cA tx tl i))])) at hm8
          obtain ⟨hn8, hg8, hp8⟩ := hYz2575 hok
          refine zw_n 2 rfl ?_
          refine zw_callV (as := [.int (nI i)]) (rest := []) rfl rfl rfl hm8 rfl rfl rfl (by decide) (c_readAlts Mz2577 tl (cA tx tl i) tx nz2569 em gnz2570 A1 I1 P1 T1 B1 fr af fb npz2571 Q1 ⟨hm8, Sm.at hSz2573 (by decide) (Sm.at s_2 (by decide) hD.2.1), hBz2572.2.2.1, Sm.at hSz2573 (by decide) f2_9, (seg10 (hBz2572.2.2.2.2.get 0 rfl) (hBz2572.2.2.2.2.get 1 rfl) (Sm.at hSz2573 (by decide) f2_3) (Sm.at hSz2573 (by decide) f2_4) (Sm.at hSz2573 (by decide) f2_6) (Sm.at hSz2573 (by decide) f2_7) (Sm.at hSz2573 (by decide) f2_8) (Sm.at hSz2573 (by decide) (Sm.at s_2 (by decide) (hD.2.2.2.2.get 7 rfl))) (Sm.at hSz2573 (by decide) (Sm.at s_2 (by decide) (hD.2.2.2.2.get 8 rfl))) (Sm.at hSz2573 (by decide) (Sm.at s_2 (by decide) (hD.2.2.2.2.get 9 rfl))))⟩ htx htl (by unfold cA; omega) iS iA4 iI5 i (by omega)) (fun rz2595 Mz2596 hz2597 => ?_)
          obtain ⟨hAz2579, alz2580, itz2581, ptz2582, tgz2583, bdz2584, ppz2585, hBz2586, hSz2587, hYz2588, hAlz2589, hItz2590, hFz2591, hIz2592, hA4z2593, hI5z2594⟩ := hz2597
          rw [hAz2579]
          show Zw 4 zm_GrammarReader_readRules 24 [some (.ref 2), some (.int (nI i)), some (.int (nI (nF tx tl (cP tx tl i) i i G1)))] [.int (nI (bF tx tl (cA tx tl i)))] Mz2596 _
          refine zw_n 3 (ls' := [some (.ref 2), some (.int (nI i)), some (.int (nI (bF tx tl (cA tx tl i))))]) rfl ?_
          refine zw_ineM (a := bF tx tl (cA tx tl i)) rfl rfl (by first | exact rn_lt (by omega) htl | (rcases hfb with q9 | q9 <;> (first | (rw [q9]; decide) | omega))) (fun c27 => ?_) (fun c27 => ?_)
          · -- 27 to 38
            refine zw_n 1 rfl ?_
            refine zw_iret rfl rfl ?_
            have hn9 : bF tx tl (cA tx tl i) ≠ NO := c27
            have hg9 := gK_at iz (by omega) (cZ_f (by rw [hcf]; exact hn9))
            exact ⟨by rw [hg9.2, hcf], if bF tx tl (cA tx tl i) = NO then bE tx tl (cA tx tl i) else bF tx tl (cA tx tl i), nz2569, gnz2570, alz2580, itz2581, ptz2582, tgz2583, bdz2584, npz2571, ppz2585, ⟨hBz2586.1, Sm.at hSz2587 (by decide) (Sm.at hSz2573 (by decide) (Sm.at s_2 (by decide) hD.2.1)), Sm.at hSz2587 (by decide) hBz2572.2.2.1, hBz2586.2.2.2.1, (seg10 (Sm.at hSz2587 (by decide) (hBz2572.2.2.2.2.get 0 rfl)) (Sm.at hSz2587 (by decide) (hBz2572.2.2.2.2.get 1 rfl)) (hBz2586.2.2.2.2.get 2 rfl) (hBz2586.2.2.2.2.get 3 rfl) (hBz2586.2.2.2.2.get 4 rfl) (hBz2586.2.2.2.2.get 5 rfl) (hBz2586.2.2.2.2.get 6 rfl) (Sm.at hSz2587 (by decide) (Sm.at hSz2573 (by decide) (Sm.at s_2 (by decide) (hD.2.2.2.2.get 7 rfl)))) (Sm.at hSz2587 (by decide) (Sm.at hSz2573 (by decide) (Sm.at s_2 (by decide) (hD.2.2.2.2.get 8 rfl)))) (Sm.at hSz2587 (by decide) (Sm.at hSz2573 (by decide) (Sm.at s_2 (by decide) (hD.2.2.2.2.get 9 rfl)))))⟩, Sm.tw (Sm.tw s_2 hSz2573 (by decide)) hSz2587 (by decide), rd_safe2 hi8 iG hA4z2593 hI5z2594 hIz2592 hn8 hg8 (nm_lt hok.1), fun q9 => absurd (hg9.2.symm.trans q9) (by rw [hcf]; exact hn9)⟩
          · -- 27 to 30
            have hm7 := hBz2586.1
            rw [if_pos (show bF tx tl (cA tx tl i) = NO from c27)] at hm7
            have heb := bE_b (tx := tx) c27 (by unfold cA; omega) htl
            refine zw_n 1 rfl ?_
            refine zw_callV (as := []) (rest := []) rfl rfl rfl hm7 rfl rfl rfl (by decide) (c_here Mz2596 tl (bE tx tl (cA tx tl i)) tx nz2569 em gnz2570 alz2580 itz2581 ptz2582 tgz2583 bdz2584 fr af fb npz2571 ppz2585 ⟨hm7, Sm.at hSz2587 (by decide) (Sm.at hSz2573 (by decide) (Sm.at s_2 (by decide) hD.2.1)), Sm.at hSz2587 (by decide) hBz2572.2.2.1, hBz2586.2.2.2.1, (seg10 (Sm.at hSz2587 (by decide) (hBz2572.2.2.2.2.get 0 rfl)) (Sm.at hSz2587 (by decide) (hBz2572.2.2.2.2.get 1 rfl)) (hBz2586.2.2.2.2.get 2 rfl) (hBz2586.2.2.2.2.get 3 rfl) (hBz2586.2.2.2.2.get 4 rfl) (hBz2586.2.2.2.2.get 5 rfl) (hBz2586.2.2.2.2.get 6 rfl) (Sm.at hSz2587 (by decide) (Sm.at hSz2573 (by decide) (Sm.at s_2 (by decide) (hD.2.2.2.2.get 7 rfl)))) (Sm.at hSz2587 (by decide) (Sm.at hSz2573 (by decide) (Sm.at s_2 (by decide) (hD.2.2.2.2.get 8 rfl)))) (Sm.at hSz2587 (by decide) (Sm.at hSz2573 (by decide) (Sm.at s_2 (by decide) (hD.2.2.2.2.get 9 rfl)))))⟩ htx htl (by omega)) (fun rz2598 Mz2599 hz2600 => ?_)
            rw [hz2600.1, hz2600.2]
            show Zw 4 zm_GrammarReader_readRules 34 [some (.ref 2), some (.int (nI i)), some (.int (nI (bF tx tl (cA tx tl i))))] [.int (nI (hr tx tl (bE tx tl (cA tx tl i))))] Mz2596 _
            refine zw_n 1 rfl ?_
            refine zw_ineM (a := hr tx tl (bE tx tl (cA tx tl i))) rfl rfl (by rcases @hr_lt tx tl (bE tx tl (cA tx tl i)) htx with q9 | q9 <;> (first | omega | (rw [q9]; decide))) (fun c35 => ?_) (fun c35 => ?_)
            · -- 35 to 40
              refine zw_n 2 rfl ?_
              refine zw_get (v := .int (nI (bE tx tl (cA tx tl i)))) rfl hm7 rfl ?_
              refine zw_n 2 rfl ?_
              refine zw_top (na (a := bE tx tl (cA tx tl i)) (b := 1) rfl rfl) ?_
              refine zw_put rfl hm7 (rfl) (Nat.le_of_ble_eq_true rfl) ?_
              generalize ez2602 : List.set Mz2596 2 _ = Mz2601
              refine zw_inc rfl (x' := (nI (i + 1))) (ls' := [some (.ref 2), some (.int (nI (i + 1))), some (.int (nI (bF tx tl (cA tx tl i))))]) rfl (na (a := i) (b := 1) rfl rfl) rfl ?_
              refine zw_n 1 rfl ?_
              refine zw_ls (ls' := [some (.ref 2), some (.int (nI (i + 1))), none]) ⟨Or.inr rfl, Or.inr rfl, Or.inl rfl, trivial⟩ ?_
              exact ih2 (i + 1) ((bE tx tl (cA tx tl i)) + 1) nz2569 gnz2570 alz2580 itz2581 ptz2582 tgz2583 bdz2584 npz2571 ppz2585 Mz2601 (Sm.tset (Sm.tw (Sm.tw s_2 hSz2573 (by decide)) hSz2587 (by decide)) ez2602 (by decide)) (zat_self ez2602 hm7) (zat_set ez2602 (by decide) (Sm.at hSz2587 (by decide) (hBz2572.2.2.2.2.get 0 rfl))) (zat_set ez2602 (by decide) (Sm.at hSz2587 (by decide) (hBz2572.2.2.2.2.get 1 rfl))) (zat_set ez2602 (by decide) (hBz2586.2.2.2.2.get 2 rfl)) (zat_set ez2602 (by decide) (hBz2586.2.2.2.2.get 3 rfl)) (zat_set ez2602 (by decide) (Sm.at hSz2587 (by decide) hBz2572.2.2.1)) (zat_set ez2602 (by decide) (hBz2586.2.2.2.2.get 4 rfl)) (zat_set ez2602 (by decide) (hBz2586.2.2.2.2.get 5 rfl)) (zat_set ez2602 (by decide) (hBz2586.2.2.2.2.get 6 rfl)) (zat_set ez2602 (by decide) hBz2586.2.2.2.1) (⟨by omega, rfl, by have := hr_in (show hr tx tl (bE tx tl (cA tx tl i)) ≠ NO from c35); omega, hn8, rt_step iz (cZ_no (hcf.trans c27) c35), rd_next hi8 hg8 hp8 iD iz hYz2588 c27 hAlz2589 hItz2590 hFz2591 htl ib, gn_up iG hg8 (nm_lt hok.1), hA4z2593, hI5z2594, hIz2592, fun j hj => if e : j = i then by rw [e]; unfold cA; omega else ib j (by omega)⟩) (by omega)
            · -- 35 to 38
              refine zw_n 1 rfl ?_
              refine zw_iret rfl rfl ?_
              have hf9 : bF tx tl (cA tx tl i) = NO := c27
              have hg9 := gK_at iz (by omega) (cZ_e c35)
              exact ⟨by rw [hg9.2, hcf], bE tx tl (cA tx tl i), nz2569, gnz2570, alz2580, itz2581, ptz2582, tgz2583, bdz2584, npz2571, ppz2585, ⟨hm7, Sm.at hSz2587 (by decide) (Sm.at hSz2573 (by decide) (Sm.at s_2 (by decide) hD.2.1)), Sm.at hSz2587 (by decide) hBz2572.2.2.1, hBz2586.2.2.2.1, (seg10 (Sm.at hSz2587 (by decide) (hBz2572.2.2.2.2.get 0 rfl)) (Sm.at hSz2587 (by decide) (hBz2572.2.2.2.2.get 1 rfl)) (hBz2586.2.2.2.2.get 2 rfl) (hBz2586.2.2.2.2.get 3 rfl) (hBz2586.2.2.2.2.get 4 rfl) (hBz2586.2.2.2.2.get 5 rfl) (hBz2586.2.2.2.2.get 6 rfl) (Sm.at hSz2587 (by decide) (Sm.at hSz2573 (by decide) (Sm.at s_2 (by decide) (hD.2.2.2.2.get 7 rfl)))) (Sm.at hSz2587 (by decide) (Sm.at hSz2573 (by decide) (Sm.at s_2 (by decide) (hD.2.2.2.2.get 8 rfl)))) (Sm.at hSz2587 (by decide) (Sm.at hSz2573 (by decide) (Sm.at s_2 (by decide) (hD.2.2.2.2.get 9 rfl)))))⟩, Sm.tw (Sm.tw s_2 hSz2573 (by decide)) hSz2587 (by decide), rd_safe2 hi8 iG hA4z2593 hI5z2594 hIz2592 hn8 hg8 (nm_lt hok.1), fun _ => ⟨by rw [hg9.1]; exact hn8, by rw [hg9.1]; exact rd_next hi8 hg8 hp8 iD iz hYz2588 hf9 hAlz2589 hItz2590 hFz2591 htl ib⟩⟩
  exact lp2 _ 0 p n gn al_ it pt tg bd np pp Mq Sm.rf hD.1 (hD.2.2.2.2.get 0 rfl) (hD.2.2.2.2.get 1 rfl) (hD.2.2.2.2.get 2 rfl) (hD.2.2.2.2.get 3 rfl) hD.2.2.1 (hD.2.2.2.2.get 4 rfl) (hD.2.2.2.2.get 5 rfl) (hD.2.2.2.2.get 6 rfl) hD.2.2.2.1 (⟨Nat.zero_le _, hp, by omega, hn0, fun j hj => absurd hj (Nat.not_lt_zero _), fun j hj => absurd hj (Nat.not_lt_zero _), hgn, ha4, hi5, hSI, fun j hj => absurd hj (Nat.not_lt_zero _)⟩) (Nat.lt_succ_self _)
