set_option maxHeartbeats 4000000 in
set_option maxRecDepth 100000 in
theorem c_readGrammar (Mq : zM) (s0 l0 p0 tl : Nat) (tx : Nat → Nat) (n em : Nat) (gn al_ it pt tg bd fr af fb np pp : Nat → Nat) (h2 : Mq[2]? = some (.inr (1, [.ref 3, .ref 13, .ref 14, .ref s0, .int (nI l0), .int (nI p0)]))) (hX : Mq[1]? = some (.inl (0, 240, .inl (ai tx)))) (h13 : Mq[13]? = some (.inl (0, 8, .inl (ai np)))) (h14 : Mq[14]? = some (.inl (0, 160, .inl (ai pp)))) (hR : Seg Mq 3 (rulL 3 (n, gn, al_, it, pt, tg, bd, em, fr, af, fb))) (htx : ∀ q, tx q < 256) (htl : tl ≤ 240) (hf : (∀ q, gn q < 128) ∧ (∀ q, al_ q ≤ 4) ∧ (∀ q, it q ≤ 5) ∧ (∀ q, pt q < 128) ∧ (∀ q, tg q = 4294967295 ∨ tg q < 8) ∧ (∀ q, bd q < 128) ∧ SafeM fr ∧ SafeM af ∧ SafeM fb) : Zm 5 zm_GrammarReader_readGrammar [.ref 2, .ref 1, .int (nI tl)] Mq (fun r9 M1 => ∃ v, r9 = some (.int (nI v)) ∧ GrF tx tl v ∧ ∃ p9 n9 em9 gn9 al9 it9 pt9 tg9 bd9 fr9 af9 fb9 np9 pp9, RdS M1 tl p9 tx n9 em9 gn9 al9 it9 pt9 tg9 bd9 fr9 af9 fb9 np9 pp9 ∧ Sm Mq M1 [2, 3, 4, 5, 6, 7, 8, 9, 10, 11, 12, 13, 14] ∧ SafeG n9 gn9 al9 it9 pt9 tg9 bd9 ∧ (SafeM fr9 ∧ SafeM af9 ∧ SafeM fb9) ∧ (v = NO → AgG tx tl n9 gn9 al9 it9 pt9 tg9 bd9 ∧ GOK n9 gn9 al9 it9 pt9 tg9 bd9 em9 fr9 af9 fb9)) := by
  show Zw 5 zm_GrammarReader_readGrammar 0 [some (.ref 2), some (.ref 1), some (.int (nI tl)), none, none] [] Mq _
  refine zw_n 2 rfl ?_
  refine zw_put rfl h2 (rfl) (Nat.le_of_ble_eq_true rfl) ?_
  generalize ez2614 : List.set Mq 2 _ = Mz2613
  refine zw_n 3 rfl ?_
  refine zw_alen rfl (zat_set ez2614 (by decide) hX) rfl ?_
  refine zw_minN (a := tl) (b := 240) rfl (by decide) rfl rfl rfl (by omega) (by omega) ?_
  refine zw_top (x' := (nI tl)) (congrArg nI (by omega)) ?_
  refine zw_put rfl (zat_self ez2614 h2) (rfl) (Nat.le_of_ble_eq_true rfl) ?_
  generalize ez2616 : List.set Mz2613 2 _ = Mz2615
  refine zw_n 2 rfl ?_
  refine zw_put rfl (zat_self ez2616 (zat_self ez2614 h2)) (rfl) (Nat.le_of_ble_eq_true rfl) ?_
  generalize ez2618 : List.set Mz2615 2 _ = Mz2617
  refine zw_n 1 rfl ?_
  refine zw_get (v := .ref 3) rfl (zat_self ez2618 (zat_self ez2616 (zat_self ez2614 h2))) rfl ?_
  refine zw_n 1 rfl ?_
  refine zw_put rfl (zat_set ez2618 (by decide) (zat_set ez2616 (by decide) (zat_set ez2614 (by decide) (hR.get 0 rfl)))) (rfl) (Nat.le_of_ble_eq_true rfl) ?_
  generalize ez2620 : List.set Mz2617 3 _ = Mz2619
  refine zw_n 1 rfl ?_
  refine zw_callV (as := []) (rest := []) rfl rfl rfl (zat_set ez2620 (by decide) (zat_self ez2618 (zat_self ez2616 (zat_self ez2614 h2)))) rfl rfl rfl (by decide) (c_readRules Mz2619 tl 0 tx 0 em gn al_ it pt tg bd fr af fb np pp ⟨zat_set ez2620 (by decide) (zat_self ez2618 (zat_self ez2616 (zat_self ez2614 h2))), zat_set ez2620 (by decide) (zat_set ez2618 (by decide) (zat_set ez2616 (by decide) (zat_set ez2614 (by decide) hX))), zat_set ez2620 (by decide) (zat_set ez2618 (by decide) (zat_set ez2616 (by decide) (zat_set ez2614 (by decide) h13))), zat_set ez2620 (by decide) (zat_set ez2618 (by decide) (zat_set ez2616 (by decide) (zat_set ez2614 (by decide) h14))), (seg10 (zat_self ez2620 (zat_set ez2618 (by decide) (zat_set ez2616 (by decide) (zat_set ez2614 (by decide) (hR.get 0 rfl))))) (zat_set ez2620 (by decide) (zat_set ez2618 (by decide) (zat_set ez2616 (by decide) (zat_set ez2614 (by decide) (hR.get 1 rfl))))) (zat_set ez2620 (by decide) (zat_set ez2618 (by decide) (zat_set ez2616 (by decide) (zat_set ez2614 (by decide) (hR.get 2 rfl))))) (zat_set ez2620 (by decide) (zat_set ez2618 (by decide) (zat_set ez2616 (by decide) (zat_set ez2614 (by decide) (hR.get 3 rfl))))) (zat_set ez2620 (by decide) (zat_set ez2618 (by decide) (zat_set ez2616 (by decide) (zat_set ez2614 (by decide) (hR.get 4 rfl))))) (zat_set ez2620 (by decide) (zat_set ez2618 (by decide) (zat_set ez2616 (by decide) (zat_set ez2614 (by decide) (hR.get 5 rfl))))) (zat_set ez2620 (by decide) (zat_set ez2618 (by decide) (zat_set ez2616 (by decide) (zat_set ez2614 (by decide) (hR.get 6 rfl))))) (zat_set ez2620 (by decide) (zat_set ez2618 (by decide) (zat_set ez2616 (by decide) (zat_set ez2614 (by decide) (hR.get 7 rfl))))) (zat_set ez2620 (by decide) (zat_set ez2618 (by decide) (zat_set ez2616 (by decide) (zat_set ez2614 (by decide) (hR.get 8 rfl))))) (zat_set ez2620 (by decide) (zat_set ez2618 (by decide) (zat_set ez2616 (by decide) (zat_set ez2614 (by decide) (hR.get 9 rfl))))))⟩ htx htl rfl rfl hf.1 hf.2.1 hf.2.2.1 ⟨hf.2.2.2.1, hf.2.2.2.2.1, hf.2.2.2.2.2.1⟩) (fun rz2636 Mz2637 hz2638 => ?_)
  obtain ⟨hAz2621, pz2622, nz2623, gnz2624, alz2625, itz2626, ptz2627, tgz2628, bdz2629, npz2630, ppz2631, hBz2632, hSz2633, hGz2634, hDz2635⟩ := hz2638
  rw [hAz2621]
  show Zw 5 zm_GrammarReader_readGrammar 32 [some (.ref 2), some (.ref 1), some (.int (nI tl)), none, none] [.int (nI (gF tx tl))] Mz2637 _
  refine zw_n 3 (ls' := [some (.ref 2), some (.ref 1), some (.int (nI tl)), some (.int (nI (gF tx tl))), none]) rfl ?_
  refine zw_ineM (a := gF tx tl) rfl rfl (gF_lt htl) (fun c35 => ?_) (fun c35 => ?_)
  · -- 35 to 43
    refine zw_n 2 rfl ?_
    refine zw_ieqM (a := gF tx tl) rfl rfl (by first | exact gF_lt htl | (rcases hst9 with q9 | q9 <;> (first | (rw [q9.1]; decide) | (have := q9.2.1; omega)))) (fun c45 => ?_) (fun c45 => ?_)
    · -- 45 to 50
      exfalso
      exact c35 c45
    · -- 45 to 48
      refine zw_n 1 rfl ?_
      exact zw_iret rfl rfl (⟨gF tx tl, rfl, Or.inl ⟨c35, rfl⟩, pz2622, nz2623, em, gnz2624, alz2625, itz2626, ptz2627, tgz2628, bdz2629, fr, af, fb, npz2630, ppz2631, ⟨hBz2632.1, Sm.at hSz2633 (by decide) (zat_set ez2620 (by decide) (zat_set ez2618 (by decide) (zat_set ez2616 (by decide) (zat_set ez2614 (by decide) hX)))), hBz2632.2.2.1, hBz2632.2.2.2.1, (seg10 (hBz2632.2.2.2.2.get 0 rfl) (hBz2632.2.2.2.2.get 1 rfl) (hBz2632.2.2.2.2.get 2 rfl) (hBz2632.2.2.2.2.get 3 rfl) (hBz2632.2.2.2.2.get 4 rfl) (hBz2632.2.2.2.2.get 5 rfl) (hBz2632.2.2.2.2.get 6 rfl) (hBz2632.2.2.2.2.get 7 rfl) (hBz2632.2.2.2.2.get 8 rfl) (hBz2632.2.2.2.2.get 9 rfl))⟩, Sm.tw (Sm.tset (Sm.tset (Sm.tset (Sm.tset Sm.rf ez2614 (by decide)) ez2616 (by decide)) ez2618 (by decide)) ez2620 (by decide)) hSz2633 (by decide), hGz2634, ⟨hf.2.2.2.2.2.2.1, hf.2.2.2.2.2.2.2.1, hf.2.2.2.2.2.2.2.2⟩, fun q9 => absurd q9 c35⟩)
  · -- 35 to 38
    refine zw_n 1 rfl ?_
    refine zw_callV (as := []) (rest := []) rfl rfl rfl hBz2632.1 rfl rfl rfl (by decide) (c_resolveNames Mz2637 tl pz2622 tx nz2623 em gnz2624 alz2625 itz2626 ptz2627 tgz2628 bdz2629 fr af fb npz2630 ppz2631 ⟨hBz2632.1, Sm.at hSz2633 (by decide) (zat_set ez2620 (by decide) (zat_set ez2618 (by decide) (zat_set ez2616 (by decide) (zat_set ez2614 (by decide) hX)))), hBz2632.2.2.1, hBz2632.2.2.2.1, (seg10 (hBz2632.2.2.2.2.get 0 rfl) (hBz2632.2.2.2.2.get 1 rfl) (hBz2632.2.2.2.2.get 2 rfl) (hBz2632.2.2.2.2.get 3 rfl) (hBz2632.2.2.2.2.get 4 rfl) (hBz2632.2.2.2.2.get 5 rfl) (hBz2632.2.2.2.2.get 6 rfl) (hBz2632.2.2.2.2.get 7 rfl) (hBz2632.2.2.2.2.get 8 rfl) (hBz2632.2.2.2.2.get 9 rfl))⟩ htx htl hGz2634) (fun rz2646 Mz2647 hz2648 => ?_)
    obtain ⟨vz2639, Tz2640, hAz2641, hBz2642, hSz2643, hTz2644, hEz2645⟩ := hz2648
    rw [hAz2641]
    have hst9 := sty_of htl c35 (hDz2635 c35).1 hGz2634.2.2.1 hGz2634.2.2.2.1 (hDz2635 c35).2 hEz2645
    show Zw 5 zm_GrammarReader_readGrammar 42 [some (.ref 2), some (.ref 1), some (.int (nI tl)), some (.int (nI (gF tx tl))), none] [.int (nI vz2639)] Mz2647 _
    refine zw_n 1 (ls' := [some (.ref 2), some (.ref 1), some (.int (nI tl)), some (.int (nI vz2639)), none]) rfl ?_
    refine zw_n 2 rfl ?_
    refine zw_ieqM (a := vz2639) rfl rfl (by first | exact gF_lt htl | (rcases hst9 with q9 | q9 <;> (first | (rw [q9.1]; decide) | (have := q9.2.1; omega)))) (fun c45 => ?_) (fun c45 => ?_)
    · -- 45 to 50
      have hag : NoSty tx tl ∧ AgG tx tl nz2623 gnz2624 alz2625 itz2626 ptz2627 Tz2640 bdz2629 := by
        rcases hst9 with q9 | q9
        · exact q9.2
        · exact absurd c45 q9.1
      obtain ⟨hno, hag⟩ := hag
      have hG9 : SafeG nz2623 gnz2624 alz2625 itz2626 ptz2627 Tz2640 bdz2629 := ⟨hGz2634.1, hGz2634.2.1, hGz2634.2.2.1, hGz2634.2.2.2.1, hGz2634.2.2.2.2.1, hTz2644, hGz2634.2.2.2.2.2.2⟩
      refine zw_n 1 rfl ?_
      refine zw_get (v := .ref 3) rfl hBz2642.1 rfl ?_
      refine zw_callV (as := []) (rest := []) rfl rfl rfl (hBz2642.2.2.2.2.get 0 rfl) rfl rfl rfl (by decide) (c_findEmpties Mz2647 3 nz2623 em gnz2624 alz2625 itz2626 ptz2627 Tz2640 bdz2629 fr af fb (seg10 (hBz2642.2.2.2.2.get 0 rfl) (hBz2642.2.2.2.2.get 1 rfl) (hBz2642.2.2.2.2.get 2 rfl) (hBz2642.2.2.2.2.get 3 rfl) (hBz2642.2.2.2.2.get 4 rfl) (hBz2642.2.2.2.2.get 5 rfl) (hBz2642.2.2.2.2.get 6 rfl) (hBz2642.2.2.2.2.get 7 rfl) (hBz2642.2.2.2.2.get 8 rfl) (hBz2642.2.2.2.2.get 9 rfl)) hG9 hag.clo) (fun rz2655 Mz2656 hz2657 => ?_)
      obtain ⟨hAz2649, emz2650, hBz2651, hSz2652, hmz2653, hEz2654⟩ := hz2657
      rw [hAz2649]
      show Zw 5 zm_GrammarReader_readGrammar 57 [some (.ref 2), some (.ref 1), some (.int (nI tl)), some (.int (nI vz2639)), none] [] Mz2656 _
      refine zw_n 1 rfl ?_
      refine zw_get (v := .ref 3) rfl (Sm.at hSz2652 (by decide) hBz2642.1) rfl ?_
      refine zw_callV (as := []) (rest := []) rfl rfl rfl (hBz2651.get 0 rfl) rfl rfl rfl (by decide) (c_firstRound Mz2656 3 nz2623 emz2650 gnz2624 alz2625 itz2626 ptz2627 Tz2640 bdz2629 fr af fb (seg10 (hBz2651.get 0 rfl) (Sm.at hSz2652 (by decide) (hBz2642.2.2.2.2.get 1 rfl)) (Sm.at hSz2652 (by decide) (hBz2642.2.2.2.2.get 2 rfl)) (Sm.at hSz2652 (by decide) (hBz2642.2.2.2.2.get 3 rfl)) (Sm.at hSz2652 (by decide) (hBz2642.2.2.2.2.get 4 rfl)) (Sm.at hSz2652 (by decide) (hBz2642.2.2.2.2.get 5 rfl)) (Sm.at hSz2652 (by decide) (hBz2642.2.2.2.2.get 6 rfl)) (Sm.at hSz2652 (by decide) (hBz2642.2.2.2.2.get 7 rfl)) (Sm.at hSz2652 (by decide) (hBz2642.2.2.2.2.get 8 rfl)) (Sm.at hSz2652 (by decide) (hBz2642.2.2.2.2.get 9 rfl))) hG9 hmz2653 hag.clo) (fun rz2662 Mz2663 hz2664 => ?_)
      obtain ⟨vz2658, hAz2659, hMz2660, hFz2661⟩ := hz2664
      rw [hAz2659, hMz2660]
      show Zw 5 zm_GrammarReader_readGrammar 64 [some (.ref 2), some (.ref 1), some (.int (nI tl)), some (.int (nI vz2639)), none] [.int (nI vz2658)] Mz2656 _
      refine zw_n 3 (ls' := [some (.ref 2), some (.ref 1), some (.int (nI tl)), some (.int (nI vz2639)), some (.int (nI vz2658))]) rfl ?_
      refine zw_ieqM (a := vz2658) rfl rfl (by have h1 := hG9.1; rcases hFz2661 with q9 | q9 <;> (first | (rw [q9.1]; decide) | (have := q9.1; omega))) (fun c69 => ?_) (fun c69 => ?_)
      · -- 69 to 80
        refine zw_n 1 rfl ?_
        refine zw_get (v := .ref 3) rfl (Sm.at hSz2652 (by decide) hBz2642.1) rfl ?_
        refine zw_callV (as := []) (rest := []) rfl rfl rfl (hBz2651.get 0 rfl) rfl rfl rfl (by decide) (c_findFree Mz2656 3 nz2623 emz2650 gnz2624 alz2625 itz2626 ptz2627 Tz2640 bdz2629 fr af fb (seg10 (hBz2651.get 0 rfl) (Sm.at hSz2652 (by decide) (hBz2642.2.2.2.2.get 1 rfl)) (Sm.at hSz2652 (by decide) (hBz2642.2.2.2.2.get 2 rfl)) (Sm.at hSz2652 (by decide) (hBz2642.2.2.2.2.get 3 rfl)) (Sm.at hSz2652 (by decide) (hBz2642.2.2.2.2.get 4 rfl)) (Sm.at hSz2652 (by decide) (hBz2642.2.2.2.2.get 5 rfl)) (Sm.at hSz2652 (by decide) (hBz2642.2.2.2.2.get 6 rfl)) (Sm.at hSz2652 (by decide) (hBz2642.2.2.2.2.get 7 rfl)) (Sm.at hSz2652 (by decide) (hBz2642.2.2.2.2.get 8 rfl)) (Sm.at hSz2652 (by decide) (hBz2642.2.2.2.2.get 9 rfl))) hG9 hf.2.2.2.2.2.2.1 hf.2.2.2.2.2.2.2.1 hf.2.2.2.2.2.2.2.2 hag.clo) (fun rz2672 Mz2673 hz2674 => ?_)
        obtain ⟨hAz2665, frz2666, afz2667, fbz2668, hBz2669, hSz2670, hLz2671⟩ := hz2674
        rw [hAz2665]
        show Zw 5 zm_GrammarReader_readGrammar 87 [some (.ref 2), some (.ref 1), some (.int (nI tl)), some (.int (nI vz2639)), some (.int (nI vz2658))] [] Mz2673 _
        refine zw_n 1 rfl ?_
        refine zw_iret rfl rfl ?_
        have hw9 : ∀ q, q < nz2623 → ¬ Rnd nz2623 alz2625 itz2626 Tz2640 (fun r => emz2650.testBit r) q := by
          rcases hFz2661 with q9 | q9
          · exact q9.2
          · exfalso; have h1 := hG9.1; have h2 : vz2658 = 4294967295 := c69; omega
        have hn9 := (hDz2635 c35).1
        exact ⟨NO, by decide, Or.inr (Or.inr (Or.inr ⟨c35, hno, fun q hq hq2 => hw9 q (by omega) ((gRd_iff hag hEz2654).mp hq2), rfl⟩)), pz2622, nz2623, emz2650, gnz2624, alz2625, itz2626, ptz2627, Tz2640, bdz2629, frz2666, afz2667, fbz2668, npz2630, ppz2631, ⟨Sm.at hSz2670 (by decide) (Sm.at hSz2652 (by decide) hBz2642.1), Sm.at hSz2670 (by decide) (Sm.at hSz2652 (by decide) (Sm.at hSz2643 (by decide) (Sm.at hSz2633 (by decide) (zat_set ez2620 (by decide) (zat_set ez2618 (by decide) (zat_set ez2616 (by decide) (zat_set ez2614 (by decide) hX))))))), Sm.at hSz2670 (by decide) (Sm.at hSz2652 (by decide) hBz2642.2.2.1), Sm.at hSz2670 (by decide) (Sm.at hSz2652 (by decide) hBz2642.2.2.2.1), (seg10 (Sm.at hSz2670 (by decide) (hBz2651.get 0 rfl)) (Sm.at hSz2670 (by decide) (Sm.at hSz2652 (by decide) (hBz2642.2.2.2.2.get 1 rfl))) (Sm.at hSz2670 (by decide) (Sm.at hSz2652 (by decide) (hBz2642.2.2.2.2.get 2 rfl))) (Sm.at hSz2670 (by decide) (Sm.at hSz2652 (by decide) (hBz2642.2.2.2.2.get 3 rfl))) (Sm.at hSz2670 (by decide) (Sm.at hSz2652 (by decide) (hBz2642.2.2.2.2.get 4 rfl))) (Sm.at hSz2670 (by decide) (Sm.at hSz2652 (by decide) (hBz2642.2.2.2.2.get 5 rfl))) (Sm.at hSz2670 (by decide) (Sm.at hSz2652 (by decide) (hBz2642.2.2.2.2.get 6 rfl))) (hBz2669.get 7 rfl) (hBz2669.get 8 rfl) (hBz2669.get 9 rfl))⟩, Sm.tw (Sm.tw (Sm.tw (Sm.tw (Sm.tset (Sm.tset (Sm.tset (Sm.tset Sm.rf ez2614 (by decide)) ez2616 (by decide)) ez2618 (by decide)) ez2620 (by decide)) hSz2633 (by decide)) hSz2643 (by decide)) hSz2652 (by decide)) hSz2670 (by decide), hG9, ⟨hLz2671.sfr, hLz2671.saf, hLz2671.sfb⟩, fun _ => ⟨hag, gok_of htl c35 hag hG9 hno hmz2653 hEz2654 hw9 hLz2671⟩⟩
      · -- 69 to 72
        have hwn : vz2658 < 8 := by
          have h1 := hG9.1
          rcases hFz2661 with q9 | q9
          · exact absurd q9.1 c69
          · have := q9.1; omega
        refine zw_n 1 rfl ?_
        refine zw_get (v := .ref 13) rfl (Sm.at hSz2652 (by decide) hBz2642.1) rfl ?_
        refine zw_n 1 rfl ?_
        refine zw_iald (f := ai npz2630) (j := vz2658) rfl (Sm.at hSz2652 (by decide) hBz2642.2.2.1) rfl (by decide) (by omega) ?_
        refine zw_iret rfl rfl ?_
        have hw9 : vz2658 < nz2623 ∧ Rnd nz2623 alz2625 itz2626 Tz2640 (fun r => emz2650.testBit r) vz2658 ∧ ∀ q, q < vz2658 → ¬ Rnd nz2623 alz2625 itz2626 Tz2640 (fun r => emz2650.testBit r) q := by
          rcases hFz2661 with q9 | q9
          · exact absurd q9.1 c69
          · exact q9
        have hn9 := (hDz2635 c35).1
        have hnp := ((hDz2635 c35).2 vz2658 (by omega)).2.1
        have hcp := (gOK htl c35).2 vz2658 (by omega)
        have hsk := @sk_le tx tl (cP tx tl vz2658) hcp.1
        exact ⟨npz2630 vz2658, rfl, Or.inr (Or.inr (Or.inl ⟨c35, hno, vz2658, by omega, (gRd_iff hag hEz2654).mpr hw9.2.1, fun q hq hq2 => hw9.2.2 q hq ((gRd_iff hag hEz2654).mp hq2), hnp⟩)), pz2622, nz2623, emz2650, gnz2624, alz2625, itz2626, ptz2627, Tz2640, bdz2629, fr, af, fb, npz2630, ppz2631, ⟨Sm.at hSz2652 (by decide) hBz2642.1, Sm.at hSz2652 (by decide) (Sm.at hSz2643 (by decide) (Sm.at hSz2633 (by decide) (zat_set ez2620 (by decide) (zat_set ez2618 (by decide) (zat_set ez2616 (by decide) (zat_set ez2614 (by decide) hX)))))), Sm.at hSz2652 (by decide) hBz2642.2.2.1, Sm.at hSz2652 (by decide) hBz2642.2.2.2.1, (seg10 (hBz2651.get 0 rfl) (Sm.at hSz2652 (by decide) (hBz2642.2.2.2.2.get 1 rfl)) (Sm.at hSz2652 (by decide) (hBz2642.2.2.2.2.get 2 rfl)) (Sm.at hSz2652 (by decide) (hBz2642.2.2.2.2.get 3 rfl)) (Sm.at hSz2652 (by decide) (hBz2642.2.2.2.2.get 4 rfl)) (Sm.at hSz2652 (by decide) (hBz2642.2.2.2.2.get 5 rfl)) (Sm.at hSz2652 (by decide) (hBz2642.2.2.2.2.get 6 rfl)) (Sm.at hSz2652 (by decide) (hBz2642.2.2.2.2.get 7 rfl)) (Sm.at hSz2652 (by decide) (hBz2642.2.2.2.2.get 8 rfl)) (Sm.at hSz2652 (by decide) (hBz2642.2.2.2.2.get 9 rfl)))⟩, Sm.tw (Sm.tw (Sm.tw (Sm.tset (Sm.tset (Sm.tset (Sm.tset Sm.rf ez2614 (by decide)) ez2616 (by decide)) ez2618 (by decide)) ez2620 (by decide)) hSz2633 (by decide)) hSz2643 (by decide)) hSz2652 (by decide), hG9, ⟨hf.2.2.2.2.2.2.1, hf.2.2.2.2.2.2.2.1, hf.2.2.2.2.2.2.2.2⟩, fun q9 => absurd q9 (by rw [hnp]; unfold NO nQ; omega)⟩
    · -- 45 to 48
      refine zw_n 1 rfl ?_
      refine zw_iret rfl rfl ?_
      have hs9 : vz2639 ≠ NO ∧ vz2639 ≤ tl ∧ Sty tx tl vz2639 := by
        rcases hst9 with q9 | q9
        · exact absurd q9.1 c45
        · exact q9
      exact ⟨vz2639, rfl, Or.inr (Or.inl ⟨c35, hs9.2.2⟩), pz2622, nz2623, em, gnz2624, alz2625, itz2626, ptz2627, Tz2640, bdz2629, fr, af, fb, npz2630, ppz2631, ⟨hBz2642.1, Sm.at hSz2643 (by decide) (Sm.at hSz2633 (by decide) (zat_set ez2620 (by decide) (zat_set ez2618 (by decide) (zat_set ez2616 (by decide) (zat_set ez2614 (by decide) hX))))), hBz2642.2.2.1, hBz2642.2.2.2.1, (seg10 (hBz2642.2.2.2.2.get 0 rfl) (hBz2642.2.2.2.2.get 1 rfl) (hBz2642.2.2.2.2.get 2 rfl) (hBz2642.2.2.2.2.get 3 rfl) (hBz2642.2.2.2.2.get 4 rfl) (hBz2642.2.2.2.2.get 5 rfl) (hBz2642.2.2.2.2.get 6 rfl) (hBz2642.2.2.2.2.get 7 rfl) (hBz2642.2.2.2.2.get 8 rfl) (hBz2642.2.2.2.2.get 9 rfl))⟩, Sm.tw (Sm.tw (Sm.tset (Sm.tset (Sm.tset (Sm.tset Sm.rf ez2614 (by decide)) ez2616 (by decide)) ez2618 (by decide)) ez2620 (by decide)) hSz2633 (by decide)) hSz2643 (by decide), ⟨hGz2634.1, hGz2634.2.1, hGz2634.2.2.1, hGz2634.2.2.2.1, hGz2634.2.2.2.2.1, hTz2644, hGz2634.2.2.2.2.2.2⟩, ⟨hf.2.2.2.2.2.2.1, hf.2.2.2.2.2.2.2.1, hf.2.2.2.2.2.2.2.2⟩, fun q9 => absurd q9 c45⟩
