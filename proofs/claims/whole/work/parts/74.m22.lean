set_option maxHeartbeats 4000000 in
set_option maxRecDepth 100000 in
theorem c_readItems (Mq : zM) (tl p : Nat) (tx : Nat → Nat) (n em : Nat) (gn al_ it pt tg bd fr af fb np pp : Nat → Nat) (hD : RdS Mq tl p tx n em gn al_ it pt tg bd fr af fb np pp) (htx : ∀ q, tx q < 256) (htl : tl ≤ 240) (hp : p ≤ tl) (hSI : SafeI pt tg bd) (a : Nat) (ha : a < 32) : Zm 2 zm_GrammarReader_readItems [.ref 2, .int (nI a)] Mq (fun r9 M1 => r9 = some (.int (nI (aF tx tl p))) ∧ ∃ it9 pt9 tg9 bd9 pp9, RdS M1 tl (if aF tx tl p = NO then aE tx tl p else aF tx tl p) tx n em gn al_ it9 pt9 tg9 bd9 fr af fb np pp9 ∧ Sm Mq M1 [2, 6, 7, 8, 9, 14] ∧ (aF tx tl p = NO → it9 = up it a (aK tx tl p) ∧ AltD tx tl p a (aK tx tl p) pt9 tg9 bd9 pp9) ∧ (aF tx tl p ≠ NO → it9 = it) ∧ FrS (a * 5) (a * 5 + 5) pt tg bd pp pt9 tg9 bd9 pp9 ∧ SafeI pt9 tg9 bd9) := by
  show Zw 2 zm_GrammarReader_readItems 0 [some (.ref 2), some (.int (nI a)), none, none, none] [] Mq _
  refine zw_n 2 (ls' := [some (.ref 2), some (.int (nI a)), some (.int 0), none, none]) rfl ?_
  have lp2 : ∀ (n2 : Nat) (k : Nat) (q : Nat) (P1 : Nat → Nat) (T1 : Nat → Nat) (B1 : Nat → Nat) (Q1 : Nat → Nat) (M_2 : zM), Sm Mq M_2 [2, 6, 7, 8, 9, 14] → M_2[2]? = some (.inr (1, [.ref 3, .ref 13, .ref 14, .ref 1, .int (nI tl), .int (nI q)])) → M_2[7]? = some (.inl (0, 160, .inl (ai P1))) → M_2[8]? = some (.inl (0, 160, .inl (ai T1))) → M_2[9]? = some (.inl (0, 160, .inl (ai B1))) → M_2[14]? = some (.inl (0, 160, .inl (ai Q1))) → M_2[6]? = some (.inl (0, 32, .inl (ai it))) → (k ≤ 5 ∧ q = aS tx tl p k ∧ (∀ j, j < k → aZ tx tl p j = false) ∧ AltD tx tl p a k P1 T1 B1 Q1 ∧ FrS (a * 5) (a * 5 + 5) pt tg bd pp P1 T1 B1 Q1 ∧ SafeI P1 T1 B1) → 6 - k < n2 → Zw 2 zm_GrammarReader_readItems 2 [some (.ref 2), some (.int (nI a)), some (.int (nI k)), none, none] [] M_2 (fun r9 M1 => r9 = some (.int (nI (aF tx tl p))) ∧ ∃ it9 pt9 tg9 bd9 pp9, RdS M1 tl (if aF tx tl p = NO then aE tx tl p else aF tx tl p) tx n em gn al_ it9 pt9 tg9 bd9 fr af fb np pp9 ∧ Sm Mq M1 [2, 6, 7, 8, 9, 14] ∧ (aF tx tl p = NO → it9 = up it a (aK tx tl p) ∧ AltD tx tl p a (aK tx tl p) pt9 tg9 bd9 pp9) ∧ (aF tx tl p ≠ NO → it9 = it) ∧ FrS (a * 5) (a * 5 + 5) pt tg bd pp pt9 tg9 bd9 pp9 ∧ SafeI pt9 tg9 bd9) := by
    intro n2
    induction n2 with
    | zero => intro k q P1 T1 B1 Q1 M_2 _ _ _ _ _ _ _ _ h; exact absurd h (Nat.not_lt_zero _)
    | succ n2 ih2 =>
      intro k q P1 T1 B1 Q1 M_2 s_2 f2_0 f2_1 f2_2 f2_3 f2_4 f2_5 hi2 hm2
      obtain ⟨ik, iq, iz, iD, iFr, iS⟩ := hi2
      have hq9 : q ≤ tl := by rw [iq]; exact aS_b hp htl iz
      refine zw_n 2 rfl ?_
      refine zw_igtN (a := k) (b := 5) rfl rfl rfl (by omega) (by omega) (fun c4 => ?_) (fun c4 => ?_)
      · -- 4 to 81
        exfalso
        omega
      · -- 4 to 7
        refine zw_n 1 rfl ?_
        refine zw_callV (as := []) (rest := []) rfl rfl rfl f2_0 rfl rfl rfl (by decide) (c_skipBlanks M_2 tl q tx n em gn al_ it P1 T1 B1 fr af fb np Q1 ⟨f2_0, Sm.at s_2 (by decide) hD.2.1, Sm.at s_2 (by decide) hD.2.2.1, f2_4, (seg10 (Sm.at s_2 (by decide) (hD.2.2.2.2.get 0 rfl)) (Sm.at s_2 (by decide) (hD.2.2.2.2.get 1 rfl)) (Sm.at s_2 (by decide) (hD.2.2.2.2.get 2 rfl)) f2_5 f2_1 f2_2 f2_3 (Sm.at s_2 (by decide) (hD.2.2.2.2.get 7 rfl)) (Sm.at s_2 (by decide) (hD.2.2.2.2.get 8 rfl)) (Sm.at s_2 (by decide) (hD.2.2.2.2.get 9 rfl)))⟩ htx htl (by omega)) (fun rz2488 Mz2489 hz2490 => ?_)
        obtain ⟨hAz2485, hBz2486, hSz2487⟩ := hz2490
        rw [hAz2485]
        have hgehBz2486 := sk_ge tx tl q
        have hlehBz2486 := @sk_le tx tl q (by omega)
        show Zw 2 zm_GrammarReader_readItems 11 [some (.ref 2), some (.int (nI a)), some (.int (nI k)), none, none] [] Mz2489 _
        have hm9 := hBz2486
        rw [iq, aS_sk] at hm9
        have hab := aP_b hp htl iz
        refine zw_n 1 rfl ?_
        refine zw_callV (as := []) (rest := []) rfl rfl rfl hm9 rfl rfl rfl (by decide) (c_here Mz2489 tl (aP tx tl p k) tx n em gn al_ it P1 T1 B1 fr af fb np Q1 ⟨hm9, Sm.at hSz2487 (by decide) (Sm.at s_2 (by decide) hD.2.1), Sm.at hSz2487 (by decide) (Sm.at s_2 (by decide) hD.2.2.1), Sm.at hSz2487 (by decide) f2_4, (seg10 (Sm.at hSz2487 (by decide) (Sm.at s_2 (by decide) (hD.2.2.2.2.get 0 rfl))) (Sm.at hSz2487 (by decide) (Sm.at s_2 (by decide) (hD.2.2.2.2.get 1 rfl))) (Sm.at hSz2487 (by decide) (Sm.at s_2 (by decide) (hD.2.2.2.2.get 2 rfl))) (Sm.at hSz2487 (by decide) f2_5) (Sm.at hSz2487 (by decide) f2_1) (Sm.at hSz2487 (by decide) f2_2) (Sm.at hSz2487 (by decide) f2_3) (Sm.at hSz2487 (by decide) (Sm.at s_2 (by decide) (hD.2.2.2.2.get 7 rfl))) (Sm.at hSz2487 (by decide) (Sm.at s_2 (by decide) (hD.2.2.2.2.get 8 rfl))) (Sm.at hSz2487 (by decide) (Sm.at s_2 (by decide) (hD.2.2.2.2.get 9 rfl))))⟩ htx htl (by omega)) (fun rz2491 Mz2492 hz2493 => ?_)
        rw [hz2493.1, hz2493.2]
        show Zw 2 zm_GrammarReader_readItems 15 [some (.ref 2), some (.int (nI a)), some (.int (nI k)), none, none] [.int (nI (hr tx tl (aP tx tl p k)))] Mz2489 _
        refine zw_n 3 (ls' := [some (.ref 2), some (.int (nI a)), some (.int (nI k)), some (.int (nI (hr tx tl (aP tx tl p k)))), none]) rfl ?_
        refine zw_ieqM (a := hr tx tl (aP tx tl p k)) rfl rfl (by rcases @hr_lt tx tl (aP tx tl p k) htx with q9 | q9 <;> (first | omega | (rw [q9]; decide))) (fun c18 => ?_) (fun c18 => ?_)
        · -- 18 to 33
          refine zw_n 1 rfl ?_
          refine zw_get (v := .ref 3) rfl hm9 rfl ?_
          refine zw_get (v := .ref 6) rfl (Sm.at hSz2487 (by decide) (Sm.at s_2 (by decide) (hD.2.2.2.2.get 0 rfl))) rfl ?_
          refine zw_n 2 rfl ?_
          refine zw_iastN (g := it) (j := a) (v := k) rfl (Sm.at hSz2487 (by decide) f2_5) rfl (by decide) (by omega) (rfl) ?_
          generalize ez2495 : List.set Mz2489 6 _ = Mz2494
          refine zw_n 1 rfl ?_
          refine zw_iret rfl rfl ?_
          have hst : stp (hr tx tl (aP tx tl p k)) = true := by unfold stp; apply decide_eq_true; first | exact Or.inl c18 | exact Or.inr (Or.inl ((ceq (hr_lt htx) (show 59 < 256 by decide)).mp c24)) | exact Or.inr (Or.inr ((ceq (hr_lt htx) (show 47 < 256 by decide)).mp c30))
          have hk9 := aK_at iz ik (fun _ => aZ_st hst)
          have hf9 := aF_st hk9 hst
          exact ⟨by rw [hf9.1]; decide, up it a k, P1, T1, B1, Q1, by rw [if_pos hf9.1, hf9.2]; exact ⟨zat_set ez2495 (by decide) hm9, zat_set ez2495 (by decide) (Sm.at hSz2487 (by decide) (Sm.at s_2 (by decide) hD.2.1)), zat_set ez2495 (by decide) (Sm.at hSz2487 (by decide) (Sm.at s_2 (by decide) hD.2.2.1)), zat_set ez2495 (by decide) (Sm.at hSz2487 (by decide) f2_4), (seg10 (zat_set ez2495 (by decide) (Sm.at hSz2487 (by decide) (Sm.at s_2 (by decide) (hD.2.2.2.2.get 0 rfl)))) (zat_set ez2495 (by decide) (Sm.at hSz2487 (by decide) (Sm.at s_2 (by decide) (hD.2.2.2.2.get 1 rfl)))) (zat_set ez2495 (by decide) (Sm.at hSz2487 (by decide) (Sm.at s_2 (by decide) (hD.2.2.2.2.get 2 rfl)))) (zat_self ez2495 (Sm.at hSz2487 (by decide) f2_5)) (zat_set ez2495 (by decide) (Sm.at hSz2487 (by decide) f2_1)) (zat_set ez2495 (by decide) (Sm.at hSz2487 (by decide) f2_2)) (zat_set ez2495 (by decide) (Sm.at hSz2487 (by decide) f2_3)) (zat_set ez2495 (by decide) (Sm.at hSz2487 (by decide) (Sm.at s_2 (by decide) (hD.2.2.2.2.get 7 rfl)))) (zat_set ez2495 (by decide) (Sm.at hSz2487 (by decide) (Sm.at s_2 (by decide) (hD.2.2.2.2.get 8 rfl)))) (zat_set ez2495 (by decide) (Sm.at hSz2487 (by decide) (Sm.at s_2 (by decide) (hD.2.2.2.2.get 9 rfl)))))⟩, Sm.tset (Sm.tw s_2 hSz2487 (by decide)) ez2495 (by decide), fun _ => ⟨by rw [hk9], by rw [hk9]; exact iD⟩, fun q9 => absurd hf9.1 q9, iFr, iS⟩
        · -- 18 to 21
          refine zw_n 2 rfl ?_
          refine zw_ieq rfl (fun c24 => ?_) (fun c24 => ?_)
          · -- 24 to 33
            refine zw_n 1 rfl ?_
            refine zw_get (v := .ref 3) rfl hm9 rfl ?_
            refine zw_get (v := .ref 6) rfl (Sm.at hSz2487 (by decide) (Sm.at s_2 (by decide) (hD.2.2.2.2.get 0 rfl))) rfl ?_
            refine zw_n 2 rfl ?_
            refine zw_iastN (g := it) (j := a) (v := k) rfl (Sm.at hSz2487 (by decide) f2_5) rfl (by decide) (by omega) (rfl) ?_
            generalize ez2497 : List.set Mz2489 6 _ = Mz2496
            refine zw_n 1 rfl ?_
            refine zw_iret rfl rfl ?_
            have hst : stp (hr tx tl (aP tx tl p k)) = true := by unfold stp; apply decide_eq_true; first | exact Or.inl c18 | exact Or.inr (Or.inl ((ceq (hr_lt htx) (show 59 < 256 by decide)).mp c24)) | exact Or.inr (Or.inr ((ceq (hr_lt htx) (show 47 < 256 by decide)).mp c30))
            have hk9 := aK_at iz ik (fun _ => aZ_st hst)
            have hf9 := aF_st hk9 hst
            exact ⟨by rw [hf9.1]; decide, up it a k, P1, T1, B1, Q1, by rw [if_pos hf9.1, hf9.2]; exact ⟨zat_set ez2497 (by decide) hm9, zat_set ez2497 (by decide) (Sm.at hSz2487 (by decide) (Sm.at s_2 (by decide) hD.2.1)), zat_set ez2497 (by decide) (Sm.at hSz2487 (by decide) (Sm.at s_2 (by decide) hD.2.2.1)), zat_set ez2497 (by decide) (Sm.at hSz2487 (by decide) f2_4), (seg10 (zat_set ez2497 (by decide) (Sm.at hSz2487 (by decide) (Sm.at s_2 (by decide) (hD.2.2.2.2.get 0 rfl)))) (zat_set ez2497 (by decide) (Sm.at hSz2487 (by decide) (Sm.at s_2 (by decide) (hD.2.2.2.2.get 1 rfl)))) (zat_set ez2497 (by decide) (Sm.at hSz2487 (by decide) (Sm.at s_2 (by decide) (hD.2.2.2.2.get 2 rfl)))) (zat_self ez2497 (Sm.at hSz2487 (by decide) f2_5)) (zat_set ez2497 (by decide) (Sm.at hSz2487 (by decide) f2_1)) (zat_set ez2497 (by decide) (Sm.at hSz2487 (by decide) f2_2)) (zat_set ez2497 (by decide) (Sm.at hSz2487 (by decide) f2_3)) (zat_set ez2497 (by decide) (Sm.at hSz2487 (by decide) (Sm.at s_2 (by decide) (hD.2.2.2.2.get 7 rfl)))) (zat_set ez2497 (by decide) (Sm.at hSz2487 (by decide) (Sm.at s_2 (by decide) (hD.2.2.2.2.get 8 rfl)))) (zat_set ez2497 (by decide) (Sm.at hSz2487 (by decide) (Sm.at s_2 (by decide) (hD.2.2.2.2.get 9 rfl)))))⟩, Sm.tset (Sm.tw s_2 hSz2487 (by decide)) ez2497 (by decide), fun _ => ⟨by rw [hk9], by rw [hk9]; exact iD⟩, fun q9 => absurd hf9.1 q9, iFr, iS⟩
          · -- 24 to 27
            refine zw_n 2 rfl ?_
            refine zw_ine rfl (fun c30 => ?_) (fun c30 => ?_)
            · -- 30 to 45
              have hst : ¬ stp (hr tx tl (aP tx tl p k)) = true := fun q9 => (of_decide_eq_true q9).elim c18 (fun q8 => q8.elim (fun q7 => c24 ((ceq (hr_lt htx) (show 59 < 256 by decide)).mpr q7)) (fun q7 => c30 ((ceq (hr_lt htx) (show 47 < 256 by decide)).mpr q7)))
              refine zw_n 2 rfl ?_
              refine zw_ineN (a := k) (b := 5) rfl rfl rfl (by omega) (by omega) (fun c47 => ?_) (fun c47 => ?_)
              · -- 47 to 55
                refine zw_n 4 rfl ?_
                refine zw_top (nm (a := a) (b := 5) rfl rfl) ?_
                refine zw_n 2 rfl ?_
                refine zw_top (na (a := a * 5) (b := k) rfl rfl) ?_
                refine zw_callV (as := [.int (nI ((a * 5) + k))]) (rest := []) rfl rfl rfl hm9 rfl rfl rfl (by decide) (c_readItem Mz2489 tl (aP tx tl p k) tx n em gn al_ it P1 T1 B1 fr af fb np Q1 ⟨hm9, Sm.at hSz2487 (by decide) (Sm.at s_2 (by decide) hD.2.1), Sm.at hSz2487 (by decide) (Sm.at s_2 (by decide) hD.2.2.1), Sm.at hSz2487 (by decide) f2_4, (seg10 (Sm.at hSz2487 (by decide) (Sm.at s_2 (by decide) (hD.2.2.2.2.get 0 rfl))) (Sm.at hSz2487 (by decide) (Sm.at s_2 (by decide) (hD.2.2.2.2.get 1 rfl))) (Sm.at hSz2487 (by decide) (Sm.at s_2 (by decide) (hD.2.2.2.2.get 2 rfl))) (Sm.at hSz2487 (by decide) f2_5) (Sm.at hSz2487 (by decide) f2_1) (Sm.at hSz2487 (by decide) f2_2) (Sm.at hSz2487 (by decide) f2_3) (Sm.at hSz2487 (by decide) (Sm.at s_2 (by decide) (hD.2.2.2.2.get 7 rfl))) (Sm.at hSz2487 (by decide) (Sm.at s_2 (by decide) (hD.2.2.2.2.get 8 rfl))) (Sm.at hSz2487 (by decide) (Sm.at s_2 (by decide) (hD.2.2.2.2.get 9 rfl))))⟩ htx htl (by omega) iS ((a * 5) + k) (by omega)) (fun rz2507 Mz2508 hz2509 => ?_)
                obtain ⟨hAz2498, ptz2499, tgz2500, bdz2501, ppz2502, hBz2503, hSz2504, hDz2505, hIz2506⟩ := hz2509
                rw [hAz2498]
                show Zw 2 zm_GrammarReader_readItems 64 [some (.ref 2), some (.int (nI a)), some (.int (nI k)), some (.int (nI (hr tx tl (aP tx tl p k)))), none] [.int (nI (iF tx tl (aP tx tl p k)))] Mz2508 _
                refine zw_n 3 (ls' := [some (.ref 2), some (.int (nI a)), some (.int (nI k)), some (.int (nI (hr tx tl (aP tx tl p k)))), some (.int (nI (iF tx tl (aP tx tl p k))))]) rfl ?_
                refine zw_ieqM (a := iF tx tl (aP tx tl p k)) rfl rfl (by rcases iF_b (tx := tx) hab.2 with q9 | q9 <;> (first | (rw [q9]; decide) | omega)) (fun c69 => ?_) (fun c69 => ?_)
                · -- 69 to 75
                  refine zw_inc rfl (x' := (nI (k + 1))) (ls' := [some (.ref 2), some (.int (nI a)), some (.int (nI (k + 1))), some (.int (nI (hr tx tl (aP tx tl p k)))), some (.int (nI (iF tx tl (aP tx tl p k))))]) rfl (na (a := k) (b := 1) rfl rfl) rfl ?_
                  refine zw_n 1 rfl ?_
                  refine zw_ls (ls' := [some (.ref 2), some (.int (nI a)), some (.int (nI (k + 1))), none, none]) ⟨Or.inr rfl, Or.inr rfl, Or.inr rfl, Or.inl rfl, Or.inl rfl, trivial⟩ ?_
                  exact ih2 (k + 1) (if iF tx tl (aP tx tl p k) = NO then iE tx tl (aP tx tl p k) else iF tx tl (aP tx tl p k)) ptz2499 tgz2500 bdz2501 ppz2502 Mz2508 (Sm.tw (Sm.tw s_2 hSz2487 (by decide)) hSz2504 (by decide)) hBz2503.1 (hBz2503.2.2.2.2.get 4 rfl) (hBz2503.2.2.2.2.get 5 rfl) (hBz2503.2.2.2.2.get 6 rfl) hBz2503.2.2.2.1 (Sm.at hSz2504 (by decide) (Sm.at hSz2487 (by decide) f2_5)) (⟨by omega, by rw [if_pos c69, aS_s], rt_step iz (aZ_no hst c69), iD.step hDz2505 c69, iFr.tr (hDz2505 : ItD _ _ _ _ _ _ _ _ _ _ _ _).frS (by omega) (by omega), hIz2506⟩) (by omega)
                · -- 69 to 72
                  refine zw_n 1 rfl ?_
                  refine zw_iret rfl rfl ?_
                  have hn9 : iF tx tl (aP tx tl p k) ≠ NO := c69
                  have hk9 := aK_at iz ik (fun _ => aZ_it hn9)
                  have hf9 := aF_i hk9 hst (by omega)
                  exact ⟨by rw [hf9], it, ptz2499, tgz2500, bdz2501, ppz2502, by have h9 : RdS Mz2508 tl (if iF tx tl (aP tx tl p k) = NO then iE tx tl (aP tx tl p k) else iF tx tl (aP tx tl p k)) tx n em gn al_ it ptz2499 tgz2500 bdz2501 fr af fb np ppz2502 := ⟨hBz2503.1, Sm.at hSz2504 (by decide) (Sm.at hSz2487 (by decide) (Sm.at s_2 (by decide) hD.2.1)), Sm.at hSz2504 (by decide) (Sm.at hSz2487 (by decide) (Sm.at s_2 (by decide) hD.2.2.1)), hBz2503.2.2.2.1, (seg10 (Sm.at hSz2504 (by decide) (Sm.at hSz2487 (by decide) (Sm.at s_2 (by decide) (hD.2.2.2.2.get 0 rfl)))) (Sm.at hSz2504 (by decide) (Sm.at hSz2487 (by decide) (Sm.at s_2 (by decide) (hD.2.2.2.2.get 1 rfl)))) (Sm.at hSz2504 (by decide) (Sm.at hSz2487 (by decide) (Sm.at s_2 (by decide) (hD.2.2.2.2.get 2 rfl)))) (Sm.at hSz2504 (by decide) (Sm.at hSz2487 (by decide) f2_5)) (hBz2503.2.2.2.2.get 4 rfl) (hBz2503.2.2.2.2.get 5 rfl) (hBz2503.2.2.2.2.get 6 rfl) (Sm.at hSz2504 (by decide) (Sm.at hSz2487 (by decide) (Sm.at s_2 (by decide) (hD.2.2.2.2.get 7 rfl)))) (Sm.at hSz2504 (by decide) (Sm.at hSz2487 (by decide) (Sm.at s_2 (by decide) (hD.2.2.2.2.get 8 rfl)))) (Sm.at hSz2504 (by decide) (Sm.at hSz2487 (by decide) (Sm.at s_2 (by decide) (hD.2.2.2.2.get 9 rfl)))))⟩; rw [if_neg hn9] at h9; rw [hf9, if_neg hn9]; exact h9, Sm.tw (Sm.tw s_2 hSz2487 (by decide)) hSz2504 (by decide), fun q9 => absurd q9 (by rw [hf9]; exact hn9), fun _ => rfl, iFr.tr (hDz2505 : ItD _ _ _ _ _ _ _ _ _ _ _ _).frS (by omega) (by omega), hIz2506⟩
              · -- 47 to 50
                refine zw_n 1 rfl ?_
                refine zw_get (v := .int (nI (aP tx tl p k))) rfl hm9 rfl ?_
                refine zw_iret rfl rfl ?_
                have hk9 := aK_at iz ik (fun q9 => absurd q9 (by omega))
                have hf9 := aF_5 hk9 hst (by omega)
                have hb9 := (aP_b hp htl iz).2
                have hn9 : aF tx tl p ≠ NO := by rw [hf9]; unfold NO; omega
                exact ⟨by rw [hf9], it, P1, T1, B1, Q1, by rw [if_neg hn9, hf9]; exact ⟨hm9, Sm.at hSz2487 (by decide) (Sm.at s_2 (by decide) hD.2.1), Sm.at hSz2487 (by decide) (Sm.at s_2 (by decide) hD.2.2.1), Sm.at hSz2487 (by decide) f2_4, (seg10 (Sm.at hSz2487 (by decide) (Sm.at s_2 (by decide) (hD.2.2.2.2.get 0 rfl))) (Sm.at hSz2487 (by decide) (Sm.at s_2 (by decide) (hD.2.2.2.2.get 1 rfl))) (Sm.at hSz2487 (by decide) (Sm.at s_2 (by decide) (hD.2.2.2.2.get 2 rfl))) (Sm.at hSz2487 (by decide) f2_5) (Sm.at hSz2487 (by decide) f2_1) (Sm.at hSz2487 (by decide) f2_2) (Sm.at hSz2487 (by decide) f2_3) (Sm.at hSz2487 (by decide) (Sm.at s_2 (by decide) (hD.2.2.2.2.get 7 rfl))) (Sm.at hSz2487 (by decide) (Sm.at s_2 (by decide) (hD.2.2.2.2.get 8 rfl))) (Sm.at hSz2487 (by decide) (Sm.at s_2 (by decide) (hD.2.2.2.2.get 9 rfl))))⟩, Sm.tw s_2 hSz2487 (by decide), fun q9 => absurd q9 hn9, fun _ => rfl, iFr, iS⟩
            · -- 30 to 33
              refine zw_n 1 rfl ?_
              refine zw_get (v := .ref 3) rfl hm9 rfl ?_
              refine zw_get (v := .ref 6) rfl (Sm.at hSz2487 (by decide) (Sm.at s_2 (by decide) (hD.2.2.2.2.get 0 rfl))) rfl ?_
              refine zw_n 2 rfl ?_
              refine zw_iastN (g := it) (j := a) (v := k) rfl (Sm.at hSz2487 (by decide) f2_5) rfl (by decide) (by omega) (rfl) ?_
              generalize ez2511 : List.set Mz2489 6 _ = Mz2510
              refine zw_n 1 rfl ?_
              refine zw_iret rfl rfl ?_
              have hst : stp (hr tx tl (aP tx tl p k)) = true := by unfold stp; apply decide_eq_true; first | exact Or.inl c18 | exact Or.inr (Or.inl ((ceq (hr_lt htx) (show 59 < 256 by decide)).mp c24)) | exact Or.inr (Or.inr ((ceq (hr_lt htx) (show 47 < 256 by decide)).mp c30))
              have hk9 := aK_at iz ik (fun _ => aZ_st hst)
              have hf9 := aF_st hk9 hst
              exact ⟨by rw [hf9.1]; decide, up it a k, P1, T1, B1, Q1, by rw [if_pos hf9.1, hf9.2]; exact ⟨zat_set ez2511 (by decide) hm9, zat_set ez2511 (by decide) (Sm.at hSz2487 (by decide) (Sm.at s_2 (by decide) hD.2.1)), zat_set ez2511 (by decide) (Sm.at hSz2487 (by decide) (Sm.at s_2 (by decide) hD.2.2.1)), zat_set ez2511 (by decide) (Sm.at hSz2487 (by decide) f2_4), (seg10 (zat_set ez2511 (by decide) (Sm.at hSz2487 (by decide) (Sm.at s_2 (by decide) (hD.2.2.2.2.get 0 rfl)))) (zat_set ez2511 (by decide) (Sm.at hSz2487 (by decide) (Sm.at s_2 (by decide) (hD.2.2.2.2.get 1 rfl)))) (zat_set ez2511 (by decide) (Sm.at hSz2487 (by decide) (Sm.at s_2 (by decide) (hD.2.2.2.2.get 2 rfl)))) (zat_self ez2511 (Sm.at hSz2487 (by decide) f2_5)) (zat_set ez2511 (by decide) (Sm.at hSz2487 (by decide) f2_1)) (zat_set ez2511 (by decide) (Sm.at hSz2487 (by decide) f2_2)) (zat_set ez2511 (by decide) (Sm.at hSz2487 (by decide) f2_3)) (zat_set ez2511 (by decide) (Sm.at hSz2487 (by decide) (Sm.at s_2 (by decide) (hD.2.2.2.2.get 7 rfl)))) (zat_set ez2511 (by decide) (Sm.at hSz2487 (by decide) (Sm.at s_2 (by decide) (hD.2.2.2.2.get 8 rfl)))) (zat_set ez2511 (by decide) (Sm.at hSz2487 (by decide) (Sm.at s_2 (by decide) (hD.2.2.2.2.get 9 rfl)))))⟩, Sm.tset (Sm.tw s_2 hSz2487 (by decide)) ez2511 (by decide), fun _ => ⟨by rw [hk9], by rw [hk9]; exact iD⟩, fun q9 => absurd hf9.1 q9, iFr, iS⟩
  exact lp2 _ 0 p pt tg bd pp Mq Sm.rf hD.1 (hD.2.2.2.2.get 4 rfl) (hD.2.2.2.2.get 5 rfl) (hD.2.2.2.2.get 6 rfl) hD.2.2.2.1 (hD.2.2.2.2.get 3 rfl) (⟨Nat.zero_le _, rfl, fun j hj => absurd hj (Nat.not_lt_zero _), fun j hj => absurd hj (Nat.not_lt_zero _), FrS.rf, hSI⟩) (Nat.lt_succ_self _)
