set_option maxHeartbeats 4000000 in
set_option maxRecDepth 100000 in
theorem c_itemsOf (Mq : zM) (k : Nat) (n em : Nat) (gn al_ it pt tg bd fr af fb : Nat → Nat) (hR : Seg Mq k (rulL k (n, gn, al_, it, pt, tg, bd, em, fr, af, fb))) (hG : SafeG n gn al_ it pt tg bd) (a : Nat) (ha : a < 32) : Zm 0 zm_Rules_itemsOf [.ref k, .int (nI a)] Mq (fun r9 M1 => r9 = some (.int (nI (itO al_ it a))) ∧ M1 = Mq) := by
  show Zw 0 zm_Rules_itemsOf 0 [some (.ref k), some (.int (nI a))] [] Mq _
  refine zw_n 3 rfl ?_
  refine zw_top (x' := (nI (a % 4))) (nrem (a := a) (b := 4) rfl rfl (by omega) (by decide) (by decide)) ?_
  refine zw_n 1 rfl ?_
  refine zw_get (v := .ref (k + 2)) rfl (hR.get 0 rfl) rfl ?_
  refine zw_n 3 rfl ?_
  refine zw_top (x' := (nI (a / 4))) (ndiv (a := a) (b := 4) rfl rfl (by omega) (by decide) (by decide)) ?_
  refine zw_iald (f := ai al_) (j := (a / 4)) rfl (hR.get 2 rfl) rfl (by decide) (by omega) ?_
  have bz2603 := hG.2.2.1 (a / 4)
  refine zw_igeN (a := a % 4) (b := al_ (a / 4)) rfl rfl rfl (by omega) (by omega) (fun c11 => ?_) (fun c11 => ?_)
  · -- 11 to 23
    refine zw_n 1 rfl ?_
    refine zw_top (x' := nI 0) (by decide) ?_
    exact zw_iret rfl rfl (⟨by rw [itO, if_neg (by omega)]; try rfl, rfl⟩)
  · -- 11 to 14
    refine zw_n 1 rfl ?_
    refine zw_get (v := .ref (k + 3)) rfl (hR.get 0 rfl) rfl ?_
    refine zw_n 1 rfl ?_
    refine zw_iald (f := ai it) (j := a) rfl (hR.get 3 rfl) rfl (by decide) (by omega) ?_
    have bz2604 := hG.2.2.2.1 a
    refine zw_n 1 rfl ?_
    exact zw_iret rfl rfl (⟨by rw [itO, if_pos (by omega)]; try rfl, rfl⟩)

set_option maxHeartbeats 4000000 in
set_option maxRecDepth 100000 in
theorem c_resolveNames (Mq : zM) (tl p : Nat) (tx : Nat → Nat) (n em : Nat) (gn al_ it pt tg bd fr af fb np pp : Nat → Nat) (hD : RdS Mq tl p tx n em gn al_ it pt tg bd fr af fb np pp) (htx : ∀ q, tx q < 256) (htl : tl ≤ 240) (hG : SafeG n gn al_ it pt tg bd) : Zm 1 zm_GrammarReader_resolveNames [.ref 2] Mq (fun r9 M1 => ∃ v T9, r9 = some (.int (nI v)) ∧ RdS M1 tl p tx n em gn al_ it pt T9 bd fr af fb np pp ∧ Sm Mq M1 [8] ∧ (∀ q, T9 q = 4294967295 ∨ T9 q < 8) ∧ rsE n gn al_ it pt tg pp v T9) := by
  show Zw 1 zm_GrammarReader_resolveNames 0 [some (.ref 2), none, none, none] [] Mq _
  have hn8 := hG.1
  have hi5 := hG.2.2.2.1
  refine zw_n 2 (ls' := [some (.ref 2), some (.int 0), none, none]) rfl ?_
  have lp2 : ∀ (n2 : Nat) (a : Nat) (T1 : Nat → Nat) (M_2 : zM), Sm Mq M_2 [8] → M_2[8]? = some (.inl (0, 160, .inl (ai T1))) → (a ≤ n * 4 ∧ rsI n gn al_ it pt tg a 0 T1) → n * 4 - a < n2 → Zw 1 zm_GrammarReader_resolveNames 2 [some (.ref 2), some (.int (nI a)), none, none] [] M_2 (fun r9 M1 => ∃ v T9, r9 = some (.int (nI v)) ∧ RdS M1 tl p tx n em gn al_ it pt T9 bd fr af fb np pp ∧ Sm Mq M1 [8] ∧ (∀ q, T9 q = 4294967295 ∨ T9 q < 8) ∧ rsE n gn al_ it pt tg pp v T9) := by
    intro n2
    induction n2 with
    | zero => intro a T1 M_2 _ _ _ h; exact absurd h (Nat.not_lt_zero _)
    | succ n2 ih2 =>
      intro a T1 M_2 s_2 f2_0 hi2 hm2
      refine zw_n 2 rfl ?_
      refine zw_get (v := .ref 3) rfl (Sm.at s_2 (by decide) hD.1) rfl ?_
      refine zw_get (v := .int (nI n)) rfl (Sm.at s_2 (by decide) (hD.2.2.2.2.get 0 rfl)) rfl ?_
      refine zw_n 2 rfl ?_
      refine zw_top (nm (a := n) (b := 4) rfl rfl) ?_
      refine zw_igeN (a := a) (b := n * 4) rfl rfl rfl (by omega) (by omega) (fun c12 => ?_) (fun c12 => ?_)
      · -- 12 to 105
        refine zw_n 1 rfl ?_
        exact zw_iret rfl rfl (⟨NO, T1, by decide, ⟨Sm.at s_2 (by decide) hD.1, Sm.at s_2 (by decide) hD.2.1, Sm.at s_2 (by decide) hD.2.2.1, Sm.at s_2 (by decide) hD.2.2.2.1, (seg10 (Sm.at s_2 (by decide) (hD.2.2.2.2.get 0 rfl)) (Sm.at s_2 (by decide) (hD.2.2.2.2.get 1 rfl)) (Sm.at s_2 (by decide) (hD.2.2.2.2.get 2 rfl)) (Sm.at s_2 (by decide) (hD.2.2.2.2.get 3 rfl)) (Sm.at s_2 (by decide) (hD.2.2.2.2.get 4 rfl)) f2_0 (Sm.at s_2 (by decide) (hD.2.2.2.2.get 6 rfl)) (Sm.at s_2 (by decide) (hD.2.2.2.2.get 7 rfl)) (Sm.at s_2 (by decide) (hD.2.2.2.2.get 8 rfl)) (Sm.at s_2 (by decide) (hD.2.2.2.2.get 9 rfl)))⟩, s_2, hi2.2.2.2, Or.inl ⟨rfl, by rw [← show a = n * 4 by omega]; exact hi2.2⟩⟩)
      · -- 12 to 15
        refine zw_n 2 (ls' := [some (.ref 2), some (.int (nI a)), some (.int 0), none]) rfl ?_
        have lp17 : ∀ (n17 : Nat) (x : Nat) (T2 : Nat → Nat) (M_17 : zM), Sm Mq M_17 [8] → M_17[8]? = some (.inl (0, 160, .inl (ai T2))) → (x ≤ itO al_ it a ∧ rsI n gn al_ it pt tg a x T2) → itO al_ it a - x < n17 → Zw 1 zm_GrammarReader_resolveNames 17 [some (.ref 2), some (.int (nI a)), some (.int (nI x)), none] [] M_17 (fun r9 M1 => ∃ v T9, r9 = some (.int (nI v)) ∧ RdS M1 tl p tx n em gn al_ it pt T9 bd fr af fb np pp ∧ Sm Mq M1 [8] ∧ (∀ q, T9 q = 4294967295 ∨ T9 q < 8) ∧ rsE n gn al_ it pt tg pp v T9) := by
          intro n17
          induction n17 with
          | zero => intro x T2 M_17 _ _ _ h; exact absurd h (Nat.not_lt_zero _)
          | succ n17 ih17 =>
            intro x T2 M_17 s_17 f17_0 hi17 hm17
            have hx5 := itO_le (al_ := al_) hi5 a
            refine zw_n 2 rfl ?_
            refine zw_get (v := .ref 3) rfl (Sm.at s_17 (by decide) hD.1) rfl ?_
            refine zw_n 1 rfl ?_
            refine zw_callV (as := [.int (nI a)]) (rest := [.int (nI x)]) rfl rfl rfl (Sm.at s_17 (by decide) (hD.2.2.2.2.get 0 rfl)) rfl rfl rfl (by decide) (c_itemsOf M_17 3 n em gn al_ it pt T2 bd fr af fb (seg10 (Sm.at s_17 (by decide) (hD.2.2.2.2.get 0 rfl)) (Sm.at s_17 (by decide) (hD.2.2.2.2.get 1 rfl)) (Sm.at s_17 (by decide) (hD.2.2.2.2.get 2 rfl)) (Sm.at s_17 (by decide) (hD.2.2.2.2.get 3 rfl)) (Sm.at s_17 (by decide) (hD.2.2.2.2.get 4 rfl)) f17_0 (Sm.at s_17 (by decide) (hD.2.2.2.2.get 6 rfl)) (Sm.at s_17 (by decide) (hD.2.2.2.2.get 7 rfl)) (Sm.at s_17 (by decide) (hD.2.2.2.2.get 8 rfl)) (Sm.at s_17 (by decide) (hD.2.2.2.2.get 9 rfl))) ⟨hG.1, hG.2.1, hG.2.2.1, hG.2.2.2.1, hG.2.2.2.2.1, hi17.2.2.2, hG.2.2.2.2.2.2⟩ a (by omega)) (fun rz2605 Mz2606 hz2607 => ?_)
            rw [hz2607.1, hz2607.2]
            show Zw 1 zm_GrammarReader_resolveNames 26 [some (.ref 2), some (.int (nI a)), some (.int (nI x)), none] [.int (nI (itO al_ it a)), .int (nI x)] M_17 _
            refine zw_igeN (a := x) (b := itO al_ it a) rfl rfl rfl (by omega) (by omega) (fun c26 => ?_) (fun c26 => ?_)
            · -- 26 to 99
              refine zw_inc rfl (x' := (nI (a + 1))) (ls' := [some (.ref 2), some (.int (nI (a + 1))), some (.int (nI x)), none]) rfl (na (a := a) (b := 1) rfl rfl) rfl ?_
              refine zw_n 1 rfl ?_
              refine zw_ls (ls' := [some (.ref 2), some (.int (nI (a + 1))), none, none]) ⟨Or.inr rfl, Or.inr rfl, Or.inl rfl, Or.inl rfl, trivial⟩ ?_
              exact ih2 (a + 1) T2 M_17 s_17 f17_0 (⟨by omega, hi17.2.row hi5 (by omega)⟩) (by omega)
            · -- 26 to 29
              refine zw_n 3 rfl ?_
              refine zw_top (nm (a := a) (b := 5) rfl rfl) ?_
              refine zw_n 2 rfl ?_
              refine zw_top (na (a := a * 5) (b := x) rfl rfl) ?_
              refine zw_n 2 (ls' := [some (.ref 2), some (.int (nI a)), some (.int (nI x)), some (.int (nI ((a * 5) + x)))]) rfl ?_
              refine zw_get (v := .ref 3) rfl (Sm.at s_17 (by decide) hD.1) rfl ?_
              refine zw_get (v := .ref 8) rfl (Sm.at s_17 (by decide) (hD.2.2.2.2.get 0 rfl)) rfl ?_
              refine zw_n 1 rfl ?_
              refine zw_iald (f := ai T2) (j := ((a * 5) + x)) rfl f17_0 rfl (by decide) (by omega) ?_
              refine zw_n 1 rfl ?_
              refine zw_ieqM (a := T2 ((a * 5) + x)) rfl rfl (by rcases hi17.2.2.2 (a * 5 + x) with q9 | q9 <;> (first | (rw [q9]; decide) | omega)) (fun c45 => ?_) (fun c45 => ?_)
              · -- 45 to 93
                refine zw_inc rfl (x' := (nI (x + 1))) (ls' := [some (.ref 2), some (.int (nI a)), some (.int (nI (x + 1))), some (.int (nI ((a * 5) + x)))]) rfl (na (a := x) (b := 1) rfl rfl) rfl ?_
                refine zw_n 1 rfl ?_
                refine zw_ls (ls' := [some (.ref 2), some (.int (nI a)), some (.int (nI (x + 1))), none]) ⟨Or.inr rfl, Or.inr rfl, Or.inr rfl, Or.inl rfl, trivial⟩ ?_
                exact ih17 (x + 1) T2 M_17 s_17 f17_0 (⟨by omega, by first | exact hi17.2.sign c45 | exact hi17.2.name hi5 (by omega) hn8 c45 c83⟩) (by omega)
              · -- 45 to 48
                refine zw_n 1 rfl ?_
                refine zw_get (v := .ref 3) rfl (Sm.at s_17 (by decide) hD.1) rfl ?_
                refine zw_get (v := .ref 8) rfl (Sm.at s_17 (by decide) (hD.2.2.2.2.get 0 rfl)) rfl ?_
                refine zw_n 2 rfl ?_
                refine zw_get (v := .ref 3) rfl (Sm.at s_17 (by decide) hD.1) rfl ?_
                refine zw_n 1 rfl ?_
                refine zw_get (v := .ref 3) rfl (Sm.at s_17 (by decide) hD.1) rfl ?_
                refine zw_get (v := .ref 7) rfl (Sm.at s_17 (by decide) (hD.2.2.2.2.get 0 rfl)) rfl ?_
                refine zw_n 1 rfl ?_
                refine zw_iald (f := ai pt) (j := ((a * 5) + x)) rfl (Sm.at s_17 (by decide) (hD.2.2.2.2.get 4 rfl)) rfl (by decide) (by omega) ?_
                refine zw_callV (as := [.int (nI (pt ((a * 5) + x)))]) (rest := [.int (nI ((a * 5) + x)), .ref 8]) rfl rfl rfl (Sm.at s_17 (by decide) (hD.2.2.2.2.get 0 rfl)) rfl rfl rfl (by decide) (c_named M_17 3 n em gn al_ it pt T2 bd fr af fb (seg10 (Sm.at s_17 (by decide) (hD.2.2.2.2.get 0 rfl)) (Sm.at s_17 (by decide) (hD.2.2.2.2.get 1 rfl)) (Sm.at s_17 (by decide) (hD.2.2.2.2.get 2 rfl)) (Sm.at s_17 (by decide) (hD.2.2.2.2.get 3 rfl)) (Sm.at s_17 (by decide) (hD.2.2.2.2.get 4 rfl)) f17_0 (Sm.at s_17 (by decide) (hD.2.2.2.2.get 6 rfl)) (Sm.at s_17 (by decide) (hD.2.2.2.2.get 7 rfl)) (Sm.at s_17 (by decide) (hD.2.2.2.2.get 8 rfl)) (Sm.at s_17 (by decide) (hD.2.2.2.2.get 9 rfl))) (by omega) (pt ((a * 5) + x)) (by have := hG.2.2.2.2.1 (a * 5 + x); omega) (fun q => Nat.lt_trans (hG.2.1 q) (by decide))) (fun rz2608 Mz2609 hz2610 => ?_)
                rw [hz2610.1, hz2610.2]
                show Zw 1 zm_GrammarReader_resolveNames 72 [some (.ref 2), some (.int (nI a)), some (.int (nI x)), some (.int (nI ((a * 5) + x)))] [.int (nI (srch (fun q => gn q == pt (a * 5 + x)) 0 n)), .int (nI ((a * 5) + x)), .ref 8] M_17 _
                refine zw_iastN (g := T2) (j := ((a * 5) + x)) (v := (srch (fun q => gn q == pt (a * 5 + x)) 0 n)) rfl f17_0 rfl (by decide) (by omega) (rfl) ?_
                generalize ez2612 : List.set M_17 8 _ = Mz2611
                refine zw_n 1 rfl ?_
                refine zw_get (v := .ref 3) rfl (zat_set ez2612 (by decide) (Sm.at s_17 (by decide) hD.1)) rfl ?_
                refine zw_get (v := .ref 8) rfl (zat_set ez2612 (by decide) (Sm.at s_17 (by decide) (hD.2.2.2.2.get 0 rfl))) rfl ?_
                refine zw_n 1 rfl ?_
                refine zw_iald (f := ai (up T2 ((a * 5) + x) (srch (fun q => gn q == pt (a * 5 + x)) 0 n))) (j := ((a * 5) + x)) rfl (zat_self ez2612 f17_0) rfl (by decide) (by omega) ?_
                refine zw_top (x' := (nI (srch (fun q => gn q == pt (a * 5 + x)) 0 n))) (congrArg nI (up_s ..)) ?_
                refine zw_n 1 rfl ?_
                refine zw_ineM (a := srch (fun q => gn q == pt (a * 5 + x)) 0 n) rfl rfl (by rcases srch_b8 (p := fun q => gn q == pt (a * 5 + x)) hn8 with q9 | q9 <;> (first | (rw [q9]; decide) | omega)) (fun c83 => ?_) (fun c83 => ?_)
                · -- 83 to 93
                  refine zw_inc rfl (x' := (nI (x + 1))) (ls' := [some (.ref 2), some (.int (nI a)), some (.int (nI (x + 1))), some (.int (nI ((a * 5) + x)))]) rfl (na (a := x) (b := 1) rfl rfl) rfl ?_
                  refine zw_n 1 rfl ?_
                  refine zw_ls (ls' := [some (.ref 2), some (.int (nI a)), some (.int (nI (x + 1))), none]) ⟨Or.inr rfl, Or.inr rfl, Or.inr rfl, Or.inl rfl, trivial⟩ ?_
                  exact ih17 (x + 1) (up T2 ((a * 5) + x) (srch (fun q => gn q == pt (a * 5 + x)) 0 n)) Mz2611 (Sm.tset s_17 ez2612 (by decide)) (zat_self ez2612 f17_0) (⟨by omega, by first | exact hi17.2.sign c45 | exact hi17.2.name hi5 (by omega) hn8 c45 c83⟩) (by omega)
                · -- 83 to 86
                  refine zw_n 1 rfl ?_
                  refine zw_get (v := .ref 14) rfl (zat_set ez2612 (by decide) (Sm.at s_17 (by decide) hD.1)) rfl ?_
                  refine zw_n 1 rfl ?_
                  refine zw_iald (f := ai pp) (j := ((a * 5) + x)) rfl (zat_set ez2612 (by decide) (Sm.at s_17 (by decide) hD.2.2.2.1)) rfl (by decide) (by omega) ?_
                  exact zw_iret rfl rfl (⟨pp (a * 5 + x), (up T2 ((a * 5) + x) (srch (fun q => gn q == pt (a * 5 + x)) 0 n)), rfl, ⟨zat_set ez2612 (by decide) (Sm.at s_17 (by decide) hD.1), zat_set ez2612 (by decide) (Sm.at s_17 (by decide) hD.2.1), zat_set ez2612 (by decide) (Sm.at s_17 (by decide) hD.2.2.1), zat_set ez2612 (by decide) (Sm.at s_17 (by decide) hD.2.2.2.1), (seg10 (zat_set ez2612 (by decide) (Sm.at s_17 (by decide) (hD.2.2.2.2.get 0 rfl))) (zat_set ez2612 (by decide) (Sm.at s_17 (by decide) (hD.2.2.2.2.get 1 rfl))) (zat_set ez2612 (by decide) (Sm.at s_17 (by decide) (hD.2.2.2.2.get 2 rfl))) (zat_set ez2612 (by decide) (Sm.at s_17 (by decide) (hD.2.2.2.2.get 3 rfl))) (zat_set ez2612 (by decide) (Sm.at s_17 (by decide) (hD.2.2.2.2.get 4 rfl))) (zat_self ez2612 f17_0) (zat_set ez2612 (by decide) (Sm.at s_17 (by decide) (hD.2.2.2.2.get 6 rfl))) (zat_set ez2612 (by decide) (Sm.at s_17 (by decide) (hD.2.2.2.2.get 7 rfl))) (zat_set ez2612 (by decide) (Sm.at s_17 (by decide) (hD.2.2.2.2.get 8 rfl))) (zat_set ez2612 (by decide) (Sm.at s_17 (by decide) (hD.2.2.2.2.get 9 rfl))))⟩, Sm.tset s_17 ez2612 (by decide), tg_up hi17.2.2.2 (srch_b8 hn8), Or.inr ⟨a, x, by omega, by omega, fun e => c45 ((hi17.2.2.1 _ (Nat.le_refl _)).trans e), by unfold nmT; rw [if_neg (fun e => c45 ((hi17.2.2.1 _ (Nat.le_refl _)).trans e))]; exact c83, rfl, _, hi17.2⟩⟩)
        exact lp17 _ 0 T1 M_2 s_2 f2_0 (⟨Nat.zero_le _, hi2.2⟩) (Nat.lt_succ_self _)
  exact lp2 _ 0 tg Mq Sm.rf (hD.2.2.2.2.get 5 rfl) (⟨Nat.zero_le _, rsI.start hG.2.2.2.2.2.1⟩) (Nat.lt_succ_self _)
