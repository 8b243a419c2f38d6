set_option maxHeartbeats 4000000 in
set_option maxRecDepth 100000 in
theorem c_drawAlt (Mq : zM) (sd : Nat) (h45 : Mq[45]? = some (.inr (2, [.ref 46, .ref 16, .int (nI (sd))]))) (hsd : sd < 1000003) (n em : Nat) (gn al_ it pt tg bd fr af fb : Nat → Nat) (hR : Seg Mq 16 (rulL 16 (n, gn, al_, it, pt, tg, bd, em, fr, af, fb))) (hG : SafeG n gn al_ it pt tg bd) (haf : SafeM af) (r d : Nat) (hr : r < 8) (hd : d < 40) : Zm 1 zm_Grower_drawAlt [.ref 45, .int (nI r), .int (nI d)] Mq (fun r9 M1 => r9 = some (.int (nI (r * 4 + nthC (fun b => (af (r * 4 + b)).testBit d) (drV (cnt (fun b => (af (r * 4 + b)).testBit d) (al_ r)) sd) 0 (al_ r)))) ∧ M1[45]? = some (.inr (2, [.ref 46, .ref 16, .int (nI (drN sd))])) ∧ Sm Mq M1 [45]) := by
  show Zw 1 zm_Grower_drawAlt 0 [some (.ref 45), some (.int (nI r)), some (.int (nI d)), none, none, none] [] Mq _
  have ha4 := hG.2.2.1 r
  have hcl : cnt (fun b => (af (r * 4 + b)).testBit d) (al_ r) ≤ al_ r := cnt_le _ _
  refine zw_n 5 (ls' := [some (.ref 45), some (.int (nI r)), some (.int (nI d)), some (.int 0), none, none]) rfl ?_
  refine zw_top (nm (a := r) (b := 4) rfl rfl) ?_
  refine zw_n 1 (ls' := [some (.ref 45), some (.int (nI r)), some (.int (nI d)), some (.int 0), some (.int (nI (r * 4))), none]) rfl ?_
  have lp7 : ∀ (n7 : Nat) (a : Nat) (b : Nat), (b ≤ al_ r ∧ a = cnt (fun b => (af (r * 4 + b)).testBit d) b) → al_ r - b < n7 → Zw 1 zm_Grower_drawAlt 7 [some (.ref 45), some (.int (nI r)), some (.int (nI d)), some (.int (nI a)), some (.int (nI (r * 4 + b))), none] [] Mq (fun r9 M1 => r9 = some (.int (nI (r * 4 + nthC (fun b => (af (r * 4 + b)).testBit d) (drV (cnt (fun b => (af (r * 4 + b)).testBit d) (al_ r)) sd) 0 (al_ r)))) ∧ M1[45]? = some (.inr (2, [.ref 46, .ref 16, .int (nI (drN sd))])) ∧ Sm Mq M1 [45]) := by
    intro n7
    induction n7 with
    | zero => intro a b _ h; exact absurd h (Nat.not_lt_zero _)
    | succ n7 ih7 =>
      intro a b hi7 hm7
      refine zw_n 4 rfl ?_
      refine zw_top (nm (a := r) (b := 4) rfl rfl) ?_
      refine zw_n 1 rfl ?_
      refine zw_get (v := .ref 16) rfl h45 rfl ?_
      refine zw_get (v := .ref 18) rfl (hR.get 0 rfl) rfl ?_
      refine zw_n 1 rfl ?_
      refine zw_iald (f := ai al_) (j := r) rfl (hR.get 2 rfl) rfl (by decide) (by omega) ?_
      have bz5848 := hG.2.2.1 r
      refine zw_n 1 rfl ?_
      refine zw_top (na (a := r * 4) (b := al_ r) rfl rfl) ?_
      refine zw_igeN (a := r * 4 + b) (b := (r * 4) + (al_ r)) rfl rfl rfl (by omega) (by omega) (fun c22 => ?_) (fun c22 => ?_)
      · -- 22 to 56
        obtain rfl : a = cnt (fun b => (af (r * 4 + b)).testBit d) (al_ r) := by rw [hi7.2, show b = al_ r by omega]
        refine zw_n 2 rfl ?_
        refine zw_callV (as := [.int (nI (cnt (fun b => (af (r * 4 + b)).testBit d) (al_ r)))]) (rest := []) rfl rfl rfl h45 rfl rfl rfl (by decide) (c_draw Mq sd h45 (by omega) (cnt (fun b => (af (r * 4 + b)).testBit d) (al_ r)) (by omega)) (fun rz5853 Mz5854 hz5855 => ?_)
        obtain ⟨hAz5849, hBz5850, hSz5851⟩ := hz5855
        rw [hAz5849]
        have hbz5852 := drV_lt (cnt (fun b => (af (r * 4 + b)).testBit d) (al_ r)) sd
        show Zw 1 zm_Grower_drawAlt 61 [some (.ref 45), some (.int (nI r)), some (.int (nI d)), some (.int (nI (cnt (fun b => (af (r * 4 + b)).testBit d) (al_ r)))), some (.int (nI (r * 4 + b))), none] [.int (nI (drV (cnt (fun b => (af (r * 4 + b)).testBit d) (al_ r)) sd))] Mz5854 _
        refine zw_n 4 (ls' := [some (.ref 45), some (.int (nI r)), some (.int (nI d)), some (.int (nI (cnt (fun b => (af (r * 4 + b)).testBit d) (al_ r)))), some (.int (nI (drV (cnt (fun b => (af (r * 4 + b)).testBit d) (al_ r)) sd))), none]) rfl ?_
        refine zw_top (nm (a := r) (b := 4) rfl rfl) ?_
        refine zw_n 1 (ls' := [some (.ref 45), some (.int (nI r)), some (.int (nI d)), some (.int (nI (cnt (fun b => (af (r * 4 + b)).testBit d) (al_ r)))), some (.int (nI (drV (cnt (fun b => (af (r * 4 + b)).testBit d) (al_ r)) sd))), some (.int (nI (r * 4)))]) rfl ?_
        have lp68 : ∀ (n68 : Nat) (l : Nat) (b2 : Nat), (b2 ≤ al_ r ∧ l < 1000003 ∧ nthC (fun b => (af (r * 4 + b)).testBit d) (drV (cnt (fun b => (af (r * 4 + b)).testBit d) (al_ r)) sd) 0 (al_ r) = nthC (fun b => (af (r * 4 + b)).testBit d) l b2 (al_ r - b2)) → al_ r - b2 < n68 → Zw 1 zm_Grower_drawAlt 68 [some (.ref 45), some (.int (nI r)), some (.int (nI d)), some (.int (nI (cnt (fun b => (af (r * 4 + b)).testBit d) (al_ r)))), some (.int (nI l)), some (.int (nI (r * 4 + b2)))] [] Mz5854 (fun r9 M1 => r9 = some (.int (nI (r * 4 + nthC (fun b => (af (r * 4 + b)).testBit d) (drV (cnt (fun b => (af (r * 4 + b)).testBit d) (al_ r)) sd) 0 (al_ r)))) ∧ M1[45]? = some (.inr (2, [.ref 46, .ref 16, .int (nI (drN sd))])) ∧ Sm Mq M1 [45]) := by
          intro n68
          induction n68 with
          | zero => intro l b2 _ h; exact absurd h (Nat.not_lt_zero _)
          | succ n68 ih68 =>
            intro l b2 hi68 hm68
            refine zw_n 4 rfl ?_
            refine zw_top (nm (a := r) (b := 4) rfl rfl) ?_
            refine zw_n 1 rfl ?_
            refine zw_get (v := .ref 16) rfl hBz5850 rfl ?_
            refine zw_get (v := .ref 18) rfl (Sm.at hSz5851 (by decide) (hR.get 0 rfl)) rfl ?_
            refine zw_n 1 rfl ?_
            refine zw_iald (f := ai al_) (j := r) rfl (Sm.at hSz5851 (by decide) (hR.get 2 rfl)) rfl (by decide) (by omega) ?_
            have bz5856 := hG.2.2.1 r
            refine zw_n 1 rfl ?_
            refine zw_top (na (a := r * 4) (b := al_ r) rfl rfl) ?_
            refine zw_igeN (a := r * 4 + b2) (b := (r * 4) + (al_ r)) rfl rfl rfl (by omega) (by omega) (fun c83 => ?_) (fun c83 => ?_)
            · -- 83 to 120
              refine zw_n 3 rfl ?_
              refine zw_top (nm (a := r) (b := 4) rfl rfl) ?_
              exact zw_iret rfl rfl (⟨by rw [hi68.2.2, show al_ r - b2 = 0 by omega, nthC_end, Nat.add_zero], hBz5850, Sm.trans Sm.rf hSz5851⟩)
            · -- 83 to 86
              refine zw_n 1 rfl ?_
              refine zw_get (v := .ref 16) rfl hBz5850 rfl ?_
              refine zw_get (v := .ref 24) rfl (Sm.at hSz5851 (by decide) (hR.get 0 rfl)) rfl ?_
              refine zw_n 1 rfl ?_
              refine zw_lald (f := al af) (j := (r * 4 + b2)) rfl (Sm.at hSz5851 (by decide) (hR.get 8 rfl)) rfl (by decide) (by omega) ?_
              refine zw_n 1 rfl ?_
              refine zw_callS (as := [.long (lN (af (r * 4 + b2))), .int (nI d)]) (rest := []) rfl rfl rfl rfl rfl rfl (by decide) (c_hasColumn _ _ _ (haf _) (by omega)) (fun rz5857 Mz5858 hz5859 => ?_)
              rw [hz5859.1, hz5859.2]
              show Zw 1 zm_Grower_drawAlt 100 [some (.ref 45), some (.int (nI r)), some (.int (nI d)), some (.int (nI (cnt (fun b => (af (r * 4 + b)).testBit d) (al_ r)))), some (.int (nI l)), some (.int (nI (r * 4 + b2)))] [.int (nI (if (af (r * 4 + b2)).testBit d = true then 1 else 0))] Mz5854 _
              refine zw_eq0N (a := if (af (r * 4 + b2)).testBit d = true then 1 else 0) rfl rfl (ite_b) (fun c100 => ?_) (fun c100 => ?_)
              · -- 100 to 114
                refine zw_inc rfl (x' := (nI (r * 4 + b2 + 1))) (ls' := [some (.ref 45), some (.int (nI r)), some (.int (nI d)), some (.int (nI (cnt (fun b => (af (r * 4 + b)).testBit d) (al_ r)))), some (.int (nI l)), some (.int (nI (r * 4 + b2 + 1)))]) rfl (na (a := (r * 4 + b2)) (b := 1) rfl rfl) rfl ?_
                refine zw_n 1 rfl ?_
                exact ih68 l (b2 + 1) (⟨by omega, by omega, by first | exact hi68.2.2.trans (nthC_nx (by omega) (ite_ne c100) c105) | exact hi68.2.2.trans (nthC_no (by omega) (ite_eq0 c100))⟩) (by omega)
              · -- 100 to 103
                refine zw_n 1 rfl ?_
                refine zw_ne0N (a := l) rfl rfl (by omega) (fun c105 => ?_) (fun c105 => ?_)
                · -- 105 to 111
                  refine zw_inc rfl (x' := (nI (l - 1))) (ls' := [some (.ref 45), some (.int (nI r)), some (.int (nI d)), some (.int (nI (cnt (fun b => (af (r * 4 + b)).testBit d) (al_ r)))), some (.int (nI (l - 1))), some (.int (nI (r * 4 + b2)))]) rfl (nsc (a := l) (n := 1) (by decide) rfl (by omega)) rfl ?_
                  refine zw_inc rfl (x' := (nI (r * 4 + b2 + 1))) (ls' := [some (.ref 45), some (.int (nI r)), some (.int (nI d)), some (.int (nI (cnt (fun b => (af (r * 4 + b)).testBit d) (al_ r)))), some (.int (nI (l - 1))), some (.int (nI (r * 4 + b2 + 1)))]) rfl (na (a := (r * 4 + b2)) (b := 1) rfl rfl) rfl ?_
                  refine zw_n 1 rfl ?_
                  exact ih68 (l - 1) (b2 + 1) (⟨by omega, by omega, by first | exact hi68.2.2.trans (nthC_nx (by omega) (ite_ne c100) c105) | exact hi68.2.2.trans (nthC_no (by omega) (ite_eq0 c100))⟩) (by omega)
                · -- 105 to 108
                  refine zw_n 1 rfl ?_
                  exact zw_iret rfl rfl (⟨by rw [hi68.2.2, nthC_hit (p := (fun b => (af (r * 4 + b)).testBit d)) (by omega) (ite_ne c100) c105], hBz5850, Sm.trans Sm.rf hSz5851⟩)
        exact lp68 _ (drV (cnt (fun b => (af (r * 4 + b)).testBit d) (al_ r)) sd) 0 (⟨Nat.zero_le _, by omega, rfl⟩) (Nat.lt_succ_self _)
      · -- 22 to 25
        refine zw_n 1 rfl ?_
        have j26 : Zw 1 zm_Grower_drawAlt 48 [some (.ref 45), some (.int (nI r)), some (.int (nI d)), some (.int (nI a)), some (.int (nI (r * 4 + b))), none] [.int (nI (if (af (r * 4 + b)).testBit d = true then 1 else 0)), .int (nI a)] Mq (fun r9 M1 => r9 = some (.int (nI (r * 4 + nthC (fun b => (af (r * 4 + b)).testBit d) (drV (cnt (fun b => (af (r * 4 + b)).testBit d) (al_ r)) sd) 0 (al_ r)))) ∧ M1[45]? = some (.inr (2, [.ref 46, .ref 16, .int (nI (drN sd))])) ∧ Sm Mq M1 [45]) := by
          refine zw_n 1 rfl ?_
          refine zw_top (na (a := a) (b := if (af (r * 4 + b)).testBit d = true then 1 else 0) rfl rfl) ?_
          refine zw_n 1 (ls' := [some (.ref 45), some (.int (nI r)), some (.int (nI d)), some (.int (nI (a + (if (af (r * 4 + b)).testBit d = true then 1 else 0)))), some (.int (nI (r * 4 + b))), none]) rfl ?_
          refine zw_inc rfl (x' := (nI (r * 4 + b + 1))) (ls' := [some (.ref 45), some (.int (nI r)), some (.int (nI d)), some (.int (nI (a + (if (af (r * 4 + b)).testBit d = true then 1 else 0)))), some (.int (nI (r * 4 + b + 1))), none]) rfl (na (a := (r * 4 + b)) (b := 1) rfl rfl) rfl ?_
          refine zw_n 1 rfl ?_
          exact ih7 (a + (if (af (r * 4 + b)).testBit d = true then 1 else 0)) (b + 1) (⟨by omega, cnt_s hi7.2 Iff.rfl⟩) (by omega)
        refine zw_n 1 rfl ?_
        refine zw_get (v := .ref 16) rfl h45 rfl ?_
        refine zw_get (v := .ref 24) rfl (hR.get 0 rfl) rfl ?_
        refine zw_n 1 rfl ?_
        refine zw_lald (f := al af) (j := (r * 4 + b)) rfl (hR.get 8 rfl) rfl (by decide) (by omega) ?_
        refine zw_n 1 rfl ?_
        refine zw_callS (as := [.long (lN (af (r * 4 + b))), .int (nI d)]) (rest := [.int (nI a)]) rfl rfl rfl rfl rfl rfl (by decide) (c_hasColumn _ _ _ (haf _) (by omega)) (fun rz5860 Mz5861 hz5862 => ?_)
        rw [hz5862.1, hz5862.2]
        show Zw 1 zm_Grower_drawAlt 40 [some (.ref 45), some (.int (nI r)), some (.int (nI d)), some (.int (nI a)), some (.int (nI (r * 4 + b))), none] [.int (nI (if (af (r * 4 + b)).testBit d = true then 1 else 0)), .int (nI a)] Mq _
        refine zw_eq0N (a := if (af (r * 4 + b)).testBit d = true then 1 else 0) rfl rfl (ite_b) (fun c40 => ?_) (fun c40 => ?_)
        · -- 40 to 47
          refine zw_n 1 rfl ?_
          refine zw_top (x' := nI (if (af (r * 4 + b)).testBit d = true then 1 else 0)) (show nI 0 = nI (if (af (r * 4 + b)).testBit d = true then 1 else 0) by rw [if_neg (ite_eq0 c40)]) ?_
          exact j26
        · -- 40 to 43
          refine zw_n 2 rfl ?_
          refine zw_top (x' := nI (if (af (r * 4 + b)).testBit d = true then 1 else 0)) (show nI 1 = nI (if (af (r * 4 + b)).testBit d = true then 1 else 0) by rw [if_pos (ite_ne c40)]) ?_
          exact j26
  exact lp7 _ 0 0 (⟨Nat.zero_le _, rfl⟩) (Nat.lt_succ_self _)
