set_option maxHeartbeats 4000000 in
set_option maxRecDepth 100000 in
theorem c_neverEmpty (Mq : zM) (k : Nat) (n em : Nat) (gn al_ it pt tg bd fr af fb : Nat → Nat) (hR : Seg Mq k (rulL k (n, gn, al_, it, pt, tg, bd, em, fr, af, fb))) (hG : SafeG n gn al_ it pt tg bd) (he : em < 256) (a : Nat) (ha : a < 32) (htg : ∀ k9, k9 < it a → tg (a * 5 + k9) < 8 ∨ tg (a * 5 + k9) = NO) : Zm 1 zm_Rules_neverEmpty [.ref k, .int (nI a)] Mq (fun r9 M1 => r9 = some (.int (nI (neC tg it (fun r => em.testBit r) a))) ∧ M1 = Mq) := by
  show Zw 1 zm_Rules_neverEmpty 0 [some (.ref k), some (.int (nI a)), none, none] [] Mq _
  have hi5 := hG.2.2.2.1 a
  refine zw_n 4 (ls' := [some (.ref k), some (.int (nI a)), some (.int 0), some (.int 0)]) rfl ?_
  have lp4 : ∀ (n4 : Nat) (c9 : Nat) (x : Nat), (x ≤ it a ∧ c9 = cnt (fun k => !(decide (tg (a * 5 + k) ≠ NO) && em.testBit (tg (a * 5 + k)))) x) → it a - x < n4 → Zw 1 zm_Rules_neverEmpty 4 [some (.ref k), some (.int (nI a)), some (.int (nI c9)), some (.int (nI x))] [] Mq (fun r9 M1 => r9 = some (.int (nI (neC tg it (fun r => em.testBit r) a))) ∧ M1 = Mq) := by
    intro n4
    induction n4 with
    | zero => intro c9 x _ h; exact absurd h (Nat.not_lt_zero _)
    | succ n4 ih4 =>
      intro c9 x hi4 hm4
      refine zw_n 2 rfl ?_
      refine zw_get (v := .ref (k + 3)) rfl (hR.get 0 rfl) rfl ?_
      refine zw_n 1 rfl ?_
      refine zw_iald (f := ai it) (j := a) rfl (hR.get 3 rfl) rfl (by decide) (by omega) ?_
      have bz2341 := hG.2.2.2.1 a
      refine zw_igeN (a := x) (b := it a) rfl rfl rfl (by omega) (by omega) (fun c11 => ?_) (fun c11 => ?_)
      · -- 11 to 40
        refine zw_n 1 rfl ?_
        exact zw_iret rfl rfl (⟨by rw [neC, hi4.2, show x = it a by omega], rfl⟩)
      · -- 11 to 14
        refine zw_n 2 rfl ?_
        refine zw_get (v := .ref (k + 5)) rfl (hR.get 0 rfl) rfl ?_
        refine zw_n 3 rfl ?_
        refine zw_top (nm (a := a) (b := 5) rfl rfl) ?_
        refine zw_n 2 rfl ?_
        refine zw_top (na (a := a * 5) (b := x) rfl rfl) ?_
        refine zw_iald (f := ai tg) (j := ((a * 5) + x)) rfl (hR.get 5 rfl) rfl (by decide) (by omega) ?_
        have bz2342 := hG.2.2.2.2.2.1 ((a * 5) + x)
        refine zw_callV (as := [.int (nI (tg ((a * 5) + x)))]) (rest := []) rfl rfl rfl (hR.get 0 rfl) rfl rfl rfl (by decide) (c_canBeEmpty Mq k n em gn al_ it pt tg bd fr af fb (seg10 (hR.get 0 rfl) (hR.get 1 rfl) (hR.get 2 rfl) (hR.get 3 rfl) (hR.get 4 rfl) (hR.get 5 rfl) (hR.get 6 rfl) (hR.get 7 rfl) (hR.get 8 rfl) (hR.get 9 rfl)) he (tg ((a * 5) + x)) (htg x (by omega))) (fun rz2343 Mz2344 hz2345 => ?_)
        rw [hz2345.1, hz2345.2]
        show Zw 1 zm_Rules_neverEmpty 28 [some (.ref k), some (.int (nI a)), some (.int (nI c9)), some (.int (nI x))] [.int (nI (if (tg ((a * 5) + x)) ≠ NO ∧ em.testBit (tg ((a * 5) + x)) = true then 1 else 0))] Mq _
        refine zw_ne0N (a := if (tg ((a * 5) + x)) ≠ NO ∧ em.testBit (tg ((a * 5) + x)) = true then 1 else 0) rfl rfl (ite_b) (fun c28 => ?_) (fun c28 => ?_)
        · -- 28 to 34
          refine zw_inc rfl (x' := (nI (x + 1))) (ls' := [some (.ref k), some (.int (nI a)), some (.int (nI c9)), some (.int (nI (x + 1)))]) rfl (na (a := x) (b := 1) rfl rfl) rfl ?_
          refine zw_n 1 rfl ?_
          exact ih4 c9 (x + 1) (⟨by omega, by first | exact cnt_no hi4.2 (ne_yes (ite_ne c28)) | exact cnt_yes hi4.2 (ne_no (ite_eq0 c28))⟩) (by omega)
        · -- 28 to 31
          refine zw_inc rfl (x' := (nI (c9 + 1))) (ls' := [some (.ref k), some (.int (nI a)), some (.int (nI (c9 + 1))), some (.int (nI x))]) rfl (na (a := c9) (b := 1) rfl rfl) rfl ?_
          refine zw_inc rfl (x' := (nI (x + 1))) (ls' := [some (.ref k), some (.int (nI a)), some (.int (nI (c9 + 1))), some (.int (nI (x + 1)))]) rfl (na (a := x) (b := 1) rfl rfl) rfl ?_
          refine zw_n 1 rfl ?_
          exact ih4 (c9 + 1) (x + 1) (⟨by omega, by first | exact cnt_no hi4.2 (ne_yes (ite_ne c28)) | exact cnt_yes hi4.2 (ne_no (ite_eq0 c28))⟩) (by omega)
  exact lp4 _ 0 0 (⟨Nat.zero_le _, rfl⟩) (Nat.lt_succ_self _)

set_option maxHeartbeats 4000000 in
set_option maxRecDepth 100000 in
theorem c_hasEmptyAlt (Mq : zM) (k : Nat) (n em : Nat) (gn al_ it pt tg bd fr af fb : Nat → Nat) (hR : Seg Mq k (rulL k (n, gn, al_, it, pt, tg, bd, em, fr, af, fb))) (hG : SafeG n gn al_ it pt tg bd) (he : em < 256) (hcl : CloT n al_ it tg) (r : Nat) (hr : r < n) : Zm 2 zm_Rules_hasEmptyAlt [.ref k, .int (nI r)] Mq (fun r9 M1 => r9 = some (.int (nI (if heB al_ tg it (fun r => em.testBit r) r = true then 1 else 0))) ∧ M1 = Mq) := by
  show Zw 2 zm_Rules_hasEmptyAlt 0 [some (.ref k), some (.int (nI r)), none] [] Mq _
  have hn8 := hG.1
  have ha4 := hG.2.2.1 r
  refine zw_n 2 (ls' := [some (.ref k), some (.int (nI r)), some (.int 0)]) rfl ?_
  have lp2 : ∀ (n2 : Nat) (a : Nat), (a ≤ al_ r ∧ ∀ a9, a9 < a → ¬ neC tg it (fun r => em.testBit r) (r * 4 + a9) = 0) → al_ r - a < n2 → Zw 2 zm_Rules_hasEmptyAlt 2 [some (.ref k), some (.int (nI r)), some (.int (nI a))] [] Mq (fun r9 M1 => r9 = some (.int (nI (if heB al_ tg it (fun r => em.testBit r) r = true then 1 else 0))) ∧ M1 = Mq) := by
    intro n2
    induction n2 with
    | zero => intro a _ h; exact absurd h (Nat.not_lt_zero _)
    | succ n2 ih2 =>
      intro a hi2 hm2
      refine zw_n 2 rfl ?_
      refine zw_get (v := .ref (k + 2)) rfl (hR.get 0 rfl) rfl ?_
      refine zw_n 1 rfl ?_
      refine zw_iald (f := ai al_) (j := r) rfl (hR.get 2 rfl) rfl (by decide) (by omega) ?_
      have bz2346 := hG.2.2.1 r
      refine zw_igeN (a := a) (b := al_ r) rfl rfl rfl (by omega) (by omega) (fun c9 => ?_) (fun c9 => ?_)
      · -- 9 to 32
        refine zw_n 1 rfl ?_
        exact zw_zret rfl rfl (Or.inl rfl) (⟨by rw [if_neg (he_no (fun a9 h => hi2.2 a9 (by omega)))]; rfl, rfl⟩)
      · -- 9 to 12
        refine zw_n 4 rfl ?_
        refine zw_top (nm (a := r) (b := 4) rfl rfl) ?_
        refine zw_n 2 rfl ?_
        refine zw_top (na (a := r * 4) (b := a) rfl rfl) ?_
        refine zw_callV (as := [.int (nI ((r * 4) + a))]) (rest := []) rfl rfl rfl (hR.get 0 rfl) rfl rfl rfl (by decide) (c_neverEmpty Mq k n em gn al_ it pt tg bd fr af fb (seg10 (hR.get 0 rfl) (hR.get 1 rfl) (hR.get 2 rfl) (hR.get 3 rfl) (hR.get 4 rfl) (hR.get 5 rfl) (hR.get 6 rfl) (hR.get 7 rfl) (hR.get 8 rfl) (hR.get 9 rfl)) hG he ((r * 4) + a) (by omega) (fun k9 hk => (hcl r a k9 hr (by omega) hk).symm.imp (fun q => by omega) id)) (fun rz2347 Mz2348 hz2349 => ?_)
        rw [hz2349.1, hz2349.2]
        show Zw 2 zm_Rules_hasEmptyAlt 21 [some (.ref k), some (.int (nI r)), some (.int (nI a))] [.int (nI (neC tg it (fun r => em.testBit r) ((r * 4) + a)))] Mq _
        refine zw_ne0N (a := neC tg it (fun r => em.testBit r) ((r * 4) + a)) rfl rfl (by have := neC_le tg it (fun r => em.testBit r) (r * 4 + a); have := hG.2.2.2.1 (r * 4 + a); omega) (fun c21 => ?_) (fun c21 => ?_)
        · -- 21 to 26
          refine zw_inc rfl (x' := (nI (a + 1))) (ls' := [some (.ref k), some (.int (nI r)), some (.int (nI (a + 1)))]) rfl (na (a := a) (b := 1) rfl rfl) rfl ?_
          refine zw_n 1 rfl ?_
          exact ih2 (a + 1) (⟨by omega, fun a9 h => if e : a9 = a then e ▸ c21 else hi2.2 a9 (by omega)⟩) (by omega)
        · -- 21 to 24
          refine zw_n 1 rfl ?_
          exact zw_zret rfl rfl (Or.inr rfl) (⟨by rw [if_pos (he_yes (by omega) c21)]; rfl, rfl⟩)
  exact lp2 _ 0 (⟨Nat.zero_le _, fun a9 h => absurd h (Nat.not_lt_zero _)⟩) (Nat.lt_succ_self _)

set_option maxHeartbeats 4000000 in
set_option maxRecDepth 100000 in
theorem c_findEmpties (Mq : zM) (k : Nat) (n em : Nat) (gn al_ it pt tg bd fr af fb : Nat → Nat) (hR : Seg Mq k (rulL k (n, gn, al_, it, pt, tg, bd, em, fr, af, fb))) (hG : SafeG n gn al_ it pt tg bd) (hcl : CloT n al_ it tg) : Zm 3 zm_Rules_findEmpties [.ref k] Mq (fun r9 M1 => r9 = none ∧ ∃ em9, Seg M1 k (rulL k (n, gn, al_, it, pt, tg, bd, em9, fr, af, fb)) ∧ Sm Mq M1 [k] ∧ em9 < 256 ∧ IsEmp n al_ it tg (fun r => em9.testBit r)) := by
  show Zw 3 zm_Rules_findEmpties 0 [some (.ref k), none, none] [] Mq _
  have hn8 := hG.1
  refine zw_n 2 rfl ?_
  refine zw_put rfl (hR.get 0 rfl) (rfl) (Nat.le_of_ble_eq_true rfl) ?_
  generalize ez2351 : List.set Mq k _ = Mz2350
  refine zw_n 2 (ls' := [some (.ref k), some (.int 0), none]) rfl ?_
  have lp7 : ∀ (n7 : Nat) (ps : Nat) (e1 : Nat) (M_7 : zM), Sm Mq M_7 [k] → M_7[k]? = some (.inr (8, [.int (nI n), .ref (k + 1), .ref (k + 2), .ref (k + 3), .ref (k + 4), .ref (k + 5), .ref (k + 6), .int (nI e1), .ref (k + 7), .ref (k + 8), .ref (k + 9)])) → (ps ≤ n ∧ e1 < 256 ∧ EmP n (emR al_ it tg) ps (fun r => e1.testBit r)) → n - ps < n7 → Zw 3 zm_Rules_findEmpties 7 [some (.ref k), some (.int (nI ps)), none] [] M_7 (fun r9 M1 => r9 = none ∧ ∃ em9, Seg M1 k (rulL k (n, gn, al_, it, pt, tg, bd, em9, fr, af, fb)) ∧ Sm Mq M1 [k] ∧ em9 < 256 ∧ IsEmp n al_ it tg (fun r => em9.testBit r)) := by
    intro n7
    induction n7 with
    | zero => intro ps e1 M_7 _ _ _ h; exact absurd h (Nat.not_lt_zero _)
    | succ n7 ih7 =>
      intro ps e1 M_7 s_7 f7_0 hi7 hm7
      refine zw_n 2 rfl ?_
      refine zw_get (v := .int (nI n)) rfl f7_0 rfl ?_
      refine zw_igeN (a := ps) (b := n) rfl rfl rfl (by omega) (by omega) (fun c12 => ?_) (fun c12 => ?_)
      · -- 12 to 57
        exact zw_vret rfl rfl (⟨rfl, e1, (seg10 f7_0 (Sm.at s_7 (by simp <;> omega) (hR.get 1 rfl)) (Sm.at s_7 (by simp <;> omega) (hR.get 2 rfl)) (Sm.at s_7 (by simp <;> omega) (hR.get 3 rfl)) (Sm.at s_7 (by simp <;> omega) (hR.get 4 rfl)) (Sm.at s_7 (by simp <;> omega) (hR.get 5 rfl)) (Sm.at s_7 (by simp <;> omega) (hR.get 6 rfl)) (Sm.at s_7 (by simp <;> omega) (hR.get 7 rfl)) (Sm.at s_7 (by simp <;> omega) (hR.get 8 rfl)) (Sm.at s_7 (by simp <;> omega) (hR.get 9 rfl))), s_7, hi7.2.1, IsEmp.of hcl ((show ps = n by omega) ▸ hi7.2.2)⟩)
      · -- 12 to 15
        refine zw_n 2 (ls' := [some (.ref k), some (.int (nI ps)), some (.int 0)]) rfl ?_
        have lp17 : ∀ (n17 : Nat) (y : Nat) (e2 : Nat) (M_17 : zM), Sm Mq M_17 [k] → M_17[k]? = some (.inr (8, [.int (nI n), .ref (k + 1), .ref (k + 2), .ref (k + 3), .ref (k + 4), .ref (k + 5), .ref (k + 6), .int (nI e2), .ref (k + 7), .ref (k + 8), .ref (k + 9)])) → (e2 < 256 ∧ EmI n (emR al_ it tg) (fun r => e1.testBit r) y (fun r => e2.testBit r)) → n - y < n17 → Zw 3 zm_Rules_findEmpties 17 [some (.ref k), some (.int (nI ps)), some (.int (nI y))] [] M_17 (fun r9 M1 => r9 = none ∧ ∃ em9, Seg M1 k (rulL k (n, gn, al_, it, pt, tg, bd, em9, fr, af, fb)) ∧ Sm Mq M1 [k] ∧ em9 < 256 ∧ IsEmp n al_ it tg (fun r => em9.testBit r)) := by
          intro n17
          induction n17 with
          | zero => intro y e2 M_17 _ _ _ h; exact absurd h (Nat.not_lt_zero _)
          | succ n17 ih17 =>
            intro y e2 M_17 s_17 f17_0 hi17 hm17
            have hy := hi17.2.y_le
            have he2 := hi17.1
            refine zw_n 2 rfl ?_
            refine zw_get (v := .int (nI n)) rfl f17_0 rfl ?_
            refine zw_igeN (a := y) (b := n) rfl rfl rfl (by omega) (by omega) (fun c22 => ?_) (fun c22 => ?_)
            · -- 22 to 51
              refine zw_inc rfl (x' := (nI (ps + 1))) (ls' := [some (.ref k), some (.int (nI (ps + 1))), some (.int (nI y))]) rfl (na (a := ps) (b := 1) rfl rfl) rfl ?_
              refine zw_n 1 rfl ?_
              refine zw_ls (ls' := [some (.ref k), some (.int (nI (ps + 1))), none]) ⟨Or.inr rfl, Or.inr rfl, Or.inl rfl, trivial⟩ ?_
              exact ih7 (ps + 1) e2 M_17 s_17 f17_0 (⟨by omega, hi17.1, EmI.fin (emR_mo hcl) hi7.2.2 ((show y = n by omega) ▸ hi17.2)⟩) (by omega)
            · -- 22 to 25
              refine zw_n 2 rfl ?_
              refine zw_callV (as := [.int (nI y)]) (rest := []) rfl rfl rfl f17_0 rfl rfl rfl (by decide) (c_hasEmptyAlt M_17 k n e2 gn al_ it pt tg bd fr af fb (seg10 f17_0 (Sm.at s_17 (by simp <;> omega) (hR.get 1 rfl)) (Sm.at s_17 (by simp <;> omega) (hR.get 2 rfl)) (Sm.at s_17 (by simp <;> omega) (hR.get 3 rfl)) (Sm.at s_17 (by simp <;> omega) (hR.get 4 rfl)) (Sm.at s_17 (by simp <;> omega) (hR.get 5 rfl)) (Sm.at s_17 (by simp <;> omega) (hR.get 6 rfl)) (Sm.at s_17 (by simp <;> omega) (hR.get 7 rfl)) (Sm.at s_17 (by simp <;> omega) (hR.get 8 rfl)) (Sm.at s_17 (by simp <;> omega) (hR.get 9 rfl))) hG hi17.1 hcl y (by omega)) (fun rz2352 Mz2353 hz2354 => ?_)
              rw [hz2354.1, hz2354.2]
              show Zw 3 zm_Rules_findEmpties 30 [some (.ref k), some (.int (nI ps)), some (.int (nI y))] [.int (nI (if heB al_ tg it (fun r => e2.testBit r) y = true then 1 else 0))] M_17 _
              refine zw_eq0N (a := if heB al_ tg it (fun r => e2.testBit r) y = true then 1 else 0) rfl rfl (ite_b) (fun c30 => ?_) (fun c30 => ?_)
              · -- 30 to 45
                refine zw_inc rfl (x' := (nI (y + 1))) (ls' := [some (.ref k), some (.int (nI ps)), some (.int (nI (y + 1)))]) rfl (na (a := y) (b := 1) rfl rfl) rfl ?_
                refine zw_n 1 rfl ?_
                exact ih17 (y + 1) e2 M_17 s_17 f17_0 (⟨by first | exact hi17.1 | exact or_lt8 hi17.1 (pow_lt8 (by omega)), EmI.step (emR_mo hcl) hi17.2 (by omega) (fun r _ hr => by first | rfl | exact em_o hr) (by first | exact em_y (heB_iff.mp (ite_ne c30)) | exact em_n (fun q => ite_eq0 c30 (heB_iff.mpr q)))⟩) (by omega)
              · -- 30 to 33
                refine zw_n 2 rfl ?_
                refine zw_get (v := .int (nI e2)) rfl f17_0 rfl ?_
                refine zw_n 3 rfl ?_
                refine zw_top (x' := (nI (2 ^ y))) (isl (by omega)) ?_
                refine zw_n 1 rfl ?_
                refine zw_top (x' := (nI (e2 ||| 2 ^ y))) (ior rfl rfl (by omega) (by have := pow_lt8 (show y < 8 by omega); omega)) ?_
                refine zw_put rfl f17_0 (rfl) (Nat.le_of_ble_eq_true rfl) ?_
                generalize ez2356 : List.set M_17 k _ = Mz2355
                refine zw_inc rfl (x' := (nI (y + 1))) (ls' := [some (.ref k), some (.int (nI ps)), some (.int (nI (y + 1)))]) rfl (na (a := y) (b := 1) rfl rfl) rfl ?_
                refine zw_n 1 rfl ?_
                exact ih17 (y + 1) (e2 ||| 2 ^ y) Mz2355 (Sm.tset s_17 ez2356 (by simp)) (zat_self ez2356 f17_0) (⟨by first | exact hi17.1 | exact or_lt8 hi17.1 (pow_lt8 (by omega)), EmI.step (emR_mo hcl) hi17.2 (by omega) (fun r _ hr => by first | rfl | exact em_o hr) (by first | exact em_y (heB_iff.mp (ite_ne c30)) | exact em_n (fun q => ite_eq0 c30 (heB_iff.mpr q)))⟩) (by omega)
        exact lp17 _ 0 e1 M_7 s_7 f7_0 (⟨hi7.2.1, hi7.2.2.go⟩) (Nat.lt_succ_self _)
  exact lp7 _ 0 0 Mz2350 (Sm.tset Sm.rf ez2351 (by simp)) (zat_self ez2351 (hR.get 0 rfl)) (⟨Nat.zero_le _, by decide, EmP.start (fun r _ => by simp)⟩) (Nat.lt_succ_self _)

set_option maxHeartbeats 4000000 in
set_option maxRecDepth 100000 in
theorem c_cameTo (Mq : zM) (k : Nat) (n em : Nat) (gn al_ it pt tg bd fr af fb : Nat → Nat) (hR : Seg Mq k (rulL k (n, gn, al_, it, pt, tg, bd, em, fr, af, fb))) (hG : SafeG n gn al_ it pt tg bd) (he : em < 256) (hcl : CloT n al_ it tg) (r : Nat) (hr : r < n) : Zm 2 zm_Rules_cameTo [.ref k, .int (nI r)] Mq (fun r9 M1 => ∃ v, r9 = some (.int (nI v)) ∧ M1 = Mq ∧ v < 256 ∧ ∀ t, v.testBit t = true ↔ ed al_ it tg (fun r => em.testBit r) r t) := by
  show Zw 2 zm_Rules_cameTo 0 [some (.ref k), some (.int (nI r)), none, none, none, none, none, none] [] Mq _
  have hn8 := hG.1
  have ha4 := hG.2.2.1 r
  have hNO : NO = 4294967295 := rfl
  refine zw_n 5 (ls' := [some (.ref k), some (.int (nI r)), some (.int 0), none, none, none, none, none]) rfl ?_
  refine zw_top (nm (a := r) (b := 4) rfl rfl) ?_
  refine zw_n 1 (ls' := [some (.ref k), some (.int (nI r)), some (.int 0), some (.int (nI (r * 4))), none, none, none, none]) rfl ?_
  have lp6 : ∀ (n6 : Nat) (cm : Nat) (a : Nat), (a ≤ al_ r ∧ cmI al_ it tg (fun r => em.testBit r) r a 0 cm) → al_ r - a < n6 → Zw 2 zm_Rules_cameTo 6 [some (.ref k), some (.int (nI r)), some (.int (nI cm)), some (.int (nI (r * 4 + a))), none, none, none, none] [] Mq (fun r9 M1 => ∃ v, r9 = some (.int (nI v)) ∧ M1 = Mq ∧ v < 256 ∧ ∀ t, v.testBit t = true ↔ ed al_ it tg (fun r => em.testBit r) r t) := by
    intro n6
    induction n6 with
    | zero => intro cm a _ h; exact absurd h (Nat.not_lt_zero _)
    | succ n6 ih6 =>
      intro cm a hi6 hm6
      refine zw_n 4 rfl ?_
      refine zw_top (nm (a := r) (b := 4) rfl rfl) ?_
      refine zw_n 1 rfl ?_
      refine zw_get (v := .ref (k + 2)) rfl (hR.get 0 rfl) rfl ?_
      refine zw_n 1 rfl ?_
      refine zw_iald (f := ai al_) (j := r) rfl (hR.get 2 rfl) rfl (by decide) (by omega) ?_
      have bz2357 := hG.2.2.1 r
      refine zw_n 1 rfl ?_
      refine zw_top (na (a := r * 4) (b := al_ r) rfl rfl) ?_
      refine zw_igeN (a := r * 4 + a) (b := (r * 4) + (al_ r)) rfl rfl rfl (by omega) (by omega) (fun c17 => ?_) (fun c17 => ?_)
      · -- 17 to 102
        refine zw_n 1 rfl ?_
        exact zw_iret rfl rfl (⟨cm, rfl, rfl, hi6.2.1, hi6.2.ed (by omega)⟩)
      · -- 17 to 20
        refine zw_n 2 rfl ?_
        refine zw_callV (as := [.int (nI (r * 4 + a))]) (rest := []) rfl rfl rfl (hR.get 0 rfl) rfl rfl rfl (by decide) (c_neverEmpty Mq k n em gn al_ it pt tg bd fr af fb (seg10 (hR.get 0 rfl) (hR.get 1 rfl) (hR.get 2 rfl) (hR.get 3 rfl) (hR.get 4 rfl) (hR.get 5 rfl) (hR.get 6 rfl) (hR.get 7 rfl) (hR.get 8 rfl) (hR.get 9 rfl)) hG he (r * 4 + a) (by omega) (fun k9 hk => (hcl r a k9 hr (by omega) hk).symm.imp (fun q => by omega) id)) (fun rz2358 Mz2359 hz2360 => ?_)
        rw [hz2360.1, hz2360.2]
        show Zw 2 zm_Rules_cameTo 25 [some (.ref k), some (.int (nI r)), some (.int (nI cm)), some (.int (nI (r * 4 + a))), none, none, none, none] [.int (nI (neC tg it (fun r => em.testBit r) (r * 4 + a)))] Mq _
        refine zw_n 3 (ls' := [some (.ref k), some (.int (nI r)), some (.int (nI cm)), some (.int (nI (r * 4 + a))), some (.int (nI (neC tg it (fun r => em.testBit r) (r * 4 + a)))), some (.int 0), none, none]) rfl ?_
        have lp30 : ∀ (n30 : Nat) (c2 : Nat) (x : Nat), (x ≤ it (r * 4 + a) ∧ cmI al_ it tg (fun r => em.testBit r) r a x c2) → it (r * 4 + a) - x < n30 → Zw 2 zm_Rules_cameTo 30 [some (.ref k), some (.int (nI r)), some (.int (nI c2)), some (.int (nI (r * 4 + a))), some (.int (nI (neC tg it (fun r => em.testBit r) (r * 4 + a)))), some (.int (nI x)), none, none] [] Mq (fun r9 M1 => ∃ v, r9 = some (.int (nI v)) ∧ M1 = Mq ∧ v < 256 ∧ ∀ t, v.testBit t = true ↔ ed al_ it tg (fun r => em.testBit r) r t) := by
          intro n30
          induction n30 with
          | zero => intro c2 x _ h; exact absurd h (Nat.not_lt_zero _)
          | succ n30 ih30 =>
            intro c2 x hi30 hm30
            have hi5 := hG.2.2.2.1 (r * 4 + a)
            have hc2 := hi30.2.1
            have htx : x < it (r * 4 + a) → tg ((r * 4 + a) * 5 + x) = NO ∨ tg ((r * 4 + a) * 5 + x) < 8 := fun q => (hcl r a x hr (by omega) q).imp id (fun q => by omega)
            refine zw_n 2 rfl ?_
            refine zw_get (v := .ref (k + 3)) rfl (hR.get 0 rfl) rfl ?_
            refine zw_n 1 rfl ?_
            refine zw_iald (f := ai it) (j := (r * 4 + a)) rfl (hR.get 3 rfl) rfl (by decide) (by omega) ?_
            have bz2361 := hG.2.2.2.1 (r * 4 + a)
            refine zw_igeN (a := x) (b := it (r * 4 + a)) rfl rfl rfl (by omega) (by omega) (fun c38 => ?_) (fun c38 => ?_)
            · -- 38 to 96
              refine zw_inc rfl (x' := (nI (r * 4 + a + 1))) (ls' := [some (.ref k), some (.int (nI r)), some (.int (nI c2)), some (.int (nI (r * 4 + a + 1))), some (.int (nI (neC tg it (fun r => em.testBit r) (r * 4 + a)))), some (.int (nI x)), none, none]) rfl (na (a := (r * 4 + a)) (b := 1) rfl rfl) rfl ?_
              refine zw_n 1 rfl ?_
              refine zw_ls (ls' := [some (.ref k), some (.int (nI r)), some (.int (nI c2)), some (.int (nI (r * 4 + a + 1))), none, none, none, none]) ⟨Or.inr rfl, Or.inr rfl, Or.inr rfl, Or.inr rfl, Or.inl rfl, Or.inl rfl, Or.inl rfl, Or.inl rfl, trivial⟩ ?_
              exact ih6 c2 (a + 1) (⟨by omega, hi30.2.next (by omega)⟩) (by omega)
            · -- 38 to 41
              refine zw_n 1 rfl ?_
              refine zw_get (v := .ref (k + 5)) rfl (hR.get 0 rfl) rfl ?_
              refine zw_n 3 rfl ?_
              refine zw_top (nm (a := r * 4 + a) (b := 5) rfl rfl) ?_
              refine zw_n 2 rfl ?_
              refine zw_top (na (a := (r * 4 + a) * 5) (b := x) rfl rfl) ?_
              refine zw_iald (f := ai tg) (j := (((r * 4 + a) * 5) + x)) rfl (hR.get 5 rfl) rfl (by decide) (by omega) ?_
              have bz2362 := hG.2.2.2.2.2.1 (((r * 4 + a) * 5) + x)
              refine zw_n 1 (ls' := [some (.ref k), some (.int (nI r)), some (.int (nI c2)), some (.int (nI (r * 4 + a))), some (.int (nI (neC tg it (fun r => em.testBit r) (r * 4 + a)))), some (.int (nI x)), some (.int (nI (tg (((r * 4 + a) * 5) + x)))), none]) rfl ?_
              have j54 : Zw 2 zm_Rules_cameTo 68 [some (.ref k), some (.int (nI r)), some (.int (nI c2)), some (.int (nI (r * 4 + a))), some (.int (nI (neC tg it (fun r => em.testBit r) (r * 4 + a)))), some (.int (nI x)), some (.int (nI (tg (((r * 4 + a) * 5) + x)))), none] [.int (nI (if tg ((r * 4 + a) * 5 + x) ≠ NO ∧ em.testBit (tg ((r * 4 + a) * 5 + x)) = true then 0 else 1))] Mq (fun r9 M1 => ∃ v, r9 = some (.int (nI v)) ∧ M1 = Mq ∧ v < 256 ∧ ∀ t, v.testBit t = true ↔ ed al_ it tg (fun r => em.testBit r) r t) := by
                refine zw_n 3 (ls' := [some (.ref k), some (.int (nI r)), some (.int (nI c2)), some (.int (nI (r * 4 + a))), some (.int (nI (neC tg it (fun r => em.testBit r) (r * 4 + a)))), some (.int (nI x)), some (.int (nI (tg (((r * 4 + a) * 5) + x)))), some (.int (nI (if tg ((r * 4 + a) * 5 + x) ≠ NO ∧ em.testBit (tg ((r * 4 + a) * 5 + x)) = true then 0 else 1)))]) rfl ?_
                refine zw_ieqM (a := tg (((r * 4 + a) * 5) + x)) rfl rfl (by omega) (fun c73 => ?_) (fun c73 => ?_)
                · -- 73 to 90
                  refine zw_inc rfl (x' := (nI (x + 1))) (ls' := [some (.ref k), some (.int (nI r)), some (.int (nI c2)), some (.int (nI (r * 4 + a))), some (.int (nI (neC tg it (fun r => em.testBit r) (r * 4 + a)))), some (.int (nI (x + 1))), some (.int (nI (tg (((r * 4 + a) * 5) + x)))), some (.int (nI (if tg ((r * 4 + a) * 5 + x) ≠ NO ∧ em.testBit (tg ((r * 4 + a) * 5 + x)) = true then 0 else 1)))]) rfl (na (a := x) (b := 1) rfl rfl) rfl ?_
                  refine zw_n 1 rfl ?_
                  refine zw_ls (ls' := [some (.ref k), some (.int (nI r)), some (.int (nI c2)), some (.int (nI (r * 4 + a))), some (.int (nI (neC tg it (fun r => em.testBit r) (r * 4 + a)))), some (.int (nI (x + 1))), none, none]) ⟨Or.inr rfl, Or.inr rfl, Or.inr rfl, Or.inr rfl, Or.inr rfl, Or.inr rfl, Or.inl rfl, Or.inl rfl, trivial⟩ ?_
                  exact ih30 c2 (x + 1) (⟨by omega, by first | exact hi30.2.yes (by omega) ⟨rfl, c73, (solid_iff (by omega)).mp c80⟩ | exact hi30.2.no (fun t q => c80 ((solid_iff (by omega)).mpr q.2.2)) | exact hi30.2.no (fun t q => q.2.1 (q.1.symm.trans c73))⟩) (by omega)
                · -- 73 to 76
                  refine zw_n 2 rfl ?_
                  refine zw_ineN (a := neC tg it (fun r => em.testBit r) (r * 4 + a)) (b := if tg ((r * 4 + a) * 5 + x) ≠ NO ∧ em.testBit (tg ((r * 4 + a) * 5 + x)) = true then 0 else 1) rfl rfl rfl (by first | (have := neC_le tg it (fun r => em.testBit r) (r * 4 + a); omega) | (split <;> decide)) (by first | (have := neC_le tg it (fun r => em.testBit r) (r * 4 + a); omega) | (split <;> decide)) (fun c80 => ?_) (fun c80 => ?_)
                  · -- 80 to 90
                    refine zw_inc rfl (x' := (nI (x + 1))) (ls' := [some (.ref k), some (.int (nI r)), some (.int (nI c2)), some (.int (nI (r * 4 + a))), some (.int (nI (neC tg it (fun r => em.testBit r) (r * 4 + a)))), some (.int (nI (x + 1))), some (.int (nI (tg (((r * 4 + a) * 5) + x)))), some (.int (nI (if tg ((r * 4 + a) * 5 + x) ≠ NO ∧ em.testBit (tg ((r * 4 + a) * 5 + x)) = true then 0 else 1)))]) rfl (na (a := x) (b := 1) rfl rfl) rfl ?_
                    refine zw_n 1 rfl ?_
                    refine zw_ls (ls' := [some (.ref k), some (.int (nI r)), some (.int (nI c2)), some (.int (nI (r * 4 + a))), some (.int (nI (neC tg it (fun r => em.testBit r) (r * 4 + a)))), some (.int (nI (x + 1))), none, none]) ⟨Or.inr rfl, Or.inr rfl, Or.inr rfl, Or.inr rfl, Or.inr rfl, Or.inr rfl, Or.inl rfl, Or.inl rfl, trivial⟩ ?_
                    exact ih30 c2 (x + 1) (⟨by omega, by first | exact hi30.2.yes (by omega) ⟨rfl, c73, (solid_iff (by omega)).mp c80⟩ | exact hi30.2.no (fun t q => c80 ((solid_iff (by omega)).mpr q.2.2)) | exact hi30.2.no (fun t q => q.2.1 (q.1.symm.trans c73))⟩) (by omega)
                  · -- 80 to 83
                    refine zw_n 4 rfl ?_
                    refine zw_top (x' := (nI (2 ^ tg ((r * 4 + a) * 5 + x)))) (isl (by omega)) ?_
                    refine zw_n 1 rfl ?_
                    refine zw_top (x' := (nI (c2 ||| 2 ^ tg ((r * 4 + a) * 5 + x)))) (ior rfl rfl (by omega) (by have := pow_lt8 (show tg ((r * 4 + a) * 5 + x) < 8 by omega); omega)) ?_
                    refine zw_n 1 (ls' := [some (.ref k), some (.int (nI r)), some (.int (nI (c2 ||| 2 ^ tg ((r * 4 + a) * 5 + x)))), some (.int (nI (r * 4 + a))), some (.int (nI (neC tg it (fun r => em.testBit r) (r * 4 + a)))), some (.int (nI x)), some (.int (nI (tg (((r * 4 + a) * 5) + x)))), some (.int (nI (if tg ((r * 4 + a) * 5 + x) ≠ NO ∧ em.testBit (tg ((r * 4 + a) * 5 + x)) = true then 0 else 1)))]) rfl ?_
                    refine zw_inc rfl (x' := (nI (x + 1))) (ls' := [some (.ref k), some (.int (nI r)), some (.int (nI (c2 ||| 2 ^ tg ((r * 4 + a) * 5 + x)))), some (.int (nI (r * 4 + a))), some (.int (nI (neC tg it (fun r => em.testBit r) (r * 4 + a)))), some (.int (nI (x + 1))), some (.int (nI (tg (((r * 4 + a) * 5) + x)))), some (.int (nI (if tg ((r * 4 + a) * 5 + x) ≠ NO ∧ em.testBit (tg ((r * 4 + a) * 5 + x)) = true then 0 else 1)))]) rfl (na (a := x) (b := 1) rfl rfl) rfl ?_
                    refine zw_n 1 rfl ?_
                    refine zw_ls (ls' := [some (.ref k), some (.int (nI r)), some (.int (nI (c2 ||| 2 ^ tg ((r * 4 + a) * 5 + x)))), some (.int (nI (r * 4 + a))), some (.int (nI (neC tg it (fun r => em.testBit r) (r * 4 + a)))), some (.int (nI (x + 1))), none, none]) ⟨Or.inr rfl, Or.inr rfl, Or.inr rfl, Or.inr rfl, Or.inr rfl, Or.inr rfl, Or.inl rfl, Or.inl rfl, trivial⟩ ?_
                    exact ih30 (c2 ||| 2 ^ tg ((r * 4 + a) * 5 + x)) (x + 1) (⟨by omega, by first | exact hi30.2.yes (by omega) ⟨rfl, c73, (solid_iff (by omega)).mp c80⟩ | exact hi30.2.no (fun t q => c80 ((solid_iff (by omega)).mpr q.2.2)) | exact hi30.2.no (fun t q => q.2.1 (q.1.symm.trans c73))⟩) (by omega)
              refine zw_n 2 rfl ?_
              refine zw_callV (as := [.int (nI (tg (((r * 4 + a) * 5) + x)))]) (rest := []) rfl rfl rfl (hR.get 0 rfl) rfl rfl rfl (by decide) (c_canBeEmpty Mq k n em gn al_ it pt tg bd fr af fb (seg10 (hR.get 0 rfl) (hR.get 1 rfl) (hR.get 2 rfl) (hR.get 3 rfl) (hR.get 4 rfl) (hR.get 5 rfl) (hR.get 6 rfl) (hR.get 7 rfl) (hR.get 8 rfl) (hR.get 9 rfl)) he (tg (((r * 4 + a) * 5) + x)) ((hcl r a x hr (by omega) (by omega)).symm.imp (fun q => by omega) id)) (fun rz2363 Mz2364 hz2365 => ?_)
              rw [hz2365.1, hz2365.2]
              show Zw 2 zm_Rules_cameTo 60 [some (.ref k), some (.int (nI r)), some (.int (nI c2)), some (.int (nI (r * 4 + a))), some (.int (nI (neC tg it (fun r => em.testBit r) (r * 4 + a)))), some (.int (nI x)), some (.int (nI (tg (((r * 4 + a) * 5) + x)))), none] [.int (nI (if (tg (((r * 4 + a) * 5) + x)) ≠ NO ∧ em.testBit (tg (((r * 4 + a) * 5) + x)) = true then 1 else 0))] Mq _
              refine zw_eq0N (a := if (tg (((r * 4 + a) * 5) + x)) ≠ NO ∧ em.testBit (tg (((r * 4 + a) * 5) + x)) = true then 1 else 0) rfl rfl (ite_b) (fun c60 => ?_) (fun c60 => ?_)
              · -- 60 to 67
                refine zw_n 1 rfl ?_
                refine zw_top (x' := nI (if tg ((r * 4 + a) * 5 + x) ≠ NO ∧ em.testBit (tg ((r * 4 + a) * 5 + x)) = true then 0 else 1)) (show nI 1 = nI (if tg ((r * 4 + a) * 5 + x) ≠ NO ∧ em.testBit (tg ((r * 4 + a) * 5 + x)) = true then 0 else 1) by rw [if_neg (ite_eq0 c60)]) ?_
                exact j54
              · -- 60 to 63
                refine zw_n 2 rfl ?_
                refine zw_top (x' := nI (if tg ((r * 4 + a) * 5 + x) ≠ NO ∧ em.testBit (tg ((r * 4 + a) * 5 + x)) = true then 0 else 1)) (show nI 0 = nI (if tg ((r * 4 + a) * 5 + x) ≠ NO ∧ em.testBit (tg ((r * 4 + a) * 5 + x)) = true then 0 else 1) by rw [if_pos (ite_ne c60)]) ?_
                exact j54
        exact lp30 _ cm 0 (⟨Nat.zero_le _, hi6.2⟩) (Nat.lt_succ_self _)
  exact lp6 _ 0 0 (⟨Nat.zero_le _, cmI.start⟩) (Nat.lt_succ_self _)

set_option maxHeartbeats 4000000 in
set_option maxRecDepth 100000 in
theorem c_firstRound (Mq : zM) (k : Nat) (n em : Nat) (gn al_ it pt tg bd fr af fb : Nat → Nat) (hR : Seg Mq k (rulL k (n, gn, al_, it, pt, tg, bd, em, fr, af, fb))) (hG : SafeG n gn al_ it pt tg bd) (he : em < 256) (hcl : CloT n al_ it tg) : Zm 3 zm_Rules_firstRound [.ref k] Mq (fun r9 M1 => ∃ v, r9 = some (.int (nI v)) ∧ M1 = Mq ∧ FirstR n (Rnd n al_ it tg (fun r => em.testBit r)) v) := by
  show Zw 3 zm_Rules_firstRound 0 [some (.ref k), none, none, none, none] [] Mq _
  have hn8 := hG.1
  have hE1 := ed_cl (e := (fun r => em.testBit r)) hcl
  refine zw_n 2 (ls' := [some (.ref k), some (.int 0), none, none, none]) rfl ?_
  have lp2 : ∀ (n2 : Nat) (r : Nat), (r ≤ n ∧ ∀ r9, r9 < r → ¬ Rnd n al_ it tg (fun r => em.testBit r) r9) → n - r < n2 → Zw 3 zm_Rules_firstRound 2 [some (.ref k), some (.int (nI r)), none, none, none] [] Mq (fun r9 M1 => ∃ v, r9 = some (.int (nI v)) ∧ M1 = Mq ∧ FirstR n (Rnd n al_ it tg (fun r => em.testBit r)) v) := by
    intro n2
    induction n2 with
    | zero => intro r _ h; exact absurd h (Nat.not_lt_zero _)
    | succ n2 ih2 =>
      intro r hi2 hm2
      refine zw_n 2 rfl ?_
      refine zw_get (v := .int (nI n)) rfl (hR.get 0 rfl) rfl ?_
      refine zw_igeN (a := r) (b := n) rfl rfl rfl (by omega) (by omega) (fun c7 => ?_) (fun c7 => ?_)
      · -- 7 to 84
        refine zw_n 1 rfl ?_
        exact zw_iret rfl rfl (⟨NO, by decide, rfl, Or.inl ⟨rfl, fun r9 h => hi2.2 r9 (by omega)⟩⟩)
      · -- 7 to 10
        refine zw_n 2 rfl ?_
        refine zw_callV (as := [.int (nI r)]) (rest := []) rfl rfl rfl (hR.get 0 rfl) rfl rfl rfl (by decide) (c_cameTo Mq k n em gn al_ it pt tg bd fr af fb (seg10 (hR.get 0 rfl) (hR.get 1 rfl) (hR.get 2 rfl) (hR.get 3 rfl) (hR.get 4 rfl) (hR.get 5 rfl) (hR.get 6 rfl) (hR.get 7 rfl) (hR.get 8 rfl) (hR.get 9 rfl)) hG he hcl r (by omega)) (fun rz2371 Mz2372 hz2373 => ?_)
        obtain ⟨vz2366, hAz2367, hBz2368, hvz2369, hEz2370⟩ := hz2373
        rw [hAz2367, hBz2368]
        show Zw 3 zm_Rules_firstRound 15 [some (.ref k), some (.int (nI r)), none, none, none] [.int (nI vz2366)] Mq _
        refine zw_n 3 (ls' := [some (.ref k), some (.int (nI r)), some (.int (nI vz2366)), some (.int 0), none]) rfl ?_
        have lp18 : ∀ (n18 : Nat) (c1 : Nat) (p9 : Nat), (p9 ≤ n ∧ fcP (fun r t => r < n ∧ ed al_ it tg (fun r => em.testBit r) r t) r p9 c1) → n - p9 < n18 → Zw 3 zm_Rules_firstRound 18 [some (.ref k), some (.int (nI r)), some (.int (nI c1)), some (.int (nI p9)), none] [] Mq (fun r9 M1 => ∃ v, r9 = some (.int (nI v)) ∧ M1 = Mq ∧ FirstR n (Rnd n al_ it tg (fun r => em.testBit r)) v) := by
          intro n18
          induction n18 with
          | zero => intro c1 p9 _ h; exact absurd h (Nat.not_lt_zero _)
          | succ n18 ih18 =>
            intro c1 p9 hi18 hm18
            have hc1 := hi18.2.1
            refine zw_n 2 rfl ?_
            refine zw_get (v := .int (nI n)) rfl (hR.get 0 rfl) rfl ?_
            refine zw_igeN (a := p9) (b := n) rfl rfl rfl (by omega) (by omega) (fun c23 => ?_) (fun c23 => ?_)
            · -- 23 to 68
              refine zw_n 5 rfl ?_
              refine zw_top (x' := (nI (c1 / 2 ^ r % 2))) (isr (by omega) (by omega)) ?_
              refine zw_eq0N (a := c1 / 2 ^ r % 2) rfl rfl (by omega) (fun c73 => ?_) (fun c73 => ?_)
              · -- 73 to 78
                refine zw_inc rfl (x' := (nI (r + 1))) (ls' := [some (.ref k), some (.int (nI (r + 1))), some (.int (nI c1)), some (.int (nI p9)), none]) rfl (na (a := r) (b := 1) rfl rfl) rfl ?_
                refine zw_n 1 rfl ?_
                refine zw_ls (ls' := [some (.ref k), some (.int (nI (r + 1))), none, none, none]) ⟨Or.inr rfl, Or.inr rfl, Or.inl rfl, Or.inl rfl, Or.inl rfl, trivial⟩ ?_
                exact ih2 (r + 1) (⟨by omega, fun r9 h => if e : r9 = r then (by rw [e]; intro q; have h9 := (fcP.rnd ((show p9 = n by omega) ▸ hi18.2) (fun r o h => (hE1 r o h).2)).mpr q; rw [tb2, if_pos h9] at c73; cases c73) else hi2.2 r9 (by omega)⟩) (by omega)
              · -- 73 to 76
                refine zw_n 1 rfl ?_
                exact zw_iret rfl rfl (⟨r, rfl, rfl, Or.inr ⟨by omega, (fcP.rnd ((show p9 = n by omega) ▸ hi18.2) (fun r o h => (hE1 r o h).2)).mp (by rw [tb2] at c73; exact ite_ne c73), hi2.2⟩⟩)
            · -- 23 to 26
              refine zw_n 2 (ls' := [some (.ref k), some (.int (nI r)), some (.int (nI c1)), some (.int (nI p9)), some (.int 0)]) rfl ?_
              have lp29 : ∀ (n29 : Nat) (c2 : Nat) (y : Nat), (fcI n (fun r t => r < n ∧ ed al_ it tg (fun r => em.testBit r) r t) r y c1 c2) → n - y < n29 → Zw 3 zm_Rules_firstRound 29 [some (.ref k), some (.int (nI r)), some (.int (nI c2)), some (.int (nI p9)), some (.int (nI y))] [] Mq (fun r9 M1 => ∃ v, r9 = some (.int (nI v)) ∧ M1 = Mq ∧ FirstR n (Rnd n al_ it tg (fun r => em.testBit r)) v) := by
                intro n29
                induction n29 with
                | zero => intro c2 y _ h; exact absurd h (Nat.not_lt_zero _)
                | succ n29 ih29 =>
                  intro c2 y hi29 hm29
                  have hy := hi29.1
                  have hc2 := hi29.2.1
                  refine zw_n 2 rfl ?_
                  refine zw_get (v := .int (nI n)) rfl (hR.get 0 rfl) rfl ?_
                  refine zw_igeN (a := y) (b := n) rfl rfl rfl (by omega) (by omega) (fun c35 => ?_) (fun c35 => ?_)
                  · -- 35 to 62
                    refine zw_inc rfl (x' := (nI (p9 + 1))) (ls' := [some (.ref k), some (.int (nI r)), some (.int (nI c2)), some (.int (nI (p9 + 1))), some (.int (nI y))]) rfl (na (a := p9) (b := 1) rfl rfl) rfl ?_
                    refine zw_n 1 rfl ?_
                    refine zw_ls (ls' := [some (.ref k), some (.int (nI r)), some (.int (nI c2)), some (.int (nI (p9 + 1))), none]) ⟨Or.inr rfl, Or.inr rfl, Or.inr rfl, Or.inr rfl, Or.inl rfl, trivial⟩ ?_
                    exact ih18 c2 (p9 + 1) (⟨by omega, fcI.fin hi18.2 ((show y = n by omega) ▸ hi29) hE1⟩) (by omega)
                  · -- 35 to 38
                    refine zw_n 5 rfl ?_
                    refine zw_top (x' := (nI (c2 / 2 ^ y % 2))) (isr (by omega) (by omega)) ?_
                    refine zw_eq0N (a := c2 / 2 ^ y % 2) rfl rfl (by omega) (fun c44 => ?_) (fun c44 => ?_)
                    · -- 44 to 56
                      have hb4 : c2.testBit y = false := by cases hb : c2.testBit y with | false => rfl | true => (rw [tb2, if_pos hb] at c44; cases c44)
                      refine zw_inc rfl (x' := (nI (y + 1))) (ls' := [some (.ref k), some (.int (nI r)), some (.int (nI c2)), some (.int (nI p9)), some (.int (nI (y + 1)))]) rfl (na (a := y) (b := 1) rfl rfl) rfl ?_
                      refine zw_n 1 rfl ?_
                      exact ih29 c2 (y + 1) (hi29.no (by omega) hb4) (by omega)
                    · -- 44 to 47
                      have hb4 : c2.testBit y = true := by rw [tb2] at c44; exact ite_ne c44
                      refine zw_n 3 rfl ?_
                      refine zw_callV (as := [.int (nI y)]) (rest := [.int (nI c2)]) rfl rfl rfl (hR.get 0 rfl) rfl rfl rfl (by decide) (c_cameTo Mq k n em gn al_ it pt tg bd fr af fb (seg10 (hR.get 0 rfl) (hR.get 1 rfl) (hR.get 2 rfl) (hR.get 3 rfl) (hR.get 4 rfl) (hR.get 5 rfl) (hR.get 6 rfl) (hR.get 7 rfl) (hR.get 8 rfl) (hR.get 9 rfl)) hG he hcl y (by omega)) (fun rz2379 Mz2380 hz2381 => ?_)
                      obtain ⟨vz2374, hAz2375, hBz2376, hvz2377, hEz2378⟩ := hz2381
                      rw [hAz2375, hBz2376]
                      show Zw 3 zm_Rules_firstRound 54 [some (.ref k), some (.int (nI r)), some (.int (nI c2)), some (.int (nI p9)), some (.int (nI y))] [.int (nI vz2374), .int (nI c2)] Mq _
                      refine zw_n 1 rfl ?_
                      refine zw_top (x' := (nI (c2 ||| vz2374))) (ior rfl rfl (by omega) (by omega)) ?_
                      refine zw_n 1 (ls' := [some (.ref k), some (.int (nI r)), some (.int (nI (c2 ||| vz2374))), some (.int (nI p9)), some (.int (nI y))]) rfl ?_
                      refine zw_inc rfl (x' := (nI (y + 1))) (ls' := [some (.ref k), some (.int (nI r)), some (.int (nI (c2 ||| vz2374))), some (.int (nI p9)), some (.int (nI (y + 1)))]) rfl (na (a := y) (b := 1) rfl rfl) rfl ?_
                      refine zw_n 1 rfl ?_
                      exact ih29 (c2 ||| vz2374) (y + 1) (hi29.yes (by omega) hb4 hvz2377 (fun t => ⟨fun q => ⟨by omega, (hEz2378 t).mp q⟩, fun q => (hEz2378 t).mpr q.2⟩)) (by omega)
              exact lp29 _ c1 0 (hi18.2.go) (Nat.lt_succ_self _)
        exact lp18 _ vz2366 0 (⟨Nat.zero_le _, hvz2369, fun o q => ⟨0, by omega, (hEz2370 o).mp q⟩, fun o q => (hEz2370 o).mpr q.2⟩) (Nat.lt_succ_self _)
  exact lp2 _ 0 (⟨Nat.zero_le _, fun r9 h => absurd h (Nat.not_lt_zero _)⟩) (Nat.lt_succ_self _)
