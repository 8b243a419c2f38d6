set_option maxHeartbeats 4000000 in
set_option maxRecDepth 100000 in
theorem c_isName (Mq : zM) (c : Nat) (hc : c < 256 ∨ c = NO) : Zm 0 zm_GrammarReader_isName [.int (nI c)] Mq (fun r9 M1 => r9 = some (.int (nI (if nmB c = true then 1 else 0))) ∧ M1 = Mq) := by
  show Zw 0 zm_GrammarReader_isName 0 [some (.int (nI c))] [] Mq _
  refine zw_n 2 rfl ?_
  refine zw_iltZ (a := (nI c).toInt) (b := 65) rfl (rfl) (by decide) (fun c3 => ?_) (fun c3 => ?_)
  · -- 3 to 16
    refine zw_n 1 rfl ?_
    exact zw_zret rfl rfl (Or.inl rfl) (⟨by rw [if_neg (fun q => by have := (nm_iff hc).mpr q; omega)]; rfl, rfl⟩)
  · -- 3 to 6
    refine zw_n 2 rfl ?_
    refine zw_igtZ (a := (nI c).toInt) (b := 90) rfl (rfl) (by decide) (fun c9 => ?_) (fun c9 => ?_)
    · -- 9 to 16
      refine zw_n 1 rfl ?_
      exact zw_zret rfl rfl (Or.inl rfl) (⟨by rw [if_neg (fun q => by have := (nm_iff hc).mpr q; omega)]; rfl, rfl⟩)
    · -- 9 to 12
      refine zw_n 2 rfl ?_
      exact zw_zret rfl rfl (Or.inr rfl) (⟨by rw [if_pos ((nm_iff hc).mp ⟨c3, c9⟩)]; rfl, rfl⟩)

set_option maxHeartbeats 4000000 in
set_option maxRecDepth 100000 in
theorem c_isBond (Mq : zM) (c : Nat) (hc : c < 256 ∨ c = NO) : Zm 0 zm_GrammarReader_isBond [.int (nI c)] Mq (fun r9 M1 => r9 = some (.int (nI (if bnB c = true then 1 else 0))) ∧ M1 = Mq) := by
  show Zw 0 zm_GrammarReader_isBond 0 [some (.int (nI c))] [] Mq _
  refine zw_n 2 rfl ?_
  refine zw_ieqZ (a := (nI c).toInt) (b := 61) rfl (rfl) (by decide) (fun c3 => ?_) (fun c3 => ?_)
  · -- 3 to 18
    refine zw_n 2 rfl ?_
    exact zw_zret rfl rfl (Or.inr rfl) (⟨by rw [if_pos ((bn_iff hc).mp (by omega))]; rfl, rfl⟩)
  · -- 3 to 6
    refine zw_n 2 rfl ?_
    refine zw_ieqZ (a := (nI c).toInt) (b := 62) rfl (rfl) (by decide) (fun c9 => ?_) (fun c9 => ?_)
    · -- 9 to 18
      refine zw_n 2 rfl ?_
      exact zw_zret rfl rfl (Or.inr rfl) (⟨by rw [if_pos ((bn_iff hc).mp (by omega))]; rfl, rfl⟩)
    · -- 9 to 12
      refine zw_n 2 rfl ?_
      refine zw_ineZ (a := (nI c).toInt) (b := 42) rfl (rfl) (by decide) (fun c15 => ?_) (fun c15 => ?_)
      · -- 15 to 22
        refine zw_n 1 rfl ?_
        exact zw_zret rfl rfl (Or.inl rfl) (⟨by rw [if_neg (fun q => by have := (bn_iff hc).mpr q; omega)]; rfl, rfl⟩)
      · -- 15 to 18
        refine zw_n 2 rfl ?_
        exact zw_zret rfl rfl (Or.inr rfl) (⟨by rw [if_pos ((bn_iff hc).mp (by omega))]; rfl, rfl⟩)

set_option maxHeartbeats 4000000 in
set_option maxRecDepth 100000 in
theorem c_here (Mq : zM) (tl p : Nat) (tx : Nat → Nat) (n em : Nat) (gn al_ it pt tg bd fr af fb np pp : Nat → Nat) (hD : RdS Mq tl p tx n em gn al_ it pt tg bd fr af fb np pp) (htx : ∀ q, tx q < 256) (htl : tl ≤ 240) (hp : p ≤ tl) : Zm 0 zm_GrammarReader_here [.ref 2] Mq (fun r9 M1 => r9 = some (.int (nI (hr tx tl p))) ∧ M1 = Mq) := by
  show Zw 0 zm_GrammarReader_here 0 [some (.ref 2)] [] Mq _
  refine zw_n 1 rfl ?_
  refine zw_get (v := .int (nI p)) rfl hD.1 rfl ?_
  refine zw_n 1 rfl ?_
  refine zw_get (v := .int (nI tl)) rfl hD.1 rfl ?_
  refine zw_igeN (a := p) (b := tl) rfl rfl rfl (by omega) (by omega) (fun c8 => ?_) (fun c8 => ?_)
  · -- 8 to 23
    refine zw_n 1 rfl ?_
    exact zw_iret rfl rfl (⟨by rw [hr, if_neg (by omega)]; rfl, rfl⟩)
  · -- 8 to 11
    refine zw_n 1 rfl ?_
    refine zw_get (v := .ref 1) rfl hD.1 rfl ?_
    refine zw_n 1 rfl ?_
    refine zw_get (v := .int (nI p)) rfl hD.1 rfl ?_
    refine zw_iald (f := ai tx) (j := p) rfl hD.2.1 rfl (by decide) (by omega) ?_
    have bz2382 := htx p
    refine zw_n 1 rfl ?_
    exact zw_iret rfl rfl (⟨by rw [hr, if_pos (by omega)]; rfl, rfl⟩)

set_option maxHeartbeats 4000000 in
set_option maxRecDepth 100000 in
theorem c_skipBlanks (Mq : zM) (tl p : Nat) (tx : Nat → Nat) (n em : Nat) (gn al_ it pt tg bd fr af fb np pp : Nat → Nat) (hD : RdS Mq tl p tx n em gn al_ it pt tg bd fr af fb np pp) (htx : ∀ q, tx q < 256) (htl : tl ≤ 240) (hp : p ≤ tl) : Zm 0 zm_GrammarReader_skipBlanks [.ref 2] Mq (fun r9 M1 => r9 = none ∧ M1[2]? = some (.inr (1, [.ref 3, .ref 13, .ref 14, .ref 1, .int (nI tl), .int (nI (sk tx tl p))])) ∧ Sm Mq M1 [2]) := by
  show Zw 0 zm_GrammarReader_skipBlanks 0 [some (.ref 2)] [] Mq _
  have lp0 : ∀ (n0 : Nat) (q : Nat) (M_0 : zM), Sm Mq M_0 [2] → M_0[2]? = some (.inr (1, [.ref 3, .ref 13, .ref 14, .ref 1, .int (nI tl), .int (nI q)])) → (p ≤ q ∧ q ≤ tl ∧ sk tx tl p = sk tx tl q) → tl - q < n0 → Zw 0 zm_GrammarReader_skipBlanks 0 [some (.ref 2)] [] M_0 (fun r9 M1 => r9 = none ∧ M1[2]? = some (.inr (1, [.ref 3, .ref 13, .ref 14, .ref 1, .int (nI tl), .int (nI (sk tx tl p))])) ∧ Sm Mq M1 [2]) := by
    intro n0
    induction n0 with
    | zero => intro q M_0 _ _ _ h; exact absurd h (Nat.not_lt_zero _)
    | succ n0 ih0 =>
      intro q M_0 s_0 f0_0 hi0 hm0
      refine zw_n 1 rfl ?_
      refine zw_get (v := .int (nI q)) rfl f0_0 rfl ?_
      refine zw_n 1 rfl ?_
      refine zw_get (v := .int (nI tl)) rfl f0_0 rfl ?_
      refine zw_igeN (a := q) (b := tl) rfl rfl rfl (by omega) (by omega) (fun c8 => ?_) (fun c8 => ?_)
      · -- 8 to 38
        exact zw_vret rfl rfl (⟨rfl, by rw [hi0.2.2, sk_e (by omega)]; exact f0_0, s_0⟩)
      · -- 8 to 11
        refine zw_n 1 rfl ?_
        refine zw_get (v := .ref 1) rfl f0_0 rfl ?_
        refine zw_n 1 rfl ?_
        refine zw_get (v := .int (nI q)) rfl f0_0 rfl ?_
        refine zw_iald (f := ai tx) (j := q) rfl (Sm.at s_0 (by decide) hD.2.1) rfl (by decide) (by omega) ?_
        have bz2383 := htx q
        refine zw_n 1 rfl ?_
        refine zw_ineN (a := tx q) (b := 32) rfl rfl rfl (by omega) (by omega) (fun c22 => ?_) (fun c22 => ?_)
        · -- 22 to 38
          exact zw_vret rfl rfl (⟨rfl, by rw [hi0.2.2, sk_e (by omega)]; exact f0_0, s_0⟩)
        · -- 22 to 25
          refine zw_n 2 rfl ?_
          refine zw_get (v := .int (nI q)) rfl f0_0 rfl ?_
          refine zw_n 2 rfl ?_
          refine zw_top (na (a := q) (b := 1) rfl rfl) ?_
          refine zw_put rfl f0_0 (rfl) (Nat.le_of_ble_eq_true rfl) ?_
          generalize ez2385 : List.set M_0 2 _ = Mz2384
          refine zw_n 1 rfl ?_
          exact ih0 (q + 1) Mz2384 (Sm.tset s_0 ez2385 (by decide)) (zat_self ez2385 f0_0) (⟨by omega, by omega, hi0.2.2.trans (sk_s (by omega) c22)⟩) (by omega)
  exact lp0 _ p Mq Sm.rf hD.1 (⟨Nat.le_refl _, hp, rfl⟩) (Nat.lt_succ_self _)

set_option maxHeartbeats 4000000 in
set_option maxRecDepth 100000 in
theorem c_readItem (Mq : zM) (tl p : Nat) (tx : Nat → Nat) (n em : Nat) (gn al_ it pt tg bd fr af fb np pp : Nat → Nat) (hD : RdS Mq tl p tx n em gn al_ it pt tg bd fr af fb np pp) (htx : ∀ q, tx q < 256) (htl : tl ≤ 240) (hp : p ≤ tl) (hSI : SafeI pt tg bd) (x : Nat) (hx : x < 160) : Zm 1 zm_GrammarReader_readItem [.ref 2, .int (nI x)] Mq (fun r9 M1 => r9 = some (.int (nI (iF tx tl p))) ∧ ∃ pt9 tg9 bd9 pp9, RdS M1 tl (if iF tx tl p = NO then iE tx tl p else iF tx tl p) tx n em gn al_ it pt9 tg9 bd9 fr af fb np pp9 ∧ Sm Mq M1 [2, 7, 8, 9, 14] ∧ ItD tx tl p x pt tg bd pp pt9 tg9 bd9 pp9 ∧ SafeI pt9 tg9 bd9) := by
  show Zw 1 zm_GrammarReader_readItem 0 [some (.ref 2), some (.int (nI x)), none] [] Mq _
  refine zw_n 1 rfl ?_
  refine zw_get (v := .ref 3) rfl hD.1 rfl ?_
  refine zw_get (v := .ref 9) rfl (hD.2.2.2.2.get 0 rfl) rfl ?_
  refine zw_n 2 rfl ?_
  refine zw_iastN (g := bd) (j := x) (v := 0) rfl (hD.2.2.2.2.get 6 rfl) rfl (by decide) (by omega) (rfl) ?_
  generalize ez2387 : List.set Mq 9 _ = Mz2386
  refine zw_n 1 rfl ?_
  refine zw_callV (as := []) (rest := []) rfl rfl rfl (zat_set ez2387 (by decide) hD.1) rfl rfl rfl (by decide) (c_here Mz2386 tl p tx n em gn al_ it pt tg (up bd x 0) fr af fb np pp ⟨zat_set ez2387 (by decide) hD.1, zat_set ez2387 (by decide) hD.2.1, zat_set ez2387 (by decide) hD.2.2.1, zat_set ez2387 (by decide) hD.2.2.2.1, (seg10 (zat_set ez2387 (by decide) (hD.2.2.2.2.get 0 rfl)) (zat_set ez2387 (by decide) (hD.2.2.2.2.get 1 rfl)) (zat_set ez2387 (by decide) (hD.2.2.2.2.get 2 rfl)) (zat_set ez2387 (by decide) (hD.2.2.2.2.get 3 rfl)) (zat_set ez2387 (by decide) (hD.2.2.2.2.get 4 rfl)) (zat_set ez2387 (by decide) (hD.2.2.2.2.get 5 rfl)) (zat_self ez2387 (hD.2.2.2.2.get 6 rfl)) (zat_set ez2387 (by decide) (hD.2.2.2.2.get 7 rfl)) (zat_set ez2387 (by decide) (hD.2.2.2.2.get 8 rfl)) (zat_set ez2387 (by decide) (hD.2.2.2.2.get 9 rfl)))⟩ htx htl (by omega)) (fun rz2388 Mz2389 hz2390 => ?_)
  rw [hz2390.1, hz2390.2]
  show Zw 1 zm_GrammarReader_readItem 14 [some (.ref 2), some (.int (nI x)), none] [.int (nI (hr tx tl p))] Mz2386 _
  refine zw_callS (as := [.int (nI (hr tx tl p))]) (rest := []) rfl rfl rfl rfl rfl rfl (by decide) (c_isBond _ (hr tx tl p) (hr_lt htx)) (fun rz2391 Mz2392 hz2393 => ?_)
  rw [hz2393.1, hz2393.2]
  show Zw 1 zm_GrammarReader_readItem 17 [some (.ref 2), some (.int (nI x)), none] [.int (nI (if bnB (hr tx tl p) = true then 1 else 0))] Mz2386 _
  refine zw_eq0N (a := if bnB (hr tx tl p) = true then 1 else 0) rfl rfl (ite_b) (fun c17 => ?_) (fun c17 => ?_)
  · -- 17 to 47
    have hQ : iQ tx tl p = p := by unfold iQ; rw [if_neg (ite_eq0 c17)]
    refine zw_n 1 rfl ?_
    refine zw_callV (as := []) (rest := []) rfl rfl rfl (zat_set ez2387 (by decide) hD.1) rfl rfl rfl (by decide) (c_here Mz2386 tl p tx n em gn al_ it pt tg (up bd x 0) fr af fb np pp ⟨zat_set ez2387 (by decide) hD.1, zat_set ez2387 (by decide) hD.2.1, zat_set ez2387 (by decide) hD.2.2.1, zat_set ez2387 (by decide) hD.2.2.2.1, (seg10 (zat_set ez2387 (by decide) (hD.2.2.2.2.get 0 rfl)) (zat_set ez2387 (by decide) (hD.2.2.2.2.get 1 rfl)) (zat_set ez2387 (by decide) (hD.2.2.2.2.get 2 rfl)) (zat_set ez2387 (by decide) (hD.2.2.2.2.get 3 rfl)) (zat_set ez2387 (by decide) (hD.2.2.2.2.get 4 rfl)) (zat_set ez2387 (by decide) (hD.2.2.2.2.get 5 rfl)) (zat_self ez2387 (hD.2.2.2.2.get 6 rfl)) (zat_set ez2387 (by decide) (hD.2.2.2.2.get 7 rfl)) (zat_set ez2387 (by decide) (hD.2.2.2.2.get 8 rfl)) (zat_set ez2387 (by decide) (hD.2.2.2.2.get 9 rfl)))⟩ htx htl (by omega)) (fun rz2394 Mz2395 hz2396 => ?_)
    rw [hz2396.1, hz2396.2]
    show Zw 1 zm_GrammarReader_readItem 51 [some (.ref 2), some (.int (nI x)), none] [.int (nI (hr tx tl p))] Mz2386 _
    refine zw_callS (as := [.int (nI (hr tx tl p))]) (rest := []) rfl rfl rfl rfl rfl rfl (by decide) (c_isName _ (hr tx tl p) (hr_lt htx)) (fun rz2397 Mz2398 hz2399 => ?_)
    rw [hz2399.1, hz2399.2]
    show Zw 1 zm_GrammarReader_readItem 54 [some (.ref 2), some (.int (nI x)), none] [.int (nI (if nmB (hr tx tl p) = true then 1 else 0))] Mz2386 _
    refine zw_n 2 (ls' := [some (.ref 2), some (.int (nI x)), some (.int (nI (if nmB (hr tx tl p) = true then 1 else 0)))]) rfl ?_
    refine zw_ne0N (a := if nmB (hr tx tl p) = true then 1 else 0) rfl rfl (ite_b) (fun c56 => ?_) (fun c56 => ?_)
    · -- 56 to 98
      have h99 : p < tl := nm_in (ite_ne c56)
      refine zw_n 1 rfl ?_
      refine zw_get (v := .ref 3) rfl (zat_set ez2387 (by decide) hD.1) rfl ?_
      refine zw_get (v := .ref 7) rfl (zat_set ez2387 (by decide) (hD.2.2.2.2.get 0 rfl)) rfl ?_
      refine zw_n 2 rfl ?_
      refine zw_callV (as := []) (rest := [.int (nI x), .ref 7]) rfl rfl rfl (zat_set ez2387 (by decide) hD.1) rfl rfl rfl (by decide) (c_here Mz2386 tl p tx n em gn al_ it pt tg (up bd x 0) fr af fb np pp ⟨zat_set ez2387 (by decide) hD.1, zat_set ez2387 (by decide) hD.2.1, zat_set ez2387 (by decide) hD.2.2.1, zat_set ez2387 (by decide) hD.2.2.2.1, (seg10 (zat_set ez2387 (by decide) (hD.2.2.2.2.get 0 rfl)) (zat_set ez2387 (by decide) (hD.2.2.2.2.get 1 rfl)) (zat_set ez2387 (by decide) (hD.2.2.2.2.get 2 rfl)) (zat_set ez2387 (by decide) (hD.2.2.2.2.get 3 rfl)) (zat_set ez2387 (by decide) (hD.2.2.2.2.get 4 rfl)) (zat_set ez2387 (by decide) (hD.2.2.2.2.get 5 rfl)) (zat_self ez2387 (hD.2.2.2.2.get 6 rfl)) (zat_set ez2387 (by decide) (hD.2.2.2.2.get 7 rfl)) (zat_set ez2387 (by decide) (hD.2.2.2.2.get 8 rfl)) (zat_set ez2387 (by decide) (hD.2.2.2.2.get 9 rfl)))⟩ htx htl (by omega)) (fun rz2400 Mz2401 hz2402 => ?_)
      rw [hz2402.1, hz2402.2]
      show Zw 1 zm_GrammarReader_readItem 110 [some (.ref 2), some (.int (nI x)), some (.int (nI (if nmB (hr tx tl p) = true then 1 else 0)))] [.int (nI (hr tx tl p)), .int (nI x), .ref 7] Mz2386 _
      refine zw_iastN (g := pt) (j := x) (v := (hr tx tl p)) rfl (zat_set ez2387 (by decide) (hD.2.2.2.2.get 4 rfl)) rfl (by decide) (by omega) (rfl) ?_
      generalize ez2404 : List.set Mz2386 7 _ = Mz2403
      refine zw_n 1 rfl ?_
      refine zw_get (v := .ref 3) rfl (zat_set ez2404 (by decide) (zat_set ez2387 (by decide) hD.1)) rfl ?_
      refine zw_get (v := .ref 8) rfl (zat_set ez2404 (by decide) (zat_set ez2387 (by decide) (hD.2.2.2.2.get 0 rfl))) rfl ?_
      refine zw_n 2 rfl ?_
      refine zw_eq0N (a := if nmB (hr tx tl p) = true then 1 else 0) rfl rfl (ite_b) (fun c120 => ?_) (fun c120 => ?_)
      · -- 120 to 127
        exfalso
        exact c56 c120
      · -- 120 to 123
        refine zw_n 2 rfl ?_
        refine zw_iastN (g := tg) (j := x) (v := 0) rfl (zat_set ez2404 (by decide) (zat_set ez2387 (by decide) (hD.2.2.2.2.get 5 rfl))) rfl (by decide) (by omega) (rfl) ?_
        generalize ez2406 : List.set Mz2403 8 _ = Mz2405
        refine zw_n 1 rfl ?_
        refine zw_get (v := .ref 14) rfl (zat_set ez2406 (by decide) (zat_set ez2404 (by decide) (zat_set ez2387 (by decide) hD.1))) rfl ?_
        refine zw_n 2 rfl ?_
        refine zw_get (v := .int (nI p)) rfl (zat_set ez2406 (by decide) (zat_set ez2404 (by decide) (zat_set ez2387 (by decide) hD.1))) rfl ?_
        refine zw_iastN (g := pp) (j := x) (v := p) rfl (zat_set ez2406 (by decide) (zat_set ez2404 (by decide) (zat_set ez2387 (by decide) hD.2.2.2.1))) rfl (by decide) (by omega) (rfl) ?_
        generalize ez2408 : List.set Mz2405 14 _ = Mz2407
        refine zw_n 2 rfl ?_
        refine zw_get (v := .int (nI p)) rfl (zat_set ez2408 (by decide) (zat_set ez2406 (by decide) (zat_set ez2404 (by decide) (zat_set ez2387 (by decide) hD.1)))) rfl ?_
        refine zw_n 2 rfl ?_
        refine zw_top (na (a := p) (b := 1) rfl rfl) ?_
        refine zw_put rfl (zat_set ez2408 (by decide) (zat_set ez2406 (by decide) (zat_set ez2404 (by decide) (zat_set ez2387 (by decide) hD.1)))) (rfl) (Nat.le_of_ble_eq_true rfl) ?_
        generalize ez2410 : List.set Mz2407 2 _ = Mz2409
        refine zw_n 1 rfl ?_
        refine zw_iret rfl rfl ?_
        have hF9 : iF tx tl p = NO := by unfold iF; rw [hQ, if_pos (ite_ne c56)]
        have hv9 := nm_lt (ite_ne c56)
        exact ⟨by rw [hF9]; decide, (up pt x (hr tx tl p)), (up tg x 0), (up bd x 0), (up pp x p), by rw [if_pos hF9, show iE tx tl p = p + 1 from by unfold iE; rw [hQ, if_pos (ite_ne c56)]]; exact ⟨zat_self ez2410 (zat_set ez2408 (by decide) (zat_set ez2406 (by decide) (zat_set ez2404 (by decide) (zat_set ez2387 (by decide) hD.1)))), zat_set ez2410 (by decide) (zat_set ez2408 (by decide) (zat_set ez2406 (by decide) (zat_set ez2404 (by decide) (zat_set ez2387 (by decide) hD.2.1)))), zat_set ez2410 (by decide) (zat_set ez2408 (by decide) (zat_set ez2406 (by decide) (zat_set ez2404 (by decide) (zat_set ez2387 (by decide) hD.2.2.1)))), zat_set ez2410 (by decide) (zat_self ez2408 (zat_set ez2406 (by decide) (zat_set ez2404 (by decide) (zat_set ez2387 (by decide) hD.2.2.2.1)))), (seg10 (zat_set ez2410 (by decide) (zat_set ez2408 (by decide) (zat_set ez2406 (by decide) (zat_set ez2404 (by decide) (zat_set ez2387 (by decide) (hD.2.2.2.2.get 0 rfl)))))) (zat_set ez2410 (by decide) (zat_set ez2408 (by decide) (zat_set ez2406 (by decide) (zat_set ez2404 (by decide) (zat_set ez2387 (by decide) (hD.2.2.2.2.get 1 rfl)))))) (zat_set ez2410 (by decide) (zat_set ez2408 (by decide) (zat_set ez2406 (by decide) (zat_set ez2404 (by decide) (zat_set ez2387 (by decide) (hD.2.2.2.2.get 2 rfl)))))) (zat_set ez2410 (by decide) (zat_set ez2408 (by decide) (zat_set ez2406 (by decide) (zat_set ez2404 (by decide) (zat_set ez2387 (by decide) (hD.2.2.2.2.get 3 rfl)))))) (zat_set ez2410 (by decide) (zat_set ez2408 (by decide) (zat_set ez2406 (by decide) (zat_self ez2404 (zat_set ez2387 (by decide) (hD.2.2.2.2.get 4 rfl)))))) (zat_set ez2410 (by decide) (zat_set ez2408 (by decide) (zat_self ez2406 (zat_set ez2404 (by decide) (zat_set ez2387 (by decide) (hD.2.2.2.2.get 5 rfl)))))) (zat_set ez2410 (by decide) (zat_set ez2408 (by decide) (zat_set ez2406 (by decide) (zat_set ez2404 (by decide) (zat_self ez2387 (hD.2.2.2.2.get 6 rfl)))))) (zat_set ez2410 (by decide) (zat_set ez2408 (by decide) (zat_set ez2406 (by decide) (zat_set ez2404 (by decide) (zat_set ez2387 (by decide) (hD.2.2.2.2.get 7 rfl)))))) (zat_set ez2410 (by decide) (zat_set ez2408 (by decide) (zat_set ez2406 (by decide) (zat_set ez2404 (by decide) (zat_set ez2387 (by decide) (hD.2.2.2.2.get 8 rfl)))))) (zat_set ez2410 (by decide) (zat_set ez2408 (by decide) (zat_set ez2406 (by decide) (zat_set ez2404 (by decide) (zat_set ez2387 (by decide) (hD.2.2.2.2.get 9 rfl)))))))⟩, Sm.tset (Sm.tset (Sm.tset (Sm.tset (Sm.tset Sm.rf ez2387 (by decide)) ez2404 (by decide)) ez2406 (by decide)) ez2408 (by decide)) ez2410 (by decide), ⟨fun q hq => ⟨up_n hq, up_n hq, up_n hq, up_n hq⟩, fun _ => ⟨by rw [up_s]; unfold iV; rw [hQ, if_pos (ite_ne c56)], by rw [up_s]; unfold iN; rw [hQ, if_pos (ite_ne c56)], by rw [up_s]; unfold iB; rw [if_neg (ite_eq0 c17)], fun _ => by rw [up_s, hQ]⟩⟩, up_lt hSI.1 (by omega), tg_up hSI.2.1 (by omega), up_lt hSI.2.2 (by decide)⟩
    · -- 56 to 59
      refine zw_n 1 rfl ?_
      refine zw_callV (as := []) (rest := []) rfl rfl rfl (zat_set ez2387 (by decide) hD.1) rfl rfl rfl (by decide) (c_here Mz2386 tl p tx n em gn al_ it pt tg (up bd x 0) fr af fb np pp ⟨zat_set ez2387 (by decide) hD.1, zat_set ez2387 (by decide) hD.2.1, zat_set ez2387 (by decide) hD.2.2.1, zat_set ez2387 (by decide) hD.2.2.2.1, (seg10 (zat_set ez2387 (by decide) (hD.2.2.2.2.get 0 rfl)) (zat_set ez2387 (by decide) (hD.2.2.2.2.get 1 rfl)) (zat_set ez2387 (by decide) (hD.2.2.2.2.get 2 rfl)) (zat_set ez2387 (by decide) (hD.2.2.2.2.get 3 rfl)) (zat_set ez2387 (by decide) (hD.2.2.2.2.get 4 rfl)) (zat_set ez2387 (by decide) (hD.2.2.2.2.get 5 rfl)) (zat_self ez2387 (hD.2.2.2.2.get 6 rfl)) (zat_set ez2387 (by decide) (hD.2.2.2.2.get 7 rfl)) (zat_set ez2387 (by decide) (hD.2.2.2.2.get 8 rfl)) (zat_set ez2387 (by decide) (hD.2.2.2.2.get 9 rfl)))⟩ htx htl (by omega)) (fun rz2411 Mz2412 hz2413 => ?_)
      rw [hz2413.1, hz2413.2]
      show Zw 1 zm_GrammarReader_readItem 63 [some (.ref 2), some (.int (nI x)), some (.int (nI (if nmB (hr tx tl p) = true then 1 else 0)))] [.int (nI (hr tx tl p))] Mz2386 _
      refine zw_n 1 rfl ?_
      refine zw_ieq rfl (fun c65 => ?_) (fun c65 => ?_)
      · -- 65 to 73
        have h65 : hr tx tl p = 39 := (ceq (hr_lt htx) (show 39 < 256 by decide)).mp c65
        have h66 : p < tl := hr_in (by rw [h65]; decide)
        refine zw_n 2 rfl ?_
        refine zw_get (v := .int (nI p)) rfl (zat_set ez2387 (by decide) hD.1) rfl ?_
        refine zw_n 2 rfl ?_
        refine zw_top (na (a := p) (b := 1) rfl rfl) ?_
        refine zw_put rfl (zat_set ez2387 (by decide) hD.1) (rfl) (Nat.le_of_ble_eq_true rfl) ?_
        generalize ez2415 : List.set Mz2386 2 _ = Mz2414
        refine zw_n 1 rfl ?_
        refine zw_callV (as := []) (rest := []) rfl rfl rfl (zat_self ez2415 (zat_set ez2387 (by decide) hD.1)) rfl rfl rfl (by decide) (c_here Mz2414 tl (p + 1) tx n em gn al_ it pt tg (up bd x 0) fr af fb np pp ⟨zat_self ez2415 (zat_set ez2387 (by decide) hD.1), zat_set ez2415 (by decide) (zat_set ez2387 (by decide) hD.2.1), zat_set ez2415 (by decide) (zat_set ez2387 (by decide) hD.2.2.1), zat_set ez2415 (by decide) (zat_set ez2387 (by decide) hD.2.2.2.1), (seg10 (zat_set ez2415 (by decide) (zat_set ez2387 (by decide) (hD.2.2.2.2.get 0 rfl))) (zat_set ez2415 (by decide) (zat_set ez2387 (by decide) (hD.2.2.2.2.get 1 rfl))) (zat_set ez2415 (by decide) (zat_set ez2387 (by decide) (hD.2.2.2.2.get 2 rfl))) (zat_set ez2415 (by decide) (zat_set ez2387 (by decide) (hD.2.2.2.2.get 3 rfl))) (zat_set ez2415 (by decide) (zat_set ez2387 (by decide) (hD.2.2.2.2.get 4 rfl))) (zat_set ez2415 (by decide) (zat_set ez2387 (by decide) (hD.2.2.2.2.get 5 rfl))) (zat_set ez2415 (by decide) (zat_self ez2387 (hD.2.2.2.2.get 6 rfl))) (zat_set ez2415 (by decide) (zat_set ez2387 (by decide) (hD.2.2.2.2.get 7 rfl))) (zat_set ez2415 (by decide) (zat_set ez2387 (by decide) (hD.2.2.2.2.get 8 rfl))) (zat_set ez2415 (by decide) (zat_set ez2387 (by decide) (hD.2.2.2.2.get 9 rfl))))⟩ htx htl (by omega)) (fun rz2416 Mz2417 hz2418 => ?_)
        rw [hz2418.1, hz2418.2]
        show Zw 1 zm_GrammarReader_readItem 87 [some (.ref 2), some (.int (nI x)), some (.int (nI (if nmB (hr tx tl p) = true then 1 else 0)))] [.int (nI (hr tx tl (p + 1)))] Mz2414 _
        refine zw_callS (as := [.int (nI (hr tx tl (p + 1)))]) (rest := []) rfl rfl rfl rfl rfl rfl (by decide) (c_isSign _ _) (fun rz2419 Mz2420 hz2421 => ?_)
        rw [hz2421.1, hz2421.2]
        show Zw 1 zm_GrammarReader_readItem 90 [some (.ref 2), some (.int (nI x)), some (.int (nI (if nmB (hr tx tl p) = true then 1 else 0)))] [.int (nI (if 33 ≤ (nI (hr tx tl (p + 1))).toInt ∧ (nI (hr tx tl (p + 1))).toInt ≤ 126 then 1 else 0))] Mz2414 _
        refine zw_ne0N (a := if 33 ≤ (nI (hr tx tl (p + 1))).toInt ∧ (nI (hr tx tl (p + 1))).toInt ≤ 126 then 1 else 0) rfl rfl (ite_b) (fun c90 => ?_) (fun c90 => ?_)
        · -- 90 to 98
          have h99 : p + 1 < tl := sg_in ((sg_iff2 (hr_lt htx)).mp (ite_ne c90))
          refine zw_n 1 rfl ?_
          refine zw_get (v := .ref 3) rfl (zat_self ez2415 (zat_set ez2387 (by decide) hD.1)) rfl ?_
          refine zw_get (v := .ref 7) rfl (zat_set ez2415 (by decide) (zat_set ez2387 (by decide) (hD.2.2.2.2.get 0 rfl))) rfl ?_
          refine zw_n 2 rfl ?_
          refine zw_callV (as := []) (rest := [.int (nI x), .ref 7]) rfl rfl rfl (zat_self ez2415 (zat_set ez2387 (by decide) hD.1)) rfl rfl rfl (by decide) (c_here Mz2414 tl (p + 1) tx n em gn al_ it pt tg (up bd x 0) fr af fb np pp ⟨zat_self ez2415 (zat_set ez2387 (by decide) hD.1), zat_set ez2415 (by decide) (zat_set ez2387 (by decide) hD.2.1), zat_set ez2415 (by decide) (zat_set ez2387 (by decide) hD.2.2.1), zat_set ez2415 (by decide) (zat_set ez2387 (by decide) hD.2.2.2.1), (seg10 (zat_set ez2415 (by decide) (zat_set ez2387 (by decide) (hD.2.2.2.2.get 0 rfl))) (zat_set ez2415 (by decide) (zat_set ez2387 (by decide) (hD.2.2.2.2.get 1 rfl))) (zat_set ez2415 (by decide) (zat_set ez2387 (by decide) (hD.2.2.2.2.get 2 rfl))) (zat_set ez2415 (by decide) (zat_set ez2387 (by decide) (hD.2.2.2.2.get 3 rfl))) (zat_set ez2415 (by decide) (zat_set ez2387 (by decide) (hD.2.2.2.2.get 4 rfl))) (zat_set ez2415 (by decide) (zat_set ez2387 (by decide) (hD.2.2.2.2.get 5 rfl))) (zat_set ez2415 (by decide) (zat_self ez2387 (hD.2.2.2.2.get 6 rfl))) (zat_set ez2415 (by decide) (zat_set ez2387 (by decide) (hD.2.2.2.2.get 7 rfl))) (zat_set ez2415 (by decide) (zat_set ez2387 (by decide) (hD.2.2.2.2.get 8 rfl))) (zat_set ez2415 (by decide) (zat_set ez2387 (by decide) (hD.2.2.2.2.get 9 rfl))))⟩ htx htl (by omega)) (fun rz2422 Mz2423 hz2424 => ?_)
          rw [hz2424.1, hz2424.2]
          show Zw 1 zm_GrammarReader_readItem 110 [some (.ref 2), some (.int (nI x)), some (.int (nI (if nmB (hr tx tl p) = true then 1 else 0)))] [.int (nI (hr tx tl (p + 1))), .int (nI x), .ref 7] Mz2414 _
          refine zw_iastN (g := pt) (j := x) (v := (hr tx tl (p + 1))) rfl (zat_set ez2415 (by decide) (zat_set ez2387 (by decide) (hD.2.2.2.2.get 4 rfl))) rfl (by decide) (by omega) (rfl) ?_
          generalize ez2426 : List.set Mz2414 7 _ = Mz2425
          refine zw_n 1 rfl ?_
          refine zw_get (v := .ref 3) rfl (zat_set ez2426 (by decide) (zat_self ez2415 (zat_set ez2387 (by decide) hD.1))) rfl ?_
          refine zw_get (v := .ref 8) rfl (zat_set ez2426 (by decide) (zat_set ez2415 (by decide) (zat_set ez2387 (by decide) (hD.2.2.2.2.get 0 rfl)))) rfl ?_
          refine zw_n 2 rfl ?_
          refine zw_eq0N (a := if nmB (hr tx tl p) = true then 1 else 0) rfl rfl (ite_b) (fun c120 => ?_) (fun c120 => ?_)
          · -- 120 to 127
            refine zw_n 1 rfl ?_
            refine zw_iastN (g := tg) (j := x) (v := 4294967295) rfl (zat_set ez2426 (by decide) (zat_set ez2415 (by decide) (zat_set ez2387 (by decide) (hD.2.2.2.2.get 5 rfl)))) rfl (by decide) (by omega) (by decide) ?_
            generalize ez2428 : List.set Mz2425 8 _ = Mz2427
            refine zw_n 1 rfl ?_
            refine zw_get (v := .ref 14) rfl (zat_set ez2428 (by decide) (zat_set ez2426 (by decide) (zat_self ez2415 (zat_set ez2387 (by decide) hD.1)))) rfl ?_
            refine zw_n 2 rfl ?_
            refine zw_get (v := .int (nI (p + 1))) rfl (zat_set ez2428 (by decide) (zat_set ez2426 (by decide) (zat_self ez2415 (zat_set ez2387 (by decide) hD.1)))) rfl ?_
            refine zw_iastN (g := pp) (j := x) (v := (p + 1)) rfl (zat_set ez2428 (by decide) (zat_set ez2426 (by decide) (zat_set ez2415 (by decide) (zat_set ez2387 (by decide) hD.2.2.2.1)))) rfl (by decide) (by omega) (rfl) ?_
            generalize ez2430 : List.set Mz2427 14 _ = Mz2429
            refine zw_n 2 rfl ?_
            refine zw_get (v := .int (nI (p + 1))) rfl (zat_set ez2430 (by decide) (zat_set ez2428 (by decide) (zat_set ez2426 (by decide) (zat_self ez2415 (zat_set ez2387 (by decide) hD.1))))) rfl ?_
            refine zw_n 2 rfl ?_
            refine zw_top (na (a := p + 1) (b := 1) rfl rfl) ?_
            refine zw_put rfl (zat_set ez2430 (by decide) (zat_set ez2428 (by decide) (zat_set ez2426 (by decide) (zat_self ez2415 (zat_set ez2387 (by decide) hD.1))))) (rfl) (Nat.le_of_ble_eq_true rfl) ?_
            generalize ez2432 : List.set Mz2429 2 _ = Mz2431
            refine zw_n 1 rfl ?_
            refine zw_iret rfl rfl ?_
            have hF9 : iF tx tl p = NO := by unfold iF; rw [hQ, if_neg (ite_eq0 c56), if_pos h65, if_pos ((sg_iff2 (hr_lt htx)).mp (ite_ne c90))]
            have hv9 := sg_b ((sg_iff2 (hr_lt htx)).mp (ite_ne c90))
            exact ⟨by rw [hF9]; decide, (up pt x (hr tx tl (p + 1))), (up tg x 4294967295), (up bd x 0), (up pp x (p + 1)), by rw [if_pos hF9, show iE tx tl p = (p + 1) + 1 from by unfold iE; rw [hQ, if_neg (ite_eq0 c56)]]; exact ⟨zat_self ez2432 (zat_set ez2430 (by decide) (zat_set ez2428 (by decide) (zat_set ez2426 (by decide) (zat_self ez2415 (zat_set ez2387 (by decide) hD.1))))), zat_set ez2432 (by decide) (zat_set ez2430 (by decide) (zat_set ez2428 (by decide) (zat_set ez2426 (by decide) (zat_set ez2415 (by decide) (zat_set ez2387 (by decide) hD.2.1))))), zat_set ez2432 (by decide) (zat_set ez2430 (by decide) (zat_set ez2428 (by decide) (zat_set ez2426 (by decide) (zat_set ez2415 (by decide) (zat_set ez2387 (by decide) hD.2.2.1))))), zat_set ez2432 (by decide) (zat_self ez2430 (zat_set ez2428 (by decide) (zat_set ez2426 (by decide) (zat_set ez2415 (by decide) (zat_set ez2387 (by decide) hD.2.2.2.1))))), (seg10 (zat_set ez2432 (by decide) (zat_set ez2430 (by decide) (zat_set ez2428 (by decide) (zat_set ez2426 (by decide) (zat_set ez2415 (by decide) (zat_set ez2387 (by decide) (hD.2.2.2.2.get 0 rfl))))))) (zat_set ez2432 (by decide) (zat_set ez2430 (by decide) (zat_set ez2428 (by decide) (zat_set ez2426 (by decide) (zat_set ez2415 (by decide) (zat_set ez2387 (by decide) (hD.2.2.2.2.get 1 rfl))))))) (zat_set ez2432 (by decide) (zat_set ez2430 (by decide) (zat_set ez2428 (by decide) (zat_set ez2426 (by decide) (zat_set ez2415 (by decide) (zat_set ez2387 (by decide) (hD.2.2.2.2.get 2 rfl))))))) (zat_set ez2432 (by decide) (zat_set ez2430 (by decide) (zat_set ez2428 (by decide) (zat_set ez2426 (by decide) (zat_set ez2415 (by decide) (zat_set ez2387 (by decide) (hD.2.2.2.2.get 3 rfl))))))) (zat_set ez2432 (by decide) (zat_set ez2430 (by decide) (zat_set ez2428 (by decide) (zat_self ez2426 (zat_set ez2415 (by decide) (zat_set ez2387 (by decide) (hD.2.2.2.2.get 4 rfl))))))) (zat_set ez2432 (by decide) (zat_set ez2430 (by decide) (zat_self ez2428 (zat_set ez2426 (by decide) (zat_set ez2415 (by decide) (zat_set ez2387 (by decide) (hD.2.2.2.2.get 5 rfl))))))) (zat_set ez2432 (by decide) (zat_set ez2430 (by decide) (zat_set ez2428 (by decide) (zat_set ez2426 (by decide) (zat_set ez2415 (by decide) (zat_self ez2387 (hD.2.2.2.2.get 6 rfl))))))) (zat_set ez2432 (by decide) (zat_set ez2430 (by decide) (zat_set ez2428 (by decide) (zat_set ez2426 (by decide) (zat_set ez2415 (by decide) (zat_set ez2387 (by decide) (hD.2.2.2.2.get 7 rfl))))))) (zat_set ez2432 (by decide) (zat_set ez2430 (by decide) (zat_set ez2428 (by decide) (zat_set ez2426 (by decide) (zat_set ez2415 (by decide) (zat_set ez2387 (by decide) (hD.2.2.2.2.get 8 rfl))))))) (zat_set ez2432 (by decide) (zat_set ez2430 (by decide) (zat_set ez2428 (by decide) (zat_set ez2426 (by decide) (zat_set ez2415 (by decide) (zat_set ez2387 (by decide) (hD.2.2.2.2.get 9 rfl))))))))⟩, Sm.tset (Sm.tset (Sm.tset (Sm.tset (Sm.tset (Sm.tset Sm.rf ez2387 (by decide)) ez2415 (by decide)) ez2426 (by decide)) ez2428 (by decide)) ez2430 (by decide)) ez2432 (by decide), ⟨fun q hq => ⟨up_n hq, up_n hq, up_n hq, up_n hq⟩, fun _ => ⟨by rw [up_s]; unfold iV; rw [hQ, if_neg (ite_eq0 c56)], by rw [up_s]; unfold iN; rw [hQ, if_neg (ite_eq0 c56)], by rw [up_s]; unfold iB; rw [if_neg (ite_eq0 c17)], fun q => absurd (by unfold iN at q; rw [hQ] at q; exact q) (ite_eq0 c56)⟩⟩, up_lt hSI.1 (by omega), tg_up hSI.2.1 (by omega), up_lt hSI.2.2 (by decide)⟩
          · -- 120 to 123
            exfalso
            exact c120 c56
        · -- 90 to 93
          refine zw_n 1 rfl ?_
          refine zw_get (v := .int (nI (p + 1))) rfl (zat_self ez2415 (zat_set ez2387 (by decide) hD.1)) rfl ?_
          refine zw_iret rfl rfl ?_
          have hF9 : iF tx tl p = p + 1 := by unfold iF; rw [hQ, if_neg (ite_eq0 c56), if_pos h65, if_neg (fun q => ite_eq0 c90 ((sg_iff2 (hr_lt htx)).mpr q))]
          have hn9 : iF tx tl p ≠ NO := by rw [hF9]; unfold NO; omega
          exact ⟨by rw [hF9], pt, tg, (up bd x 0), pp, by rw [if_neg hn9, hF9]; exact ⟨zat_self ez2415 (zat_set ez2387 (by decide) hD.1), zat_set ez2415 (by decide) (zat_set ez2387 (by decide) hD.2.1), zat_set ez2415 (by decide) (zat_set ez2387 (by decide) hD.2.2.1), zat_set ez2415 (by decide) (zat_set ez2387 (by decide) hD.2.2.2.1), (seg10 (zat_set ez2415 (by decide) (zat_set ez2387 (by decide) (hD.2.2.2.2.get 0 rfl))) (zat_set ez2415 (by decide) (zat_set ez2387 (by decide) (hD.2.2.2.2.get 1 rfl))) (zat_set ez2415 (by decide) (zat_set ez2387 (by decide) (hD.2.2.2.2.get 2 rfl))) (zat_set ez2415 (by decide) (zat_set ez2387 (by decide) (hD.2.2.2.2.get 3 rfl))) (zat_set ez2415 (by decide) (zat_set ez2387 (by decide) (hD.2.2.2.2.get 4 rfl))) (zat_set ez2415 (by decide) (zat_set ez2387 (by decide) (hD.2.2.2.2.get 5 rfl))) (zat_set ez2415 (by decide) (zat_self ez2387 (hD.2.2.2.2.get 6 rfl))) (zat_set ez2415 (by decide) (zat_set ez2387 (by decide) (hD.2.2.2.2.get 7 rfl))) (zat_set ez2415 (by decide) (zat_set ez2387 (by decide) (hD.2.2.2.2.get 8 rfl))) (zat_set ez2415 (by decide) (zat_set ez2387 (by decide) (hD.2.2.2.2.get 9 rfl))))⟩, Sm.tset (Sm.tset Sm.rf ez2387 (by decide)) ez2415 (by decide), ⟨fun q hq => ⟨rfl, rfl, up_n hq, rfl⟩, fun q => absurd q hn9⟩, hSI.1, hSI.2.1, up_lt hSI.2.2 (by decide)⟩
      · -- 65 to 68
        have h65 : ¬ hr tx tl p = 39 := fun q => c65 ((ceq (hr_lt htx) (by decide)).mpr q)
        refine zw_n 1 rfl ?_
        refine zw_get (v := .int (nI p)) rfl (zat_set ez2387 (by decide) hD.1) rfl ?_
        refine zw_iret rfl rfl ?_
        have hF9 : iF tx tl p = p := by unfold iF; rw [hQ, if_neg (ite_eq0 c56), if_neg h65]
        have hn9 : iF tx tl p ≠ NO := by rw [hF9]; unfold NO; omega
        exact ⟨by rw [hF9], pt, tg, (up bd x 0), pp, by rw [if_neg hn9, hF9]; exact ⟨zat_set ez2387 (by decide) hD.1, zat_set ez2387 (by decide) hD.2.1, zat_set ez2387 (by decide) hD.2.2.1, zat_set ez2387 (by decide) hD.2.2.2.1, (seg10 (zat_set ez2387 (by decide) (hD.2.2.2.2.get 0 rfl)) (zat_set ez2387 (by decide) (hD.2.2.2.2.get 1 rfl)) (zat_set ez2387 (by decide) (hD.2.2.2.2.get 2 rfl)) (zat_set ez2387 (by decide) (hD.2.2.2.2.get 3 rfl)) (zat_set ez2387 (by decide) (hD.2.2.2.2.get 4 rfl)) (zat_set ez2387 (by decide) (hD.2.2.2.2.get 5 rfl)) (zat_self ez2387 (hD.2.2.2.2.get 6 rfl)) (zat_set ez2387 (by decide) (hD.2.2.2.2.get 7 rfl)) (zat_set ez2387 (by decide) (hD.2.2.2.2.get 8 rfl)) (zat_set ez2387 (by decide) (hD.2.2.2.2.get 9 rfl)))⟩, Sm.tset Sm.rf ez2387 (by decide), ⟨fun q hq => ⟨rfl, rfl, up_n hq, rfl⟩, fun q => absurd q hn9⟩, hSI.1, hSI.2.1, up_lt hSI.2.2 (by decide)⟩
  · -- 17 to 20
    have hb7 := bn_in (ite_ne c17)
    refine zw_n 1 rfl ?_
    refine zw_get (v := .ref 3) rfl (zat_set ez2387 (by decide) hD.1) rfl ?_
    refine zw_get (v := .ref 9) rfl (zat_set ez2387 (by decide) (hD.2.2.2.2.get 0 rfl)) rfl ?_
    refine zw_n 2 rfl ?_
    refine zw_callV (as := []) (rest := [.int (nI x), .ref 9]) rfl rfl rfl (zat_set ez2387 (by decide) hD.1) rfl rfl rfl (by decide) (c_here Mz2386 tl p tx n em gn al_ it pt tg (up bd x 0) fr af fb np pp ⟨zat_set ez2387 (by decide) hD.1, zat_set ez2387 (by decide) hD.2.1, zat_set ez2387 (by decide) hD.2.2.1, zat_set ez2387 (by decide) hD.2.2.2.1, (seg10 (zat_set ez2387 (by decide) (hD.2.2.2.2.get 0 rfl)) (zat_set ez2387 (by decide) (hD.2.2.2.2.get 1 rfl)) (zat_set ez2387 (by decide) (hD.2.2.2.2.get 2 rfl)) (zat_set ez2387 (by decide) (hD.2.2.2.2.get 3 rfl)) (zat_set ez2387 (by decide) (hD.2.2.2.2.get 4 rfl)) (zat_set ez2387 (by decide) (hD.2.2.2.2.get 5 rfl)) (zat_self ez2387 (hD.2.2.2.2.get 6 rfl)) (zat_set ez2387 (by decide) (hD.2.2.2.2.get 7 rfl)) (zat_set ez2387 (by decide) (hD.2.2.2.2.get 8 rfl)) (zat_set ez2387 (by decide) (hD.2.2.2.2.get 9 rfl)))⟩ htx htl (by omega)) (fun rz2433 Mz2434 hz2435 => ?_)
    rw [hz2435.1, hz2435.2]
    show Zw 1 zm_GrammarReader_readItem 32 [some (.ref 2), some (.int (nI x)), none] [.int (nI (hr tx tl p)), .int (nI x), .ref 9] Mz2386 _
    refine zw_iastN (g := (up bd x 0)) (j := x) (v := (hr tx tl p)) rfl (zat_self ez2387 (hD.2.2.2.2.get 6 rfl)) rfl (by decide) (by omega) (rfl) ?_
    generalize ez2437 : List.set Mz2386 9 _ = Mz2436
    refine zw_n 2 rfl ?_
    refine zw_get (v := .int (nI p)) rfl (zat_set ez2437 (by decide) (zat_set ez2387 (by decide) hD.1)) rfl ?_
    refine zw_n 2 rfl ?_
    refine zw_top (na (a := p) (b := 1) rfl rfl) ?_
    refine zw_put rfl (zat_set ez2437 (by decide) (zat_set ez2387 (by decide) hD.1)) (rfl) (Nat.le_of_ble_eq_true rfl) ?_
    generalize ez2439 : List.set Mz2436 2 _ = Mz2438
    refine zw_n 1 rfl ?_
    refine zw_callV (as := []) (rest := []) rfl rfl rfl (zat_self ez2439 (zat_set ez2437 (by decide) (zat_set ez2387 (by decide) hD.1))) rfl rfl rfl (by decide) (c_skipBlanks Mz2438 tl (p + 1) tx n em gn al_ it pt tg (up (up bd x 0) x (hr tx tl p)) fr af fb np pp ⟨zat_self ez2439 (zat_set ez2437 (by decide) (zat_set ez2387 (by decide) hD.1)), zat_set ez2439 (by decide) (zat_set ez2437 (by decide) (zat_set ez2387 (by decide) hD.2.1)), zat_set ez2439 (by decide) (zat_set ez2437 (by decide) (zat_set ez2387 (by decide) hD.2.2.1)), zat_set ez2439 (by decide) (zat_set ez2437 (by decide) (zat_set ez2387 (by decide) hD.2.2.2.1)), (seg10 (zat_set ez2439 (by decide) (zat_set ez2437 (by decide) (zat_set ez2387 (by decide) (hD.2.2.2.2.get 0 rfl)))) (zat_set ez2439 (by decide) (zat_set ez2437 (by decide) (zat_set ez2387 (by decide) (hD.2.2.2.2.get 1 rfl)))) (zat_set ez2439 (by decide) (zat_set ez2437 (by decide) (zat_set ez2387 (by decide) (hD.2.2.2.2.get 2 rfl)))) (zat_set ez2439 (by decide) (zat_set ez2437 (by decide) (zat_set ez2387 (by decide) (hD.2.2.2.2.get 3 rfl)))) (zat_set ez2439 (by decide) (zat_set ez2437 (by decide) (zat_set ez2387 (by decide) (hD.2.2.2.2.get 4 rfl)))) (zat_set ez2439 (by decide) (zat_set ez2437 (by decide) (zat_set ez2387 (by decide) (hD.2.2.2.2.get 5 rfl)))) (zat_set ez2439 (by decide) (zat_self ez2437 (zat_self ez2387 (hD.2.2.2.2.get 6 rfl)))) (zat_set ez2439 (by decide) (zat_set ez2437 (by decide) (zat_set ez2387 (by decide) (hD.2.2.2.2.get 7 rfl)))) (zat_set ez2439 (by decide) (zat_set ez2437 (by decide) (zat_set ez2387 (by decide) (hD.2.2.2.2.get 8 rfl)))) (zat_set ez2439 (by decide) (zat_set ez2437 (by decide) (zat_set ez2387 (by decide) (hD.2.2.2.2.get 9 rfl)))))⟩ htx htl (by omega)) (fun rz2443 Mz2444 hz2445 => ?_)
    obtain ⟨hAz2440, hBz2441, hSz2442⟩ := hz2445
    rw [hAz2440]
    have hgehBz2441 := sk_ge tx tl (p + 1)
    have hlehBz2441 := @sk_le tx tl (p + 1) (by omega)
    show Zw 1 zm_GrammarReader_readItem 47 [some (.ref 2), some (.int (nI x)), none] [] Mz2444 _
    have hQ : iQ tx tl p = sk tx tl (p + 1) := by unfold iQ; rw [if_pos (ite_ne c17)]
    refine zw_n 1 rfl ?_
    refine zw_callV (as := []) (rest := []) rfl rfl rfl hBz2441 rfl rfl rfl (by decide) (c_here Mz2444 tl (sk tx tl (p + 1)) tx n em gn al_ it pt tg (up (up bd x 0) x (hr tx tl p)) fr af fb np pp ⟨hBz2441, Sm.at hSz2442 (by decide) (zat_set ez2439 (by decide) (zat_set ez2437 (by decide) (zat_set ez2387 (by decide) hD.2.1))), Sm.at hSz2442 (by decide) (zat_set ez2439 (by decide) (zat_set ez2437 (by decide) (zat_set ez2387 (by decide) hD.2.2.1))), Sm.at hSz2442 (by decide) (zat_set ez2439 (by decide) (zat_set ez2437 (by decide) (zat_set ez2387 (by decide) hD.2.2.2.1))), (seg10 (Sm.at hSz2442 (by decide) (zat_set ez2439 (by decide) (zat_set ez2437 (by decide) (zat_set ez2387 (by decide) (hD.2.2.2.2.get 0 rfl))))) (Sm.at hSz2442 (by decide) (zat_set ez2439 (by decide) (zat_set ez2437 (by decide) (zat_set ez2387 (by decide) (hD.2.2.2.2.get 1 rfl))))) (Sm.at hSz2442 (by decide) (zat_set ez2439 (by decide) (zat_set ez2437 (by decide) (zat_set ez2387 (by decide) (hD.2.2.2.2.get 2 rfl))))) (Sm.at hSz2442 (by decide) (zat_set ez2439 (by decide) (zat_set ez2437 (by decide) (zat_set ez2387 (by decide) (hD.2.2.2.2.get 3 rfl))))) (Sm.at hSz2442 (by decide) (zat_set ez2439 (by decide) (zat_set ez2437 (by decide) (zat_set ez2387 (by decide) (hD.2.2.2.2.get 4 rfl))))) (Sm.at hSz2442 (by decide) (zat_set ez2439 (by decide) (zat_set ez2437 (by decide) (zat_set ez2387 (by decide) (hD.2.2.2.2.get 5 rfl))))) (Sm.at hSz2442 (by decide) (zat_set ez2439 (by decide) (zat_self ez2437 (zat_self ez2387 (hD.2.2.2.2.get 6 rfl))))) (Sm.at hSz2442 (by decide) (zat_set ez2439 (by decide) (zat_set ez2437 (by decide) (zat_set ez2387 (by decide) (hD.2.2.2.2.get 7 rfl))))) (Sm.at hSz2442 (by decide) (zat_set ez2439 (by decide) (zat_set ez2437 (by decide) (zat_set ez2387 (by decide) (hD.2.2.2.2.get 8 rfl))))) (Sm.at hSz2442 (by decide) (zat_set ez2439 (by decide) (zat_set ez2437 (by decide) (zat_set ez2387 (by decide) (hD.2.2.2.2.get 9 rfl))))))⟩ htx htl (by omega)) (fun rz2446 Mz2447 hz2448 => ?_)
    rw [hz2448.1, hz2448.2]
    show Zw 1 zm_GrammarReader_readItem 51 [some (.ref 2), some (.int (nI x)), none] [.int (nI (hr tx tl (sk tx tl (p + 1))))] Mz2444 _
    refine zw_callS (as := [.int (nI (hr tx tl (sk tx tl (p + 1))))]) (rest := []) rfl rfl rfl rfl rfl rfl (by decide) (c_isName _ (hr tx tl (sk tx tl (p + 1))) (hr_lt htx)) (fun rz2449 Mz2450 hz2451 => ?_)
    rw [hz2451.1, hz2451.2]
    show Zw 1 zm_GrammarReader_readItem 54 [some (.ref 2), some (.int (nI x)), none] [.int (nI (if nmB (hr tx tl (sk tx tl (p + 1))) = true then 1 else 0))] Mz2444 _
    refine zw_n 2 (ls' := [some (.ref 2), some (.int (nI x)), some (.int (nI (if nmB (hr tx tl (sk tx tl (p + 1))) = true then 1 else 0)))]) rfl ?_
    refine zw_ne0N (a := if nmB (hr tx tl (sk tx tl (p + 1))) = true then 1 else 0) rfl rfl (ite_b) (fun c56 => ?_) (fun c56 => ?_)
    · -- 56 to 98
      have h99 : sk tx tl (p + 1) < tl := nm_in (ite_ne c56)
      refine zw_n 1 rfl ?_
      refine zw_get (v := .ref 3) rfl hBz2441 rfl ?_
      refine zw_get (v := .ref 7) rfl (Sm.at hSz2442 (by decide) (zat_set ez2439 (by decide) (zat_set ez2437 (by decide) (zat_set ez2387 (by decide) (hD.2.2.2.2.get 0 rfl))))) rfl ?_
      refine zw_n 2 rfl ?_
      refine zw_callV (as := []) (rest := [.int (nI x), .ref 7]) rfl rfl rfl hBz2441 rfl rfl rfl (by decide) (c_here Mz2444 tl (sk tx tl (p + 1)) tx n em gn al_ it pt tg (up (up bd x 0) x (hr tx tl p)) fr af fb np pp ⟨hBz2441, Sm.at hSz2442 (by decide) (zat_set ez2439 (by decide) (zat_set ez2437 (by decide) (zat_set ez2387 (by decide) hD.2.1))), Sm.at hSz2442 (by decide) (zat_set ez2439 (by decide) (zat_set ez2437 (by decide) (zat_set ez2387 (by decide) hD.2.2.1))), Sm.at hSz2442 (by decide) (zat_set ez2439 (by decide) (zat_set ez2437 (by decide) (zat_set ez2387 (by decide) hD.2.2.2.1))), (seg10 (Sm.at hSz2442 (by decide) (zat_set ez2439 (by decide) (zat_set ez2437 (by decide) (zat_set ez2387 (by decide) (hD.2.2.2.2.get 0 rfl))))) (Sm.at hSz2442 (by decide) (zat_set ez2439 (by decide) (zat_set ez2437 (by decide) (zat_set ez2387 (by decide) (hD.2.2.2.2.get 1 rfl))))) (Sm.at hSz2442 (by decide) (zat_set ez2439 (by decide) (zat_set ez2437 (by decide) (zat_set ez2387 (by decide) (hD.2.2.2.2.get 2 rfl))))) (Sm.at hSz2442 (by decide) (zat_set ez2439 (by decide) (zat_set ez2437 (by decide) (zat_set ez2387 (by decide) (hD.2.2.2.2.get 3 rfl))))) (Sm.at hSz2442 (by decide) (zat_set ez2439 (by decide) (zat_set ez2437 (by decide) (zat_set ez2387 (by decide) (hD.2.2.2.2.get 4 rfl))))) (Sm.at hSz2442 (by decide) (zat_set ez2439 (by decide) (zat_set ez2437 (by decide) (zat_set ez2387 (by decide) (hD.2.2.2.2.get 5 rfl))))) (Sm.at hSz2442 (by decide) (zat_set ez2439 (by decide) (zat_self ez2437 (zat_self ez2387 (hD.2.2.2.2.get 6 rfl))))) (Sm.at hSz2442 (by decide) (zat_set ez2439 (by decide) (zat_set ez2437 (by decide) (zat_set ez2387 (by decide) (hD.2.2.2.2.get 7 rfl))))) (Sm.at hSz2442 (by decide) (zat_set ez2439 (by decide) (zat_set ez2437 (by decide) (zat_set ez2387 (by decide) (hD.2.2.2.2.get 8 rfl))))) (Sm.at hSz2442 (by decide) (zat_set ez2439 (by decide) (zat_set ez2437 (by decide) (zat_set ez2387 (by decide) (hD.2.2.2.2.get 9 rfl))))))⟩ htx htl (by omega)) (fun rz2452 Mz2453 hz2454 => ?_)
      rw [hz2454.1, hz2454.2]
      show Zw 1 zm_GrammarReader_readItem 110 [some (.ref 2), some (.int (nI x)), some (.int (nI (if nmB (hr tx tl (sk tx tl (p + 1))) = true then 1 else 0)))] [.int (nI (hr tx tl (sk tx tl (p + 1)))), .int (nI x), .ref 7] Mz2444 _
      refine zw_iastN (g := pt) (j := x) (v := (hr tx tl (sk tx tl (p + 1)))) rfl (Sm.at hSz2442 (by decide) (zat_set ez2439 (by decide) (zat_set ez2437 (by decide) (zat_set ez2387 (by decide) (hD.2.2.2.2.get 4 rfl))))) rfl (by decide) (by omega) (rfl) ?_
      generalize ez2456 : List.set Mz2444 7 _ = Mz2455
      refine zw_n 1 rfl ?_
      refine zw_get (v := .ref 3) rfl (zat_set ez2456 (by decide) hBz2441) rfl ?_
      refine zw_get (v := .ref 8) rfl (zat_set ez2456 (by decide) (Sm.at hSz2442 (by decide) (zat_set ez2439 (by decide) (zat_set ez2437 (by decide) (zat_set ez2387 (by decide) (hD.2.2.2.2.get 0 rfl)))))) rfl ?_
      refine zw_n 2 rfl ?_
      refine zw_eq0N (a := if nmB (hr tx tl (sk tx tl (p + 1))) = true then 1 else 0) rfl rfl (ite_b) (fun c120 => ?_) (fun c120 => ?_)
      · -- 120 to 127
        exfalso
        exact c56 c120
      · -- 120 to 123
        refine zw_n 2 rfl ?_
        refine zw_iastN (g := tg) (j := x) (v := 0) rfl (zat_set ez2456 (by decide) (Sm.at hSz2442 (by decide) (zat_set ez2439 (by decide) (zat_set ez2437 (by decide) (zat_set ez2387 (by decide) (hD.2.2.2.2.get 5 rfl)))))) rfl (by decide) (by omega) (rfl) ?_
        generalize ez2458 : List.set Mz2455 8 _ = Mz2457
        refine zw_n 1 rfl ?_
        refine zw_get (v := .ref 14) rfl (zat_set ez2458 (by decide) (zat_set ez2456 (by decide) hBz2441)) rfl ?_
        refine zw_n 2 rfl ?_
        refine zw_get (v := .int (nI (sk tx tl (p + 1)))) rfl (zat_set ez2458 (by decide) (zat_set ez2456 (by decide) hBz2441)) rfl ?_
        refine zw_iastN (g := pp) (j := x) (v := (sk tx tl (p + 1))) rfl (zat_set ez2458 (by decide) (zat_set ez2456 (by decide) (Sm.at hSz2442 (by decide) (zat_set ez2439 (by decide) (zat_set ez2437 (by decide) (zat_set ez2387 (by decide) hD.2.2.2.1)))))) rfl (by decide) (by omega) (rfl) ?_
        generalize ez2460 : List.set Mz2457 14 _ = Mz2459
        refine zw_n 2 rfl ?_
        refine zw_get (v := .int (nI (sk tx tl (p + 1)))) rfl (zat_set ez2460 (by decide) (zat_set ez2458 (by decide) (zat_set ez2456 (by decide) hBz2441))) rfl ?_
        refine zw_n 2 rfl ?_
        refine zw_top (na (a := sk tx tl (p + 1)) (b := 1) rfl rfl) ?_
        refine zw_put rfl (zat_set ez2460 (by decide) (zat_set ez2458 (by decide) (zat_set ez2456 (by decide) hBz2441))) (rfl) (Nat.le_of_ble_eq_true rfl) ?_
        generalize ez2462 : List.set Mz2459 2 _ = Mz2461
        refine zw_n 1 rfl ?_
        refine zw_iret rfl rfl ?_
        have hF9 : iF tx tl p = NO := by unfold iF; rw [hQ, if_pos (ite_ne c56)]
        have hv9 := nm_lt (ite_ne c56)
        exact ⟨by rw [hF9]; decide, (up pt x (hr tx tl (sk tx tl (p + 1)))), (up tg x 0), (up (up bd x 0) x (hr tx tl p)), (up pp x (sk tx tl (p + 1))), by rw [if_pos hF9, show iE tx tl p = (sk tx tl (p + 1)) + 1 from by unfold iE; rw [hQ, if_pos (ite_ne c56)]]; exact ⟨zat_self ez2462 (zat_set ez2460 (by decide) (zat_set ez2458 (by decide) (zat_set ez2456 (by decide) hBz2441))), zat_set ez2462 (by decide) (zat_set ez2460 (by decide) (zat_set ez2458 (by decide) (zat_set ez2456 (by decide) (Sm.at hSz2442 (by decide) (zat_set ez2439 (by decide) (zat_set ez2437 (by decide) (zat_set ez2387 (by decide) hD.2.1))))))), zat_set ez2462 (by decide) (zat_set ez2460 (by decide) (zat_set ez2458 (by decide) (zat_set ez2456 (by decide) (Sm.at hSz2442 (by decide) (zat_set ez2439 (by decide) (zat_set ez2437 (by decide) (zat_set ez2387 (by decide) hD.2.2.1))))))), zat_set ez2462 (by decide) (zat_self ez2460 (zat_set ez2458 (by decide) (zat_set ez2456 (by decide) (Sm.at hSz2442 (by decide) (zat_set ez2439 (by decide) (zat_set ez2437 (by decide) (zat_set ez2387 (by decide) hD.2.2.2.1))))))), (seg10 (zat_set ez2462 (by decide) (zat_set ez2460 (by decide) (zat_set ez2458 (by decide) (zat_set ez2456 (by decide) (Sm.at hSz2442 (by decide) (zat_set ez2439 (by decide) (zat_set ez2437 (by decide) (zat_set ez2387 (by decide) (hD.2.2.2.2.get 0 rfl))))))))) (zat_set ez2462 (by decide) (zat_set ez2460 (by decide) (zat_set ez2458 (by decide) (zat_set ez2456 (by decide) (Sm.at hSz2442 (by decide) (zat_set ez2439 (by decide) (zat_set ez2437 (by decide) (zat_set ez2387 (by decide) (hD.2.2.2.2.get 1 rfl))))))))) (zat_set ez2462 (by decide) (zat_set ez2460 (by decide) (zat_set ez2458 (by decide) (zat_set ez2456 (by decide) (Sm.at hSz2442 (by decide) (zat_set ez2439 (by decide) (zat_set ez2437 (by decide) (zat_set ez2387 (by decide) (hD.2.2.2.2.get 2 rfl))))))))) (zat_set ez2462 (by decide) (zat_set ez2460 (by decide) (zat_set ez2458 (by decide) (zat_set ez2456 (by decide) (Sm.at hSz2442 (by decide) (zat_set ez2439 (by decide) (zat_set ez2437 (by decide) (zat_set ez2387 (by decide) (hD.2.2.2.2.get 3 rfl))))))))) (zat_set ez2462 (by decide) (zat_set ez2460 (by decide) (zat_set ez2458 (by decide) (zat_self ez2456 (Sm.at hSz2442 (by decide) (zat_set ez2439 (by decide) (zat_set ez2437 (by decide) (zat_set ez2387 (by decide) (hD.2.2.2.2.get 4 rfl))))))))) (zat_set ez2462 (by decide) (zat_set ez2460 (by decide) (zat_self ez2458 (zat_set ez2456 (by decide) (Sm.at hSz2442 (by decide) (zat_set ez2439 (by decide) (zat_set ez2437 (by decide) (zat_set ez2387 (by decide) (hD.2.2.2.2.get 5 rfl))))))))) (zat_set ez2462 (by decide) (zat_set ez2460 (by decide) (zat_set ez2458 (by decide) (zat_set ez2456 (by decide) (Sm.at hSz2442 (by decide) (zat_set ez2439 (by decide) (zat_self ez2437 (zat_self ez2387 (hD.2.2.2.2.get 6 rfl))))))))) (zat_set ez2462 (by decide) (zat_set ez2460 (by decide) (zat_set ez2458 (by decide) (zat_set ez2456 (by decide) (Sm.at hSz2442 (by decide) (zat_set ez2439 (by decide) (zat_set ez2437 (by decide) (zat_set ez2387 (by decide) (hD.2.2.2.2.get 7 rfl))))))))) (zat_set ez2462 (by decide) (zat_set ez2460 (by decide) (zat_set ez2458 (by decide) (zat_set ez2456 (by decide) (Sm.at hSz2442 (by decide) (zat_set ez2439 (by decide) (zat_set ez2437 (by decide) (zat_set ez2387 (by decide) (hD.2.2.2.2.get 8 rfl))))))))) (zat_set ez2462 (by decide) (zat_set ez2460 (by decide) (zat_set ez2458 (by decide) (zat_set ez2456 (by decide) (Sm.at hSz2442 (by decide) (zat_set ez2439 (by decide) (zat_set ez2437 (by decide) (zat_set ez2387 (by decide) (hD.2.2.2.2.get 9 rfl))))))))))⟩, Sm.tset (Sm.tset (Sm.tset (Sm.tset (Sm.tw (Sm.tset (Sm.tset (Sm.tset Sm.rf ez2387 (by decide)) ez2437 (by decide)) ez2439 (by decide)) hSz2442 (by decide)) ez2456 (by decide)) ez2458 (by decide)) ez2460 (by decide)) ez2462 (by decide), ⟨fun q hq => ⟨up_n hq, up_n hq, by rw [up_n hq, up_n hq], up_n hq⟩, fun _ => ⟨by rw [up_s]; unfold iV; rw [hQ, if_pos (ite_ne c56)], by rw [up_s]; unfold iN; rw [hQ, if_pos (ite_ne c56)], by rw [up_s]; unfold iB; rw [if_pos (ite_ne c17)], fun _ => by rw [up_s, hQ]⟩⟩, up_lt hSI.1 (by omega), tg_up hSI.2.1 (by omega), up_lt (up_lt hSI.2.2 (by decide)) (by have := bn_lt (ite_ne c17); omega)⟩
    · -- 56 to 59
      refine zw_n 1 rfl ?_
      refine zw_callV (as := []) (rest := []) rfl rfl rfl hBz2441 rfl rfl rfl (by decide) (c_here Mz2444 tl (sk tx tl (p + 1)) tx n em gn al_ it pt tg (up (up bd x 0) x (hr tx tl p)) fr af fb np pp ⟨hBz2441, Sm.at hSz2442 (by decide) (zat_set ez2439 (by decide) (zat_set ez2437 (by decide) (zat_set ez2387 (by decide) hD.2.1))), Sm.at hSz2442 (by decide) (zat_set ez2439 (by decide) (zat_set ez2437 (by decide) (zat_set ez2387 (by decide) hD.2.2.1))), Sm.at hSz2442 (by decide) (zat_set ez2439 (by decide) (zat_set ez2437 (by decide) (zat_set ez2387 (by decide) hD.2.2.2.1))), (seg10 (Sm.at hSz2442 (by decide) (zat_set ez2439 (by decide) (zat_set ez2437 (by decide) (zat_set ez2387 (by decide) (hD.2.2.2.2.get 0 rfl))))) (Sm.at hSz2442 (by decide) (zat_set ez2439 (by decide) (zat_set ez2437 (by decide) (zat_set ez2387 (by decide) (hD.2.2.2.2.get 1 rfl))))) (Sm.at hSz2442 (by decide) (zat_set ez2439 (by decide) (zat_set ez2437 (by decide) (zat_set ez2387 (by decide) (hD.2.2.2.2.get 2 rfl))))) (Sm.at hSz2442 (by decide) (zat_set ez2439 (by decide) (zat_set ez2437 (by decide) (zat_set ez2387 (by decide) (hD.2.2.2.2.get 3 rfl))))) (Sm.at hSz2442 (by decide) (zat_set ez2439 (by decide) (zat_set ez2437 (by decide) (zat_set ez2387 (by decide) (hD.2.2.2.2.get 4 rfl))))) (Sm.at hSz2442 (by decide) (zat_set ez2439 (by decide) (zat_set ez2437 (by decide) (zat_set ez2387 (by decide) (hD.2.2.2.2.get 5 rfl))))) (Sm.at hSz2442 (by decide) (zat_set ez2439 (by decide) (zat_self ez2437 (zat_self ez2387 (hD.2.2.2.2.get 6 rfl))))) (Sm.at hSz2442 (by decide) (zat_set ez2439 (by decide) (zat_set ez2437 (by decide) (zat_set ez2387 (by decide) (hD.2.2.2.2.get 7 rfl))))) (Sm.at hSz2442 (by decide) (zat_set ez2439 (by decide) (zat_set ez2437 (by decide) (zat_set ez2387 (by decide) (hD.2.2.2.2.get 8 rfl))))) (Sm.at hSz2442 (by decide) (zat_set ez2439 (by decide) (zat_set ez2437 (by decide) (zat_set ez2387 (by decide) (hD.2.2.2.2.get 9 rfl))))))⟩ htx htl (by omega)) (fun rz2463 Mz2464 hz2465 => ?_)
      rw [hz2465.1, hz2465.2]
      show Zw 1 zm_GrammarReader_readItem 63 [some (.ref 2), some (.int (nI x)), some (.int (nI (if nmB (hr tx tl (sk tx tl (p + 1))) = true then 1 else 0)))] [.int (nI (hr tx tl (sk tx tl (p + 1))))] Mz2444 _
      refine zw_n 1 rfl ?_
      refine zw_ieq rfl (fun c65 => ?_) (fun c65 => ?_)
      · -- 65 to 73
        have h65 : hr tx tl (sk tx tl (p + 1)) = 39 := (ceq (hr_lt htx) (show 39 < 256 by decide)).mp c65
        have h66 : sk tx tl (p + 1) < tl := hr_in (by rw [h65]; decide)
        refine zw_n 2 rfl ?_
        refine zw_get (v := .int (nI (sk tx tl (p + 1)))) rfl hBz2441 rfl ?_
        refine zw_n 2 rfl ?_
        refine zw_top (na (a := sk tx tl (p + 1)) (b := 1) rfl rfl) ?_
        refine zw_put rfl hBz2441 (rfl) (Nat.le_of_ble_eq_true rfl) ?_
        generalize ez2467 : List.set Mz2444 2 _ = Mz2466
        refine zw_n 1 rfl ?_
        refine zw_callV (as := []) (rest := []) rfl rfl rfl (zat_self ez2467 hBz2441) rfl rfl rfl (by decide) (c_here Mz2466 tl ((sk tx tl (p + 1)) + 1) tx n em gn al_ it pt tg (up (up bd x 0) x (hr tx tl p)) fr af fb np pp ⟨zat_self ez2467 hBz2441, zat_set ez2467 (by decide) (Sm.at hSz2442 (by decide) (zat_set ez2439 (by decide) (zat_set ez2437 (by decide) (zat_set ez2387 (by decide) hD.2.1)))), zat_set ez2467 (by decide) (Sm.at hSz2442 (by decide) (zat_set ez2439 (by decide) (zat_set ez2437 (by decide) (zat_set ez2387 (by decide) hD.2.2.1)))), zat_set ez2467 (by decide) (Sm.at hSz2442 (by decide) (zat_set ez2439 (by decide) (zat_set ez2437 (by decide) (zat_set ez2387 (by decide) hD.2.2.2.1)))), (seg10 (zat_set ez2467 (by decide) (Sm.at hSz2442 (by decide) (zat_set ez2439 (by decide) (zat_set ez2437 (by decide) (zat_set ez2387 (by decide) (hD.2.2.2.2.get 0 rfl)))))) (zat_set ez2467 (by decide) (Sm.at hSz2442 (by decide) (zat_set ez2439 (by decide) (zat_set ez2437 (by decide) (zat_set ez2387 (by decide) (hD.2.2.2.2.get 1 rfl)))))) (zat_set ez2467 (by decide) (Sm.at hSz2442 (by decide) (zat_set ez2439 (by decide) (zat_set ez2437 (by decide) (zat_set ez2387 (by decide) (hD.2.2.2.2.get 2 rfl)))))) (zat_set ez2467 (by decide) (Sm.at hSz2442 (by decide) (zat_set ez2439 (by decide) (zat_set ez2437 (by decide) (zat_set ez2387 (by decide) (hD.2.2.2.2.get 3 rfl)))))) (zat_set ez2467 (by decide) (Sm.at hSz2442 (by decide) (zat_set ez2439 (by decide) (zat_set ez2437 (by decide) (zat_set ez2387 (by decide) (hD.2.2.2.2.get 4 rfl)))))) (zat_set ez2467 (by decide) (Sm.at hSz2442 (by decide) (zat_set ez2439 (by decide) (zat_set ez2437 (by decide) (zat_set ez2387 (by decide) (hD.2.2.2.2.get 5 rfl)))))) (zat_set ez2467 (by decide) (Sm.at hSz2442 (by decide) (zat_set ez2439 (by decide) (zat_self ez2437 (zat_self ez2387 (hD.2.2.2.2.get 6 rfl)))))) (zat_set ez2467 (by decide) (Sm.at hSz2442 (by decide) (zat_set ez2439 (by decide) (zat_set ez2437 (by decide) (zat_set ez2387 (by decide) (hD.2.2.2.2.get 7 rfl)))))) (zat_set ez2467 (by decide) (Sm.at hSz2442 (by decide) (zat_set ez2439 (by decide) (zat_set ez2437 (by decide) (zat_set ez2387 (by decide) (hD.2.2.2.2.get 8 rfl)))))) (zat_set ez2467 (by decide) (Sm.at hSz2442 (by decide) (zat_set ez2439 (by decide) (zat_set ez2437 (by decide) (zat_set ez2387 (by decide) (hD.2.2.2.2.get 9 rfl)))))))⟩ htx htl (by omega)) (fun rz2468 Mz2469 hz2470 => ?_)
        rw [hz2470.1, hz2470.2]
        show Zw 1 zm_GrammarReader_readItem 87 [some (.ref 2), some (.int (nI x)), some (.int (nI (if nmB (hr tx tl (sk tx tl (p + 1))) = true then 1 else 0)))] [.int (nI (hr tx tl ((sk tx tl (p + 1)) + 1)))] Mz2466 _
        refine zw_callS (as := [.int (nI (hr tx tl ((sk tx tl (p + 1)) + 1)))]) (rest := []) rfl rfl rfl rfl rfl rfl (by decide) (c_isSign _ _) (fun rz2471 Mz2472 hz2473 => ?_)
        rw [hz2473.1, hz2473.2]
        show Zw 1 zm_GrammarReader_readItem 90 [some (.ref 2), some (.int (nI x)), some (.int (nI (if nmB (hr tx tl (sk tx tl (p + 1))) = true then 1 else 0)))] [.int (nI (if 33 ≤ (nI (hr tx tl ((sk tx tl (p + 1)) + 1))).toInt ∧ (nI (hr tx tl ((sk tx tl (p + 1)) + 1))).toInt ≤ 126 then 1 else 0))] Mz2466 _
        refine zw_ne0N (a := if 33 ≤ (nI (hr tx tl ((sk tx tl (p + 1)) + 1))).toInt ∧ (nI (hr tx tl ((sk tx tl (p + 1)) + 1))).toInt ≤ 126 then 1 else 0) rfl rfl (ite_b) (fun c90 => ?_) (fun c90 => ?_)
        · -- 90 to 98
          have h99 : (sk tx tl (p + 1)) + 1 < tl := sg_in ((sg_iff2 (hr_lt htx)).mp (ite_ne c90))
          refine zw_n 1 rfl ?_
          refine zw_get (v := .ref 3) rfl (zat_self ez2467 hBz2441) rfl ?_
          refine zw_get (v := .ref 7) rfl (zat_set ez2467 (by decide) (Sm.at hSz2442 (by decide) (zat_set ez2439 (by decide) (zat_set ez2437 (by decide) (zat_set ez2387 (by decide) (hD.2.2.2.2.get 0 rfl)))))) rfl ?_
          refine zw_n 2 rfl ?_
          refine zw_callV (as := []) (rest := [.int (nI x), .ref 7]) rfl rfl rfl (zat_self ez2467 hBz2441) rfl rfl rfl (by decide) (c_here Mz2466 tl ((sk tx tl (p + 1)) + 1) tx n em gn al_ it pt tg (up (up bd x 0) x (hr tx tl p)) fr af fb np pp ⟨zat_self ez2467 hBz2441, zat_set ez2467 (by decide) (Sm.at hSz2442 (by decide) (zat_set ez2439 (by decide) (zat_set ez2437 (by decide) (zat_set ez2387 (by decide) hD.2.1)))), zat_set ez2467 (by decide) (Sm.at hSz2442 (by decide) (zat_set ez2439 (by decide) (zat_set ez2437 (by decide) (zat_set ez2387 (by decide) hD.2.2.1)))), zat_set ez2467 (by decide) (Sm.at hSz2442 (by decide) (zat_set ez2439 (by decide) (zat_set ez2437 (by decide) (zat_set ez2387 (by decide) hD.2.2.2.1)))), (seg10 (zat_set ez2467 (by decide) (Sm.at hSz2442 (by decide) (zat_set ez2439 (by decide) (zat_set ez2437 (by decide) (zat_set ez2387 (by decide) (hD.2.2.2.2.get 0 rfl)))))) (zat_set ez2467 (by decide) (Sm.at hSz2442 (by decide) (zat_set ez2439 (by decide) (zat_set ez2437 (by decide) (zat_set ez2387 (by decide) (hD.2.2.2.2.get 1 rfl)))))) (zat_set ez2467 (by decide) (Sm.at hSz2442 (by decide) (zat_set ez2439 (by decide) (zat_set ez2437 (by decide) (zat_set ez2387 (by decide) (hD.2.2.2.2.get 2 rfl)))))) (zat_set ez2467 (by decide) (Sm.at hSz2442 (by decide) (zat_set ez2439 (by decide) (zat_set ez2437 (by decide) (zat_set ez2387 (by decide) (hD.2.2.2.2.get 3 rfl)))))) (zat_set ez2467 (by decide) (Sm.at hSz2442 (by decide) (zat_set ez2439 (by decide) (zat_set ez2437 (by decide) (zat_set ez2387 (by decide) (hD.2.2.2.2.get 4 rfl)))))) (zat_set ez2467 (by decide) (Sm.at hSz2442 (by decide) (zat_set ez2439 (by decide) (zat_set ez2437 (by decide) (zat_set ez2387 (by decide) (hD.2.2.2.2.get 5 rfl)))))) (zat_set ez2467 (by decide) (Sm.at hSz2442 (by decide) (zat_set ez2439 (by decide) (zat_self ez2437 (zat_self ez2387 (hD.2.2.2.2.get 6 rfl)))))) (zat_set ez2467 (by decide) (Sm.at hSz2442 (by decide) (zat_set ez2439 (by decide) (zat_set ez2437 (by decide) (zat_set ez2387 (by decide) (hD.2.2.2.2.get 7 rfl)))))) (zat_set ez2467 (by decide) (Sm.at hSz2442 (by decide) (zat_set ez2439 (by decide) (zat_set ez2437 (by decide) (zat_set ez2387 (by decide) (hD.2.2.2.2.get 8 rfl)))))) (zat_set ez2467 (by decide) (Sm.at hSz2442 (by decide) (zat_set ez2439 (by decide) (zat_set ez2437 (by decide) (zat_set ez2387 (by decide) (hD.2.2.2.2.get 9 rfl)))))))⟩ htx htl (by omega)) (fun rz2474 Mz2475 hz2476 => ?_)
          rw [hz2476.1, hz2476.2]
          show Zw 1 zm_GrammarReader_readItem 110 [some (.ref 2), some (.int (nI x)), some (.int (nI (if nmB (hr tx tl (sk tx tl (p + 1))) = true then 1 else 0)))] [.int (nI (hr tx tl ((sk tx tl (p + 1)) + 1))), .int (nI x), .ref 7] Mz2466 _
          refine zw_iastN (g := pt) (j := x) (v := (hr tx tl ((sk tx tl (p + 1)) + 1))) rfl (zat_set ez2467 (by decide) (Sm.at hSz2442 (by decide) (zat_set ez2439 (by decide) (zat_set ez2437 (by decide) (zat_set ez2387 (by decide) (hD.2.2.2.2.get 4 rfl)))))) rfl (by decide) (by omega) (rfl) ?_
          generalize ez2478 : List.set Mz2466 7 _ = Mz2477
          refine zw_n 1 rfl ?_
          refine zw_get (v := .ref 3) rfl (zat_set ez2478 (by decide) (zat_self ez2467 hBz2441)) rfl ?_
          refine zw_get (v := .ref 8) rfl (zat_set ez2478 (by decide) (zat_set ez2467 (by decide) (Sm.at hSz2442 (by decide) (zat_set ez2439 (by decide) (zat_set ez2437 (by decide) (zat_set ez2387 (by decide) (hD.2.2.2.2.get 0 rfl))))))) rfl ?_
          refine zw_n 2 rfl ?_
          refine zw_eq0N (a := if nmB (hr tx tl (sk tx tl (p + 1))) = true then 1 else 0) rfl rfl (ite_b) (fun c120 => ?_) (fun c120 => ?_)
          · -- 120 to 127
            refine zw_n 1 rfl ?_
            refine zw_iastN (g := tg) (j := x) (v := 4294967295) rfl (zat_set ez2478 (by decide) (zat_set ez2467 (by decide) (Sm.at hSz2442 (by decide) (zat_set ez2439 (by decide) (zat_set ez2437 (by decide) (zat_set ez2387 (by decide) (hD.2.2.2.2.get 5 rfl))))))) rfl (by decide) (by omega) (by decide) ?_
            generalize ez2480 : List.set Mz2477 8 _ = Mz2479
            refine zw_n 1 rfl ?_
            refine zw_get (v := .ref 14) rfl (zat_set ez2480 (by decide) (zat_set ez2478 (by decide) (zat_self ez2467 hBz2441))) rfl ?_
            refine zw_n 2 rfl ?_
            refine zw_get (v := .int (nI ((sk tx tl (p + 1)) + 1))) rfl (zat_set ez2480 (by decide) (zat_set ez2478 (by decide) (zat_self ez2467 hBz2441))) rfl ?_
            refine zw_iastN (g := pp) (j := x) (v := ((sk tx tl (p + 1)) + 1)) rfl (zat_set ez2480 (by decide) (zat_set ez2478 (by decide) (zat_set ez2467 (by decide) (Sm.at hSz2442 (by decide) (zat_set ez2439 (by decide) (zat_set ez2437 (by decide) (zat_set ez2387 (by decide) hD.2.2.2.1))))))) rfl (by decide) (by omega) (rfl) ?_
            generalize ez2482 : List.set Mz2479 14 _ = Mz2481
            refine zw_n 2 rfl ?_
            refine zw_get (v := .int (nI ((sk tx tl (p + 1)) + 1))) rfl (zat_set ez2482 (by decide) (zat_set ez2480 (by decide) (zat_set ez2478 (by decide) (zat_self ez2467 hBz2441)))) rfl ?_
            refine zw_n 2 rfl ?_
            refine zw_top (na (a := (sk tx tl (p + 1)) + 1) (b := 1) rfl rfl) ?_
            refine zw_put rfl (zat_set ez2482 (by decide) (zat_set ez2480 (by decide) (zat_set ez2478 (by decide) (zat_self ez2467 hBz2441)))) (rfl) (Nat.le_of_ble_eq_true rfl) ?_
            generalize ez2484 : List.set Mz2481 2 _ = Mz2483
            refine zw_n 1 rfl ?_
            refine zw_iret rfl rfl ?_
            have hF9 : iF tx tl p = NO := by unfold iF; rw [hQ, if_neg (ite_eq0 c56), if_pos h65, if_pos ((sg_iff2 (hr_lt htx)).mp (ite_ne c90))]
            have hv9 := sg_b ((sg_iff2 (hr_lt htx)).mp (ite_ne c90))
            exact ⟨by rw [hF9]; decide, (up pt x (hr tx tl ((sk tx tl (p + 1)) + 1))), (up tg x 4294967295), (up (up bd x 0) x (hr tx tl p)), (up pp x ((sk tx tl (p + 1)) + 1)), by rw [if_pos hF9, show iE tx tl p = ((sk tx tl (p + 1)) + 1) + 1 from by unfold iE; rw [hQ, if_neg (ite_eq0 c56)]]; exact ⟨zat_self ez2484 (zat_set ez2482 (by decide) (zat_set ez2480 (by decide) (zat_set ez2478 (by decide) (zat_self ez2467 hBz2441)))), zat_set ez2484 (by decide) (zat_set ez2482 (by decide) (zat_set ez2480 (by decide) (zat_set ez2478 (by decide) (zat_set ez2467 (by decide) (Sm.at hSz2442 (by decide) (zat_set ez2439 (by decide) (zat_set ez2437 (by decide) (zat_set ez2387 (by decide) hD.2.1)))))))), zat_set ez2484 (by decide) (zat_set ez2482 (by decide) (zat_set ez2480 (by decide) (zat_set ez2478 (by decide) (zat_set ez2467 (by decide) (Sm.at hSz2442 (by decide) (zat_set ez2439 (by decide) (zat_set ez2437 (by decide) (zat_set ez2387 (by decide) hD.2.2.1)))))))), zat_set ez2484 (by decide) (zat_self ez2482 (zat_set ez2480 (by decide) (zat_set ez2478 (by decide) (zat_set ez2467 (by decide) (Sm.at hSz2442 (by decide) (zat_set ez2439 (by decide) (zat_set ez2437 (by decide) (zat_set ez2387 (by decide) hD.2.2.2.1)))))))), (seg10 (zat_set ez2484 (by decide) (zat_set ez2482 (by decide) (zat_set ez2480 (by decide) (zat_set ez2478 (by decide) (zat_set ez2467 (by decide) (Sm.at hSz2442 (by decide) (zat_set ez2439 (by decide) (zat_set ez2437 (by decide) (zat_set ez2387 (by decide) (hD.2.2.2.2.get 0 rfl)))))))))) (zat_set ez2484 (by decide) (zat_set ez2482 (by decide) (zat_set ez2480 (by decide) (zat_set ez2478 (by decide) (zat_set ez2467 (by decide) (Sm.at hSz2442 (by decide) (zat_set ez2439 (by decide) (zat_set ez2437 (by decide) (zat_set ez2387 (by decide) (hD.2.2.2.2.get 1 rfl)))))))))) (zat_set ez2484 (by decide) (zat_set ez2482 (by decide) (zat_set ez2480 (by decide) (zat_set ez2478 (by decide) (zat_set ez2467 (by decide) (Sm.at hSz2442 (by decide) (zat_set ez2439 (by decide) (zat_set ez2437 (by decide) (zat_set ez2387 (by decide) (hD.2.2.2.2.get 2 rfl)))))))))) (zat_set ez2484 (by decide) (zat_set ez2482 (by decide) (zat_set ez2480 (by decide) (zat_set ez2478 (by decide) (zat_set ez2467 (by decide) (Sm.at hSz2442 (by decide) (zat_set ez2439 (by decide) (zat_set ez2437 (by decide) (zat_set ez2387 (by decide) (hD.2.2.2.2.get 3 rfl)))))))))) (zat_set ez2484 (by decide) (zat_set ez2482 (by decide) (zat_set ez2480 (by decide) (zat_self ez2478 (zat_set ez2467 (by decide) (Sm.at hSz2442 (by decide) (zat_set ez2439 (by decide) (zat_set ez2437 (by decide) (zat_set ez2387 (by decide) (hD.2.2.2.2.get 4 rfl)))))))))) (zat_set ez2484 (by decide) (zat_set ez2482 (by decide) (zat_self ez2480 (zat_set ez2478 (by decide) (zat_set ez2467 (by decide) (Sm.at hSz2442 (by decide) (zat_set ez2439 (by decide) (zat_set ez2437 (by decide) (zat_set ez2387 (by decide) (hD.2.2.2.2.get 5 rfl)))))))))) (zat_set ez2484 (by decide) (zat_set ez2482 (by decide) (zat_set ez2480 (by decide) (zat_set ez2478 (by decide) (zat_set ez2467 (by decide) (Sm.at hSz2442 (by decide) (zat_set ez2439 (by decide) (zat_self ez2437 (zat_self ez2387 (hD.2.2.2.2.get 6 rfl)))))))))) (zat_set ez2484 (by decide) (zat_set ez2482 (by decide) (zat_set ez2480 (by decide) (zat_set ez2478 (by decide) (zat_set ez2467 (by decide) (Sm.at hSz2442 (by decide) (zat_set ez2439 (by decide) (zat_set ez2437 (by decide) (zat_set ez2387 (by decide) (hD.2.2.2.2.get 7 rfl)))))))))) (zat_set ez2484 (by decide) (zat_set ez2482 (by decide) (zat_set ez2480 (by decide) (zat_set ez2478 (by decide) (zat_set ez2467 (by decide) (Sm.at hSz2442 (by decide) (zat_set ez2439 (by decide) (zat_set ez2437 (by decide) (zat_set ez2387 (by decide) (hD.2.2.2.2.get 8 rfl)))))))))) (zat_set ez2484 (by decide) (zat_set ez2482 (by decide) (zat_set ez2480 (by decide) (zat_set ez2478 (by decide) (zat_set ez2467 (by decide) (Sm.at hSz2442 (by decide) (zat_set ez2439 (by decide) (zat_set ez2437 (by decide) (zat_set ez2387 (by decide) (hD.2.2.2.2.get 9 rfl)))))))))))⟩, Sm.tset (Sm.tset (Sm.tset (Sm.tset (Sm.tset (Sm.tw (Sm.tset (Sm.tset (Sm.tset Sm.rf ez2387 (by decide)) ez2437 (by decide)) ez2439 (by decide)) hSz2442 (by decide)) ez2467 (by decide)) ez2478 (by decide)) ez2480 (by decide)) ez2482 (by decide)) ez2484 (by decide), ⟨fun q hq => ⟨up_n hq, up_n hq, by rw [up_n hq, up_n hq], up_n hq⟩, fun _ => ⟨by rw [up_s]; unfold iV; rw [hQ, if_neg (ite_eq0 c56)], by rw [up_s]; unfold iN; rw [hQ, if_neg (ite_eq0 c56)], by rw [up_s]; unfold iB; rw [if_pos (ite_ne c17)], fun q => absurd (by unfold iN at q; rw [hQ] at q; exact q) (ite_eq0 c56)⟩⟩, up_lt hSI.1 (by omega), tg_up hSI.2.1 (by omega), up_lt (up_lt hSI.2.2 (by decide)) (by have := bn_lt (ite_ne c17); omega)⟩
          · -- 120 to 123
            exfalso
            exact c120 c56
        · -- 90 to 93
          refine zw_n 1 rfl ?_
          refine zw_get (v := .int (nI ((sk tx tl (p + 1)) + 1))) rfl (zat_self ez2467 hBz2441) rfl ?_
          refine zw_iret rfl rfl ?_
          have hF9 : iF tx tl p = (sk tx tl (p + 1)) + 1 := by unfold iF; rw [hQ, if_neg (ite_eq0 c56), if_pos h65, if_neg (fun q => ite_eq0 c90 ((sg_iff2 (hr_lt htx)).mpr q))]
          have hn9 : iF tx tl p ≠ NO := by rw [hF9]; unfold NO; omega
          exact ⟨by rw [hF9], pt, tg, (up (up bd x 0) x (hr tx tl p)), pp, by rw [if_neg hn9, hF9]; exact ⟨zat_self ez2467 hBz2441, zat_set ez2467 (by decide) (Sm.at hSz2442 (by decide) (zat_set ez2439 (by decide) (zat_set ez2437 (by decide) (zat_set ez2387 (by decide) hD.2.1)))), zat_set ez2467 (by decide) (Sm.at hSz2442 (by decide) (zat_set ez2439 (by decide) (zat_set ez2437 (by decide) (zat_set ez2387 (by decide) hD.2.2.1)))), zat_set ez2467 (by decide) (Sm.at hSz2442 (by decide) (zat_set ez2439 (by decide) (zat_set ez2437 (by decide) (zat_set ez2387 (by decide) hD.2.2.2.1)))), (seg10 (zat_set ez2467 (by decide) (Sm.at hSz2442 (by decide) (zat_set ez2439 (by decide) (zat_set ez2437 (by decide) (zat_set ez2387 (by decide) (hD.2.2.2.2.get 0 rfl)))))) (zat_set ez2467 (by decide) (Sm.at hSz2442 (by decide) (zat_set ez2439 (by decide) (zat_set ez2437 (by decide) (zat_set ez2387 (by decide) (hD.2.2.2.2.get 1 rfl)))))) (zat_set ez2467 (by decide) (Sm.at hSz2442 (by decide) (zat_set ez2439 (by decide) (zat_set ez2437 (by decide) (zat_set ez2387 (by decide) (hD.2.2.2.2.get 2 rfl)))))) (zat_set ez2467 (by decide) (Sm.at hSz2442 (by decide) (zat_set ez2439 (by decide) (zat_set ez2437 (by decide) (zat_set ez2387 (by decide) (hD.2.2.2.2.get 3 rfl)))))) (zat_set ez2467 (by decide) (Sm.at hSz2442 (by decide) (zat_set ez2439 (by decide) (zat_set ez2437 (by decide) (zat_set ez2387 (by decide) (hD.2.2.2.2.get 4 rfl)))))) (zat_set ez2467 (by decide) (Sm.at hSz2442 (by decide) (zat_set ez2439 (by decide) (zat_set ez2437 (by decide) (zat_set ez2387 (by decide) (hD.2.2.2.2.get 5 rfl)))))) (zat_set ez2467 (by decide) (Sm.at hSz2442 (by decide) (zat_set ez2439 (by decide) (zat_self ez2437 (zat_self ez2387 (hD.2.2.2.2.get 6 rfl)))))) (zat_set ez2467 (by decide) (Sm.at hSz2442 (by decide) (zat_set ez2439 (by decide) (zat_set ez2437 (by decide) (zat_set ez2387 (by decide) (hD.2.2.2.2.get 7 rfl)))))) (zat_set ez2467 (by decide) (Sm.at hSz2442 (by decide) (zat_set ez2439 (by decide) (zat_set ez2437 (by decide) (zat_set ez2387 (by decide) (hD.2.2.2.2.get 8 rfl)))))) (zat_set ez2467 (by decide) (Sm.at hSz2442 (by decide) (zat_set ez2439 (by decide) (zat_set ez2437 (by decide) (zat_set ez2387 (by decide) (hD.2.2.2.2.get 9 rfl)))))))⟩, Sm.tset (Sm.tw (Sm.tset (Sm.tset (Sm.tset Sm.rf ez2387 (by decide)) ez2437 (by decide)) ez2439 (by decide)) hSz2442 (by decide)) ez2467 (by decide), ⟨fun q hq => ⟨rfl, rfl, by rw [up_n hq, up_n hq], rfl⟩, fun q => absurd q hn9⟩, hSI.1, hSI.2.1, up_lt (up_lt hSI.2.2 (by decide)) (by have := bn_lt (ite_ne c17); omega)⟩
      · -- 65 to 68
        have h65 : ¬ hr tx tl (sk tx tl (p + 1)) = 39 := fun q => c65 ((ceq (hr_lt htx) (by decide)).mpr q)
        refine zw_n 1 rfl ?_
        refine zw_get (v := .int (nI (sk tx tl (p + 1)))) rfl hBz2441 rfl ?_
        refine zw_iret rfl rfl ?_
        have hF9 : iF tx tl p = sk tx tl (p + 1) := by unfold iF; rw [hQ, if_neg (ite_eq0 c56), if_neg h65]
        have hn9 : iF tx tl p ≠ NO := by rw [hF9]; unfold NO; omega
        exact ⟨by rw [hF9], pt, tg, (up (up bd x 0) x (hr tx tl p)), pp, by rw [if_neg hn9, hF9]; exact ⟨hBz2441, Sm.at hSz2442 (by decide) (zat_set ez2439 (by decide) (zat_set ez2437 (by decide) (zat_set ez2387 (by decide) hD.2.1))), Sm.at hSz2442 (by decide) (zat_set ez2439 (by decide) (zat_set ez2437 (by decide) (zat_set ez2387 (by decide) hD.2.2.1))), Sm.at hSz2442 (by decide) (zat_set ez2439 (by decide) (zat_set ez2437 (by decide) (zat_set ez2387 (by decide) hD.2.2.2.1))), (seg10 (Sm.at hSz2442 (by decide) (zat_set ez2439 (by decide) (zat_set ez2437 (by decide) (zat_set ez2387 (by decide) (hD.2.2.2.2.get 0 rfl))))) (Sm.at hSz2442 (by decide) (zat_set ez2439 (by decide) (zat_set ez2437 (by decide) (zat_set ez2387 (by decide) (hD.2.2.2.2.get 1 rfl))))) (Sm.at hSz2442 (by decide) (zat_set ez2439 (by decide) (zat_set ez2437 (by decide) (zat_set ez2387 (by decide) (hD.2.2.2.2.get 2 rfl))))) (Sm.at hSz2442 (by decide) (zat_set ez2439 (by decide) (zat_set ez2437 (by decide) (zat_set ez2387 (by decide) (hD.2.2.2.2.get 3 rfl))))) (Sm.at hSz2442 (by decide) (zat_set ez2439 (by decide) (zat_set ez2437 (by decide) (zat_set ez2387 (by decide) (hD.2.2.2.2.get 4 rfl))))) (Sm.at hSz2442 (by decide) (zat_set ez2439 (by decide) (zat_set ez2437 (by decide) (zat_set ez2387 (by decide) (hD.2.2.2.2.get 5 rfl))))) (Sm.at hSz2442 (by decide) (zat_set ez2439 (by decide) (zat_self ez2437 (zat_self ez2387 (hD.2.2.2.2.get 6 rfl))))) (Sm.at hSz2442 (by decide) (zat_set ez2439 (by decide) (zat_set ez2437 (by decide) (zat_set ez2387 (by decide) (hD.2.2.2.2.get 7 rfl))))) (Sm.at hSz2442 (by decide) (zat_set ez2439 (by decide) (zat_set ez2437 (by decide) (zat_set ez2387 (by decide) (hD.2.2.2.2.get 8 rfl))))) (Sm.at hSz2442 (by decide) (zat_set ez2439 (by decide) (zat_set ez2437 (by decide) (zat_set ez2387 (by decide) (hD.2.2.2.2.get 9 rfl))))))⟩, Sm.tw (Sm.tset (Sm.tset (Sm.tset Sm.rf ez2387 (by decide)) ez2437 (by decide)) ez2439 (by decide)) hSz2442 (by decide), ⟨fun q hq => ⟨rfl, rfl, by rw [up_n hq, up_n hq], rfl⟩, fun q => absurd q hn9⟩, hSI.1, hSI.2.1, up_lt (up_lt hSI.2.2 (by decide)) (by have := bn_lt (ite_ne c17); omega)⟩
