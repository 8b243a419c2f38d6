set_option maxHeartbeats 4000000 in
set_option maxRecDepth 100000 in
theorem m_isName (Mq : zM) (q tl : Nat) (tx : Nat → Nat) (htx : ∀ q, tx q < 256) : Zm 1 zm_MO_isName [.int (nI (mv tx tl q))] Mq (fun r9 M1 => r9 = some (.int (nI (if nmB (hr tx tl q) = true then 1 else 0))) ∧ M1 = Mq) := by
  show Zw 1 zm_MO_isName 0 [some (.int (nI (mv tx tl q)))] [] Mq _
  refine zw_n 4 rfl ?_
  refine zw_callS (as := [.long (Int32.toInt64 (nI (mv tx tl q))), .long 65, .long 90]) (rest := []) rfl rfl rfl rfl rfl rfl (by decide) (m_in Mq (Int32.toInt64 (nI (mv tx tl q))) 65 90 ((nI (mv tx tl q)).toInt) 65 90 (Int32.toInt_toInt64 _) (by decide) (by decide)) (fun rz2714 Mz2715 hz2716 => ?_)
  rw [hz2716.1, hz2716.2]
  show Zw 1 zm_MO_isName 11 [some (.int (nI (mv tx tl q)))] [.int (nI (if 65 ≤ (nI (mv tx tl q)).toInt ∧ (nI (mv tx tl q)).toInt ≤ 90 then 1 else 0))] Mq _
  exact zw_zret rfl rfl (ite_01) (⟨by rw [ite_cg (mv_nm htx)], rfl⟩)

set_option maxHeartbeats 4000000 in
set_option maxRecDepth 100000 in
theorem m_isBond (Mq : zM) (q tl : Nat) (tx : Nat → Nat) (htx : ∀ q, tx q < 256) : Zm 1 zm_MO_isBond [.int (nI (mv tx tl q))] Mq (fun r9 M1 => r9 = some (.int (nI (if bnB (hr tx tl q) = true then 1 else 0))) ∧ M1 = Mq) := by
  show Zw 1 zm_MO_isBond 0 [some (.int (nI (mv tx tl q)))] [] Mq _
  refine zw_n 2 rfl ?_
  refine zw_ieqZ (a := (nI (mv tx tl q)).toInt) (b := 61) rfl (rfl) (by decide) (fun c3 => ?_) (fun c3 => ?_)
  · -- 3 to 18
    refine zw_n 2 rfl ?_
    exact zw_zret rfl rfl (Or.inr rfl) (⟨by rw [if_pos ((mv_bn htx).mp (by omega))]; rfl, rfl⟩)
  · -- 3 to 6
    refine zw_n 2 rfl ?_
    refine zw_ieqZ (a := (nI (mv tx tl q)).toInt) (b := 62) rfl (rfl) (by decide) (fun c9 => ?_) (fun c9 => ?_)
    · -- 9 to 18
      refine zw_n 2 rfl ?_
      exact zw_zret rfl rfl (Or.inr rfl) (⟨by rw [if_pos ((mv_bn htx).mp (by omega))]; rfl, rfl⟩)
    · -- 9 to 12
      refine zw_n 2 rfl ?_
      refine zw_ineZ (a := (nI (mv tx tl q)).toInt) (b := 42) rfl (rfl) (by decide) (fun c15 => ?_) (fun c15 => ?_)
      · -- 15 to 22
        refine zw_n 1 rfl ?_
        exact zw_zret rfl rfl (Or.inl rfl) (⟨by rw [if_neg (fun q => by have := (mv_bn htx).mpr q; omega)]; rfl, rfl⟩)
      · -- 15 to 18
        refine zw_n 2 rfl ?_
        exact zw_zret rfl rfl (Or.inr rfl) (⟨by rw [if_pos ((mv_bn htx).mp (by omega))]; rfl, rfl⟩)

set_option maxHeartbeats 4000000 in
set_option maxRecDepth 100000 in
theorem m_next (Mq : zM) (o : Nat → Nat) (f : Nat → Nat → Nat) (hM : MM Mq o f) (tx : Nat → Nat) (hX : ∀ q, q < o 7 → f 144 q = byv (tx q)) (htx : ∀ q, tx q < 256) (htl : o 7 ≤ 240) (hp : o 8 ≤ o 7) : Zm 0 zm_MO_next [.ref 139] Mq (fun r9 M1 => r9 = some (.int (nI (mv tx (o 7) (sk tx (o 7) (o 8))))) ∧ MM M1 (up o 8 (sk tx (o 7) (o 8))) f ∧ Sm Mq M1 [139]) := by
  show Zw 0 zm_MO_next 0 [some (.ref 139)] [] Mq _
  have lp0 : ∀ (n0 : Nat) (q : Nat) (M_0 : zM), Sm Mq M_0 [139] → M_0[139]? = some (.inr (12, [.int (nI (o 0)), .ref 140, .ref 141, .ref 142, .ref 143, .int (nI (o 5)), .ref 144, .int (nI (o 7)), .int (nI q), .int (nI (o 9)), .int (nI (o 10)), .ref 145, .ref 146, .ref 147, .ref 148, .ref 149, .ref 150, .ref 151, .ref 152, .ref 153, .ref 154, .ref 155, .ref 156, .ref 157, .ref 158, .ref 159, .ref 160, .ref 161, .ref 162, .ref 163, .ref 164, .int (nI (o 31)), .ref 165, .int (nI (o 33)), .ref 166, .ref 167, .ref 168, .ref 169, .int (nI (o 38)), .ref 170, .ref 171, .ref 172, .ref 173, .ref 174, .ref 175, .int (nI (o 45)), .int (nI (o 46)), .int (nI (o 47)), .long (lN (o 48)), .ref 176])) → (o 8 ≤ q ∧ q ≤ o 7 ∧ sk tx (o 7) (o 8) = sk tx (o 7) q) → o 7 - q < n0 → Zw 0 zm_MO_next 0 [some (.ref 139)] [] M_0 (fun r9 M1 => r9 = some (.int (nI (mv tx (o 7) (sk tx (o 7) (o 8))))) ∧ MM M1 (up o 8 (sk tx (o 7) (o 8))) f ∧ Sm Mq M1 [139]) := by
    intro n0
    induction n0 with
    | zero => intro q M_0 _ _ _ h; exact absurd h (Nat.not_lt_zero _)
    | succ n0 ih0 =>
      intro q M_0 s_0 f0_0 hi0 hm0
      refine zw_n 1 rfl ?_
      refine zw_get (v := .int (nI q)) rfl f0_0 rfl ?_
      refine zw_n 1 rfl ?_
      refine zw_get (v := .int (nI (o 7))) rfl f0_0 rfl ?_
      refine zw_igeN (a := q) (b := o 7) rfl rfl rfl (by omega) (by omega) (fun c8 => ?_) (fun c8 => ?_)
      · -- 8 to 38
        have he9 : sk tx (o 7) (o 8) = q := by rw [hi0.2.2, sk_e (by first | omega | (intro q9; exact c22 ((byv_eq (htx q) (show 32 < 128 by decide)).mpr q9.2)))]
        refine zw_n 1 rfl ?_
        refine zw_get (v := .int (nI q)) rfl f0_0 rfl ?_
        refine zw_n 1 rfl ?_
        refine zw_get (v := .int (nI (o 7))) rfl f0_0 rfl ?_
        refine zw_igeN (a := q) (b := o 7) rfl rfl rfl (by omega) (by omega) (fun c46 => ?_) (fun c46 => ?_)
        · -- 46 to 61
          refine zw_n 1 rfl ?_
          refine zw_top (x' := nI 0) (by decide) ?_
          exact zw_iret rfl rfl (⟨by rw [he9, mv, if_neg (by omega)]; try rfl, by rw [he9]; exact (MM.of (o' := up o 8 q) (f' := f) hM s_0 f0_0 (c1_skip c1_nil) (fs_k fs_n)), s_0⟩)
        · -- 46 to 49
          refine zw_n 1 rfl ?_
          refine zw_get (v := .ref 144) rfl f0_0 rfl ?_
          refine zw_n 1 rfl ?_
          refine zw_get (v := .int (nI q)) rfl f0_0 rfl ?_
          refine zw_bald (f := ai (f 144)) (j := q) rfl (Sm.at s_0 (by decide) (hM.2 144 (by decide) (by decide))) rfl rfl (by decide) (by omega) ?_
          refine zw_top (x' := (nI (byv (tx q)))) (congrArg nI (hX q (by omega))) ?_
          refine zw_n 1 rfl ?_
          exact zw_iret rfl rfl (⟨by rw [he9, mv, if_pos (by omega)]; try rfl, by rw [he9]; exact (MM.of (o' := up o 8 q) (f' := f) hM s_0 f0_0 (c1_skip c1_nil) (fs_k fs_n)), s_0⟩)
      · -- 8 to 11
        refine zw_n 1 rfl ?_
        refine zw_get (v := .ref 144) rfl f0_0 rfl ?_
        refine zw_n 1 rfl ?_
        refine zw_get (v := .int (nI q)) rfl f0_0 rfl ?_
        refine zw_bald (f := ai (f 144)) (j := q) rfl (Sm.at s_0 (by decide) (hM.2 144 (by decide) (by decide))) rfl rfl (by decide) (by omega) ?_
        refine zw_top (x' := (nI (byv (tx q)))) (congrArg nI (hX q (by omega))) ?_
        refine zw_n 1 rfl ?_
        refine zw_ine rfl (fun c22 => ?_) (fun c22 => ?_)
        · -- 22 to 38
          have he9 : sk tx (o 7) (o 8) = q := by rw [hi0.2.2, sk_e (by first | omega | (intro q9; exact c22 ((byv_eq (htx q) (show 32 < 128 by decide)).mpr q9.2)))]
          refine zw_n 1 rfl ?_
          refine zw_get (v := .int (nI q)) rfl f0_0 rfl ?_
          refine zw_n 1 rfl ?_
          refine zw_get (v := .int (nI (o 7))) rfl f0_0 rfl ?_
          refine zw_igeN (a := q) (b := o 7) rfl rfl rfl (by omega) (by omega) (fun c46 => ?_) (fun c46 => ?_)
          · -- 46 to 61
            refine zw_n 1 rfl ?_
            refine zw_top (x' := nI 0) (by decide) ?_
            exact zw_iret rfl rfl (⟨by rw [he9, mv, if_neg (by omega)]; try rfl, by rw [he9]; exact (MM.of (o' := up o 8 q) (f' := f) hM s_0 f0_0 (c1_skip c1_nil) (fs_k fs_n)), s_0⟩)
          · -- 46 to 49
            refine zw_n 1 rfl ?_
            refine zw_get (v := .ref 144) rfl f0_0 rfl ?_
            refine zw_n 1 rfl ?_
            refine zw_get (v := .int (nI q)) rfl f0_0 rfl ?_
            refine zw_bald (f := ai (f 144)) (j := q) rfl (Sm.at s_0 (by decide) (hM.2 144 (by decide) (by decide))) rfl rfl (by decide) (by omega) ?_
            refine zw_top (x' := (nI (byv (tx q)))) (congrArg nI (hX q (by omega))) ?_
            refine zw_n 1 rfl ?_
            exact zw_iret rfl rfl (⟨by rw [he9, mv, if_pos (by omega)]; try rfl, by rw [he9]; exact (MM.of (o' := up o 8 q) (f' := f) hM s_0 f0_0 (c1_skip c1_nil) (fs_k fs_n)), s_0⟩)
        · -- 22 to 25
          refine zw_n 2 rfl ?_
          refine zw_get (v := .int (nI q)) rfl f0_0 rfl ?_
          refine zw_n 2 rfl ?_
          refine zw_top (na (a := q) (b := 1) rfl rfl) ?_
          refine zw_put rfl f0_0 (rfl) (Nat.le_of_ble_eq_true rfl) ?_
          generalize ez2718 : List.set M_0 139 _ = Mz2717
          refine zw_n 1 rfl ?_
          exact ih0 (q + 1) Mz2717 (Sm.tset s_0 ez2718 (by decide)) (zat_self ez2718 f0_0) (⟨by omega, by omega, hi0.2.2.trans (sk_s (by omega) ((byv_eq (htx q) (show 32 < 128 by decide)).mp c22))⟩) (by omega)
  exact lp0 _ (o 8) Mq Sm.rf hM.1 (⟨Nat.le_refl _, hp, rfl⟩) (Nat.lt_succ_self _)

set_option maxHeartbeats 4000000 in
set_option maxRecDepth 100000 in
theorem m_wrong (Mq : zM) (o : Nat → Nat) (f : Nat → Nat → Nat) (hM : MM Mq o f) (hg : o 10 = 1) : Zm 0 zm_MO_wrong [.ref 139] Mq (fun r9 M1 => r9 = none ∧ MM M1 (up (up o 9 (o 8)) 10 0) f ∧ Sm Mq M1 [139]) := by
  show Zw 0 zm_MO_wrong 0 [some (.ref 139)] [] Mq _
  refine zw_n 2 rfl ?_
  refine zw_get (v := .int (nI (o 10))) rfl hM.1 rfl ?_
  refine zw_eq0N (a := o 10) rfl rfl (by omega) (fun c5 => ?_) (fun c5 => ?_)
  · -- 5 to 15
    exfalso
    omega
  · -- 5 to 8
    refine zw_n 1 rfl ?_
    refine zw_get (v := .int (nI (o 8))) rfl hM.1 rfl ?_
    refine zw_n 1 rfl ?_
    refine zw_put rfl hM.1 (rfl) (Nat.le_of_ble_eq_true rfl) ?_
    generalize ez2720 : List.set Mq 139 _ = Mz2719
    refine zw_n 2 rfl ?_
    refine zw_put rfl (zat_self ez2720 hM.1) (rfl) (Nat.le_of_ble_eq_true rfl) ?_
    generalize ez2722 : List.set Mz2719 139 _ = Mz2721
    exact zw_vret rfl rfl (⟨rfl, (MM.of (o' := up (up o 9 (o 8)) 10 0) (f' := f) hM (Sm.tset (Sm.tset Sm.rf ez2720 (by decide)) ez2722 (by decide)) (zat_self ez2722 (zat_self ez2720 hM.1)) (c1_skip c1_nil) (fs_k fs_n)), Sm.tset (Sm.tset Sm.rf ez2720 (by decide)) ez2722 (by decide)⟩)

set_option maxHeartbeats 4000000 in
set_option maxRecDepth 100000 in
theorem m_takes (Mq : zM) (o : Nat → Nat) (f : Nat → Nat → Nat) (hM : MM Mq o f) (tx : Nat → Nat) (hX : ∀ q, q < o 7 → f 144 q = byv (tx q)) (htx : ∀ q, tx q < 256) (htl : o 7 ≤ 240) (hp : o 8 ≤ o 7) (hg : o 10 = 1) (c : Nat) (h0 : 0 < c) (hc : c < 128) : Zm 1 zm_MO_takes [.ref 139, .int (nI c)] Mq (fun r9 M1 => (hr tx (o 7) (sk tx (o 7) (o 8)) = c → r9 = some (.int 1) ∧ MM M1 (up o 8 (sk tx (o 7) (o 8) + 1)) f ∧ Sm Mq M1 [139]) ∧ (¬ hr tx (o 7) (sk tx (o 7) (o 8)) = c → r9 = some (.int 0) ∧ MM M1 (up o 8 (sk tx (o 7) (o 8) + 0)) f ∧ Sm Mq M1 [139])) := by
  show Zw 1 zm_MO_takes 0 [some (.ref 139), some (.int (nI c)), none] [] Mq _
  refine zw_n 1 rfl ?_
  refine zw_get (v := .int (nI (o 10))) rfl hM.1 rfl ?_
  refine zw_eq0N (a := o 10) rfl rfl (by omega) (fun c4 => ?_) (fun c4 => ?_)
  · -- 4 to 19
    exfalso
    omega
  · -- 4 to 7
    refine zw_n 1 rfl ?_
    refine zw_callV (as := []) (rest := []) rfl rfl rfl hM.1 rfl rfl rfl (by decide) (m_next Mq o f hM tx hX htx htl (show o 8 ≤ o 7 by omega)) (fun rz2726 Mz2727 hz2728 => ?_)
    obtain ⟨hAz2723, hMMz2724, hSz2725⟩ := hz2728
    rw [hAz2723]
    have hgehAz2723 := sk_ge tx (o 7) (o 8)
    have hlehAz2723 := @sk_le tx (o 7) (o 8) (by omega)
    show Zw 1 zm_MO_takes 11 [some (.ref 139), some (.int (nI c)), none] [.int (nI (mv tx (o 7) (sk tx (o 7) (o 8))))] Mz2727 _
    refine zw_n 1 rfl ?_
    refine zw_ine rfl (fun c12 => ?_) (fun c12 => ?_)
    · -- 12 to 19
      refine zw_n 4 (ls' := [some (.ref 139), some (.int (nI c)), some (.int 0)]) rfl ?_
      refine zw_get (v := .int (nI (sk tx (o 7) (o 8)))) rfl hMMz2724.1 rfl ?_
      refine zw_n 1 rfl ?_
      refine zw_if rfl ?_
      show Zw 1 zm_MO_takes 34 [some (.ref 139), some (.int (nI c)), some (.int 0)] [.int (nI (sk tx (o 7) (o 8))), .ref 139] Mz2727 _
      refine zw_n 2 rfl ?_
      refine zw_top (na (a := sk tx (o 7) (o 8)) (b := 0) rfl rfl) ?_
      refine zw_put rfl hMMz2724.1 (rfl) (Nat.le_of_ble_eq_true rfl) ?_
      generalize ez2730 : List.set Mz2727 139 _ = Mz2729
      refine zw_n 1 rfl ?_
      exact zw_zret rfl rfl (Or.inl rfl) (⟨fun q9 => absurd ((mv_eq htx h0 hc).mpr q9) c12, fun q9 => ⟨rfl, (MM.of (o' := up o 8 ((sk tx (o 7) (o 8)) + 0)) (f' := f) hM (Sm.tset (Sm.trans Sm.rf hSz2725) ez2730 (by decide)) (zat_self ez2730 hMMz2724.1) (c1_skip c1_nil) (fs_k fs_n)), Sm.tset (Sm.trans Sm.rf hSz2725) ez2730 (by decide)⟩⟩)
    · -- 12 to 15
      refine zw_n 5 (ls' := [some (.ref 139), some (.int (nI c)), some (.int 1)]) rfl ?_
      refine zw_get (v := .int (nI (sk tx (o 7) (o 8)))) rfl hMMz2724.1 rfl ?_
      refine zw_n 1 rfl ?_
      refine zw_if rfl ?_
      show Zw 1 zm_MO_takes 30 [some (.ref 139), some (.int (nI c)), some (.int 1)] [.int (nI (sk tx (o 7) (o 8))), .ref 139] Mz2727 _
      refine zw_n 3 rfl ?_
      refine zw_top (na (a := sk tx (o 7) (o 8)) (b := 1) rfl rfl) ?_
      refine zw_put rfl hMMz2724.1 (rfl) (Nat.le_of_ble_eq_true rfl) ?_
      generalize ez2732 : List.set Mz2727 139 _ = Mz2731
      refine zw_n 1 rfl ?_
      exact zw_zret rfl rfl (Or.inr rfl) (⟨fun q9 => ⟨rfl, (MM.of (o' := up o 8 ((sk tx (o 7) (o 8)) + 1)) (f' := f) hM (Sm.tset (Sm.trans Sm.rf hSz2725) ez2732 (by decide)) (zat_self ez2732 hMMz2724.1) (c1_skip c1_nil) (fs_k fs_n)), Sm.tset (Sm.trans Sm.rf hSz2725) ez2732 (by decide)⟩, fun q9 => absurd ((mv_eq htx h0 hc).mp c12) q9⟩)

set_option maxHeartbeats 4000000 in
set_option maxRecDepth 100000 in
theorem m_takesB (Mq : zM) (o : Nat → Nat) (f : Nat → Nat → Nat) (hM : MM Mq o f) (hg : o 10 = 0) (c : Nat) : Zm 1 zm_MO_takes [.ref 139, .int (nI c)] Mq (fun r9 M1 => r9 = some (.int 0) ∧ MM M1 (up o 8 (o 8 + 0)) f ∧ Sm Mq M1 [139]) := by
  show Zw 1 zm_MO_takes 0 [some (.ref 139), some (.int (nI c)), none] [] Mq _
  refine zw_n 1 rfl ?_
  refine zw_get (v := .int (nI (o 10))) rfl hM.1 rfl ?_
  refine zw_eq0N (a := o 10) rfl rfl (by omega) (fun c4 => ?_) (fun c4 => ?_)
  · -- 4 to 19
    refine zw_n 4 (ls' := [some (.ref 139), some (.int (nI c)), some (.int 0)]) rfl ?_
    refine zw_get (v := .int (nI (o 8))) rfl hM.1 rfl ?_
    refine zw_n 1 rfl ?_
    refine zw_if rfl ?_
    show Zw 1 zm_MO_takes 34 [some (.ref 139), some (.int (nI c)), some (.int 0)] [.int (nI (o 8)), .ref 139] Mq _
    refine zw_n 2 rfl ?_
    refine zw_top (na (a := o 8) (b := 0) rfl rfl) ?_
    refine zw_put rfl hM.1 (rfl) (Nat.le_of_ble_eq_true rfl) ?_
    generalize ez2734 : List.set Mq 139 _ = Mz2733
    refine zw_n 1 rfl ?_
    exact zw_zret rfl rfl (Or.inl rfl) (⟨rfl, (MM.of (o' := up o 8 ((o 8) + 0)) (f' := f) hM (Sm.tset Sm.rf ez2734 (by decide)) (zat_self ez2734 hM.1) (c1_skip c1_nil) (fs_k fs_n)), Sm.tset Sm.rf ez2734 (by decide)⟩)
  · -- 4 to 7
    exfalso
    omega
