set_option maxHeartbeats 4000000 in
set_option maxRecDepth 100000 in
theorem m_againNo (Mq : zM) (o : Nat → Nat) (f : Nat → Nat → Nat) (hM : MM Mq o f) (x : Int32) (hx : ¬ (0 ≤ x.toInt ∧ x.toInt < 2)) : Zm 5 zm_MO_again [.ref 139, .int x] Mq (fun r9 M1 => r9 = some (.int (0)) ∧ MM M1 (up o 0 0) f ∧ Sm Mq M1 [139]) := by
  show Zw 5 zm_MO_again 0 [some (.ref 139), some (.int x), none] [] Mq _
  refine zw_n 2 rfl ?_
  refine zw_put rfl hM.1 (rfl) (Nat.le_of_ble_eq_true rfl) ?_
  generalize ez3441 : List.set Mq 139 _ = Mz3440
  refine zw_n 4 rfl ?_
  refine zw_callS (as := [.long (Int32.toInt64 x), .long 0, .long 1]) (rest := []) rfl rfl rfl rfl rfl rfl (by decide) (m_in Mz3440 (Int32.toInt64 x) 0 1 x.toInt 0 1 (Int32.toInt_toInt64 _) (by decide) (by decide)) (fun rz3442 Mz3443 hz3444 => ?_)
  rw [hz3444.1, hz3444.2]
  show Zw 5 zm_MO_again 12 [some (.ref 139), some (.int x), none] [.int (nI (if 0 ≤ x.toInt ∧ x.toInt ≤ 1 then 1 else 0))] Mz3440 _
  refine zw_eq0N (a := if 0 ≤ x.toInt ∧ x.toInt ≤ 1 then 1 else 0) rfl rfl (ite_b) (fun c12 => ?_) (fun c12 => ?_)
  · -- 12 to 24
    refine zw_n 1 rfl ?_
    exact zw_zret rfl rfl (Or.inl rfl) (⟨rfl, (MM.of (o' := up o 0 0) (f' := f) hM (Sm.tset Sm.rf ez3441 (by decide)) (zat_self ez3441 hM.1) (c1_skip c1_nil) (fs_k fs_n)), Sm.tset Sm.rf ez3441 (by decide)⟩)
  · -- 12 to 15
    exfalso
    have := ite_ne c12; omega

set_option maxHeartbeats 4000000 in
set_option maxRecDepth 100000 in
theorem m_againE0 (Mq : zM) (o : Nat → Nat) (f : Nat → Nat → Nat) (hM : MM Mq o f) (hk : f 142 0 = 0) : Zm 5 zm_MO_again [.ref 139, .int 0] Mq (fun r9 M1 => r9 = some (.int (0)) ∧ MM M1 (up o 0 0) f ∧ Sm Mq M1 [139]) := by
  show Zw 5 zm_MO_again 0 [some (.ref 139), some (.int 0), none] [] Mq _
  refine zw_n 2 rfl ?_
  refine zw_put rfl hM.1 (rfl) (Nat.le_of_ble_eq_true rfl) ?_
  generalize ez3446 : List.set Mq 139 _ = Mz3445
  refine zw_n 4 rfl ?_
  refine zw_callS (as := [.long (Int32.toInt64 0), .long 0, .long 1]) (rest := []) rfl rfl rfl rfl rfl rfl (by decide) (m_in Mz3445 (Int32.toInt64 0) 0 1 0 0 1 (by decide) (by decide) (by decide)) (fun rz3447 Mz3448 hz3449 => ?_)
  rw [hz3449.1, hz3449.2]
  show Zw 5 zm_MO_again 12 [some (.ref 139), some (.int 0), none] [.int (nI (if 0 ≤ 0 ∧ 0 ≤ 1 then 1 else 0))] Mz3445 _
  refine zw_eq0N (a := if 0 ≤ 0 ∧ 0 ≤ 1 then 1 else 0) rfl rfl (ite_b) (fun c12 => ?_) (fun c12 => ?_)
  · -- 12 to 24
    refine zw_n 1 rfl ?_
    exact zw_zret rfl rfl (Or.inl rfl) (⟨rfl, (MM.of (o' := up o 0 0) (f' := f) hM (Sm.tset Sm.rf ez3446 (by decide)) (zat_self ez3446 hM.1) (c1_skip c1_nil) (fs_k fs_n)), Sm.tset Sm.rf ez3446 (by decide)⟩)
  · -- 12 to 15
    refine zw_n 1 rfl ?_
    refine zw_get (v := .ref 142) rfl (zat_self ez3446 hM.1) rfl ?_
    refine zw_n 1 rfl ?_
    refine zw_bald (f := ai (f 142)) (j := 0) rfl (zat_set ez3446 (by decide) (hM.2 142 (by decide) (by decide))) rfl rfl (by decide) (by omega) ?_
    refine zw_ne0N (a := (f 142) 0) rfl rfl (by omega) (fun c21 => ?_) (fun c21 => ?_)
    · -- 21 to 26
      exfalso
      exact c21 hk
    · -- 21 to 24
      refine zw_n 1 rfl ?_
      exact zw_zret rfl rfl (Or.inl rfl) (⟨rfl, (MM.of (o' := up o 0 0) (f' := f) hM (Sm.tset Sm.rf ez3446 (by decide)) (zat_self ez3446 hM.1) (c1_skip c1_nil) (fs_k fs_n)), Sm.tset Sm.rf ez3446 (by decide)⟩)

set_option maxHeartbeats 4000000 in
set_option maxRecDepth 100000 in
theorem m_again0 (Mq : zM) (o : Nat → Nat) (f : Nat → Nat → Nat) (hM : MM Mq o f) (n : Nat) (gn al_ it pt tg bd : Nat → Nat) (hw : RowG (fset f 140 (kRi f 0 590)) n gn al_ it pt tg bd) (hG : SafeG n gn al_ it pt tg bd) (hF : SafeF f) (hres : DrR n gn al_ it pt tg) (h4 : SafeM (f 154)) (h5 : SafeM (f 155)) (hkb : ∀ q, f 141 q < 2147483648) (hk : f 142 0 = 1) : Zm 5 zm_MO_again [.ref 139, .int 0] Mq (fun r9 M1 => r9 = some (.int 1) ∧ ∃ P F B, MM M1 (up (up o 0 0) 5 0) (fset (fset (fset (fset f 155 B) 154 F) 153 P) 140 (kRi f 0 590)) ∧ Sm Mq M1 [139, 140, 153, 154, 155] ∧ SafeM F ∧ SafeM B ∧ RelG (fset (fset (fset (fset f 155 B) 154 F) 153 P) 140 (kRi f 0 590)) n gn al_ it pt tg bd ∧ IsLfp n (frR al_ it tg bd) F ∧ IsLfp n (brR al_ it tg bd) B) := by
  show Zw 5 zm_MO_again 0 [some (.ref 139), some (.int 0), none] [] Mq _
  refine zw_n 2 rfl ?_
  refine zw_put rfl hM.1 (rfl) (Nat.le_of_ble_eq_true rfl) ?_
  generalize ez3451 : List.set Mq 139 _ = Mz3450
  refine zw_n 4 rfl ?_
  refine zw_callS (as := [.long (Int32.toInt64 0), .long 0, .long 1]) (rest := []) rfl rfl rfl rfl rfl rfl (by decide) (m_in Mz3450 (Int32.toInt64 0) 0 1 0 0 1 (by decide) (by decide) (by decide)) (fun rz3452 Mz3453 hz3454 => ?_)
  rw [hz3454.1, hz3454.2]
  show Zw 5 zm_MO_again 12 [some (.ref 139), some (.int 0), none] [.int (nI (if 0 ≤ 0 ∧ 0 ≤ 1 then 1 else 0))] Mz3450 _
  refine zw_eq0N (a := if 0 ≤ 0 ∧ 0 ≤ 1 then 1 else 0) rfl rfl (ite_b) (fun c12 => ?_) (fun c12 => ?_)
  · -- 12 to 24
    exfalso
    first | exact ite_eq0 c12 (by decide) | omega
  · -- 12 to 15
    refine zw_n 1 rfl ?_
    refine zw_get (v := .ref 142) rfl (zat_self ez3451 hM.1) rfl ?_
    refine zw_n 1 rfl ?_
    refine zw_bald (f := ai (f 142)) (j := 0) rfl (zat_set ez3451 (by decide) (hM.2 142 (by decide) (by decide))) rfl rfl (by decide) (by omega) ?_
    refine zw_ne0N (a := (f 142) 0) rfl rfl (by omega) (fun c21 => ?_) (fun c21 => ?_)
    · -- 21 to 26
      refine zw_n 2 (ls' := [some (.ref 139), some (.int 0), some (.int 0)]) rfl ?_
      have mz3455 : Mz3450[140]? = some (.inl (0, 590, .inl (ai (f 140)))) := zat_set ez3451 (by decide) (hM.2 140 (by decide) (by decide))
      have mz3456 : Mz3450[141]? = some (.inl (0, 1180, .inl (ai (f 141)))) := zat_set ez3451 (by decide) (hM.2 141 (by decide) (by decide))
      have mz3457 : Mz3450[142]? = some (.inl (3, 2, .inl (ai (f 142)))) := zat_set ez3451 (by decide) (hM.2 142 (by decide) (by decide))
      have mz3458 : Mz3450[153]? = some (.inl (0, 160, .inl (ai (f 153)))) := zat_set ez3451 (by decide) (hM.2 153 (by decide) (by decide))
      have mz3459 : Mz3450[154]? = some (.inl (1, 8, .inr (.inl (al (f 154))))) := zat_set ez3451 (by decide) (hM.2 154 (by decide) (by decide))
      have mz3460 : Mz3450[155]? = some (.inl (1, 8, .inr (.inl (al (f 155))))) := zat_set ez3451 (by decide) (hM.2 155 (by decide) (by decide))
      have lp28 : ∀ (n28 : Nat) (i : Nat) (R : Nat → Nat) (M_28 : zM), Sm Mq M_28 [139, 140, 153, 154, 155] → M_28[140]? = some (.inl (0, 590, .inl (ai R))) → M_28[139]? = some (.inr (12, [.int 0, .ref 140, .ref 141, .ref 142, .ref 143, .int (nI (o 5)), .ref 144, .int (nI (o 7)), .int (nI (o 8)), .int (nI (o 9)), .int (nI (o 10)), .ref 145, .ref 146, .ref 147, .ref 148, .ref 149, .ref 150, .ref 151, .ref 152, .ref 153, .ref 154, .ref 155, .ref 156, .ref 157, .ref 158, .ref 159, .ref 160, .ref 161, .ref 162, .ref 163, .ref 164, .int (nI (o 31)), .ref 165, .int (nI (o 33)), .ref 166, .ref 167, .ref 168, .ref 169, .int (nI (o 38)), .ref 170, .ref 171, .ref 172, .ref 173, .ref 174, .ref 175, .int (nI (o 45)), .int (nI (o 46)), .int (nI (o 47)), .long (lN (o 48)), .ref 176])) → M_28[153]? = some (.inl (0, 160, .inl (ai (f 153)))) → M_28[154]? = some (.inl (1, 8, .inr (.inl (al (f 154))))) → M_28[155]? = some (.inl (1, 8, .inr (.inl (al (f 155))))) → (i ≤ 590 ∧ R = kRi f 0 i) → 590 - i < n28 → Zw 5 zm_MO_again 28 [some (.ref 139), some (.int 0), some (.int (nI i))] [] M_28 (fun r9 M1 => r9 = some (.int 1) ∧ ∃ P F B, MM M1 (up (up o 0 0) 5 0) (fset (fset (fset (fset f 155 B) 154 F) 153 P) 140 (kRi f 0 590)) ∧ Sm Mq M1 [139, 140, 153, 154, 155] ∧ SafeM F ∧ SafeM B ∧ RelG (fset (fset (fset (fset f 155 B) 154 F) 153 P) 140 (kRi f 0 590)) n gn al_ it pt tg bd ∧ IsLfp n (frR al_ it tg bd) F ∧ IsLfp n (brR al_ it tg bd) B) := by
        intro n28
        induction n28 with
        | zero => intro i R M_28 _ _ _ _ _ _ _ h; exact absurd h (Nat.not_lt_zero _)
        | succ n28 ih28 =>
          intro i R M_28 s_28 f28_0 f28_1 f28_2 f28_3 f28_4 hi28 hm28
          refine zw_n 2 rfl ?_
          refine zw_igeN (a := i) (b := 590) rfl rfl rfl (by omega) (by omega) (fun c32 => ?_) (fun c32 => ?_)
          · -- 32 to 59
            have hR9 : R = kRi f 0 590 := by rw [hi28.2, show i = 590 by omega]
            have hw9 : RowG (fset f 140 R) n gn al_ it pt tg bd := by rw [hR9]; exact hw
            have hF9 : SafeF (fset f 140 R) := by rw [hR9]; exact kRi_F hF hkb
            refine zw_n 2 rfl ?_
            refine zw_put rfl f28_1 (rfl) (Nat.le_of_ble_eq_true rfl) ?_
            generalize ez3462 : List.set M_28 139 _ = Mz3461
            refine zw_n 1 rfl ?_
            refine zw_callV (as := []) (rest := []) rfl rfl rfl (zat_self ez3462 f28_1) rfl rfl rfl (by decide) (m_layFree Mz3461 (up (up o 0 0) 5 0) (fset f 140 R) (MM.of (o' := up (up o 0 0) 5 0) (f' := fset f 140 R) hM (Sm.tset s_28 ez3462 (by decide)) (zat_self ez3462 f28_1) (c1_skip (c1_cons (zat_set ez3462 (by decide) f28_0) (c1_cons (zat_set ez3462 (by decide) f28_2) (c1_cons (zat_set ez3462 (by decide) f28_3) (c1_cons (zat_set ez3462 (by decide) f28_4) c1_nil))))) (fs_k (fs_c (fs_k (fs_k (fs_k fs_n)))))) n gn al_ it pt tg bd hw9 hG hF9 hres h4 h5) (fun rz3474 Mz3475 hz3476 => ?_)
            obtain ⟨hAz3463, Pz3464, Fz3465, Bz3466, hMMz3467, hSz3468, sFz3469, sBz3470, hRelz3471, hlz3472, hbz3473⟩ := hz3476
            rw [hAz3463]
            show Zw 5 zm_MO_again 68 [some (.ref 139), some (.int 0), some (.int (nI i))] [] Mz3475 _
            refine zw_n 1 rfl ?_
            exact zw_zret rfl rfl (Or.inr rfl) (⟨rfl, Pz3464, Fz3465, Bz3466, by rw [← hR9]; exact (MM.of (o' := up (up o 0 0) 5 0) (f' := fset (fset (fset (fset f 155 Bz3466) 154 Fz3465) 153 Pz3464) 140 R) hM (Sm.tw (Sm.tset s_28 ez3462 (by decide)) hSz3468 (by decide)) (Sm.at hSz3468 (by decide) (zat_self ez3462 f28_1)) (c1_skip (c1_cons (Sm.at hSz3468 (by decide) (zat_set ez3462 (by decide) f28_0)) (c1_cons (hMMz3467.2 153 (by decide) (by decide)) (c1_cons (hMMz3467.2 154 (by decide) (by decide)) (c1_cons (hMMz3467.2 155 (by decide) (by decide)) c1_nil))))) (fs_k (fs_c (fs_c (fs_c (fs_c fs_n)))))), Sm.tw (Sm.tset s_28 ez3462 (by decide)) hSz3468 (by decide), sFz3469, sBz3470, by rw [← hR9]; exact hRelz3471, hlz3472, hbz3473⟩)
          · -- 32 to 35
            refine zw_n 1 rfl ?_
            refine zw_get (v := .ref 140) rfl f28_1 rfl ?_
            refine zw_n 2 rfl ?_
            refine zw_get (v := .ref 141) rfl f28_1 rfl ?_
            refine zw_n 3 rfl ?_
            refine zw_n 2 rfl ?_
            refine zw_top (na (a := 0) (b := i) rfl rfl) ?_
            refine zw_iald (f := ai (f 141)) (j := (0 + i)) rfl (Sm.at s_28 (by decide) (hM.2 141 (by decide) (by decide))) rfl (by decide) (by omega) ?_
            refine zw_iastN (g := R) (j := i) (v := ((f 141) (0 + i))) rfl f28_0 rfl (by decide) (by omega) (rfl) ?_
            generalize ez3478 : List.set M_28 140 _ = Mz3477
            refine zw_inc rfl (x' := (nI (i + 1))) (ls' := [some (.ref 139), some (.int 0), some (.int (nI (i + 1)))]) rfl (na (a := i) (b := 1) rfl rfl) rfl ?_
            refine zw_n 1 rfl ?_
            exact ih28 (i + 1) (up R i ((f 141) (0 + i))) Mz3477 (Sm.tset s_28 ez3478 (by decide)) (zat_self ez3478 f28_0) (zat_set ez3478 (by decide) f28_1) (zat_set ez3478 (by decide) f28_2) (zat_set ez3478 (by decide) f28_3) (zat_set ez3478 (by decide) f28_4) (⟨by omega, by rw [hi28.2]; exact kRi_s⟩) (by omega)
      exact lp28 _ 0 (f 140) Mz3450 (Sm.tset Sm.rf ez3451 (by decide)) mz3455 (zat_self ez3451 hM.1) mz3458 mz3459 mz3460 (⟨Nat.zero_le _, (kRi_0 ..).symm⟩) (Nat.lt_succ_self _)
    · -- 21 to 24
      exfalso
      first | exact ite_eq0 c12 (by decide) | omega

set_option maxHeartbeats 4000000 in
set_option maxRecDepth 100000 in
theorem m_againE1 (Mq : zM) (o : Nat → Nat) (f : Nat → Nat → Nat) (hM : MM Mq o f) (hk : f 142 1 = 0) : Zm 5 zm_MO_again [.ref 139, .int 1] Mq (fun r9 M1 => r9 = some (.int (0)) ∧ MM M1 (up o 0 0) f ∧ Sm Mq M1 [139]) := by
  show Zw 5 zm_MO_again 0 [some (.ref 139), some (.int 1), none] [] Mq _
  refine zw_n 2 rfl ?_
  refine zw_put rfl hM.1 (rfl) (Nat.le_of_ble_eq_true rfl) ?_
  generalize ez3480 : List.set Mq 139 _ = Mz3479
  refine zw_n 4 rfl ?_
  refine zw_callS (as := [.long (Int32.toInt64 1), .long 0, .long 1]) (rest := []) rfl rfl rfl rfl rfl rfl (by decide) (m_in Mz3479 (Int32.toInt64 1) 0 1 1 0 1 (by decide) (by decide) (by decide)) (fun rz3481 Mz3482 hz3483 => ?_)
  rw [hz3483.1, hz3483.2]
  show Zw 5 zm_MO_again 12 [some (.ref 139), some (.int 1), none] [.int (nI (if 0 ≤ 1 ∧ 1 ≤ 1 then 1 else 0))] Mz3479 _
  refine zw_eq0N (a := if 0 ≤ 1 ∧ 1 ≤ 1 then 1 else 0) rfl rfl (ite_b) (fun c12 => ?_) (fun c12 => ?_)
  · -- 12 to 24
    refine zw_n 1 rfl ?_
    exact zw_zret rfl rfl (Or.inl rfl) (⟨rfl, (MM.of (o' := up o 0 0) (f' := f) hM (Sm.tset Sm.rf ez3480 (by decide)) (zat_self ez3480 hM.1) (c1_skip c1_nil) (fs_k fs_n)), Sm.tset Sm.rf ez3480 (by decide)⟩)
  · -- 12 to 15
    refine zw_n 1 rfl ?_
    refine zw_get (v := .ref 142) rfl (zat_self ez3480 hM.1) rfl ?_
    refine zw_n 1 rfl ?_
    refine zw_bald (f := ai (f 142)) (j := 1) rfl (zat_set ez3480 (by decide) (hM.2 142 (by decide) (by decide))) rfl rfl (by decide) (by omega) ?_
    refine zw_ne0N (a := (f 142) 1) rfl rfl (by omega) (fun c21 => ?_) (fun c21 => ?_)
    · -- 21 to 26
      exfalso
      exact c21 hk
    · -- 21 to 24
      refine zw_n 1 rfl ?_
      exact zw_zret rfl rfl (Or.inl rfl) (⟨rfl, (MM.of (o' := up o 0 0) (f' := f) hM (Sm.tset Sm.rf ez3480 (by decide)) (zat_self ez3480 hM.1) (c1_skip c1_nil) (fs_k fs_n)), Sm.tset Sm.rf ez3480 (by decide)⟩)

set_option maxHeartbeats 4000000 in
set_option maxRecDepth 100000 in
theorem m_again1 (Mq : zM) (o : Nat → Nat) (f : Nat → Nat → Nat) (hM : MM Mq o f) (n : Nat) (gn al_ it pt tg bd : Nat → Nat) (hw : RowG (fset f 140 (kRi f 1 590)) n gn al_ it pt tg bd) (hG : SafeG n gn al_ it pt tg bd) (hF : SafeF f) (hres : DrR n gn al_ it pt tg) (h4 : SafeM (f 154)) (h5 : SafeM (f 155)) (hkb : ∀ q, f 141 q < 2147483648) (hk : f 142 1 = 1) : Zm 5 zm_MO_again [.ref 139, .int 1] Mq (fun r9 M1 => r9 = some (.int 1) ∧ ∃ P F B, MM M1 (up (up o 0 0) 5 0) (fset (fset (fset (fset f 155 B) 154 F) 153 P) 140 (kRi f 1 590)) ∧ Sm Mq M1 [139, 140, 153, 154, 155] ∧ SafeM F ∧ SafeM B ∧ RelG (fset (fset (fset (fset f 155 B) 154 F) 153 P) 140 (kRi f 1 590)) n gn al_ it pt tg bd ∧ IsLfp n (frR al_ it tg bd) F ∧ IsLfp n (brR al_ it tg bd) B) := by
  show Zw 5 zm_MO_again 0 [some (.ref 139), some (.int 1), none] [] Mq _
  refine zw_n 2 rfl ?_
  refine zw_put rfl hM.1 (rfl) (Nat.le_of_ble_eq_true rfl) ?_
  generalize ez3485 : List.set Mq 139 _ = Mz3484
  refine zw_n 4 rfl ?_
  refine zw_callS (as := [.long (Int32.toInt64 1), .long 0, .long 1]) (rest := []) rfl rfl rfl rfl rfl rfl (by decide) (m_in Mz3484 (Int32.toInt64 1) 0 1 1 0 1 (by decide) (by decide) (by decide)) (fun rz3486 Mz3487 hz3488 => ?_)
  rw [hz3488.1, hz3488.2]
  show Zw 5 zm_MO_again 12 [some (.ref 139), some (.int 1), none] [.int (nI (if 0 ≤ 1 ∧ 1 ≤ 1 then 1 else 0))] Mz3484 _
  refine zw_eq0N (a := if 0 ≤ 1 ∧ 1 ≤ 1 then 1 else 0) rfl rfl (ite_b) (fun c12 => ?_) (fun c12 => ?_)
  · -- 12 to 24
    exfalso
    first | exact ite_eq0 c12 (by decide) | omega
  · -- 12 to 15
    refine zw_n 1 rfl ?_
    refine zw_get (v := .ref 142) rfl (zat_self ez3485 hM.1) rfl ?_
    refine zw_n 1 rfl ?_
    refine zw_bald (f := ai (f 142)) (j := 1) rfl (zat_set ez3485 (by decide) (hM.2 142 (by decide) (by decide))) rfl rfl (by decide) (by omega) ?_
    refine zw_ne0N (a := (f 142) 1) rfl rfl (by omega) (fun c21 => ?_) (fun c21 => ?_)
    · -- 21 to 26
      refine zw_n 2 (ls' := [some (.ref 139), some (.int 1), some (.int 0)]) rfl ?_
      have mz3489 : Mz3484[140]? = some (.inl (0, 590, .inl (ai (f 140)))) := zat_set ez3485 (by decide) (hM.2 140 (by decide) (by decide))
      have mz3490 : Mz3484[141]? = some (.inl (0, 1180, .inl (ai (f 141)))) := zat_set ez3485 (by decide) (hM.2 141 (by decide) (by decide))
      have mz3491 : Mz3484[142]? = some (.inl (3, 2, .inl (ai (f 142)))) := zat_set ez3485 (by decide) (hM.2 142 (by decide) (by decide))
      have mz3492 : Mz3484[153]? = some (.inl (0, 160, .inl (ai (f 153)))) := zat_set ez3485 (by decide) (hM.2 153 (by decide) (by decide))
      have mz3493 : Mz3484[154]? = some (.inl (1, 8, .inr (.inl (al (f 154))))) := zat_set ez3485 (by decide) (hM.2 154 (by decide) (by decide))
      have mz3494 : Mz3484[155]? = some (.inl (1, 8, .inr (.inl (al (f 155))))) := zat_set ez3485 (by decide) (hM.2 155 (by decide) (by decide))
      have lp28 : ∀ (n28 : Nat) (i : Nat) (R : Nat → Nat) (M_28 : zM), Sm Mq M_28 [139, 140, 153, 154, 155] → M_28[140]? = some (.inl (0, 590, .inl (ai R))) → M_28[139]? = some (.inr (12, [.int 0, .ref 140, .ref 141, .ref 142, .ref 143, .int (nI (o 5)), .ref 144, .int (nI (o 7)), .int (nI (o 8)), .int (nI (o 9)), .int (nI (o 10)), .ref 145, .ref 146, .ref 147, .ref 148, .ref 149, .ref 150, .ref 151, .ref 152, .ref 153, .ref 154, .ref 155, .ref 156, .ref 157, .ref 158, .ref 159, .ref 160, .ref 161, .ref 162, .ref 163, .ref 164, .int (nI (o 31)), .ref 165, .int (nI (o 33)), .ref 166, .ref 167, .ref 168, .ref 169, .int (nI (o 38)), .ref 170, .ref 171, .ref 172, .ref 173, .ref 174, .ref 175, .int (nI (o 45)), .int (nI (o 46)), .int (nI (o 47)), .long (lN (o 48)), .ref 176])) → M_28[153]? = some (.inl (0, 160, .inl (ai (f 153)))) → M_28[154]? = some (.inl (1, 8, .inr (.inl (al (f 154))))) → M_28[155]? = some (.inl (1, 8, .inr (.inl (al (f 155))))) → (i ≤ 590 ∧ R = kRi f 1 i) → 590 - i < n28 → Zw 5 zm_MO_again 28 [some (.ref 139), some (.int 1), some (.int (nI i))] [] M_28 (fun r9 M1 => r9 = some (.int 1) ∧ ∃ P F B, MM M1 (up (up o 0 0) 5 0) (fset (fset (fset (fset f 155 B) 154 F) 153 P) 140 (kRi f 1 590)) ∧ Sm Mq M1 [139, 140, 153, 154, 155] ∧ SafeM F ∧ SafeM B ∧ RelG (fset (fset (fset (fset f 155 B) 154 F) 153 P) 140 (kRi f 1 590)) n gn al_ it pt tg bd ∧ IsLfp n (frR al_ it tg bd) F ∧ IsLfp n (brR al_ it tg bd) B) := by
        intro n28
        induction n28 with
        | zero => intro i R M_28 _ _ _ _ _ _ _ h; exact absurd h (Nat.not_lt_zero _)
        | succ n28 ih28 =>
          intro i R M_28 s_28 f28_0 f28_1 f28_2 f28_3 f28_4 hi28 hm28
          refine zw_n 2 rfl ?_
          refine zw_igeN (a := i) (b := 590) rfl rfl rfl (by omega) (by omega) (fun c32 => ?_) (fun c32 => ?_)
          · -- 32 to 59
            have hR9 : R = kRi f 1 590 := by rw [hi28.2, show i = 590 by omega]
            have hw9 : RowG (fset f 140 R) n gn al_ it pt tg bd := by rw [hR9]; exact hw
            have hF9 : SafeF (fset f 140 R) := by rw [hR9]; exact kRi_F hF hkb
            refine zw_n 2 rfl ?_
            refine zw_put rfl f28_1 (rfl) (Nat.le_of_ble_eq_true rfl) ?_
            generalize ez3496 : List.set M_28 139 _ = Mz3495
            refine zw_n 1 rfl ?_
            refine zw_callV (as := []) (rest := []) rfl rfl rfl (zat_self ez3496 f28_1) rfl rfl rfl (by decide) (m_layFree Mz3495 (up (up o 0 0) 5 0) (fset f 140 R) (MM.of (o' := up (up o 0 0) 5 0) (f' := fset f 140 R) hM (Sm.tset s_28 ez3496 (by decide)) (zat_self ez3496 f28_1) (c1_skip (c1_cons (zat_set ez3496 (by decide) f28_0) (c1_cons (zat_set ez3496 (by decide) f28_2) (c1_cons (zat_set ez3496 (by decide) f28_3) (c1_cons (zat_set ez3496 (by decide) f28_4) c1_nil))))) (fs_k (fs_c (fs_k (fs_k (fs_k fs_n)))))) n gn al_ it pt tg bd hw9 hG hF9 hres h4 h5) (fun rz3508 Mz3509 hz3510 => ?_)
            obtain ⟨hAz3497, Pz3498, Fz3499, Bz3500, hMMz3501, hSz3502, sFz3503, sBz3504, hRelz3505, hlz3506, hbz3507⟩ := hz3510
            rw [hAz3497]
            show Zw 5 zm_MO_again 68 [some (.ref 139), some (.int 1), some (.int (nI i))] [] Mz3509 _
            refine zw_n 1 rfl ?_
            exact zw_zret rfl rfl (Or.inr rfl) (⟨rfl, Pz3498, Fz3499, Bz3500, by rw [← hR9]; exact (MM.of (o' := up (up o 0 0) 5 0) (f' := fset (fset (fset (fset f 155 Bz3500) 154 Fz3499) 153 Pz3498) 140 R) hM (Sm.tw (Sm.tset s_28 ez3496 (by decide)) hSz3502 (by decide)) (Sm.at hSz3502 (by decide) (zat_self ez3496 f28_1)) (c1_skip (c1_cons (Sm.at hSz3502 (by decide) (zat_set ez3496 (by decide) f28_0)) (c1_cons (hMMz3501.2 153 (by decide) (by decide)) (c1_cons (hMMz3501.2 154 (by decide) (by decide)) (c1_cons (hMMz3501.2 155 (by decide) (by decide)) c1_nil))))) (fs_k (fs_c (fs_c (fs_c (fs_c fs_n)))))), Sm.tw (Sm.tset s_28 ez3496 (by decide)) hSz3502 (by decide), sFz3503, sBz3504, by rw [← hR9]; exact hRelz3505, hlz3506, hbz3507⟩)
          · -- 32 to 35
            refine zw_n 1 rfl ?_
            refine zw_get (v := .ref 140) rfl f28_1 rfl ?_
            refine zw_n 2 rfl ?_
            refine zw_get (v := .ref 141) rfl f28_1 rfl ?_
            refine zw_n 3 rfl ?_
            refine zw_n 2 rfl ?_
            refine zw_top (na (a := 590) (b := i) rfl rfl) ?_
            refine zw_iald (f := ai (f 141)) (j := (590 + i)) rfl (Sm.at s_28 (by decide) (hM.2 141 (by decide) (by decide))) rfl (by decide) (by omega) ?_
            refine zw_iastN (g := R) (j := i) (v := ((f 141) (590 + i))) rfl f28_0 rfl (by decide) (by omega) (rfl) ?_
            generalize ez3512 : List.set M_28 140 _ = Mz3511
            refine zw_inc rfl (x' := (nI (i + 1))) (ls' := [some (.ref 139), some (.int 1), some (.int (nI (i + 1)))]) rfl (na (a := i) (b := 1) rfl rfl) rfl ?_
            refine zw_n 1 rfl ?_
            exact ih28 (i + 1) (up R i ((f 141) (590 + i))) Mz3511 (Sm.tset s_28 ez3512 (by decide)) (zat_self ez3512 f28_0) (zat_set ez3512 (by decide) f28_1) (zat_set ez3512 (by decide) f28_2) (zat_set ez3512 (by decide) f28_3) (zat_set ez3512 (by decide) f28_4) (⟨by omega, by rw [hi28.2]; exact kRi_s⟩) (by omega)
      exact lp28 _ 0 (f 140) Mz3484 (Sm.tset Sm.rf ez3485 (by decide)) mz3489 (zat_self ez3485 hM.1) mz3492 mz3493 mz3494 (⟨Nat.zero_le _, (kRi_0 ..).symm⟩) (Nat.lt_succ_self _)
    · -- 21 to 24
      exfalso
      first | exact ite_eq0 c12 (by decide) | omega
