set_option maxHeartbeats 4000000 in
set_option maxRecDepth 100000 in
theorem m_ruleNo (Mq : zM) (o : Nat → Nat) (f : Nat → Nat → Nat) (hM : MM Mq o f) (n : Nat) (hn0 : f 140 0 = n) (hn8 : n ≤ 8) (x w : Int32) (hx : ¬ (0 ≤ x.toInt ∧ x.toInt < n)) : Zm 3 zm_MO_rule [.ref 139, .int x, .int w] Mq (fun r9 M1 => r9 = some (.int 0) ∧ MM M1 (up o 0 1) f ∧ Sm Mq M1 [139]) := by
  show Zw 3 zm_MO_rule 0 [some (.ref 139), some (.int x), some (.int w)] [] Mq _
  refine zw_n 3 rfl ?_
  refine zw_callV (as := [.int x]) (rest := [.ref 139]) rfl rfl rfl hM.1 rfl rfl rfl (by decide) (m_isRule Mq o f hM n hn0 (by omega) x) (fun rz3527 Mz3528 hz3529 => ?_)
  rw [hz3529.1, hz3529.2]
  show Zw 3 zm_MO_rule 6 [some (.ref 139), some (.int x), some (.int w)] [.int (nI (if 0 ≤ x.toInt ∧ x.toInt < n then 1 else 0)), .ref 139] Mq _
  refine zw_eq0N (a := if 0 ≤ x.toInt ∧ x.toInt < n then 1 else 0) rfl rfl (ite_b) (fun c6 => ?_) (fun c6 => ?_)
  · -- 6 to 13
    refine zw_n 1 rfl ?_
    refine zw_put rfl hM.1 (rfl) (Nat.le_of_ble_eq_true rfl) ?_
    generalize ez3531 : List.set Mq 139 _ = Mz3530
    refine zw_n 1 rfl ?_
    refine zw_get (v := .int 1) rfl (zat_self ez3531 hM.1) rfl ?_
    refine zw_n 1 rfl ?_
    refine zw_ic rfl ?_
    show Zw 3 zm_MO_rule 25 [some (.ref 139), some (.int x), some (.int w)] [] Mz3530 _
    refine zw_n 1 rfl ?_
    refine zw_top (x' := nI 0) (by decide) ?_
    exact zw_iret rfl rfl (⟨rfl, (MM.of (o' := up o 0 1) (f' := f) hM (Sm.tset Sm.rf ez3531 (by decide)) (zat_self ez3531 hM.1) (c1_skip c1_nil) (fs_k fs_n)), Sm.tset Sm.rf ez3531 (by decide)⟩)
  · -- 6 to 9
    exfalso
    exact hx (ite_ne c6)

set_option maxHeartbeats 4000000 in
set_option maxRecDepth 100000 in
theorem m_ruleOk (Mq : zM) (o : Nat → Nat) (f : Nat → Nat → Nat) (hM : MM Mq o f)(n : Nat) (gn al_ it pt tg bd : Nat → Nat) (hg : RelG f n gn al_ it pt tg bd) (hG : SafeG n gn al_ it pt tg bd) (hF : SafeF f) (hres : DrR n gn al_ it pt tg) (he0 : ∀ q, f 162 q ≤ 1) (e : Nat → Bool) (hE : IsEmp n al_ it tg e) (r : Nat) (w : Int32) (h_r : r < n) : Zm 3 zm_MO_rule [.ref 139, .int (nI r), .int w] Mq (fun r9 M1 => r9 = some (.int (if w = nI 0 then nI (gn r) else if w = nI 1 then nI (al_ r) else if w = nI 2 then nI (if e r = true then 1 else 0) else -1)) ∧ ∃ f9, MM M1 (up o 0 0) f9 ∧ Sm Mq M1 [139, 162] ∧ (∀ a, a ∉ [139, 162] → f9 a = f a) ∧ ∀ q, f9 162 q ≤ 1) := by
  show Zw 3 zm_MO_rule 0 [some (.ref 139), some (.int (nI r)), some (.int w)] [] Mq _
  have hn8 := hG.1
  refine zw_n 3 rfl ?_
  refine zw_callV (as := [.int (nI r)]) (rest := [.ref 139]) rfl rfl rfl hM.1 rfl rfl rfl (by decide) (m_isRule Mq o f hM n hg.1 (by omega) (nI r)) (fun rz3532 Mz3533 hz3534 => ?_)
  rw [hz3534.1, hz3534.2]
  show Zw 3 zm_MO_rule 6 [some (.ref 139), some (.int (nI r)), some (.int w)] [.int (nI (if 0 ≤ (nI r).toInt ∧ (nI r).toInt < n then 1 else 0)), .ref 139] Mq _
  refine zw_eq0N (a := if 0 ≤ (nI r).toInt ∧ (nI r).toInt < n then 1 else 0) rfl rfl (ite_b) (fun c6 => ?_) (fun c6 => ?_)
  · -- 6 to 13
    exfalso
    exact ite_eq0 c6 (by rw [nI_toInt (by omega)]; omega)
  · -- 6 to 9
    refine zw_n 2 rfl ?_
    refine zw_put rfl hM.1 (rfl) (Nat.le_of_ble_eq_true rfl) ?_
    generalize ez3536 : List.set Mq 139 _ = Mz3535
    refine zw_n 1 rfl ?_
    refine zw_get (v := .int 0) rfl (zat_self ez3536 hM.1) rfl ?_
    refine zw_n 1 rfl ?_
    refine zw_ic rfl ?_
    show Zw 3 zm_MO_rule 27 [some (.ref 139), some (.int (nI r)), some (.int w)] [] Mz3535 _
    refine zw_n 1 rfl ?_
    refine zw_sw rfl (fun k28 hk28 c28 => ?_) (fun c28 => ?_)
    · rcases (show k28 = 0 ∨ k28 = 1 ∨ k28 = 2 by simp at hk28; omega) with rfl | rfl | rfl
      · show Zw 3 zm_MO_rule 56 [some (.ref 139), some (.int (nI r)), some (.int w)] [] Mz3535 _
        refine zw_n 1 rfl ?_
        refine zw_get (v := .ref 140) rfl (zat_self ez3536 hM.1) rfl ?_
        refine zw_n 3 rfl ?_
        refine zw_top (na (a := 1) (b := r) rfl rfl) ?_
        refine zw_iald (f := ai (f 140)) (j := (1 + r)) rfl (zat_set ez3536 (by decide) (hM.2 140 (by decide) (by decide))) rfl (by decide) (by omega) ?_
        refine zw_top (x' := (nI (gn r))) (congrArg nI (hg.2.1 r h_r)) ?_
        exact zw_iret rfl rfl (⟨by rw [if_pos c28]; try rfl, f, (MM.of (o' := up o 0 0) (f' := f) hM (Sm.tset Sm.rf ez3536 (by decide)) (zat_self ez3536 hM.1) (c1_skip (c1_cons (zat_set ez3536 (by decide) (hM.2 162 (by decide) (by decide))) c1_nil)) (fs_k (fs_k fs_n))), Sm.tset Sm.rf ez3536 (by decide), fs_k (fs_k fs_n), he0⟩)
      · show Zw 3 zm_MO_rule 65 [some (.ref 139), some (.int (nI r)), some (.int w)] [] Mz3535 _
        refine zw_n 1 rfl ?_
        refine zw_get (v := .ref 140) rfl (zat_self ez3536 hM.1) rfl ?_
        refine zw_n 3 rfl ?_
        refine zw_top (na (a := 9) (b := r) rfl rfl) ?_
        refine zw_iald (f := ai (f 140)) (j := (9 + r)) rfl (zat_set ez3536 (by decide) (hM.2 140 (by decide) (by decide))) rfl (by decide) (by omega) ?_
        refine zw_top (x' := (nI (al_ r))) (congrArg nI (hg.2.2.1 r h_r)) ?_
        exact zw_iret rfl rfl (⟨by rw [if_neg (by rw [c28]; decide), if_pos c28]; try rfl, f, (MM.of (o' := up o 0 0) (f' := f) hM (Sm.tset Sm.rf ez3536 (by decide)) (zat_self ez3536 hM.1) (c1_skip (c1_cons (zat_set ez3536 (by decide) (hM.2 162 (by decide) (by decide))) c1_nil)) (fs_k (fs_k fs_n))), Sm.tset Sm.rf ez3536 (by decide), fs_k (fs_k fs_n), he0⟩)
      · show Zw 3 zm_MO_rule 75 [some (.ref 139), some (.int (nI r)), some (.int w)] [] Mz3535 _
        refine zw_n 2 rfl ?_
        refine zw_callV (as := [.int (nI r)]) (rest := []) rfl rfl rfl (zat_self ez3536 hM.1) rfl rfl rfl (by decide) (m_canBeEmpty Mz3535 (up o 0 0) f (MM.of (o' := up o 0 0) (f' := f) hM (Sm.tset Sm.rf ez3536 (by decide)) (zat_self ez3536 hM.1) (c1_skip (c1_cons (zat_set ez3536 (by decide) (hM.2 162 (by decide) (by decide))) c1_nil)) (fs_k (fs_k fs_n))) n gn al_ it pt tg bd hg hG hF hres he0 r h_r) (fun rz3543 Mz3544 hz3545 => ?_)
        obtain ⟨Ez3537, hAz3538, hMMz3539, hSz3540, hbz3541, hEz3542⟩ := hz3545
        rw [hAz3538]
        show Zw 3 zm_MO_rule 80 [some (.ref 139), some (.int (nI r)), some (.int w)] [.int (nI (if bR Ez3537 r = true then 1 else 0))] Mz3544 _
        refine zw_eq0N (a := if bR Ez3537 r = true then 1 else 0) rfl rfl (ite_b) (fun c80 => ?_) (fun c80 => ?_)
        · -- 80 to 87
          refine zw_n 1 rfl ?_
          refine zw_top (x' := nI 0) (by decide) ?_
          exact zw_iret rfl rfl (⟨by rw [if_neg (by rw [c28]; decide), if_neg (by rw [c28]; decide), if_pos c28, if_neg (by rw [← hEz3542.uniq hE r h_r]; exact ite_eq0 c80)]; try rfl, fset f 162 Ez3537, (MM.of (o' := up o 0 0) (f' := fset f 162 Ez3537) hM (Sm.tw (Sm.tset Sm.rf ez3536 (by decide)) hSz3540 (by decide)) (Sm.at hSz3540 (by decide) (zat_self ez3536 hM.1)) (c1_skip (c1_cons (hMMz3539.2 162 (by decide) (by decide)) c1_nil)) (fs_k (fs_c fs_n))), Sm.tw (Sm.tset Sm.rf ez3536 (by decide)) hSz3540 (by decide), fs_k (fs_c fs_n), hbz3541⟩)
        · -- 80 to 83
          refine zw_n 2 rfl ?_
          refine zw_top (x' := nI 1) (by decide) ?_
          exact zw_iret rfl rfl (⟨by rw [if_neg (by rw [c28]; decide), if_neg (by rw [c28]; decide), if_pos c28, if_pos (by rw [← hEz3542.uniq hE r h_r]; exact ite_ne c80)]; try rfl, fset f 162 Ez3537, (MM.of (o' := up o 0 0) (f' := fset f 162 Ez3537) hM (Sm.tw (Sm.tset Sm.rf ez3536 (by decide)) hSz3540 (by decide)) (Sm.at hSz3540 (by decide) (zat_self ez3536 hM.1)) (c1_skip (c1_cons (hMMz3539.2 162 (by decide) (by decide)) c1_nil)) (fs_k (fs_c fs_n))), Sm.tw (Sm.tset Sm.rf ez3536 (by decide)) hSz3540 (by decide), fs_k (fs_c fs_n), hbz3541⟩)
    · 
      show Zw 3 zm_MO_rule 89 [some (.ref 139), some (.int (nI r)), some (.int w)] [] Mz3535 _
      refine zw_n 1 rfl ?_
      exact zw_iret rfl rfl (⟨by rw [if_neg (c28 0 (by decide)), if_neg (c28 1 (by decide)), if_neg (c28 2 (by decide))]; try rfl, f, (MM.of (o' := up o 0 0) (f' := f) hM (Sm.tset Sm.rf ez3536 (by decide)) (zat_self ez3536 hM.1) (c1_skip (c1_cons (zat_set ez3536 (by decide) (hM.2 162 (by decide) (by decide))) c1_nil)) (fs_k (fs_k fs_n))), Sm.tset Sm.rf ez3536 (by decide), fs_k (fs_k fs_n), he0⟩)
