set_option maxHeartbeats 4000000 in
set_option maxRecDepth 100000 in
theorem m_linesUsed (Mq : zM) (o : Nat → Nat) (f : Nat → Nat → Nat) (hM : MM Mq o f) (c : Nat) (sg li co : Nat → Nat) (ht : RelT f c sg li co) (hS : SafeT c sg li co) : Zm 1 zm_MO_linesUsed [.ref 139] Mq (fun r9 M1 => r9 = some (.int (nI (cnt (fun i => decide (i = 0 ∨ li (i - 1) ≠ li i)) c))) ∧ M1 = Mq) := by
  show Zw 1 zm_MO_linesUsed 0 [some (.ref 139), none, none] [] Mq _
  have hc20 := hS.1
  have hli := hS.2.2.1
  have hco := hS.2.2.2
  refine zw_n 4 (ls' := [some (.ref 139), some (.int 0), some (.int 0)]) rfl ?_
  have lp4 : ∀ (n4 : Nat) (a : Nat) (i : Nat), (i ≤ c ∧ a = cnt (fun i => decide (i = 0 ∨ li (i - 1) ≠ li i)) i) → c - i < n4 → Zw 1 zm_MO_linesUsed 4 [some (.ref 139), some (.int (nI a)), some (.int (nI i))] [] Mq (fun r9 M1 => r9 = some (.int (nI (cnt (fun i => decide (i = 0 ∨ li (i - 1) ≠ li i)) c))) ∧ M1 = Mq) := by
    intro n4
    induction n4 with
    | zero => intro a i _ h; exact absurd h (Nat.not_lt_zero _)
    | succ n4 ih4 =>
      intro a i hi4 hm4
      refine zw_n 2 rfl ?_
      refine zw_callV (as := []) (rest := [.int (nI i)]) rfl rfl rfl hM.1 rfl rfl rfl (by decide) (m_tok1 Mq o f hM c ht.1) (fun rz1627 Mz1628 hz1629 => ?_)
      rw [hz1629.1, hz1629.2]
      show Zw 1 zm_MO_linesUsed 9 [some (.ref 139), some (.int (nI a)), some (.int (nI i))] [.int (nI c), .int (nI i)] Mq _
      refine zw_igeN (a := i) (b := c) rfl rfl rfl (by omega) (by omega) (fun c9 => ?_) (fun c9 => ?_)
      · -- 9 to 34
        refine zw_n 1 rfl ?_
        exact zw_iret rfl rfl (⟨by rw [hi4.2, show i = c by omega], rfl⟩)
      · -- 9 to 12
        refine zw_n 1 rfl ?_
        have j13 : Zw 1 zm_MO_linesUsed 26 [some (.ref 139), some (.int (nI a)), some (.int (nI i))] [.int (nI (if i = 0 ∨ li (i - 1) ≠ li i then 1 else 0)), .int (nI a)] Mq (fun r9 M1 => r9 = some (.int (nI (cnt (fun i => decide (i = 0 ∨ li (i - 1) ≠ li i)) c))) ∧ M1 = Mq) := by
          refine zw_n 1 rfl ?_
          refine zw_top (na (a := a) (b := if i = 0 ∨ li (i - 1) ≠ li i then 1 else 0) rfl rfl) ?_
          refine zw_n 1 (ls' := [some (.ref 139), some (.int (nI (a + (if i = 0 ∨ li (i - 1) ≠ li i then 1 else 0)))), some (.int (nI i))]) rfl ?_
          refine zw_inc rfl (x' := (nI (i + 1))) (ls' := [some (.ref 139), some (.int (nI (a + (if i = 0 ∨ li (i - 1) ≠ li i then 1 else 0)))), some (.int (nI (i + 1)))]) rfl (na (a := i) (b := 1) rfl rfl) rfl ?_
          refine zw_n 1 rfl ?_
          exact ih4 (a + (if i = 0 ∨ li (i - 1) ≠ li i then 1 else 0)) (i + 1) (⟨by omega, cnt_s hi4.2 (by simp)⟩) (by omega)
        refine zw_n 2 rfl ?_
        refine zw_callV (as := [.int (nI i)]) (rest := [.int (nI a)]) rfl rfl rfl hM.1 rfl rfl rfl (by decide) (m_isFirst Mq o f hM c sg li co ht hS i (by omega)) (fun rz1630 Mz1631 hz1632 => ?_)
        rw [hz1632.1, hz1632.2]
        show Zw 1 zm_MO_linesUsed 18 [some (.ref 139), some (.int (nI a)), some (.int (nI i))] [.int (nI (if i = 0 ∨ li (i - 1) ≠ li i then 1 else 0)), .int (nI a)] Mq _
        refine zw_eq0N (a := if i = 0 ∨ li (i - 1) ≠ li i then 1 else 0) rfl rfl (ite_b) (fun c18 => ?_) (fun c18 => ?_)
        · -- 18 to 25
          refine zw_n 1 rfl ?_
          refine zw_top (x' := nI (if i = 0 ∨ li (i - 1) ≠ li i then 1 else 0)) (show nI 0 = nI (if i = 0 ∨ li (i - 1) ≠ li i then 1 else 0) by rw [if_neg (ite_eq0 c18)]) ?_
          exact j13
        · -- 18 to 21
          refine zw_n 2 rfl ?_
          refine zw_top (x' := nI (if i = 0 ∨ li (i - 1) ≠ li i then 1 else 0)) (show nI 1 = nI (if i = 0 ∨ li (i - 1) ≠ li i then 1 else 0) by rw [if_pos (ite_ne c18)]) ?_
          exact j13
  exact lp4 _ 0 0 (⟨Nat.zero_le _, rfl⟩) (Nat.lt_succ_self _)

set_option maxHeartbeats 4000000 in
set_option maxRecDepth 100000 in
theorem m_outG (Mq : zM) (o : Nat → Nat) (f : Nat → Nat → Nat) (hM : MM Mq o f) (c : Nat) (sg li co : Nat → Nat) (ht : RelT f c sg li co) (hS : SafeT c sg li co) : Zm 1 zm_MO_outermost [.ref 139, .int 1] Mq (fun r9 M1 => r9 = some (.int (nI (mxc co 0 c))) ∧ M1 = Mq) := by
  show Zw 1 zm_MO_outermost 0 [some (.ref 139), some (.int 1), none, none, none] [] Mq _
  have hc20 := hS.1
  have hli := hS.2.2.1
  have hco := hS.2.2.2
  refine zw_n 4 (ls' := [some (.ref 139), some (.int 1), some (.int (-1)), some (.int 0), none]) rfl ?_
  have lp4 : ∀ (n4 : Nat) (a : Nat) (i : Nat), (i ≤ c ∧ (a < 40 ∨ a = NO) ∧ a = mxc co 0 i) → c - i < n4 → Zw 1 zm_MO_outermost 4 [some (.ref 139), some (.int 1), some (.int (nI a)), some (.int (nI i)), none] [] Mq (fun r9 M1 => r9 = some (.int (nI (mxc co 0 c))) ∧ M1 = Mq) := by
    intro n4
    induction n4 with
    | zero => intro a i _ h; exact absurd h (Nat.not_lt_zero _)
    | succ n4 ih4 =>
      intro a i hi4 hm4
      have hc1 := hco i
      have ha9 : a < 40 ∨ a = 4294967295 := hi4.2.1
      refine zw_n 2 rfl ?_
      refine zw_callV (as := []) (rest := [.int (nI i)]) rfl rfl rfl hM.1 rfl rfl rfl (by decide) (m_tok1 Mq o f hM c ht.1) (fun rz1633 Mz1634 hz1635 => ?_)
      rw [hz1635.1, hz1635.2]
      show Zw 1 zm_MO_outermost 9 [some (.ref 139), some (.int 1), some (.int (nI a)), some (.int (nI i)), none] [.int (nI c), .int (nI i)] Mq _
      refine zw_igeN (a := i) (b := c) rfl rfl rfl (by omega) (by omega) (fun c9 => ?_) (fun c9 => ?_)
      · -- 9 to 61
        refine zw_n 1 rfl ?_
        exact zw_iret rfl rfl (⟨by rw [hi4.2.2, show i = c by omega], rfl⟩)
      · -- 9 to 12
        refine zw_n 1 rfl ?_
        refine zw_get (v := .ref 140) rfl hM.1 rfl ?_
        refine zw_n 3 rfl ?_
        refine zw_top (na (a := 570) (b := i) rfl rfl) ?_
        refine zw_iald (f := ai (f 140)) (j := (570 + i)) rfl (hM.2 140 (by decide) (by decide)) rfl (by decide) (by omega) ?_
        refine zw_top (x' := (nI (co i))) (congrArg nI (ht.2 i (by omega)).2.2) ?_
        refine zw_n 1 (ls' := [some (.ref 139), some (.int 1), some (.int (nI a)), some (.int (nI i)), some (.int (nI (co i)))]) rfl ?_
        have j24 : Zw 1 zm_MO_outermost 54 [some (.ref 139), some (.int 1), some (.int (nI a)), some (.int (nI i)), some (.int (nI (co i)))] [.int (nI (if a = 4294967295 ∨ a < co i then co i else a))] Mq (fun r9 M1 => r9 = some (.int (nI (mxc co 0 c))) ∧ M1 = Mq) := by
          refine zw_n 1 (ls' := [some (.ref 139), some (.int 1), some (.int (nI (if a = 4294967295 ∨ a < co i then co i else a))), some (.int (nI i)), some (.int (nI (co i)))]) rfl ?_
          refine zw_inc rfl (x' := (nI (i + 1))) (ls' := [some (.ref 139), some (.int 1), some (.int (nI (if a = 4294967295 ∨ a < co i then co i else a))), some (.int (nI (i + 1))), some (.int (nI (co i)))]) rfl (na (a := i) (b := 1) rfl rfl) rfl ?_
          refine zw_n 1 rfl ?_
          refine zw_ls (ls' := [some (.ref 139), some (.int 1), some (.int (nI (if a = 4294967295 ∨ a < co i then co i else a))), some (.int (nI (i + 1))), none]) ⟨Or.inr rfl, Or.inr rfl, Or.inr rfl, Or.inr rfl, Or.inl rfl, trivial⟩ ?_
          exact ih4 (if a = 4294967295 ∨ a < co i then co i else a) (i + 1) (⟨by omega, by split <;> omega, mx_o hi4.2.2 hi4.2.1⟩) (by omega)
        refine zw_n 2 rfl ?_
        refine zw_ieqM (a := a) rfl rfl (by omega) (fun c26 => ?_) (fun c26 => ?_)
        · -- 26 to 48
          refine zw_n 2 rfl ?_
          refine zw_top (x' := nI (if a = 4294967295 ∨ a < co i then co i else a)) (show nI (co i) = nI (if a = 4294967295 ∨ a < co i then co i else a) by rw [if_pos (by omega)]) ?_
          exact j24
        · -- 26 to 29
          refine zw_n 1 rfl ?_
          refine zw_if rfl ?_
          show Zw 1 zm_MO_outermost 33 [some (.ref 139), some (.int 1), some (.int (nI a)), some (.int (nI i)), some (.int (nI (co i)))] [] Mq _
          refine zw_n 2 rfl ?_
          refine zw_ileN (a := co i) (b := a) rfl rfl rfl (by omega) (by omega) (fun c36 => ?_) (fun c36 => ?_)
          · -- 36 to 53
            refine zw_n 1 rfl ?_
            refine zw_top (x' := nI (if a = 4294967295 ∨ a < co i then co i else a)) (show nI a = nI (if a = 4294967295 ∨ a < co i then co i else a) by rw [if_neg (by omega)]) ?_
            exact j24
          · -- 36 to 39
            refine zw_n 3 rfl ?_
            refine zw_top (x' := nI (if a = 4294967295 ∨ a < co i then co i else a)) (show nI (co i) = nI (if a = 4294967295 ∨ a < co i then co i else a) by rw [if_pos (by omega)]) ?_
            exact j24
  exact lp4 _ NO 0 (⟨Nat.zero_le _, Or.inr rfl, rfl⟩) (Nat.lt_succ_self _)

set_option maxHeartbeats 4000000 in
set_option maxRecDepth 100000 in
theorem m_outL (Mq : zM) (o : Nat → Nat) (f : Nat → Nat → Nat) (hM : MM Mq o f) (c : Nat) (sg li co : Nat → Nat) (ht : RelT f c sg li co) (hS : SafeT c sg li co) : Zm 1 zm_MO_outermost [.ref 139, .int 0] Mq (fun r9 M1 => r9 = some (.int (nI (mnc co 0 c))) ∧ M1 = Mq) := by
  show Zw 1 zm_MO_outermost 0 [some (.ref 139), some (.int 0), none, none, none] [] Mq _
  have hc20 := hS.1
  have hli := hS.2.2.1
  have hco := hS.2.2.2
  refine zw_n 4 (ls' := [some (.ref 139), some (.int 0), some (.int (-1)), some (.int 0), none]) rfl ?_
  have lp4 : ∀ (n4 : Nat) (a : Nat) (i : Nat), (i ≤ c ∧ (a < 40 ∨ a = NO) ∧ a = mnc co 0 i) → c - i < n4 → Zw 1 zm_MO_outermost 4 [some (.ref 139), some (.int 0), some (.int (nI a)), some (.int (nI i)), none] [] Mq (fun r9 M1 => r9 = some (.int (nI (mnc co 0 c))) ∧ M1 = Mq) := by
    intro n4
    induction n4 with
    | zero => intro a i _ h; exact absurd h (Nat.not_lt_zero _)
    | succ n4 ih4 =>
      intro a i hi4 hm4
      have hc1 := hco i
      have ha9 : a < 40 ∨ a = 4294967295 := hi4.2.1
      refine zw_n 2 rfl ?_
      refine zw_callV (as := []) (rest := [.int (nI i)]) rfl rfl rfl hM.1 rfl rfl rfl (by decide) (m_tok1 Mq o f hM c ht.1) (fun rz1636 Mz1637 hz1638 => ?_)
      rw [hz1638.1, hz1638.2]
      show Zw 1 zm_MO_outermost 9 [some (.ref 139), some (.int 0), some (.int (nI a)), some (.int (nI i)), none] [.int (nI c), .int (nI i)] Mq _
      refine zw_igeN (a := i) (b := c) rfl rfl rfl (by omega) (by omega) (fun c9 => ?_) (fun c9 => ?_)
      · -- 9 to 61
        refine zw_n 1 rfl ?_
        exact zw_iret rfl rfl (⟨by rw [hi4.2.2, show i = c by omega], rfl⟩)
      · -- 9 to 12
        refine zw_n 1 rfl ?_
        refine zw_get (v := .ref 140) rfl hM.1 rfl ?_
        refine zw_n 3 rfl ?_
        refine zw_top (na (a := 570) (b := i) rfl rfl) ?_
        refine zw_iald (f := ai (f 140)) (j := (570 + i)) rfl (hM.2 140 (by decide) (by decide)) rfl (by decide) (by omega) ?_
        refine zw_top (x' := (nI (co i))) (congrArg nI (ht.2 i (by omega)).2.2) ?_
        refine zw_n 1 (ls' := [some (.ref 139), some (.int 0), some (.int (nI a)), some (.int (nI i)), some (.int (nI (co i)))]) rfl ?_
        have j24 : Zw 1 zm_MO_outermost 54 [some (.ref 139), some (.int 0), some (.int (nI a)), some (.int (nI i)), some (.int (nI (co i)))] [.int (nI (if a = 4294967295 ∨ co i < a then co i else a))] Mq (fun r9 M1 => r9 = some (.int (nI (mnc co 0 c))) ∧ M1 = Mq) := by
          refine zw_n 1 (ls' := [some (.ref 139), some (.int 0), some (.int (nI (if a = 4294967295 ∨ co i < a then co i else a))), some (.int (nI i)), some (.int (nI (co i)))]) rfl ?_
          refine zw_inc rfl (x' := (nI (i + 1))) (ls' := [some (.ref 139), some (.int 0), some (.int (nI (if a = 4294967295 ∨ co i < a then co i else a))), some (.int (nI (i + 1))), some (.int (nI (co i)))]) rfl (na (a := i) (b := 1) rfl rfl) rfl ?_
          refine zw_n 1 rfl ?_
          refine zw_ls (ls' := [some (.ref 139), some (.int 0), some (.int (nI (if a = 4294967295 ∨ co i < a then co i else a))), some (.int (nI (i + 1))), none]) ⟨Or.inr rfl, Or.inr rfl, Or.inr rfl, Or.inr rfl, Or.inl rfl, trivial⟩ ?_
          exact ih4 (if a = 4294967295 ∨ co i < a then co i else a) (i + 1) (⟨by omega, by split <;> omega, mn_o hi4.2.2 hi4.2.1⟩) (by omega)
        refine zw_n 2 rfl ?_
        refine zw_ieqM (a := a) rfl rfl (by omega) (fun c26 => ?_) (fun c26 => ?_)
        · -- 26 to 48
          refine zw_n 2 rfl ?_
          refine zw_top (x' := nI (if a = 4294967295 ∨ co i < a then co i else a)) (show nI (co i) = nI (if a = 4294967295 ∨ co i < a then co i else a) by rw [if_pos (by omega)]) ?_
          exact j24
        · -- 26 to 29
          refine zw_n 1 rfl ?_
          refine zw_if rfl ?_
          show Zw 1 zm_MO_outermost 42 [some (.ref 139), some (.int 0), some (.int (nI a)), some (.int (nI i)), some (.int (nI (co i)))] [] Mq _
          refine zw_n 2 rfl ?_
          refine zw_igeN (a := co i) (b := a) rfl rfl rfl (by omega) (by omega) (fun c45 => ?_) (fun c45 => ?_)
          · -- 45 to 53
            refine zw_n 1 rfl ?_
            refine zw_top (x' := nI (if a = 4294967295 ∨ co i < a then co i else a)) (show nI a = nI (if a = 4294967295 ∨ co i < a then co i else a) by rw [if_neg (by omega)]) ?_
            exact j24
          · -- 45 to 48
            refine zw_n 2 rfl ?_
            refine zw_top (x' := nI (if a = 4294967295 ∨ co i < a then co i else a)) (show nI (co i) = nI (if a = 4294967295 ∨ co i < a then co i else a) by rw [if_pos (by omega)]) ?_
            exact j24
  exact lp4 _ NO 0 (⟨Nat.zero_le _, Or.inr rfl, rfl⟩) (Nat.lt_succ_self _)

set_option maxHeartbeats 4000000 in
set_option maxRecDepth 100000 in
theorem m_count (Mq : zM) (o : Nat → Nat) (f : Nat → Nat → Nat) (hM : MM Mq o f) (n : Nat) (hn0 : f 140 0 = n) (c : Nat) (sg li co : Nat → Nat) (ht : RelT f c sg li co) (hS : SafeT c sg li co) (w : Int32) : Zm 2 zm_MO_count [.ref 139, .int w] Mq (fun r9 M1 => r9 = some (.int (if w = nI 0 then nI n else if w = nI 1 then nI c else if w = nI 2 then nI (cnt (fun i => decide (i = 0 ∨ li (i - 1) ≠ li i)) c) else if w = nI 3 then nI (o 7) else if w = nI 4 then nI (o 31) else if w = nI 5 then nI (o 5) else if w = nI 6 then nI (mxc co 0 c) else if w = nI 7 then nI (mnc co 0 c) else -1)) ∧ MM M1 (up o 0 0) f ∧ Sm Mq M1 [139]) := by
  show Zw 2 zm_MO_count 0 [some (.ref 139), some (.int w)] [] Mq _
  have hc20 := hS.1
  have hli := hS.2.2.1
  have hco := hS.2.2.2
  refine zw_n 2 rfl ?_
  refine zw_put rfl hM.1 (rfl) (Nat.le_of_ble_eq_true rfl) ?_
  generalize ez1640 : List.set Mq 139 _ = Mz1639
  refine zw_n 1 rfl ?_
  refine zw_sw rfl (fun k6 hk6 c6 => ?_) (fun c6 => ?_)
  · rcases (show k6 = 0 ∨ k6 = 1 ∨ k6 = 2 ∨ k6 = 3 ∨ k6 = 4 ∨ k6 = 5 ∨ k6 = 6 ∨ k6 = 7 by simp at hk6; omega) with rfl | rfl | rfl | rfl | rfl | rfl | rfl | rfl
    · show Zw 2 zm_MO_count 52 [some (.ref 139), some (.int w)] [] Mz1639 _
      refine zw_n 1 rfl ?_
      refine zw_get (v := .ref 140) rfl (zat_self ez1640 hM.1) rfl ?_
      refine zw_n 1 rfl ?_
      refine zw_iald (f := ai (f 140)) (j := 0) rfl (zat_set ez1640 (by decide) (hM.2 140 (by decide) (by decide))) rfl (by decide) (by omega) ?_
      refine zw_top (x' := (nI n)) (congrArg nI hn0) ?_
      exact zw_iret rfl rfl (⟨by rw [if_pos c6]; try rfl, (MM.of (o' := up o 0 0) (f' := f) hM (Sm.tset Sm.rf ez1640 (by decide)) (zat_self ez1640 hM.1) (c1_skip c1_nil) (fs_k fs_n)), Sm.tset Sm.rf ez1640 (by decide)⟩)
    · show Zw 2 zm_MO_count 59 [some (.ref 139), some (.int w)] [] Mz1639 _
      refine zw_n 1 rfl ?_
      refine zw_callV (as := []) (rest := []) rfl rfl rfl (zat_self ez1640 hM.1) rfl rfl rfl (by decide) (m_tok1 Mz1639 (up o 0 0) f (MM.of (o' := up o 0 0) (f' := f) hM (Sm.tset Sm.rf ez1640 (by decide)) (zat_self ez1640 hM.1) (c1_skip c1_nil) (fs_k fs_n)) c ht.1) (fun rz1641 Mz1642 hz1643 => ?_)
      rw [hz1643.1, hz1643.2]
      show Zw 2 zm_MO_count 63 [some (.ref 139), some (.int w)] [.int (nI c)] Mz1639 _
      exact zw_iret rfl rfl (⟨by rw [if_neg (by rw [c6]; decide), if_pos c6]; try rfl, (MM.of (o' := up o 0 0) (f' := f) hM (Sm.tset Sm.rf ez1640 (by decide)) (zat_self ez1640 hM.1) (c1_skip c1_nil) (fs_k fs_n)), Sm.tset Sm.rf ez1640 (by decide)⟩)
    · show Zw 2 zm_MO_count 64 [some (.ref 139), some (.int w)] [] Mz1639 _
      refine zw_n 1 rfl ?_
      refine zw_callV (as := []) (rest := []) rfl rfl rfl (zat_self ez1640 hM.1) rfl rfl rfl (by decide) (m_linesUsed Mz1639 (up o 0 0) f (MM.of (o' := up o 0 0) (f' := f) hM (Sm.tset Sm.rf ez1640 (by decide)) (zat_self ez1640 hM.1) (c1_skip c1_nil) (fs_k fs_n)) c sg li co ht hS) (fun rz1644 Mz1645 hz1646 => ?_)
      rw [hz1646.1, hz1646.2]
      show Zw 2 zm_MO_count 68 [some (.ref 139), some (.int w)] [.int (nI (cnt (fun i => decide (i = 0 ∨ li (i - 1) ≠ li i)) c))] Mz1639 _
      exact zw_iret rfl rfl (⟨by rw [if_neg (by rw [c6]; decide), if_neg (by rw [c6]; decide), if_pos c6]; try rfl, (MM.of (o' := up o 0 0) (f' := f) hM (Sm.tset Sm.rf ez1640 (by decide)) (zat_self ez1640 hM.1) (c1_skip c1_nil) (fs_k fs_n)), Sm.tset Sm.rf ez1640 (by decide)⟩)
    · show Zw 2 zm_MO_count 69 [some (.ref 139), some (.int w)] [] Mz1639 _
      refine zw_n 1 rfl ?_
      refine zw_get (v := .int (nI (o 7))) rfl (zat_self ez1640 hM.1) rfl ?_
      exact zw_iret rfl rfl (⟨by rw [if_neg (by rw [c6]; decide), if_neg (by rw [c6]; decide), if_neg (by rw [c6]; decide), if_pos c6]; try rfl, (MM.of (o' := up o 0 0) (f' := f) hM (Sm.tset Sm.rf ez1640 (by decide)) (zat_self ez1640 hM.1) (c1_skip c1_nil) (fs_k fs_n)), Sm.tset Sm.rf ez1640 (by decide)⟩)
    · show Zw 2 zm_MO_count 74 [some (.ref 139), some (.int w)] [] Mz1639 _
      refine zw_n 1 rfl ?_
      refine zw_get (v := .int (nI (o 31))) rfl (zat_self ez1640 hM.1) rfl ?_
      exact zw_iret rfl rfl (⟨by rw [if_neg (by rw [c6]; decide), if_neg (by rw [c6]; decide), if_neg (by rw [c6]; decide), if_neg (by rw [c6]; decide), if_pos c6]; try rfl, (MM.of (o' := up o 0 0) (f' := f) hM (Sm.tset Sm.rf ez1640 (by decide)) (zat_self ez1640 hM.1) (c1_skip c1_nil) (fs_k fs_n)), Sm.tset Sm.rf ez1640 (by decide)⟩)
    · show Zw 2 zm_MO_count 79 [some (.ref 139), some (.int w)] [] Mz1639 _
      refine zw_n 1 rfl ?_
      refine zw_get (v := .int (nI (o 5))) rfl (zat_self ez1640 hM.1) rfl ?_
      exact zw_iret rfl rfl (⟨by rw [if_neg (by rw [c6]; decide), if_neg (by rw [c6]; decide), if_neg (by rw [c6]; decide), if_neg (by rw [c6]; decide), if_neg (by rw [c6]; decide), if_pos c6]; try rfl, (MM.of (o' := up o 0 0) (f' := f) hM (Sm.tset Sm.rf ez1640 (by decide)) (zat_self ez1640 hM.1) (c1_skip c1_nil) (fs_k fs_n)), Sm.tset Sm.rf ez1640 (by decide)⟩)
    · show Zw 2 zm_MO_count 84 [some (.ref 139), some (.int w)] [] Mz1639 _
      refine zw_n 2 rfl ?_
      refine zw_callV (as := [.int 1]) (rest := []) rfl rfl rfl (zat_self ez1640 hM.1) rfl rfl rfl (by decide) (m_outG Mz1639 (up o 0 0) f (MM.of (o' := up o 0 0) (f' := f) hM (Sm.tset Sm.rf ez1640 (by decide)) (zat_self ez1640 hM.1) (c1_skip c1_nil) (fs_k fs_n)) c sg li co ht hS) (fun rz1647 Mz1648 hz1649 => ?_)
      rw [hz1649.1, hz1649.2]
      show Zw 2 zm_MO_count 89 [some (.ref 139), some (.int w)] [.int (nI (mxc co 0 c))] Mz1639 _
      exact zw_iret rfl rfl (⟨by rw [if_neg (by rw [c6]; decide), if_neg (by rw [c6]; decide), if_neg (by rw [c6]; decide), if_neg (by rw [c6]; decide), if_neg (by rw [c6]; decide), if_neg (by rw [c6]; decide), if_pos c6]; try rfl, (MM.of (o' := up o 0 0) (f' := f) hM (Sm.tset Sm.rf ez1640 (by decide)) (zat_self ez1640 hM.1) (c1_skip c1_nil) (fs_k fs_n)), Sm.tset Sm.rf ez1640 (by decide)⟩)
    · show Zw 2 zm_MO_count 90 [some (.ref 139), some (.int w)] [] Mz1639 _
      refine zw_n 2 rfl ?_
      refine zw_callV (as := [.int 0]) (rest := []) rfl rfl rfl (zat_self ez1640 hM.1) rfl rfl rfl (by decide) (m_outL Mz1639 (up o 0 0) f (MM.of (o' := up o 0 0) (f' := f) hM (Sm.tset Sm.rf ez1640 (by decide)) (zat_self ez1640 hM.1) (c1_skip c1_nil) (fs_k fs_n)) c sg li co ht hS) (fun rz1650 Mz1651 hz1652 => ?_)
      rw [hz1652.1, hz1652.2]
      show Zw 2 zm_MO_count 95 [some (.ref 139), some (.int w)] [.int (nI (mnc co 0 c))] Mz1639 _
      exact zw_iret rfl rfl (⟨by rw [if_neg (by rw [c6]; decide), if_neg (by rw [c6]; decide), if_neg (by rw [c6]; decide), if_neg (by rw [c6]; decide), if_neg (by rw [c6]; decide), if_neg (by rw [c6]; decide), if_neg (by rw [c6]; decide), if_pos c6]; try rfl, (MM.of (o' := up o 0 0) (f' := f) hM (Sm.tset Sm.rf ez1640 (by decide)) (zat_self ez1640 hM.1) (c1_skip c1_nil) (fs_k fs_n)), Sm.tset Sm.rf ez1640 (by decide)⟩)
  · 
    show Zw 2 zm_MO_count 96 [some (.ref 139), some (.int w)] [] Mz1639 _
    refine zw_n 1 rfl ?_
    exact zw_iret rfl rfl (⟨by rw [if_neg (c6 0 (by decide)), if_neg (c6 1 (by decide)), if_neg (c6 2 (by decide)), if_neg (c6 3 (by decide)), if_neg (c6 4 (by decide)), if_neg (c6 5 (by decide)), if_neg (c6 6 (by decide)), if_neg (c6 7 (by decide))], (MM.of (o' := up o 0 0) (f' := f) hM (Sm.tset Sm.rf ez1640 (by decide)) (zat_self ez1640 hM.1) (c1_skip c1_nil) (fs_k fs_n)), Sm.tset Sm.rf ez1640 (by decide)⟩)

set_option maxHeartbeats 4000000 in
set_option maxRecDepth 100000 in
theorem m_tokenNo (Mq : zM) (o : Nat → Nat) (f : Nat → Nat → Nat) (hM : MM Mq o f) (c : Nat) (sg li co : Nat → Nat) (ht : RelT f c sg li co) (hS : SafeT c sg li co) (x w : Int32) (hx : ¬ (0 ≤ x.toInt ∧ x.toInt < c)) : Zm 2 zm_MO_token [.ref 139, .int x, .int w] Mq (fun r9 M1 => r9 = some (.int (-1)) ∧ MM M1 (up o 0 0) f ∧ Sm Mq M1 [139]) := by
  show Zw 2 zm_MO_token 0 [some (.ref 139), some (.int x), some (.int w)] [] Mq _
  have hc20 := hS.1
  have hli := hS.2.2.1
  have hco := hS.2.2.2
  refine zw_n 2 rfl ?_
  refine zw_put rfl hM.1 (rfl) (Nat.le_of_ble_eq_true rfl) ?_
  generalize ez1654 : List.set Mq 139 _ = Mz1653
  refine zw_n 2 rfl ?_
  refine zw_callV (as := [.int x]) (rest := []) rfl rfl rfl (zat_self ez1654 hM.1) rfl rfl rfl (by decide) (m_isToken Mz1653 (up o 0 0) f (MM.of (o' := up o 0 0) (f' := f) hM (Sm.tset Sm.rf ez1654 (by decide)) (zat_self ez1654 hM.1) (c1_skip c1_nil) (fs_k fs_n)) c ht.1 (by omega) x) (fun rz1655 Mz1656 hz1657 => ?_)
  rw [hz1657.1, hz1657.2]
  show Zw 2 zm_MO_token 10 [some (.ref 139), some (.int x), some (.int w)] [.int (nI (if 0 ≤ x.toInt ∧ x.toInt < c then 1 else 0))] Mz1653 _
  refine zw_eq0N (a := if 0 ≤ x.toInt ∧ x.toInt < c then 1 else 0) rfl rfl (ite_b) (fun c10 => ?_) (fun c10 => ?_)
  · -- 10 to 25
    refine zw_n 1 rfl ?_
    exact zw_iret rfl rfl (⟨rfl, (MM.of (o' := up o 0 0) (f' := f) hM (Sm.tset Sm.rf ez1654 (by decide)) (zat_self ez1654 hM.1) (c1_skip c1_nil) (fs_k fs_n)), Sm.tset Sm.rf ez1654 (by decide)⟩)
  · -- 10 to 13
    exfalso
    exact hx (ite_ne c10)

set_option maxHeartbeats 4000000 in
set_option maxRecDepth 100000 in
theorem m_tokenOk (Mq : zM) (o : Nat → Nat) (f : Nat → Nat → Nat) (hM : MM Mq o f) (c : Nat) (sg li co : Nat → Nat) (ht : RelT f c sg li co) (hS : SafeT c sg li co) (x : Nat) (w : Int32) (hx : x < c) : Zm 2 zm_MO_token [.ref 139, .int (nI x), .int w] Mq (fun r9 M1 => r9 = some (.int (if w = nI 0 then nI (sg x) else if w = nI 1 then nI (li x) else if w = nI 2 then nI (co x) else -1)) ∧ MM M1 (up o 0 0) f ∧ Sm Mq M1 [139]) := by
  show Zw 2 zm_MO_token 0 [some (.ref 139), some (.int (nI x)), some (.int w)] [] Mq _
  have hc20 := hS.1
  have hli := hS.2.2.1
  have hco := hS.2.2.2
  refine zw_n 2 rfl ?_
  refine zw_put rfl hM.1 (rfl) (Nat.le_of_ble_eq_true rfl) ?_
  generalize ez1659 : List.set Mq 139 _ = Mz1658
  refine zw_n 2 rfl ?_
  refine zw_callV (as := [.int (nI x)]) (rest := []) rfl rfl rfl (zat_self ez1659 hM.1) rfl rfl rfl (by decide) (m_isToken Mz1658 (up o 0 0) f (MM.of (o' := up o 0 0) (f' := f) hM (Sm.tset Sm.rf ez1659 (by decide)) (zat_self ez1659 hM.1) (c1_skip c1_nil) (fs_k fs_n)) c ht.1 (by omega) (nI x)) (fun rz1660 Mz1661 hz1662 => ?_)
  rw [hz1662.1, hz1662.2]
  show Zw 2 zm_MO_token 10 [some (.ref 139), some (.int (nI x)), some (.int w)] [.int (nI (if 0 ≤ (nI x).toInt ∧ (nI x).toInt < c then 1 else 0))] Mz1658 _
  refine zw_eq0N (a := if 0 ≤ (nI x).toInt ∧ (nI x).toInt < c then 1 else 0) rfl rfl (ite_b) (fun c10 => ?_) (fun c10 => ?_)
  · -- 10 to 25
    have h22 : ¬ (0 ≤ w.toInt ∧ w.toInt ≤ 2) := by first | exact ite_eq0 c22 | exact absurd (by rw [nI_toInt (by omega)]; omega) (ite_eq0 c10)
    refine zw_n 1 rfl ?_
    exact zw_iret rfl rfl (⟨by rw [if_neg (w_no (n := 2) h22 (by decide) (by decide)), if_neg (w_no (n := 2) h22 (by decide) (by decide)), if_neg (w_no (n := 2) h22 (by decide) (by decide))], (MM.of (o' := up o 0 0) (f' := f) hM (Sm.tset Sm.rf ez1659 (by decide)) (zat_self ez1659 hM.1) (c1_skip c1_nil) (fs_k fs_n)), Sm.tset Sm.rf ez1659 (by decide)⟩)
  · -- 10 to 13
    refine zw_n 4 rfl ?_
    refine zw_callS (as := [.long (Int32.toInt64 w), .long 0, .long 2]) (rest := []) rfl rfl rfl rfl rfl rfl (by decide) (m_in Mz1658 (Int32.toInt64 w) 0 2 w.toInt 0 2 (Int32.toInt_toInt64 _) (by decide) (by decide)) (fun rz1663 Mz1664 hz1665 => ?_)
    rw [hz1665.1, hz1665.2]
    show Zw 2 zm_MO_token 22 [some (.ref 139), some (.int (nI x)), some (.int w)] [.int (nI (if 0 ≤ w.toInt ∧ w.toInt ≤ 2 then 1 else 0))] Mz1658 _
    refine zw_ne0N (a := if 0 ≤ w.toInt ∧ w.toInt ≤ 2 then 1 else 0) rfl rfl (ite_b) (fun c22 => ?_) (fun c22 => ?_)
    · -- 22 to 27
      refine zw_n 1 rfl ?_
      refine zw_get (v := .ref 140) rfl (zat_self ez1659 hM.1) rfl ?_
      refine zw_n 1 rfl ?_
      refine zw_ne0 rfl (fun c32 => ?_) (fun c32 => ?_)
      · -- 32 to 41
        refine zw_n 2 rfl ?_
        refine zw_ine rfl (fun c43 => ?_) (fun c43 => ?_)
        · -- 43 to 52
          refine zw_n 3 rfl ?_
          refine zw_top (na (a := 570) (b := x) rfl rfl) ?_
          refine zw_iald (f := ai (f 140)) (j := (570 + x)) rfl (zat_set ez1659 (by decide) (hM.2 140 (by decide) (by decide))) rfl (by decide) (by omega) ?_
          refine zw_top (x' := (nI (co x))) (congrArg nI (ht.2 x (by omega)).2.2) ?_
          exact zw_iret rfl rfl (⟨by rw [if_neg (show ¬ w = nI 0 from c32), if_neg (show ¬ w = nI 1 from c43), if_pos (w2_eq (ite_ne c22) c32 c43)]; try rfl, (MM.of (o' := up o 0 0) (f' := f) hM (Sm.tset Sm.rf ez1659 (by decide)) (zat_self ez1659 hM.1) (c1_skip c1_nil) (fs_k fs_n)), Sm.tset Sm.rf ez1659 (by decide)⟩)
        · -- 43 to 46
          refine zw_n 4 rfl ?_
          refine zw_top (na (a := 550) (b := x) rfl rfl) ?_
          refine zw_iald (f := ai (f 140)) (j := (550 + x)) rfl (zat_set ez1659 (by decide) (hM.2 140 (by decide) (by decide))) rfl (by decide) (by omega) ?_
          refine zw_top (x' := (nI (li x))) (congrArg nI (ht.2 x (by omega)).2.1) ?_
          exact zw_iret rfl rfl (⟨by rw [if_neg (show ¬ w = nI 0 from c32), if_pos (show w = nI 1 from c43)]; try rfl, (MM.of (o' := up o 0 0) (f' := f) hM (Sm.tset Sm.rf ez1659 (by decide)) (zat_self ez1659 hM.1) (c1_skip c1_nil) (fs_k fs_n)), Sm.tset Sm.rf ez1659 (by decide)⟩)
      · -- 32 to 35
        refine zw_n 4 rfl ?_
        refine zw_top (na (a := 530) (b := x) rfl rfl) ?_
        refine zw_iald (f := ai (f 140)) (j := (530 + x)) rfl (zat_set ez1659 (by decide) (hM.2 140 (by decide) (by decide))) rfl (by decide) (by omega) ?_
        refine zw_top (x' := (nI (sg x))) (congrArg nI (ht.2 x (by omega)).1) ?_
        exact zw_iret rfl rfl (⟨by rw [if_pos (show w = nI 0 from c32)]; try rfl, (MM.of (o' := up o 0 0) (f' := f) hM (Sm.tset Sm.rf ez1659 (by decide)) (zat_self ez1659 hM.1) (c1_skip c1_nil) (fs_k fs_n)), Sm.tset Sm.rf ez1659 (by decide)⟩)
    · -- 22 to 25
      have h22 : ¬ (0 ≤ w.toInt ∧ w.toInt ≤ 2) := by first | exact ite_eq0 c22 | exact absurd (by rw [nI_toInt (by omega)]; omega) (ite_eq0 c10)
      refine zw_n 1 rfl ?_
      exact zw_iret rfl rfl (⟨by rw [if_neg (w_no (n := 2) h22 (by decide) (by decide)), if_neg (w_no (n := 2) h22 (by decide) (by decide)), if_neg (w_no (n := 2) h22 (by decide) (by decide))], (MM.of (o' := up o 0 0) (f' := f) hM (Sm.tset Sm.rf ez1659 (by decide)) (zat_self ez1659 hM.1) (c1_skip c1_nil) (fs_k fs_n)), Sm.tset Sm.rf ez1659 (by decide)⟩)

set_option maxHeartbeats 4000000 in
set_option maxRecDepth 100000 in
theorem m_letterNo (Mq : zM) (o : Nat → Nat) (f : Nat → Nat → Nat) (hM : MM Mq o f) (ho : o 31 ≤ 900) (x : Int32) (hx : ¬ (0 ≤ x.toInt ∧ x.toInt < o 31)) : Zm 1 zm_MO_letter [.ref 139, .int x] Mq (fun r9 M1 => r9 = some (.int (-1)) ∧ MM M1 (up o 0 0) f ∧ Sm Mq M1 [139]) := by
  show Zw 1 zm_MO_letter 0 [some (.ref 139), some (.int x)] [] Mq _
  refine zw_n 2 rfl ?_
  refine zw_put rfl hM.1 (rfl) (Nat.le_of_ble_eq_true rfl) ?_
  generalize ez1667 : List.set Mq 139 _ = Mz1666
  refine zw_n 4 rfl ?_
  refine zw_get (v := .int (nI (o 31))) rfl (zat_self ez1667 hM.1) rfl ?_
  refine zw_n 3 rfl ?_
  refine zw_callS (as := [.long (Int32.toInt64 x), .long 0, .long ((Int32.toInt64 (nI (o 31))) - 1)]) (rest := []) rfl rfl rfl rfl rfl rfl (by decide) (m_in Mz1666 (Int32.toInt64 x) 0 ((Int32.toInt64 (nI (o 31))) - 1) x.toInt 0 ((((o 31) : Nat) : Int) - 1) (Int32.toInt_toInt64 _) (by decide) (l_sub1 (l_nI (by omega)) (by omega) (by omega))) (fun rz1668 Mz1669 hz1670 => ?_)
  rw [hz1670.1, hz1670.2]
  show Zw 1 zm_MO_letter 18 [some (.ref 139), some (.int x)] [.int (nI (if 0 ≤ x.toInt ∧ x.toInt ≤ (((o 31) : Nat) : Int) - 1 then 1 else 0))] Mz1666 _
  refine zw_eq0N (a := if 0 ≤ x.toInt ∧ x.toInt ≤ (((o 31) : Nat) : Int) - 1 then 1 else 0) rfl rfl (ite_b) (fun c18 => ?_) (fun c18 => ?_)
  · -- 18 to 30
    refine zw_n 1 rfl ?_
    exact zw_iret rfl rfl (⟨rfl, (MM.of (o' := up o 0 0) (f' := f) hM (Sm.tset Sm.rf ez1667 (by decide)) (zat_self ez1667 hM.1) (c1_skip c1_nil) (fs_k fs_n)), Sm.tset Sm.rf ez1667 (by decide)⟩)
  · -- 18 to 21
    exfalso
    have := ite_ne c18; omega

set_option maxHeartbeats 4000000 in
set_option maxRecDepth 100000 in
theorem m_letterOk (Mq : zM) (o : Nat → Nat) (f : Nat → Nat → Nat) (hM : MM Mq o f) (ho : o 31 ≤ 900) (x : Nat) (hx : x < o 31) : Zm 1 zm_MO_letter [.ref 139, .int (nI x)] Mq (fun r9 M1 => r9 = some (.int (nI (f 164 x))) ∧ MM M1 (up o 0 0) f ∧ Sm Mq M1 [139]) := by
  show Zw 1 zm_MO_letter 0 [some (.ref 139), some (.int (nI x))] [] Mq _
  refine zw_n 2 rfl ?_
  refine zw_put rfl hM.1 (rfl) (Nat.le_of_ble_eq_true rfl) ?_
  generalize ez1672 : List.set Mq 139 _ = Mz1671
  refine zw_n 4 rfl ?_
  refine zw_get (v := .int (nI (o 31))) rfl (zat_self ez1672 hM.1) rfl ?_
  refine zw_n 3 rfl ?_
  refine zw_callS (as := [.long (Int32.toInt64 (nI x)), .long 0, .long ((Int32.toInt64 (nI (o 31))) - 1)]) (rest := []) rfl rfl rfl rfl rfl rfl (by decide) (m_in Mz1671 (Int32.toInt64 (nI x)) 0 ((Int32.toInt64 (nI (o 31))) - 1) ((x : Nat) : Int) 0 ((((o 31) : Nat) : Int) - 1) (l_nI (by omega)) (by decide) (l_sub1 (l_nI (by omega)) (by omega) (by omega))) (fun rz1673 Mz1674 hz1675 => ?_)
  rw [hz1675.1, hz1675.2]
  show Zw 1 zm_MO_letter 18 [some (.ref 139), some (.int (nI x))] [.int (nI (if 0 ≤ ((x : Nat) : Int) ∧ ((x : Nat) : Int) ≤ (((o 31) : Nat) : Int) - 1 then 1 else 0))] Mz1671 _
  refine zw_eq0N (a := if 0 ≤ ((x : Nat) : Int) ∧ ((x : Nat) : Int) ≤ (((o 31) : Nat) : Int) - 1 then 1 else 0) rfl rfl (ite_b) (fun c18 => ?_) (fun c18 => ?_)
  · -- 18 to 30
    exfalso
    have := ite_eq0 c18; omega
  · -- 18 to 21
    refine zw_n 1 rfl ?_
    refine zw_get (v := .ref 164) rfl (zat_self ez1672 hM.1) rfl ?_
    refine zw_n 1 rfl ?_
    refine zw_bald (f := ai (f 164)) (j := x) rfl (zat_set ez1672 (by decide) (hM.2 164 (by decide) (by decide))) rfl rfl (by decide) (by omega) ?_
    refine zw_n 1 rfl ?_
    exact zw_iret rfl rfl (⟨rfl, (MM.of (o' := up o 0 0) (f' := f) hM (Sm.tset Sm.rf ez1672 (by decide)) (zat_self ez1672 hM.1) (c1_skip c1_nil) (fs_k fs_n)), Sm.tset Sm.rf ez1672 (by decide)⟩)

set_option maxHeartbeats 4000000 in
set_option maxRecDepth 100000 in
theorem m_freeNo (Mq : zM) (o : Nat → Nat) (f : Nat → Nat → Nat) (hM : MM Mq o f) (n : Nat) (hn0 : f 140 0 = n) (hn8 : n ≤ 8) (x : Int32) (hx : ¬ (0 ≤ x.toInt ∧ x.toInt < n)) : Zm 2 zm_MO_free [.ref 139, .int x] Mq (fun r9 M1 => r9 = some (.long (lN 0)) ∧ MM M1 (up o 0 0) f ∧ Sm Mq M1 [139]) := by
  show Zw 2 zm_MO_free 0 [some (.ref 139), some (.int x)] [] Mq _
  refine zw_n 2 rfl ?_
  refine zw_put rfl hM.1 (rfl) (Nat.le_of_ble_eq_true rfl) ?_
  generalize ez1677 : List.set Mq 139 _ = Mz1676
  refine zw_n 2 rfl ?_
  refine zw_callV (as := [.int x]) (rest := []) rfl rfl rfl (zat_self ez1677 hM.1) rfl rfl rfl (by decide) (m_isRule Mz1676 (up o 0 0) f (MM.of (o' := up o 0 0) (f' := f) hM (Sm.tset Sm.rf ez1677 (by decide)) (zat_self ez1677 hM.1) (c1_skip c1_nil) (fs_k fs_n)) n hn0 (by omega) x) (fun rz1678 Mz1679 hz1680 => ?_)
  rw [hz1680.1, hz1680.2]
  show Zw 2 zm_MO_free 10 [some (.ref 139), some (.int x)] [.int (nI (if 0 ≤ x.toInt ∧ x.toInt < n then 1 else 0))] Mz1676 _
  refine zw_eq0N (a := if 0 ≤ x.toInt ∧ x.toInt < n then 1 else 0) rfl rfl (ite_b) (fun c10 => ?_) (fun c10 => ?_)
  · -- 10 to 22
    refine zw_n 1 rfl ?_
    refine zw_topl (x' := lN 0) (by decide) ?_
    exact zw_lret rfl rfl (⟨rfl, (MM.of (o' := up o 0 0) (f' := f) hM (Sm.tset Sm.rf ez1677 (by decide)) (zat_self ez1677 hM.1) (c1_skip c1_nil) (fs_k fs_n)), Sm.tset Sm.rf ez1677 (by decide)⟩)
  · -- 10 to 13
    exfalso
    exact hx (ite_ne c10)

set_option maxHeartbeats 4000000 in
set_option maxRecDepth 100000 in
theorem m_freeOk (Mq : zM) (o : Nat → Nat) (f : Nat → Nat → Nat) (hM : MM Mq o f) (n : Nat) (hn0 : f 140 0 = n) (hn8 : n ≤ 8) (x : Nat) (hx : x < n) : Zm 2 zm_MO_free [.ref 139, .int (nI x)] Mq (fun r9 M1 => r9 = some (.long (lN (f 154 x))) ∧ MM M1 (up o 0 0) f ∧ Sm Mq M1 [139]) := by
  show Zw 2 zm_MO_free 0 [some (.ref 139), some (.int (nI x))] [] Mq _
  refine zw_n 2 rfl ?_
  refine zw_put rfl hM.1 (rfl) (Nat.le_of_ble_eq_true rfl) ?_
  generalize ez1682 : List.set Mq 139 _ = Mz1681
  refine zw_n 2 rfl ?_
  refine zw_callV (as := [.int (nI x)]) (rest := []) rfl rfl rfl (zat_self ez1682 hM.1) rfl rfl rfl (by decide) (m_isRule Mz1681 (up o 0 0) f (MM.of (o' := up o 0 0) (f' := f) hM (Sm.tset Sm.rf ez1682 (by decide)) (zat_self ez1682 hM.1) (c1_skip c1_nil) (fs_k fs_n)) n hn0 (by omega) (nI x)) (fun rz1683 Mz1684 hz1685 => ?_)
  rw [hz1685.1, hz1685.2]
  show Zw 2 zm_MO_free 10 [some (.ref 139), some (.int (nI x))] [.int (nI (if 0 ≤ (nI x).toInt ∧ (nI x).toInt < n then 1 else 0))] Mz1681 _
  refine zw_eq0N (a := if 0 ≤ (nI x).toInt ∧ (nI x).toInt < n then 1 else 0) rfl rfl (ite_b) (fun c10 => ?_) (fun c10 => ?_)
  · -- 10 to 22
    exfalso
    exact ite_eq0 c10 (by rw [nI_toInt (by omega)]; omega)
  · -- 10 to 13
    refine zw_n 1 rfl ?_
    refine zw_get (v := .ref 154) rfl (zat_self ez1682 hM.1) rfl ?_
    refine zw_n 1 rfl ?_
    refine zw_lald (f := al (f 154)) (j := x) rfl (zat_set ez1682 (by decide) (hM.2 154 (by decide) (by decide))) rfl (by decide) (by omega) ?_
    refine zw_n 1 rfl ?_
    exact zw_lret rfl rfl (⟨rfl, (MM.of (o' := up o 0 0) (f' := f) hM (Sm.tset Sm.rf ez1682 (by decide)) (zat_self ez1682 hM.1) (c1_skip c1_nil) (fs_k fs_n)), Sm.tset Sm.rf ez1682 (by decide)⟩)

set_option maxHeartbeats 4000000 in
set_option maxRecDepth 100000 in
theorem m_itemNo (Mq : zM) (o : Nat → Nat) (f : Nat → Nat → Nat) (hM : MM Mq o f)(n : Nat) (gn al_ it pt tg bd : Nat → Nat) (hg : RelG f n gn al_ it pt tg bd) (hG : SafeG n gn al_ it pt tg bd) (hF : SafeF f) (x y z w : Int32) (hx : ¬ (0 ≤ x.toInt ∧ x.toInt < n ∧ 0 ≤ y.toInt ∧ y.toInt < al_ x.toInt.toNat)) : Zm 2 zm_MO_item [.ref 139, .int x, .int y, .int z, .int w] Mq (fun r9 M1 => r9 = some (.int (-1)) ∧ MM M1 (up o 0 0) f ∧ Sm Mq M1 [139]) := by
  show Zw 2 zm_MO_item 0 [some (.ref 139), some (.int x), some (.int y), some (.int z), some (.int w)] [] Mq _
  have hn8 := hG.1
  refine zw_n 2 rfl ?_
  refine zw_put rfl hM.1 (rfl) (Nat.le_of_ble_eq_true rfl) ?_
  generalize ez1687 : List.set Mq 139 _ = Mz1686
  refine zw_n 2 rfl ?_
  refine zw_callV (as := [.int x]) (rest := []) rfl rfl rfl (zat_self ez1687 hM.1) rfl rfl rfl (by decide) (m_isRule Mz1686 (up o 0 0) f (MM.of (o' := up o 0 0) (f' := f) hM (Sm.tset Sm.rf ez1687 (by decide)) (zat_self ez1687 hM.1) (c1_skip c1_nil) (fs_k fs_n)) n hg.1 (by omega) x) (fun rz1688 Mz1689 hz1690 => ?_)
  rw [hz1690.1, hz1690.2]
  show Zw 2 zm_MO_item 10 [some (.ref 139), some (.int x), some (.int y), some (.int z), some (.int w)] [.int (nI (if 0 ≤ x.toInt ∧ x.toInt < n then 1 else 0))] Mz1686 _
  refine zw_eq0N (a := if 0 ≤ x.toInt ∧ x.toInt < n then 1 else 0) rfl rfl (ite_b) (fun c10 => ?_) (fun c10 => ?_)
  · -- 10 to 34
    refine zw_n 1 rfl ?_
    exact zw_iret rfl rfl (⟨rfl, (MM.of (o' := up o 0 0) (f' := f) hM (Sm.tset Sm.rf ez1687 (by decide)) (zat_self ez1687 hM.1) (c1_skip c1_nil) (fs_k fs_n)), Sm.tset Sm.rf ez1687 (by decide)⟩)
  · -- 10 to 13
    have hx5 := ite_ne c10
    have ha4 := hG.2.2.1 x.toInt.toNat
    refine zw_n 4 rfl ?_
    refine zw_get (v := .ref 140) rfl (zat_self ez1687 hM.1) rfl ?_
    refine zw_n 3 rfl ?_
    refine zw_top (x' := (nI (9 + x.toInt.toNat))) (na (a := 9) rfl (i32_nat (by omega))) ?_
    refine zw_iald (f := ai (f 140)) (j := (9 + x.toInt.toNat)) rfl (zat_set ez1687 (by decide) (hM.2 140 (by decide) (by decide))) rfl (by decide) (by omega) ?_
    refine zw_top (x' := (nI (al_ x.toInt.toNat))) (congrArg nI (hg.2.2.1 x.toInt.toNat (by omega))) ?_
    refine zw_n 3 rfl ?_
    refine zw_callS (as := [.long (Int32.toInt64 y), .long 0, .long ((Int32.toInt64 (nI (al_ x.toInt.toNat))) - 1)]) (rest := []) rfl rfl rfl rfl rfl rfl (by decide) (m_in Mz1686 (Int32.toInt64 y) 0 ((Int32.toInt64 (nI (al_ x.toInt.toNat))) - 1) y.toInt 0 ((((al_ x.toInt.toNat) : Nat) : Int) - 1) (Int32.toInt_toInt64 _) (by decide) (l_sub1 (l_nI (by omega)) (by omega) (by omega))) (fun rz1691 Mz1692 hz1693 => ?_)
    rw [hz1693.1, hz1693.2]
    show Zw 2 zm_MO_item 31 [some (.ref 139), some (.int x), some (.int y), some (.int z), some (.int w)] [.int (nI (if 0 ≤ y.toInt ∧ y.toInt ≤ (((al_ x.toInt.toNat) : Nat) : Int) - 1 then 1 else 0))] Mz1686 _
    refine zw_ne0N (a := if 0 ≤ y.toInt ∧ y.toInt ≤ (((al_ x.toInt.toNat) : Nat) : Int) - 1 then 1 else 0) rfl rfl (ite_b) (fun c31 => ?_) (fun c31 => ?_)
    · -- 31 to 36
      exfalso
      have := ite_ne c31; omega
    · -- 31 to 34
      refine zw_n 1 rfl ?_
      exact zw_iret rfl rfl (⟨rfl, (MM.of (o' := up o 0 0) (f' := f) hM (Sm.tset Sm.rf ez1687 (by decide)) (zat_self ez1687 hM.1) (c1_skip c1_nil) (fs_k fs_n)), Sm.tset Sm.rf ez1687 (by decide)⟩)

set_option maxHeartbeats 4000000 in
set_option maxRecDepth 100000 in
theorem m_itemM (Mq : zM) (o : Nat → Nat) (f : Nat → Nat → Nat) (hM : MM Mq o f)(n : Nat) (gn al_ it pt tg bd : Nat → Nat) (hg : RelG f n gn al_ it pt tg bd) (hG : SafeG n gn al_ it pt tg bd) (hF : SafeF f) (r a : Nat) (hr : r < n) (ha : a < al_ r) (w : Int32) : Zm 2 zm_MO_item [.ref 139, .int (nI r), .int (nI a), .int (-1), .int w] Mq (fun r9 M1 => r9 = some (.int (if w = nI 0 then nI (it (r * 4 + a)) else -1)) ∧ MM M1 (up o 0 0) f ∧ Sm Mq M1 [139]) := by
  show Zw 2 zm_MO_item 0 [some (.ref 139), some (.int (nI r)), some (.int (nI a)), some (.int (-1)), some (.int w)] [] Mq _
  have hn8 := hG.1
  have ha4 := hG.2.2.1 r
  have hi5 := hG.2.2.2.1 (r * 4 + a)
  refine zw_n 2 rfl ?_
  refine zw_put rfl hM.1 (rfl) (Nat.le_of_ble_eq_true rfl) ?_
  generalize ez1695 : List.set Mq 139 _ = Mz1694
  refine zw_n 2 rfl ?_
  refine zw_callV (as := [.int (nI r)]) (rest := []) rfl rfl rfl (zat_self ez1695 hM.1) rfl rfl rfl (by decide) (m_isRule Mz1694 (up o 0 0) f (MM.of (o' := up o 0 0) (f' := f) hM (Sm.tset Sm.rf ez1695 (by decide)) (zat_self ez1695 hM.1) (c1_skip c1_nil) (fs_k fs_n)) n hg.1 (by omega) (nI r)) (fun rz1696 Mz1697 hz1698 => ?_)
  rw [hz1698.1, hz1698.2]
  show Zw 2 zm_MO_item 10 [some (.ref 139), some (.int (nI r)), some (.int (nI a)), some (.int (-1)), some (.int w)] [.int (nI (if 0 ≤ (nI r).toInt ∧ (nI r).toInt < n then 1 else 0))] Mz1694 _
  refine zw_eq0N (a := if 0 ≤ (nI r).toInt ∧ (nI r).toInt < n then 1 else 0) rfl rfl (ite_b) (fun c10 => ?_) (fun c10 => ?_)
  · -- 10 to 34
    exfalso
    first | exact ite_eq0 c10 (by rw [nI_toInt (by omega)]; omega) | (have := ite_eq0 c31; omega)
  · -- 10 to 13
    refine zw_n 4 rfl ?_
    refine zw_get (v := .ref 140) rfl (zat_self ez1695 hM.1) rfl ?_
    refine zw_n 3 rfl ?_
    refine zw_top (na (a := 9) (b := r) rfl rfl) ?_
    refine zw_iald (f := ai (f 140)) (j := (9 + r)) rfl (zat_set ez1695 (by decide) (hM.2 140 (by decide) (by decide))) rfl (by decide) (by omega) ?_
    refine zw_top (x' := (nI (al_ r))) (congrArg nI (hg.2.2.1 r hr)) ?_
    refine zw_n 3 rfl ?_
    refine zw_callS (as := [.long (Int32.toInt64 (nI a)), .long 0, .long ((Int32.toInt64 (nI (al_ r))) - 1)]) (rest := []) rfl rfl rfl rfl rfl rfl (by decide) (m_in Mz1694 (Int32.toInt64 (nI a)) 0 ((Int32.toInt64 (nI (al_ r))) - 1) ((a : Nat) : Int) 0 ((((al_ r) : Nat) : Int) - 1) (l_nI (by omega)) (by decide) (l_sub1 (l_nI (by omega)) (by omega) (by omega))) (fun rz1699 Mz1700 hz1701 => ?_)
    rw [hz1701.1, hz1701.2]
    show Zw 2 zm_MO_item 31 [some (.ref 139), some (.int (nI r)), some (.int (nI a)), some (.int (-1)), some (.int w)] [.int (nI (if 0 ≤ ((a : Nat) : Int) ∧ ((a : Nat) : Int) ≤ (((al_ r) : Nat) : Int) - 1 then 1 else 0))] Mz1694 _
    refine zw_ne0N (a := if 0 ≤ ((a : Nat) : Int) ∧ ((a : Nat) : Int) ≤ (((al_ r) : Nat) : Int) - 1 then 1 else 0) rfl rfl (ite_b) (fun c31 => ?_) (fun c31 => ?_)
    · -- 31 to 36
      refine zw_n 2 rfl ?_
      refine zw_ic rfl ?_
      show Zw 2 zm_MO_item 41 [some (.ref 139), some (.int (nI r)), some (.int (nI a)), some (.int (-1)), some (.int w)] [] Mz1694 _
      refine zw_n 1 rfl ?_
      refine zw_ne0 rfl (fun c43 => ?_) (fun c43 => ?_)
      · -- 43 to 55
        refine zw_n 1 rfl ?_
        exact zw_iret rfl rfl (⟨by rw [if_neg (show ¬ w = nI 0 from c43)]; try rfl, (MM.of (o' := up o 0 0) (f' := f) hM (Sm.tset Sm.rf ez1695 (by decide)) (zat_self ez1695 hM.1) (c1_skip c1_nil) (fs_k fs_n)), Sm.tset Sm.rf ez1695 (by decide)⟩)
      · -- 43 to 46
        refine zw_n 3 rfl ?_
        refine zw_callV (as := [.int (nI r), .int (nI a)]) (rest := []) rfl rfl rfl (zat_self ez1695 hM.1) rfl rfl rfl (by decide) (m_items Mz1694 (up o 0 0) f (MM.of (o' := up o 0 0) (f' := f) hM (Sm.tset Sm.rf ez1695 (by decide)) (zat_self ez1695 hM.1) (c1_skip c1_nil) (fs_k fs_n)) n gn al_ it pt tg bd hg hG hF r a (by omega) (by omega)) (fun rz1702 Mz1703 hz1704 => ?_)
        rw [hz1704.1, hz1704.2]
        show Zw 2 zm_MO_item 52 [some (.ref 139), some (.int (nI r)), some (.int (nI a)), some (.int (-1)), some (.int w)] [.int (nI (it (r * 4 + a)))] Mz1694 _
        refine zw_n 1 rfl ?_
        exact zw_iret rfl rfl (⟨by rw [if_pos (show w = nI 0 from c43)]; try rfl, (MM.of (o' := up o 0 0) (f' := f) hM (Sm.tset Sm.rf ez1695 (by decide)) (zat_self ez1695 hM.1) (c1_skip c1_nil) (fs_k fs_n)), Sm.tset Sm.rf ez1695 (by decide)⟩)
    · -- 31 to 34
      exfalso
      first | exact ite_eq0 c10 (by rw [nI_toInt (by omega)]; omega) | (have := ite_eq0 c31; omega)

set_option maxHeartbeats 4000000 in
set_option maxRecDepth 100000 in
theorem m_itemK (Mq : zM) (o : Nat → Nat) (f : Nat → Nat → Nat) (hM : MM Mq o f)(n : Nat) (gn al_ it pt tg bd : Nat → Nat) (hg : RelG f n gn al_ it pt tg bd) (hG : SafeG n gn al_ it pt tg bd) (hF : SafeF f) (r a : Nat) (hr : r < n) (ha : a < al_ r) (z w : Int32) (hz : z ≠ -1) (hz2 : ¬ (0 ≤ z.toInt ∧ z.toInt < it (r * 4 + a))) : Zm 2 zm_MO_item [.ref 139, .int (nI r), .int (nI a), .int z, .int w] Mq (fun r9 M1 => r9 = some (.int (-1)) ∧ MM M1 (up o 0 0) f ∧ Sm Mq M1 [139]) := by
  show Zw 2 zm_MO_item 0 [some (.ref 139), some (.int (nI r)), some (.int (nI a)), some (.int z), some (.int w)] [] Mq _
  have hn8 := hG.1
  have ha4 := hG.2.2.1 r
  have hi5 := hG.2.2.2.1 (r * 4 + a)
  refine zw_n 2 rfl ?_
  refine zw_put rfl hM.1 (rfl) (Nat.le_of_ble_eq_true rfl) ?_
  generalize ez1706 : List.set Mq 139 _ = Mz1705
  refine zw_n 2 rfl ?_
  refine zw_callV (as := [.int (nI r)]) (rest := []) rfl rfl rfl (zat_self ez1706 hM.1) rfl rfl rfl (by decide) (m_isRule Mz1705 (up o 0 0) f (MM.of (o' := up o 0 0) (f' := f) hM (Sm.tset Sm.rf ez1706 (by decide)) (zat_self ez1706 hM.1) (c1_skip c1_nil) (fs_k fs_n)) n hg.1 (by omega) (nI r)) (fun rz1707 Mz1708 hz1709 => ?_)
  rw [hz1709.1, hz1709.2]
  show Zw 2 zm_MO_item 10 [some (.ref 139), some (.int (nI r)), some (.int (nI a)), some (.int z), some (.int w)] [.int (nI (if 0 ≤ (nI r).toInt ∧ (nI r).toInt < n then 1 else 0))] Mz1705 _
  refine zw_eq0N (a := if 0 ≤ (nI r).toInt ∧ (nI r).toInt < n then 1 else 0) rfl rfl (ite_b) (fun c10 => ?_) (fun c10 => ?_)
  · -- 10 to 34
    exfalso
    first | exact ite_eq0 c10 (by rw [nI_toInt (by omega)]; omega) | (have := ite_eq0 c31; omega)
  · -- 10 to 13
    refine zw_n 4 rfl ?_
    refine zw_get (v := .ref 140) rfl (zat_self ez1706 hM.1) rfl ?_
    refine zw_n 3 rfl ?_
    refine zw_top (na (a := 9) (b := r) rfl rfl) ?_
    refine zw_iald (f := ai (f 140)) (j := (9 + r)) rfl (zat_set ez1706 (by decide) (hM.2 140 (by decide) (by decide))) rfl (by decide) (by omega) ?_
    refine zw_top (x' := (nI (al_ r))) (congrArg nI (hg.2.2.1 r hr)) ?_
    refine zw_n 3 rfl ?_
    refine zw_callS (as := [.long (Int32.toInt64 (nI a)), .long 0, .long ((Int32.toInt64 (nI (al_ r))) - 1)]) (rest := []) rfl rfl rfl rfl rfl rfl (by decide) (m_in Mz1705 (Int32.toInt64 (nI a)) 0 ((Int32.toInt64 (nI (al_ r))) - 1) ((a : Nat) : Int) 0 ((((al_ r) : Nat) : Int) - 1) (l_nI (by omega)) (by decide) (l_sub1 (l_nI (by omega)) (by omega) (by omega))) (fun rz1710 Mz1711 hz1712 => ?_)
    rw [hz1712.1, hz1712.2]
    show Zw 2 zm_MO_item 31 [some (.ref 139), some (.int (nI r)), some (.int (nI a)), some (.int z), some (.int w)] [.int (nI (if 0 ≤ ((a : Nat) : Int) ∧ ((a : Nat) : Int) ≤ (((al_ r) : Nat) : Int) - 1 then 1 else 0))] Mz1705 _
    refine zw_ne0N (a := if 0 ≤ ((a : Nat) : Int) ∧ ((a : Nat) : Int) ≤ (((al_ r) : Nat) : Int) - 1 then 1 else 0) rfl rfl (ite_b) (fun c31 => ?_) (fun c31 => ?_)
    · -- 31 to 36
      refine zw_n 2 rfl ?_
      refine zw_ine rfl (fun c38 => ?_) (fun c38 => ?_)
      · -- 38 to 57
        refine zw_n 6 rfl ?_
        refine zw_callV (as := [.int (nI r), .int (nI a)]) (rest := [.long 0, .long (Int32.toInt64 z)]) rfl rfl rfl (zat_self ez1706 hM.1) rfl rfl rfl (by decide) (m_items Mz1705 (up o 0 0) f (MM.of (o' := up o 0 0) (f' := f) hM (Sm.tset Sm.rf ez1706 (by decide)) (zat_self ez1706 hM.1) (c1_skip c1_nil) (fs_k fs_n)) n gn al_ it pt tg bd hg hG hF r a (by omega) (by omega)) (fun rz1713 Mz1714 hz1715 => ?_)
        rw [hz1715.1, hz1715.2]
        show Zw 2 zm_MO_item 66 [some (.ref 139), some (.int (nI r)), some (.int (nI a)), some (.int z), some (.int w)] [.int (nI (it (r * 4 + a))), .long 0, .long (Int32.toInt64 z)] Mz1705 _
        refine zw_n 3 rfl ?_
        refine zw_callS (as := [.long (Int32.toInt64 z), .long 0, .long ((Int32.toInt64 (nI (it (r * 4 + a)))) - 1)]) (rest := []) rfl rfl rfl rfl rfl rfl (by decide) (m_in Mz1705 (Int32.toInt64 z) 0 ((Int32.toInt64 (nI (it (r * 4 + a)))) - 1) z.toInt 0 ((((it (r * 4 + a)) : Nat) : Int) - 1) (Int32.toInt_toInt64 _) (by decide) (l_sub1 (l_nI (by omega)) (by omega) (by omega))) (fun rz1716 Mz1717 hz1718 => ?_)
        rw [hz1718.1, hz1718.2]
        show Zw 2 zm_MO_item 72 [some (.ref 139), some (.int (nI r)), some (.int (nI a)), some (.int z), some (.int w)] [.int (nI (if 0 ≤ z.toInt ∧ z.toInt ≤ (((it (r * 4 + a)) : Nat) : Int) - 1 then 1 else 0))] Mz1705 _
        refine zw_eq0N (a := if 0 ≤ z.toInt ∧ z.toInt ≤ (((it (r * 4 + a)) : Nat) : Int) - 1 then 1 else 0) rfl rfl (ite_b) (fun c72 => ?_) (fun c72 => ?_)
        · -- 72 to 105
          refine zw_n 1 rfl ?_
          exact zw_iret rfl rfl (⟨rfl, (MM.of (o' := up o 0 0) (f' := f) hM (Sm.tset Sm.rf ez1706 (by decide)) (zat_self ez1706 hM.1) (c1_skip c1_nil) (fs_k fs_n)), Sm.tset Sm.rf ez1706 (by decide)⟩)
        · -- 72 to 75
          exfalso
          have := ite_ne c72; omega
      · -- 38 to 41
        exfalso
        exact hz c38
    · -- 31 to 34
      exfalso
      first | exact ite_eq0 c10 (by rw [nI_toInt (by omega)]; omega) | (have := ite_eq0 c31; omega)

set_option maxHeartbeats 4000000 in
set_option maxRecDepth 100000 in
theorem m_item0 (Mq : zM) (o : Nat → Nat) (f : Nat → Nat → Nat) (hM : MM Mq o f)(n : Nat) (gn al_ it pt tg bd : Nat → Nat) (hg : RelG f n gn al_ it pt tg bd) (hG : SafeG n gn al_ it pt tg bd) (hF : SafeF f) (r a : Nat) (hr : r < n) (ha : a < al_ r) (k : Nat) (hk : k < it (r * 4 + a)) : Zm 2 zm_MO_item [.ref 139, .int (nI r), .int (nI a), .int (nI k), .int 0] Mq (fun r9 M1 => r9 = some (.int (nI (pt ((r * 4 + a) * 5 + k)))) ∧ MM M1 (up o 0 0) f ∧ Sm Mq M1 [139]) := by
  show Zw 2 zm_MO_item 0 [some (.ref 139), some (.int (nI r)), some (.int (nI a)), some (.int (nI k)), some (.int 0)] [] Mq _
  have hn8 := hG.1
  have ha4 := hG.2.2.1 r
  have hi5 := hG.2.2.2.1 (r * 4 + a)
  refine zw_n 2 rfl ?_
  refine zw_put rfl hM.1 (rfl) (Nat.le_of_ble_eq_true rfl) ?_
  generalize ez1720 : List.set Mq 139 _ = Mz1719
  refine zw_n 2 rfl ?_
  refine zw_callV (as := [.int (nI r)]) (rest := []) rfl rfl rfl (zat_self ez1720 hM.1) rfl rfl rfl (by decide) (m_isRule Mz1719 (up o 0 0) f (MM.of (o' := up o 0 0) (f' := f) hM (Sm.tset Sm.rf ez1720 (by decide)) (zat_self ez1720 hM.1) (c1_skip c1_nil) (fs_k fs_n)) n hg.1 (by omega) (nI r)) (fun rz1721 Mz1722 hz1723 => ?_)
  rw [hz1723.1, hz1723.2]
  show Zw 2 zm_MO_item 10 [some (.ref 139), some (.int (nI r)), some (.int (nI a)), some (.int (nI k)), some (.int 0)] [.int (nI (if 0 ≤ (nI r).toInt ∧ (nI r).toInt < n then 1 else 0))] Mz1719 _
  refine zw_eq0N (a := if 0 ≤ (nI r).toInt ∧ (nI r).toInt < n then 1 else 0) rfl rfl (ite_b) (fun c10 => ?_) (fun c10 => ?_)
  · -- 10 to 34
    exfalso
    first | exact ite_eq0 c10 (by rw [nI_toInt (by omega)]; omega) | (have := ite_eq0 c31; omega)
  · -- 10 to 13
    refine zw_n 4 rfl ?_
    refine zw_get (v := .ref 140) rfl (zat_self ez1720 hM.1) rfl ?_
    refine zw_n 3 rfl ?_
    refine zw_top (na (a := 9) (b := r) rfl rfl) ?_
    refine zw_iald (f := ai (f 140)) (j := (9 + r)) rfl (zat_set ez1720 (by decide) (hM.2 140 (by decide) (by decide))) rfl (by decide) (by omega) ?_
    refine zw_top (x' := (nI (al_ r))) (congrArg nI (hg.2.2.1 r hr)) ?_
    refine zw_n 3 rfl ?_
    refine zw_callS (as := [.long (Int32.toInt64 (nI a)), .long 0, .long ((Int32.toInt64 (nI (al_ r))) - 1)]) (rest := []) rfl rfl rfl rfl rfl rfl (by decide) (m_in Mz1719 (Int32.toInt64 (nI a)) 0 ((Int32.toInt64 (nI (al_ r))) - 1) ((a : Nat) : Int) 0 ((((al_ r) : Nat) : Int) - 1) (l_nI (by omega)) (by decide) (l_sub1 (l_nI (by omega)) (by omega) (by omega))) (fun rz1724 Mz1725 hz1726 => ?_)
    rw [hz1726.1, hz1726.2]
    show Zw 2 zm_MO_item 31 [some (.ref 139), some (.int (nI r)), some (.int (nI a)), some (.int (nI k)), some (.int 0)] [.int (nI (if 0 ≤ ((a : Nat) : Int) ∧ ((a : Nat) : Int) ≤ (((al_ r) : Nat) : Int) - 1 then 1 else 0))] Mz1719 _
    refine zw_ne0N (a := if 0 ≤ ((a : Nat) : Int) ∧ ((a : Nat) : Int) ≤ (((al_ r) : Nat) : Int) - 1 then 1 else 0) rfl rfl (ite_b) (fun c31 => ?_) (fun c31 => ?_)
    · -- 31 to 36
      refine zw_n 2 rfl ?_
      refine zw_ineM (a := k) rfl rfl (by omega) (fun c38 => ?_) (fun c38 => ?_)
      · -- 38 to 57
        refine zw_n 6 rfl ?_
        refine zw_callV (as := [.int (nI r), .int (nI a)]) (rest := [.long 0, .long (Int32.toInt64 (nI k))]) rfl rfl rfl (zat_self ez1720 hM.1) rfl rfl rfl (by decide) (m_items Mz1719 (up o 0 0) f (MM.of (o' := up o 0 0) (f' := f) hM (Sm.tset Sm.rf ez1720 (by decide)) (zat_self ez1720 hM.1) (c1_skip c1_nil) (fs_k fs_n)) n gn al_ it pt tg bd hg hG hF r a (by omega) (by omega)) (fun rz1727 Mz1728 hz1729 => ?_)
        rw [hz1729.1, hz1729.2]
        show Zw 2 zm_MO_item 66 [some (.ref 139), some (.int (nI r)), some (.int (nI a)), some (.int (nI k)), some (.int 0)] [.int (nI (it (r * 4 + a))), .long 0, .long (Int32.toInt64 (nI k))] Mz1719 _
        refine zw_n 3 rfl ?_
        refine zw_callS (as := [.long (Int32.toInt64 (nI k)), .long 0, .long ((Int32.toInt64 (nI (it (r * 4 + a)))) - 1)]) (rest := []) rfl rfl rfl rfl rfl rfl (by decide) (m_in Mz1719 (Int32.toInt64 (nI k)) 0 ((Int32.toInt64 (nI (it (r * 4 + a)))) - 1) ((k : Nat) : Int) 0 ((((it (r * 4 + a)) : Nat) : Int) - 1) (l_nI (by omega)) (by decide) (l_sub1 (l_nI (by omega)) (by omega) (by omega))) (fun rz1730 Mz1731 hz1732 => ?_)
        rw [hz1732.1, hz1732.2]
        show Zw 2 zm_MO_item 72 [some (.ref 139), some (.int (nI r)), some (.int (nI a)), some (.int (nI k)), some (.int 0)] [.int (nI (if 0 ≤ ((k : Nat) : Int) ∧ ((k : Nat) : Int) ≤ (((it (r * 4 + a)) : Nat) : Int) - 1 then 1 else 0))] Mz1719 _
        refine zw_eq0N (a := if 0 ≤ ((k : Nat) : Int) ∧ ((k : Nat) : Int) ≤ (((it (r * 4 + a)) : Nat) : Int) - 1 then 1 else 0) rfl rfl (ite_b) (fun c72 => ?_) (fun c72 => ?_)
        · -- 72 to 105
          exfalso
          first | (have := ite_eq0 c72; omega) | exact ite_eq0 c85 (by decide)
        · -- 72 to 75
          refine zw_n 4 rfl ?_
          refine zw_callS (as := [.long (Int32.toInt64 0), .long 0, .long 2]) (rest := []) rfl rfl rfl rfl rfl rfl (by decide) (m_in Mz1719 (Int32.toInt64 0) 0 2 0 0 2 (by decide) (by decide) (by decide)) (fun rz1733 Mz1734 hz1735 => ?_)
          rw [hz1735.1, hz1735.2]
          show Zw 2 zm_MO_item 85 [some (.ref 139), some (.int (nI r)), some (.int (nI a)), some (.int (nI k)), some (.int 0)] [.int (nI (if 0 ≤ 0 ∧ 0 ≤ 2 then 1 else 0))] Mz1719 _
          refine zw_eq0N (a := if 0 ≤ 0 ∧ 0 ≤ 2 then 1 else 0) rfl rfl (ite_b) (fun c85 => ?_) (fun c85 => ?_)
          · -- 85 to 105
            exfalso
            first | (have := ite_eq0 c72; omega) | exact ite_eq0 c85 (by decide)
          · -- 85 to 88
            refine zw_n 1 rfl ?_
            refine zw_get (v := .ref 140) rfl (zat_self ez1720 hM.1) rfl ?_
            refine zw_n 3 rfl ?_
            refine zw_callS (as := [.int (nI r), .int (nI a), .int (nI k)]) (rest := [.ref 140]) rfl rfl rfl rfl rfl rfl (by decide) (m_itemAt _ r a k) (fun rz1736 Mz1737 hz1738 => ?_)
            rw [hz1738.1, hz1738.2]
            show Zw 2 zm_MO_item 98 [some (.ref 139), some (.int (nI r)), some (.int (nI a)), some (.int (nI k)), some (.int 0)] [.int (nI (49 + 3 * ((r * 4 + a) * 5 + k))), .ref 140] Mz1719 _
            refine zw_n 2 rfl ?_
            refine zw_top (na (a := 49 + 3 * ((r * 4 + a) * 5 + k)) (b := 0) rfl rfl) ?_
            refine zw_iald (f := ai (f 140)) (j := ((49 + 3 * ((r * 4 + a) * 5 + k)) + 0)) rfl (zat_set ez1720 (by decide) (hM.2 140 (by decide) (by decide))) rfl (by decide) (by omega) ?_
            refine zw_top (x' := (nI (pt ((r * 4 + a) * 5 + k)))) (congrArg nI (hg.2.2.2.2 _ ⟨r, a, k, hr, ha, hk, rfl⟩).1) ?_
            refine zw_n 1 rfl ?_
            exact zw_iret rfl rfl (⟨rfl, (MM.of (o' := up o 0 0) (f' := f) hM (Sm.tset Sm.rf ez1720 (by decide)) (zat_self ez1720 hM.1) (c1_skip c1_nil) (fs_k fs_n)), Sm.tset Sm.rf ez1720 (by decide)⟩)
      · -- 38 to 41
        exfalso
        omega
    · -- 31 to 34
      exfalso
      first | exact ite_eq0 c10 (by rw [nI_toInt (by omega)]; omega) | (have := ite_eq0 c31; omega)

set_option maxHeartbeats 4000000 in
set_option maxRecDepth 100000 in
theorem m_item1 (Mq : zM) (o : Nat → Nat) (f : Nat → Nat → Nat) (hM : MM Mq o f)(n : Nat) (gn al_ it pt tg bd : Nat → Nat) (hg : RelG f n gn al_ it pt tg bd) (hG : SafeG n gn al_ it pt tg bd) (hF : SafeF f) (r a : Nat) (hr : r < n) (ha : a < al_ r) (k : Nat) (hk : k < it (r * 4 + a)) : Zm 2 zm_MO_item [.ref 139, .int (nI r), .int (nI a), .int (nI k), .int 1] Mq (fun r9 M1 => r9 = some (.int (nI (if tg ((r * 4 + a) * 5 + k) = NO then 0 else 1))) ∧ MM M1 (up o 0 0) f ∧ Sm Mq M1 [139]) := by
  show Zw 2 zm_MO_item 0 [some (.ref 139), some (.int (nI r)), some (.int (nI a)), some (.int (nI k)), some (.int 1)] [] Mq _
  have hn8 := hG.1
  have ha4 := hG.2.2.1 r
  have hi5 := hG.2.2.2.1 (r * 4 + a)
  refine zw_n 2 rfl ?_
  refine zw_put rfl hM.1 (rfl) (Nat.le_of_ble_eq_true rfl) ?_
  generalize ez1740 : List.set Mq 139 _ = Mz1739
  refine zw_n 2 rfl ?_
  refine zw_callV (as := [.int (nI r)]) (rest := []) rfl rfl rfl (zat_self ez1740 hM.1) rfl rfl rfl (by decide) (m_isRule Mz1739 (up o 0 0) f (MM.of (o' := up o 0 0) (f' := f) hM (Sm.tset Sm.rf ez1740 (by decide)) (zat_self ez1740 hM.1) (c1_skip c1_nil) (fs_k fs_n)) n hg.1 (by omega) (nI r)) (fun rz1741 Mz1742 hz1743 => ?_)
  rw [hz1743.1, hz1743.2]
  show Zw 2 zm_MO_item 10 [some (.ref 139), some (.int (nI r)), some (.int (nI a)), some (.int (nI k)), some (.int 1)] [.int (nI (if 0 ≤ (nI r).toInt ∧ (nI r).toInt < n then 1 else 0))] Mz1739 _
  refine zw_eq0N (a := if 0 ≤ (nI r).toInt ∧ (nI r).toInt < n then 1 else 0) rfl rfl (ite_b) (fun c10 => ?_) (fun c10 => ?_)
  · -- 10 to 34
    exfalso
    first | exact ite_eq0 c10 (by rw [nI_toInt (by omega)]; omega) | (have := ite_eq0 c31; omega)
  · -- 10 to 13
    refine zw_n 4 rfl ?_
    refine zw_get (v := .ref 140) rfl (zat_self ez1740 hM.1) rfl ?_
    refine zw_n 3 rfl ?_
    refine zw_top (na (a := 9) (b := r) rfl rfl) ?_
    refine zw_iald (f := ai (f 140)) (j := (9 + r)) rfl (zat_set ez1740 (by decide) (hM.2 140 (by decide) (by decide))) rfl (by decide) (by omega) ?_
    refine zw_top (x' := (nI (al_ r))) (congrArg nI (hg.2.2.1 r hr)) ?_
    refine zw_n 3 rfl ?_
    refine zw_callS (as := [.long (Int32.toInt64 (nI a)), .long 0, .long ((Int32.toInt64 (nI (al_ r))) - 1)]) (rest := []) rfl rfl rfl rfl rfl rfl (by decide) (m_in Mz1739 (Int32.toInt64 (nI a)) 0 ((Int32.toInt64 (nI (al_ r))) - 1) ((a : Nat) : Int) 0 ((((al_ r) : Nat) : Int) - 1) (l_nI (by omega)) (by decide) (l_sub1 (l_nI (by omega)) (by omega) (by omega))) (fun rz1744 Mz1745 hz1746 => ?_)
    rw [hz1746.1, hz1746.2]
    show Zw 2 zm_MO_item 31 [some (.ref 139), some (.int (nI r)), some (.int (nI a)), some (.int (nI k)), some (.int 1)] [.int (nI (if 0 ≤ ((a : Nat) : Int) ∧ ((a : Nat) : Int) ≤ (((al_ r) : Nat) : Int) - 1 then 1 else 0))] Mz1739 _
    refine zw_ne0N (a := if 0 ≤ ((a : Nat) : Int) ∧ ((a : Nat) : Int) ≤ (((al_ r) : Nat) : Int) - 1 then 1 else 0) rfl rfl (ite_b) (fun c31 => ?_) (fun c31 => ?_)
    · -- 31 to 36
      refine zw_n 2 rfl ?_
      refine zw_ineM (a := k) rfl rfl (by omega) (fun c38 => ?_) (fun c38 => ?_)
      · -- 38 to 57
        refine zw_n 6 rfl ?_
        refine zw_callV (as := [.int (nI r), .int (nI a)]) (rest := [.long 0, .long (Int32.toInt64 (nI k))]) rfl rfl rfl (zat_self ez1740 hM.1) rfl rfl rfl (by decide) (m_items Mz1739 (up o 0 0) f (MM.of (o' := up o 0 0) (f' := f) hM (Sm.tset Sm.rf ez1740 (by decide)) (zat_self ez1740 hM.1) (c1_skip c1_nil) (fs_k fs_n)) n gn al_ it pt tg bd hg hG hF r a (by omega) (by omega)) (fun rz1747 Mz1748 hz1749 => ?_)
        rw [hz1749.1, hz1749.2]
        show Zw 2 zm_MO_item 66 [some (.ref 139), some (.int (nI r)), some (.int (nI a)), some (.int (nI k)), some (.int 1)] [.int (nI (it (r * 4 + a))), .long 0, .long (Int32.toInt64 (nI k))] Mz1739 _
        refine zw_n 3 rfl ?_
        refine zw_callS (as := [.long (Int32.toInt64 (nI k)), .long 0, .long ((Int32.toInt64 (nI (it (r * 4 + a)))) - 1)]) (rest := []) rfl rfl rfl rfl rfl rfl (by decide) (m_in Mz1739 (Int32.toInt64 (nI k)) 0 ((Int32.toInt64 (nI (it (r * 4 + a)))) - 1) ((k : Nat) : Int) 0 ((((it (r * 4 + a)) : Nat) : Int) - 1) (l_nI (by omega)) (by decide) (l_sub1 (l_nI (by omega)) (by omega) (by omega))) (fun rz1750 Mz1751 hz1752 => ?_)
        rw [hz1752.1, hz1752.2]
        show Zw 2 zm_MO_item 72 [some (.ref 139), some (.int (nI r)), some (.int (nI a)), some (.int (nI k)), some (.int 1)] [.int (nI (if 0 ≤ ((k : Nat) : Int) ∧ ((k : Nat) : Int) ≤ (((it (r * 4 + a)) : Nat) : Int) - 1 then 1 else 0))] Mz1739 _
        refine zw_eq0N (a := if 0 ≤ ((k : Nat) : Int) ∧ ((k : Nat) : Int) ≤ (((it (r * 4 + a)) : Nat) : Int) - 1 then 1 else 0) rfl rfl (ite_b) (fun c72 => ?_) (fun c72 => ?_)
        · -- 72 to 105
          exfalso
          first | (have := ite_eq0 c72; omega) | exact ite_eq0 c85 (by decide)
        · -- 72 to 75
          refine zw_n 4 rfl ?_
          refine zw_callS (as := [.long (Int32.toInt64 1), .long 0, .long 2]) (rest := []) rfl rfl rfl rfl rfl rfl (by decide) (m_in Mz1739 (Int32.toInt64 1) 0 2 1 0 2 (by decide) (by decide) (by decide)) (fun rz1753 Mz1754 hz1755 => ?_)
          rw [hz1755.1, hz1755.2]
          show Zw 2 zm_MO_item 85 [some (.ref 139), some (.int (nI r)), some (.int (nI a)), some (.int (nI k)), some (.int 1)] [.int (nI (if 0 ≤ 1 ∧ 1 ≤ 2 then 1 else 0))] Mz1739 _
          refine zw_eq0N (a := if 0 ≤ 1 ∧ 1 ≤ 2 then 1 else 0) rfl rfl (ite_b) (fun c85 => ?_) (fun c85 => ?_)
          · -- 85 to 105
            exfalso
            first | (have := ite_eq0 c72; omega) | exact ite_eq0 c85 (by decide)
          · -- 85 to 88
            refine zw_n 1 rfl ?_
            refine zw_get (v := .ref 140) rfl (zat_self ez1740 hM.1) rfl ?_
            refine zw_n 3 rfl ?_
            refine zw_callS (as := [.int (nI r), .int (nI a), .int (nI k)]) (rest := [.ref 140]) rfl rfl rfl rfl rfl rfl (by decide) (m_itemAt _ r a k) (fun rz1756 Mz1757 hz1758 => ?_)
            rw [hz1758.1, hz1758.2]
            show Zw 2 zm_MO_item 98 [some (.ref 139), some (.int (nI r)), some (.int (nI a)), some (.int (nI k)), some (.int 1)] [.int (nI (49 + 3 * ((r * 4 + a) * 5 + k))), .ref 140] Mz1739 _
            refine zw_n 2 rfl ?_
            refine zw_top (na (a := 49 + 3 * ((r * 4 + a) * 5 + k)) (b := 1) rfl rfl) ?_
            refine zw_iald (f := ai (f 140)) (j := ((49 + 3 * ((r * 4 + a) * 5 + k)) + 1)) rfl (zat_set ez1740 (by decide) (hM.2 140 (by decide) (by decide))) rfl (by decide) (by omega) ?_
            refine zw_top (x' := (nI (if tg ((r * 4 + a) * 5 + k) = NO then 0 else 1))) (congrArg nI (hg.2.2.2.2 _ ⟨r, a, k, hr, ha, hk, rfl⟩).2.1) ?_
            refine zw_n 1 rfl ?_
            exact zw_iret rfl rfl (⟨rfl, (MM.of (o' := up o 0 0) (f' := f) hM (Sm.tset Sm.rf ez1740 (by decide)) (zat_self ez1740 hM.1) (c1_skip c1_nil) (fs_k fs_n)), Sm.tset Sm.rf ez1740 (by decide)⟩)
      · -- 38 to 41
        exfalso
        omega
    · -- 31 to 34
      exfalso
      first | exact ite_eq0 c10 (by rw [nI_toInt (by omega)]; omega) | (have := ite_eq0 c31; omega)

set_option maxHeartbeats 4000000 in
set_option maxRecDepth 100000 in
theorem m_item2 (Mq : zM) (o : Nat → Nat) (f : Nat → Nat → Nat) (hM : MM Mq o f)(n : Nat) (gn al_ it pt tg bd : Nat → Nat) (hg : RelG f n gn al_ it pt tg bd) (hG : SafeG n gn al_ it pt tg bd) (hF : SafeF f) (r a : Nat) (hr : r < n) (ha : a < al_ r) (k : Nat) (hk : k < it (r * 4 + a)) : Zm 2 zm_MO_item [.ref 139, .int (nI r), .int (nI a), .int (nI k), .int 2] Mq (fun r9 M1 => r9 = some (.int (nI (bd ((r * 4 + a) * 5 + k)))) ∧ MM M1 (up o 0 0) f ∧ Sm Mq M1 [139]) := by
  show Zw 2 zm_MO_item 0 [some (.ref 139), some (.int (nI r)), some (.int (nI a)), some (.int (nI k)), some (.int 2)] [] Mq _
  have hn8 := hG.1
  have ha4 := hG.2.2.1 r
  have hi5 := hG.2.2.2.1 (r * 4 + a)
  refine zw_n 2 rfl ?_
  refine zw_put rfl hM.1 (rfl) (Nat.le_of_ble_eq_true rfl) ?_
  generalize ez1760 : List.set Mq 139 _ = Mz1759
  refine zw_n 2 rfl ?_
  refine zw_callV (as := [.int (nI r)]) (rest := []) rfl rfl rfl (zat_self ez1760 hM.1) rfl rfl rfl (by decide) (m_isRule Mz1759 (up o 0 0) f (MM.of (o' := up o 0 0) (f' := f) hM (Sm.tset Sm.rf ez1760 (by decide)) (zat_self ez1760 hM.1) (c1_skip c1_nil) (fs_k fs_n)) n hg.1 (by omega) (nI r)) (fun rz1761 Mz1762 hz1763 => ?_)
  rw [hz1763.1, hz1763.2]
  show Zw 2 zm_MO_item 10 [some (.ref 139), some (.int (nI r)), some (.int (nI a)), some (.int (nI k)), some (.int 2)] [.int (nI (if 0 ≤ (nI r).toInt ∧ (nI r).toInt < n then 1 else 0))] Mz1759 _
  refine zw_eq0N (a := if 0 ≤ (nI r).toInt ∧ (nI r).toInt < n then 1 else 0) rfl rfl (ite_b) (fun c10 => ?_) (fun c10 => ?_)
  · -- 10 to 34
    exfalso
    first | exact ite_eq0 c10 (by rw [nI_toInt (by omega)]; omega) | (have := ite_eq0 c31; omega)
  · -- 10 to 13
    refine zw_n 4 rfl ?_
    refine zw_get (v := .ref 140) rfl (zat_self ez1760 hM.1) rfl ?_
    refine zw_n 3 rfl ?_
    refine zw_top (na (a := 9) (b := r) rfl rfl) ?_
    refine zw_iald (f := ai (f 140)) (j := (9 + r)) rfl (zat_set ez1760 (by decide) (hM.2 140 (by decide) (by decide))) rfl (by decide) (by omega) ?_
    refine zw_top (x' := (nI (al_ r))) (congrArg nI (hg.2.2.1 r hr)) ?_
    refine zw_n 3 rfl ?_
    refine zw_callS (as := [.long (Int32.toInt64 (nI a)), .long 0, .long ((Int32.toInt64 (nI (al_ r))) - 1)]) (rest := []) rfl rfl rfl rfl rfl rfl (by decide) (m_in Mz1759 (Int32.toInt64 (nI a)) 0 ((Int32.toInt64 (nI (al_ r))) - 1) ((a : Nat) : Int) 0 ((((al_ r) : Nat) : Int) - 1) (l_nI (by omega)) (by decide) (l_sub1 (l_nI (by omega)) (by omega) (by omega))) (fun rz1764 Mz1765 hz1766 => ?_)
    rw [hz1766.1, hz1766.2]
    show Zw 2 zm_MO_item 31 [some (.ref 139), some (.int (nI r)), some (.int (nI a)), some (.int (nI k)), some (.int 2)] [.int (nI (if 0 ≤ ((a : Nat) : Int) ∧ ((a : Nat) : Int) ≤ (((al_ r) : Nat) : Int) - 1 then 1 else 0))] Mz1759 _
    refine zw_ne0N (a := if 0 ≤ ((a : Nat) : Int) ∧ ((a : Nat) : Int) ≤ (((al_ r) : Nat) : Int) - 1 then 1 else 0) rfl rfl (ite_b) (fun c31 => ?_) (fun c31 => ?_)
    · -- 31 to 36
      refine zw_n 2 rfl ?_
      refine zw_ineM (a := k) rfl rfl (by omega) (fun c38 => ?_) (fun c38 => ?_)
      · -- 38 to 57
        refine zw_n 6 rfl ?_
        refine zw_callV (as := [.int (nI r), .int (nI a)]) (rest := [.long 0, .long (Int32.toInt64 (nI k))]) rfl rfl rfl (zat_self ez1760 hM.1) rfl rfl rfl (by decide) (m_items Mz1759 (up o 0 0) f (MM.of (o' := up o 0 0) (f' := f) hM (Sm.tset Sm.rf ez1760 (by decide)) (zat_self ez1760 hM.1) (c1_skip c1_nil) (fs_k fs_n)) n gn al_ it pt tg bd hg hG hF r a (by omega) (by omega)) (fun rz1767 Mz1768 hz1769 => ?_)
        rw [hz1769.1, hz1769.2]
        show Zw 2 zm_MO_item 66 [some (.ref 139), some (.int (nI r)), some (.int (nI a)), some (.int (nI k)), some (.int 2)] [.int (nI (it (r * 4 + a))), .long 0, .long (Int32.toInt64 (nI k))] Mz1759 _
        refine zw_n 3 rfl ?_
        refine zw_callS (as := [.long (Int32.toInt64 (nI k)), .long 0, .long ((Int32.toInt64 (nI (it (r * 4 + a)))) - 1)]) (rest := []) rfl rfl rfl rfl rfl rfl (by decide) (m_in Mz1759 (Int32.toInt64 (nI k)) 0 ((Int32.toInt64 (nI (it (r * 4 + a)))) - 1) ((k : Nat) : Int) 0 ((((it (r * 4 + a)) : Nat) : Int) - 1) (l_nI (by omega)) (by decide) (l_sub1 (l_nI (by omega)) (by omega) (by omega))) (fun rz1770 Mz1771 hz1772 => ?_)
        rw [hz1772.1, hz1772.2]
        show Zw 2 zm_MO_item 72 [some (.ref 139), some (.int (nI r)), some (.int (nI a)), some (.int (nI k)), some (.int 2)] [.int (nI (if 0 ≤ ((k : Nat) : Int) ∧ ((k : Nat) : Int) ≤ (((it (r * 4 + a)) : Nat) : Int) - 1 then 1 else 0))] Mz1759 _
        refine zw_eq0N (a := if 0 ≤ ((k : Nat) : Int) ∧ ((k : Nat) : Int) ≤ (((it (r * 4 + a)) : Nat) : Int) - 1 then 1 else 0) rfl rfl (ite_b) (fun c72 => ?_) (fun c72 => ?_)
        · -- 72 to 105
          exfalso
          first | (have := ite_eq0 c72; omega) | exact ite_eq0 c85 (by decide)
        · -- 72 to 75
          refine zw_n 4 rfl ?_
          refine zw_callS (as := [.long (Int32.toInt64 2), .long 0, .long 2]) (rest := []) rfl rfl rfl rfl rfl rfl (by decide) (m_in Mz1759 (Int32.toInt64 2) 0 2 2 0 2 (by decide) (by decide) (by decide)) (fun rz1773 Mz1774 hz1775 => ?_)
          rw [hz1775.1, hz1775.2]
          show Zw 2 zm_MO_item 85 [some (.ref 139), some (.int (nI r)), some (.int (nI a)), some (.int (nI k)), some (.int 2)] [.int (nI (if 0 ≤ 2 ∧ 2 ≤ 2 then 1 else 0))] Mz1759 _
          refine zw_eq0N (a := if 0 ≤ 2 ∧ 2 ≤ 2 then 1 else 0) rfl rfl (ite_b) (fun c85 => ?_) (fun c85 => ?_)
          · -- 85 to 105
            exfalso
            first | (have := ite_eq0 c72; omega) | exact ite_eq0 c85 (by decide)
          · -- 85 to 88
            refine zw_n 1 rfl ?_
            refine zw_get (v := .ref 140) rfl (zat_self ez1760 hM.1) rfl ?_
            refine zw_n 3 rfl ?_
            refine zw_callS (as := [.int (nI r), .int (nI a), .int (nI k)]) (rest := [.ref 140]) rfl rfl rfl rfl rfl rfl (by decide) (m_itemAt _ r a k) (fun rz1776 Mz1777 hz1778 => ?_)
            rw [hz1778.1, hz1778.2]
            show Zw 2 zm_MO_item 98 [some (.ref 139), some (.int (nI r)), some (.int (nI a)), some (.int (nI k)), some (.int 2)] [.int (nI (49 + 3 * ((r * 4 + a) * 5 + k))), .ref 140] Mz1759 _
            refine zw_n 2 rfl ?_
            refine zw_top (na (a := 49 + 3 * ((r * 4 + a) * 5 + k)) (b := 2) rfl rfl) ?_
            refine zw_iald (f := ai (f 140)) (j := ((49 + 3 * ((r * 4 + a) * 5 + k)) + 2)) rfl (zat_set ez1760 (by decide) (hM.2 140 (by decide) (by decide))) rfl (by decide) (by omega) ?_
            refine zw_top (x' := (nI (bd ((r * 4 + a) * 5 + k)))) (congrArg nI (hg.2.2.2.2 _ ⟨r, a, k, hr, ha, hk, rfl⟩).2.2.1) ?_
            refine zw_n 1 rfl ?_
            exact zw_iret rfl rfl (⟨rfl, (MM.of (o' := up o 0 0) (f' := f) hM (Sm.tset Sm.rf ez1760 (by decide)) (zat_self ez1760 hM.1) (c1_skip c1_nil) (fs_k fs_n)), Sm.tset Sm.rf ez1760 (by decide)⟩)
      · -- 38 to 41
        exfalso
        omega
    · -- 31 to 34
      exfalso
      first | exact ite_eq0 c10 (by rw [nI_toInt (by omega)]; omega) | (have := ite_eq0 c31; omega)

set_option maxHeartbeats 4000000 in
set_option maxRecDepth 100000 in
theorem m_itemD (Mq : zM) (o : Nat → Nat) (f : Nat → Nat → Nat) (hM : MM Mq o f)(n : Nat) (gn al_ it pt tg bd : Nat → Nat) (hg : RelG f n gn al_ it pt tg bd) (hG : SafeG n gn al_ it pt tg bd) (hF : SafeF f) (r a : Nat) (hr : r < n) (ha : a < al_ r) (k : Nat) (w : Int32) (hk : k < it (r * 4 + a)) (hw : ¬ (0 ≤ w.toInt ∧ w.toInt ≤ 2)) : Zm 2 zm_MO_item [.ref 139, .int (nI r), .int (nI a), .int (nI k), .int w] Mq (fun r9 M1 => r9 = some (.int (-1)) ∧ MM M1 (up o 0 0) f ∧ Sm Mq M1 [139]) := by
  show Zw 2 zm_MO_item 0 [some (.ref 139), some (.int (nI r)), some (.int (nI a)), some (.int (nI k)), some (.int w)] [] Mq _
  have hn8 := hG.1
  have ha4 := hG.2.2.1 r
  have hi5 := hG.2.2.2.1 (r * 4 + a)
  refine zw_n 2 rfl ?_
  refine zw_put rfl hM.1 (rfl) (Nat.le_of_ble_eq_true rfl) ?_
  generalize ez1780 : List.set Mq 139 _ = Mz1779
  refine zw_n 2 rfl ?_
  refine zw_callV (as := [.int (nI r)]) (rest := []) rfl rfl rfl (zat_self ez1780 hM.1) rfl rfl rfl (by decide) (m_isRule Mz1779 (up o 0 0) f (MM.of (o' := up o 0 0) (f' := f) hM (Sm.tset Sm.rf ez1780 (by decide)) (zat_self ez1780 hM.1) (c1_skip c1_nil) (fs_k fs_n)) n hg.1 (by omega) (nI r)) (fun rz1781 Mz1782 hz1783 => ?_)
  rw [hz1783.1, hz1783.2]
  show Zw 2 zm_MO_item 10 [some (.ref 139), some (.int (nI r)), some (.int (nI a)), some (.int (nI k)), some (.int w)] [.int (nI (if 0 ≤ (nI r).toInt ∧ (nI r).toInt < n then 1 else 0))] Mz1779 _
  refine zw_eq0N (a := if 0 ≤ (nI r).toInt ∧ (nI r).toInt < n then 1 else 0) rfl rfl (ite_b) (fun c10 => ?_) (fun c10 => ?_)
  · -- 10 to 34
    exfalso
    first | exact ite_eq0 c10 (by rw [nI_toInt (by omega)]; omega) | (have := ite_eq0 c31; omega)
  · -- 10 to 13
    refine zw_n 4 rfl ?_
    refine zw_get (v := .ref 140) rfl (zat_self ez1780 hM.1) rfl ?_
    refine zw_n 3 rfl ?_
    refine zw_top (na (a := 9) (b := r) rfl rfl) ?_
    refine zw_iald (f := ai (f 140)) (j := (9 + r)) rfl (zat_set ez1780 (by decide) (hM.2 140 (by decide) (by decide))) rfl (by decide) (by omega) ?_
    refine zw_top (x' := (nI (al_ r))) (congrArg nI (hg.2.2.1 r hr)) ?_
    refine zw_n 3 rfl ?_
    refine zw_callS (as := [.long (Int32.toInt64 (nI a)), .long 0, .long ((Int32.toInt64 (nI (al_ r))) - 1)]) (rest := []) rfl rfl rfl rfl rfl rfl (by decide) (m_in Mz1779 (Int32.toInt64 (nI a)) 0 ((Int32.toInt64 (nI (al_ r))) - 1) ((a : Nat) : Int) 0 ((((al_ r) : Nat) : Int) - 1) (l_nI (by omega)) (by decide) (l_sub1 (l_nI (by omega)) (by omega) (by omega))) (fun rz1784 Mz1785 hz1786 => ?_)
    rw [hz1786.1, hz1786.2]
    show Zw 2 zm_MO_item 31 [some (.ref 139), some (.int (nI r)), some (.int (nI a)), some (.int (nI k)), some (.int w)] [.int (nI (if 0 ≤ ((a : Nat) : Int) ∧ ((a : Nat) : Int) ≤ (((al_ r) : Nat) : Int) - 1 then 1 else 0))] Mz1779 _
    refine zw_ne0N (a := if 0 ≤ ((a : Nat) : Int) ∧ ((a : Nat) : Int) ≤ (((al_ r) : Nat) : Int) - 1 then 1 else 0) rfl rfl (ite_b) (fun c31 => ?_) (fun c31 => ?_)
    · -- 31 to 36
      refine zw_n 2 rfl ?_
      refine zw_ineM (a := k) rfl rfl (by omega) (fun c38 => ?_) (fun c38 => ?_)
      · -- 38 to 57
        refine zw_n 6 rfl ?_
        refine zw_callV (as := [.int (nI r), .int (nI a)]) (rest := [.long 0, .long (Int32.toInt64 (nI k))]) rfl rfl rfl (zat_self ez1780 hM.1) rfl rfl rfl (by decide) (m_items Mz1779 (up o 0 0) f (MM.of (o' := up o 0 0) (f' := f) hM (Sm.tset Sm.rf ez1780 (by decide)) (zat_self ez1780 hM.1) (c1_skip c1_nil) (fs_k fs_n)) n gn al_ it pt tg bd hg hG hF r a (by omega) (by omega)) (fun rz1787 Mz1788 hz1789 => ?_)
        rw [hz1789.1, hz1789.2]
        show Zw 2 zm_MO_item 66 [some (.ref 139), some (.int (nI r)), some (.int (nI a)), some (.int (nI k)), some (.int w)] [.int (nI (it (r * 4 + a))), .long 0, .long (Int32.toInt64 (nI k))] Mz1779 _
        refine zw_n 3 rfl ?_
        refine zw_callS (as := [.long (Int32.toInt64 (nI k)), .long 0, .long ((Int32.toInt64 (nI (it (r * 4 + a)))) - 1)]) (rest := []) rfl rfl rfl rfl rfl rfl (by decide) (m_in Mz1779 (Int32.toInt64 (nI k)) 0 ((Int32.toInt64 (nI (it (r * 4 + a)))) - 1) ((k : Nat) : Int) 0 ((((it (r * 4 + a)) : Nat) : Int) - 1) (l_nI (by omega)) (by decide) (l_sub1 (l_nI (by omega)) (by omega) (by omega))) (fun rz1790 Mz1791 hz1792 => ?_)
        rw [hz1792.1, hz1792.2]
        show Zw 2 zm_MO_item 72 [some (.ref 139), some (.int (nI r)), some (.int (nI a)), some (.int (nI k)), some (.int w)] [.int (nI (if 0 ≤ ((k : Nat) : Int) ∧ ((k : Nat) : Int) ≤ (((it (r * 4 + a)) : Nat) : Int) - 1 then 1 else 0))] Mz1779 _
        refine zw_eq0N (a := if 0 ≤ ((k : Nat) : Int) ∧ ((k : Nat) : Int) ≤ (((it (r * 4 + a)) : Nat) : Int) - 1 then 1 else 0) rfl rfl (ite_b) (fun c72 => ?_) (fun c72 => ?_)
        · -- 72 to 105
          refine zw_n 1 rfl ?_
          exact zw_iret rfl rfl (⟨rfl, (MM.of (o' := up o 0 0) (f' := f) hM (Sm.tset Sm.rf ez1780 (by decide)) (zat_self ez1780 hM.1) (c1_skip c1_nil) (fs_k fs_n)), Sm.tset Sm.rf ez1780 (by decide)⟩)
        · -- 72 to 75
          refine zw_n 4 rfl ?_
          refine zw_callS (as := [.long (Int32.toInt64 w), .long 0, .long 2]) (rest := []) rfl rfl rfl rfl rfl rfl (by decide) (m_in Mz1779 (Int32.toInt64 w) 0 2 w.toInt 0 2 (Int32.toInt_toInt64 _) (by decide) (by decide)) (fun rz1793 Mz1794 hz1795 => ?_)
          rw [hz1795.1, hz1795.2]
          show Zw 2 zm_MO_item 85 [some (.ref 139), some (.int (nI r)), some (.int (nI a)), some (.int (nI k)), some (.int w)] [.int (nI (if 0 ≤ w.toInt ∧ w.toInt ≤ 2 then 1 else 0))] Mz1779 _
          refine zw_eq0N (a := if 0 ≤ w.toInt ∧ w.toInt ≤ 2 then 1 else 0) rfl rfl (ite_b) (fun c85 => ?_) (fun c85 => ?_)
          · -- 85 to 105
            refine zw_n 1 rfl ?_
            exact zw_iret rfl rfl (⟨rfl, (MM.of (o' := up o 0 0) (f' := f) hM (Sm.tset Sm.rf ez1780 (by decide)) (zat_self ez1780 hM.1) (c1_skip c1_nil) (fs_k fs_n)), Sm.tset Sm.rf ez1780 (by decide)⟩)
          · -- 85 to 88
            exfalso
            exact hw (ite_ne c85)
      · -- 38 to 41
        exfalso
        omega
    · -- 31 to 34
      exfalso
      first | exact ite_eq0 c10 (by rw [nI_toInt (by omega)]; omega) | (have := ite_eq0 c31; omega)

set_option maxHeartbeats 4000000 in
set_option maxRecDepth 100000 in
theorem m_signNo (Mq : zM) (o : Nat → Nat) (f : Nat → Nat → Nat) (hM : MM Mq o f) (x : Int32) (ho : o 7 ≤ 240) (hx : 240 < o 7 + 4) : Zm 0 zm_MO_sign [.ref 139, .int x] Mq (fun r9 M1 => r9 = some (.int (-1)) ∧ MM M1 (up o 0 0) f ∧ Sm Mq M1 [139]) := by
  show Zw 0 zm_MO_sign 0 [some (.ref 139), some (.int x), none] [] Mq _
  refine zw_n 2 rfl ?_
  refine zw_put rfl hM.1 (rfl) (Nat.le_of_ble_eq_true rfl) ?_
  generalize ez1797 : List.set Mq 139 _ = Mz1796
  refine zw_n 1 rfl ?_
  refine zw_get (v := .int (nI (o 7))) rfl (zat_self ez1797 hM.1) rfl ?_
  refine zw_n 2 rfl ?_
  refine zw_top (na (a := o 7) (b := 4) rfl rfl) ?_
  refine zw_n 1 rfl ?_
  refine zw_ileN (a := (o 7) + 4) (b := 240) rfl rfl rfl (by omega) (by omega) (fun c14 => ?_) (fun c14 => ?_)
  · -- 14 to 19
    exfalso
    omega
  · -- 14 to 17
    refine zw_n 1 rfl ?_
    exact zw_iret rfl rfl (⟨rfl, (MM.of (o' := up o 0 0) (f' := f) hM (Sm.tset Sm.rf ez1797 (by decide)) (zat_self ez1797 hM.1) (c1_skip c1_nil) (fs_k fs_n)), Sm.tset Sm.rf ez1797 (by decide)⟩)

set_option maxHeartbeats 4000000 in
set_option maxRecDepth 100000 in
theorem m_signOk (Mq : zM) (o : Nat → Nat) (f : Nat → Nat → Nat) (hM : MM Mq o f) (x : Int32) (hx : o 7 + 4 ≤ 240) : Zm 0 zm_MO_sign [.ref 139, .int x] Mq (fun r9 M1 => r9 = some (.int (nI (o 7 + 4))) ∧ MM M1 (up (up o 0 0) 7 (o 7 + 1 + 1 + 1 + 1)) (fset f 144 (up (up (up (up (f 144) (o 7) (byv (byt x 24))) (o 7 + 1) (byv (byt x 16))) (o 7 + 1 + 1) (byv (byt x 8))) (o 7 + 1 + 1 + 1) (byv (byt x 0)))) ∧ Sm Mq M1 [139, 144]) := by
  show Zw 0 zm_MO_sign 0 [some (.ref 139), some (.int x), none] [] Mq _
  refine zw_n 2 rfl ?_
  refine zw_put rfl hM.1 (rfl) (Nat.le_of_ble_eq_true rfl) ?_
  generalize ez1799 : List.set Mq 139 _ = Mz1798
  refine zw_n 1 rfl ?_
  refine zw_get (v := .int (nI (o 7))) rfl (zat_self ez1799 hM.1) rfl ?_
  refine zw_n 2 rfl ?_
  refine zw_top (na (a := o 7) (b := 4) rfl rfl) ?_
  refine zw_n 1 rfl ?_
  refine zw_ileN (a := (o 7) + 4) (b := 240) rfl rfl rfl (by omega) (by omega) (fun c14 => ?_) (fun c14 => ?_)
  · -- 14 to 19
    refine zw_n 3 (ls' := [some (.ref 139), some (.int x), some (.int 24)]) rfl ?_
    refine zw_if rfl ?_
    show Zw 0 zm_MO_sign 26 [some (.ref 139), some (.int x), some (.int 24)] [] Mz1798 _
    refine zw_n 1 rfl ?_
    refine zw_get (v := .ref 144) rfl (zat_self ez1799 hM.1) rfl ?_
    refine zw_n 1 rfl ?_
    refine zw_get (v := .int (nI (o 7))) rfl (zat_self ez1799 hM.1) rfl ?_
    refine zw_n 4 rfl ?_
    refine zw_top (x' := (nI (byv (byt x 24)))) (byte_m _ _) ?_
    refine zw_bastN (g := (f 144)) (j := (o 7)) (v := (byv (byt x 24))) rfl (zat_set ez1799 (by decide) (hM.2 144 (by decide) (by decide))) rfl (by decide) (by omega) (nar_byv (byt_lt _ _)) ?_
    generalize ez1801 : List.set Mz1798 144 _ = Mz1800
    refine zw_n 2 rfl ?_
    refine zw_get (v := .int (nI (o 7))) rfl (zat_set ez1801 (by decide) (zat_self ez1799 hM.1)) rfl ?_
    refine zw_n 2 rfl ?_
    refine zw_top (na (a := o 7) (b := 1) rfl rfl) ?_
    refine zw_put rfl (zat_set ez1801 (by decide) (zat_self ez1799 hM.1)) (rfl) (Nat.le_of_ble_eq_true rfl) ?_
    generalize ez1803 : List.set Mz1800 139 _ = Mz1802
    refine zw_n 3 (ls' := [some (.ref 139), some (.int x), some (.int 16)]) rfl ?_
    refine zw_if rfl ?_
    show Zw 0 zm_MO_sign 26 [some (.ref 139), some (.int x), some (.int 16)] [] Mz1802 _
    refine zw_n 1 rfl ?_
    refine zw_get (v := .ref 144) rfl (zat_self ez1803 (zat_set ez1801 (by decide) (zat_self ez1799 hM.1))) rfl ?_
    refine zw_n 1 rfl ?_
    refine zw_get (v := .int (nI ((o 7) + 1))) rfl (zat_self ez1803 (zat_set ez1801 (by decide) (zat_self ez1799 hM.1))) rfl ?_
    refine zw_n 4 rfl ?_
    refine zw_top (x' := (nI (byv (byt x 16)))) (byte_m _ _) ?_
    refine zw_bastN (g := (up (f 144) (o 7) (byv (byt x 24)))) (j := ((o 7) + 1)) (v := (byv (byt x 16))) rfl (zat_set ez1803 (by decide) (zat_self ez1801 (zat_set ez1799 (by decide) (hM.2 144 (by decide) (by decide))))) rfl (by decide) (by omega) (nar_byv (byt_lt _ _)) ?_
    generalize ez1805 : List.set Mz1802 144 _ = Mz1804
    refine zw_n 2 rfl ?_
    refine zw_get (v := .int (nI ((o 7) + 1))) rfl (zat_set ez1805 (by decide) (zat_self ez1803 (zat_set ez1801 (by decide) (zat_self ez1799 hM.1)))) rfl ?_
    refine zw_n 2 rfl ?_
    refine zw_top (na (a := (o 7) + 1) (b := 1) rfl rfl) ?_
    refine zw_put rfl (zat_set ez1805 (by decide) (zat_self ez1803 (zat_set ez1801 (by decide) (zat_self ez1799 hM.1)))) (rfl) (Nat.le_of_ble_eq_true rfl) ?_
    generalize ez1807 : List.set Mz1804 139 _ = Mz1806
    refine zw_n 3 (ls' := [some (.ref 139), some (.int x), some (.int 8)]) rfl ?_
    refine zw_if rfl ?_
    show Zw 0 zm_MO_sign 26 [some (.ref 139), some (.int x), some (.int 8)] [] Mz1806 _
    refine zw_n 1 rfl ?_
    refine zw_get (v := .ref 144) rfl (zat_self ez1807 (zat_set ez1805 (by decide) (zat_self ez1803 (zat_set ez1801 (by decide) (zat_self ez1799 hM.1))))) rfl ?_
    refine zw_n 1 rfl ?_
    refine zw_get (v := .int (nI (((o 7) + 1) + 1))) rfl (zat_self ez1807 (zat_set ez1805 (by decide) (zat_self ez1803 (zat_set ez1801 (by decide) (zat_self ez1799 hM.1))))) rfl ?_
    refine zw_n 4 rfl ?_
    refine zw_top (x' := (nI (byv (byt x 8)))) (byte_m _ _) ?_
    refine zw_bastN (g := (up (up (f 144) (o 7) (byv (byt x 24))) ((o 7) + 1) (byv (byt x 16)))) (j := (((o 7) + 1) + 1)) (v := (byv (byt x 8))) rfl (zat_set ez1807 (by decide) (zat_self ez1805 (zat_set ez1803 (by decide) (zat_self ez1801 (zat_set ez1799 (by decide) (hM.2 144 (by decide) (by decide))))))) rfl (by decide) (by omega) (nar_byv (byt_lt _ _)) ?_
    generalize ez1809 : List.set Mz1806 144 _ = Mz1808
    refine zw_n 2 rfl ?_
    refine zw_get (v := .int (nI (((o 7) + 1) + 1))) rfl (zat_set ez1809 (by decide) (zat_self ez1807 (zat_set ez1805 (by decide) (zat_self ez1803 (zat_set ez1801 (by decide) (zat_self ez1799 hM.1)))))) rfl ?_
    refine zw_n 2 rfl ?_
    refine zw_top (na (a := ((o 7) + 1) + 1) (b := 1) rfl rfl) ?_
    refine zw_put rfl (zat_set ez1809 (by decide) (zat_self ez1807 (zat_set ez1805 (by decide) (zat_self ez1803 (zat_set ez1801 (by decide) (zat_self ez1799 hM.1)))))) (rfl) (Nat.le_of_ble_eq_true rfl) ?_
    generalize ez1811 : List.set Mz1808 139 _ = Mz1810
    refine zw_n 3 (ls' := [some (.ref 139), some (.int x), some (.int 0)]) rfl ?_
    refine zw_if rfl ?_
    show Zw 0 zm_MO_sign 26 [some (.ref 139), some (.int x), some (.int 0)] [] Mz1810 _
    refine zw_n 1 rfl ?_
    refine zw_get (v := .ref 144) rfl (zat_self ez1811 (zat_set ez1809 (by decide) (zat_self ez1807 (zat_set ez1805 (by decide) (zat_self ez1803 (zat_set ez1801 (by decide) (zat_self ez1799 hM.1))))))) rfl ?_
    refine zw_n 1 rfl ?_
    refine zw_get (v := .int (nI ((((o 7) + 1) + 1) + 1))) rfl (zat_self ez1811 (zat_set ez1809 (by decide) (zat_self ez1807 (zat_set ez1805 (by decide) (zat_self ez1803 (zat_set ez1801 (by decide) (zat_self ez1799 hM.1))))))) rfl ?_
    refine zw_n 4 rfl ?_
    refine zw_top (x' := (nI (byv (byt x 0)))) (byte_m _ _) ?_
    refine zw_bastN (g := (up (up (up (f 144) (o 7) (byv (byt x 24))) ((o 7) + 1) (byv (byt x 16))) (((o 7) + 1) + 1) (byv (byt x 8)))) (j := ((((o 7) + 1) + 1) + 1)) (v := (byv (byt x 0))) rfl (zat_set ez1811 (by decide) (zat_self ez1809 (zat_set ez1807 (by decide) (zat_self ez1805 (zat_set ez1803 (by decide) (zat_self ez1801 (zat_set ez1799 (by decide) (hM.2 144 (by decide) (by decide))))))))) rfl (by decide) (by omega) (nar_byv (byt_lt _ _)) ?_
    generalize ez1813 : List.set Mz1810 144 _ = Mz1812
    refine zw_n 2 rfl ?_
    refine zw_get (v := .int (nI ((((o 7) + 1) + 1) + 1))) rfl (zat_set ez1813 (by decide) (zat_self ez1811 (zat_set ez1809 (by decide) (zat_self ez1807 (zat_set ez1805 (by decide) (zat_self ez1803 (zat_set ez1801 (by decide) (zat_self ez1799 hM.1)))))))) rfl ?_
    refine zw_n 2 rfl ?_
    refine zw_top (na (a := (((o 7) + 1) + 1) + 1) (b := 1) rfl rfl) ?_
    refine zw_put rfl (zat_set ez1813 (by decide) (zat_self ez1811 (zat_set ez1809 (by decide) (zat_self ez1807 (zat_set ez1805 (by decide) (zat_self ez1803 (zat_set ez1801 (by decide) (zat_self ez1799 hM.1)))))))) (rfl) (Nat.le_of_ble_eq_true rfl) ?_
    generalize ez1815 : List.set Mz1812 139 _ = Mz1814
    refine zw_n 3 (ls' := [some (.ref 139), some (.int x), some (.int (-8))]) rfl ?_
    refine zw_if rfl ?_
    show Zw 0 zm_MO_sign 55 [some (.ref 139), some (.int x), some (.int (-8))] [] Mz1814 _
    refine zw_n 1 rfl ?_
    refine zw_get (v := .int (nI (((((o 7) + 1) + 1) + 1) + 1))) rfl (zat_self ez1815 (zat_set ez1813 (by decide) (zat_self ez1811 (zat_set ez1809 (by decide) (zat_self ez1807 (zat_set ez1805 (by decide) (zat_self ez1803 (zat_set ez1801 (by decide) (zat_self ez1799 hM.1))))))))) rfl ?_
    exact zw_iret rfl rfl (⟨rfl, (MM.of (o' := up (up o 0 0) 7 (((((o 7) + 1) + 1) + 1) + 1)) (f' := fset f 144 (up (up (up (up (f 144) (o 7) (byv (byt x 24))) ((o 7) + 1) (byv (byt x 16))) (((o 7) + 1) + 1) (byv (byt x 8))) ((((o 7) + 1) + 1) + 1) (byv (byt x 0)))) hM (Sm.tset (Sm.tset (Sm.tset (Sm.tset (Sm.tset (Sm.tset (Sm.tset (Sm.tset (Sm.tset Sm.rf ez1799 (by decide)) ez1801 (by decide)) ez1803 (by decide)) ez1805 (by decide)) ez1807 (by decide)) ez1809 (by decide)) ez1811 (by decide)) ez1813 (by decide)) ez1815 (by decide)) (zat_self ez1815 (zat_set ez1813 (by decide) (zat_self ez1811 (zat_set ez1809 (by decide) (zat_self ez1807 (zat_set ez1805 (by decide) (zat_self ez1803 (zat_set ez1801 (by decide) (zat_self ez1799 hM.1))))))))) (c1_skip (c1_cons (zat_set ez1815 (by decide) (zat_self ez1813 (zat_set ez1811 (by decide) (zat_self ez1809 (zat_set ez1807 (by decide) (zat_self ez1805 (zat_set ez1803 (by decide) (zat_self ez1801 (zat_set ez1799 (by decide) (hM.2 144 (by decide) (by decide))))))))))) c1_nil)) (fs_k (fs_c fs_n))), Sm.tset (Sm.tset (Sm.tset (Sm.tset (Sm.tset (Sm.tset (Sm.tset (Sm.tset (Sm.tset Sm.rf ez1799 (by decide)) ez1801 (by decide)) ez1803 (by decide)) ez1805 (by decide)) ez1807 (by decide)) ez1809 (by decide)) ez1811 (by decide)) ez1813 (by decide)) ez1815 (by decide)⟩)
  · -- 14 to 17
    exfalso
    omega

set_option maxHeartbeats 4000000 in
set_option maxRecDepth 100000 in
theorem m_endNo (Mq : zM) (o : Nat → Nat) (f : Nat → Nat → Nat) (hM : MM Mq o f) (ho : o 7 ≤ 240) (x : Int32) (hx : ¬ (0 ≤ x.toInt ∧ x.toInt ≤ o 7)) : Zm 1 zm_MO_end [.ref 139, .int x] Mq (fun r9 M1 => r9 = some (.int (0)) ∧ MM M1 (up o 0 0) f ∧ Sm Mq M1 [139]) := by
  show Zw 1 zm_MO_end 0 [some (.ref 139), some (.int x)] [] Mq _
  refine zw_n 2 rfl ?_
  refine zw_put rfl hM.1 (rfl) (Nat.le_of_ble_eq_true rfl) ?_
  generalize ez1817 : List.set Mq 139 _ = Mz1816
  refine zw_n 4 rfl ?_
  refine zw_get (v := .int (nI (o 7))) rfl (zat_self ez1817 hM.1) rfl ?_
  refine zw_n 1 rfl ?_
  refine zw_callS (as := [.long (Int32.toInt64 x), .long 0, .long (Int32.toInt64 (nI (o 7)))]) (rest := []) rfl rfl rfl rfl rfl rfl (by decide) (m_in Mz1816 (Int32.toInt64 x) 0 (Int32.toInt64 (nI (o 7))) x.toInt 0 (((o 7) : Nat) : Int) (Int32.toInt_toInt64 _) (by decide) (l_nI (by omega))) (fun rz1818 Mz1819 hz1820 => ?_)
  rw [hz1820.1, hz1820.2]
  show Zw 1 zm_MO_end 16 [some (.ref 139), some (.int x)] [.int (nI (if 0 ≤ x.toInt ∧ x.toInt ≤ (((o 7) : Nat) : Int) then 1 else 0))] Mz1816 _
  refine zw_ne0N (a := if 0 ≤ x.toInt ∧ x.toInt ≤ (((o 7) : Nat) : Int) then 1 else 0) rfl rfl (ite_b) (fun c16 => ?_) (fun c16 => ?_)
  · -- 16 to 21
    exfalso
    exact hx (ite_ne c16)
  · -- 16 to 19
    refine zw_n 1 rfl ?_
    exact zw_zret rfl rfl (Or.inl rfl) (⟨rfl, (MM.of (o' := up o 0 0) (f' := f) hM (Sm.tset Sm.rf ez1817 (by decide)) (zat_self ez1817 hM.1) (c1_skip c1_nil) (fs_k fs_n)), Sm.tset Sm.rf ez1817 (by decide)⟩)

set_option maxHeartbeats 4000000 in
set_option maxRecDepth 100000 in
theorem m_endOk (Mq : zM) (o : Nat → Nat) (f : Nat → Nat → Nat) (hM : MM Mq o f) (ho : o 7 ≤ 240) (x : Nat) (hx : x ≤ o 7) : Zm 1 zm_MO_end [.ref 139, .int (nI x)] Mq (fun r9 M1 => r9 = some (.int 1) ∧ MM M1 (up (up o 0 0) 7 x) f ∧ Sm Mq M1 [139]) := by
  show Zw 1 zm_MO_end 0 [some (.ref 139), some (.int (nI x))] [] Mq _
  refine zw_n 2 rfl ?_
  refine zw_put rfl hM.1 (rfl) (Nat.le_of_ble_eq_true rfl) ?_
  generalize ez1822 : List.set Mq 139 _ = Mz1821
  refine zw_n 4 rfl ?_
  refine zw_get (v := .int (nI (o 7))) rfl (zat_self ez1822 hM.1) rfl ?_
  refine zw_n 1 rfl ?_
  refine zw_callS (as := [.long (Int32.toInt64 (nI x)), .long 0, .long (Int32.toInt64 (nI (o 7)))]) (rest := []) rfl rfl rfl rfl rfl rfl (by decide) (m_in Mz1821 (Int32.toInt64 (nI x)) 0 (Int32.toInt64 (nI (o 7))) ((x : Nat) : Int) 0 (((o 7) : Nat) : Int) (l_nI (by omega)) (by decide) (l_nI (by omega))) (fun rz1823 Mz1824 hz1825 => ?_)
  rw [hz1825.1, hz1825.2]
  show Zw 1 zm_MO_end 16 [some (.ref 139), some (.int (nI x))] [.int (nI (if 0 ≤ ((x : Nat) : Int) ∧ ((x : Nat) : Int) ≤ (((o 7) : Nat) : Int) then 1 else 0))] Mz1821 _
  refine zw_ne0N (a := if 0 ≤ ((x : Nat) : Int) ∧ ((x : Nat) : Int) ≤ (((o 7) : Nat) : Int) then 1 else 0) rfl rfl (ite_b) (fun c16 => ?_) (fun c16 => ?_)
  · -- 16 to 21
    refine zw_n 2 rfl ?_
    refine zw_put rfl (zat_self ez1822 hM.1) (rfl) (Nat.le_of_ble_eq_true rfl) ?_
    generalize ez1827 : List.set Mz1821 139 _ = Mz1826
    refine zw_n 1 rfl ?_
    exact zw_zret rfl rfl (Or.inr rfl) (⟨rfl, (MM.of (o' := up (up o 0 0) 7 x) (f' := f) hM (Sm.tset (Sm.tset Sm.rf ez1822 (by decide)) ez1827 (by decide)) (zat_self ez1827 (zat_self ez1822 hM.1)) (c1_skip c1_nil) (fs_k fs_n)), Sm.tset (Sm.tset Sm.rf ez1822 (by decide)) ez1827 (by decide)⟩)
  · -- 16 to 19
    exfalso
    have := ite_eq0 c16; omega
