set_option maxHeartbeats 4000000 in
set_option maxRecDepth 100000 in
theorem m_lastLine (Mq : zM) (o : Nat → Nat) (f : Nat → Nat → Nat) (hM : MM Mq o f) (c : Nat) (sg li co : Nat → Nat) (ht : RelT f c sg li co) (hS : SafeT c sg li co) : Zm 1 zm_MO_lastLine [.ref 139] Mq (fun r9 M1 => r9 = some (.int (if c = 0 then -1 else nI (li (c - 1)))) ∧ M1 = Mq) := by
  show Zw 1 zm_MO_lastLine 0 [some (.ref 139)] [] Mq _
  have hc20 := hS.1
  have hli := hS.2.2.1
  have hco := hS.2.2.2
  refine zw_n 1 rfl ?_
  refine zw_callV (as := []) (rest := []) rfl rfl rfl hM.1 rfl rfl rfl (by decide) (m_tok1 Mq o f hM c ht.1) (fun rz1505 Mz1506 hz1507 => ?_)
  rw [hz1507.1, hz1507.2]
  show Zw 1 zm_MO_lastLine 4 [some (.ref 139)] [.int (nI c)] Mq _
  refine zw_ne0N (a := c) rfl rfl (by omega) (fun c4 => ?_) (fun c4 => ?_)
  · -- 4 to 11
    refine zw_n 1 rfl ?_
    refine zw_get (v := .ref 140) rfl hM.1 rfl ?_
    refine zw_n 2 rfl ?_
    refine zw_callV (as := []) (rest := [.int 550, .ref 140]) rfl rfl rfl hM.1 rfl rfl rfl (by decide) (m_tok1 Mq o f hM c ht.1) (fun rz1508 Mz1509 hz1510 => ?_)
    rw [hz1510.1, hz1510.2]
    show Zw 1 zm_MO_lastLine 22 [some (.ref 139)] [.int (nI c), .int 550, .ref 140] Mq _
    refine zw_n 1 rfl ?_
    refine zw_top (na (a := 550) (b := c) rfl rfl) ?_
    refine zw_n 2 rfl ?_
    refine zw_top (ns (a := 550 + c) (b := 1) rfl rfl (by omega)) ?_
    refine zw_iald (f := ai (f 140)) (j := ((550 + c) - 1)) rfl (hM.2 140 (by decide) (by decide)) rfl (by decide) (by omega) ?_
    refine zw_top (x' := (nI (li (c - 1)))) (congrArg nI ((congrArg (f 140) (show 550 + c - 1 = 550 + (c - 1) by omega)).trans (ht.2 (c - 1) (by omega)).2.1)) ?_
    exact zw_iret rfl rfl (⟨by rw [if_neg c4]; try rfl, rfl⟩)
  · -- 4 to 7
    refine zw_n 2 rfl ?_
    exact zw_iret rfl rfl (⟨by rw [if_pos c4]; try rfl, rfl⟩)

set_option maxHeartbeats 4000000 in
set_option maxRecDepth 100000 in
theorem m_isThere (Mq : zM) (o : Nat → Nat) (f : Nat → Nat → Nat) (hM : MM Mq o f) (c : Nat) (sg li co : Nat → Nat) (ht : RelT f c sg li co) (hS : SafeT c sg li co) (l d : Nat) (hl : l < 2147483648) (hd : d < 40) : Zm 1 zm_MO_isThere [.ref 139, .int (nI l), .int (nI d)] Mq (fun r9 M1 => r9 = some (.int (nI (if cnt (thB li co l d) c ≠ 0 then 1 else 0))) ∧ M1 = Mq) := by
  show Zw 1 zm_MO_isThere 0 [some (.ref 139), some (.int (nI l)), some (.int (nI d)), none, none] [] Mq _
  have hc20 := hS.1
  have hli := hS.2.2.1
  have hco := hS.2.2.2
  refine zw_n 4 (ls' := [some (.ref 139), some (.int (nI l)), some (.int (nI d)), some (.int 0), some (.int 0)]) rfl ?_
  have lp5 : ∀ (n5 : Nat) (s9 : Nat) (i : Nat), (i ≤ c ∧ s9 = (if cnt (thB li co l d) i ≠ 0 then 1 else 0)) → c - i < n5 → Zw 1 zm_MO_isThere 5 [some (.ref 139), some (.int (nI l)), some (.int (nI d)), some (.int (nI s9)), some (.int (nI i))] [] Mq (fun r9 M1 => r9 = some (.int (nI (if cnt (thB li co l d) c ≠ 0 then 1 else 0))) ∧ M1 = Mq) := by
    intro n5
    induction n5 with
    | zero => intro s9 i _ h; exact absurd h (Nat.not_lt_zero _)
    | succ n5 ih5 =>
      intro s9 i hi5 hm5
      have hl1 := hli i
      have hc1 := hco i
      have hs1 : s9 ≤ 1 := by rw [hi5.2]; split <;> decide
      refine zw_n 2 rfl ?_
      refine zw_callV (as := []) (rest := [.int (nI i)]) rfl rfl rfl hM.1 rfl rfl rfl (by decide) (m_tok1 Mq o f hM c ht.1) (fun rz1511 Mz1512 hz1513 => ?_)
      rw [hz1513.1, hz1513.2]
      show Zw 1 zm_MO_isThere 11 [some (.ref 139), some (.int (nI l)), some (.int (nI d)), some (.int (nI s9)), some (.int (nI i))] [.int (nI c), .int (nI i)] Mq _
      refine zw_igeN (a := i) (b := c) rfl rfl rfl (by omega) (by omega) (fun c11 => ?_) (fun c11 => ?_)
      · -- 11 to 60
        refine zw_n 1 rfl ?_
        exact zw_zret rfl rfl (by rw [hi5.2]; exact ite_01) (⟨by rw [hi5.2, show i = c by omega], rfl⟩)
      · -- 11 to 14
        have j14 : Zw 1 zm_MO_isThere 53 [some (.ref 139), some (.int (nI l)), some (.int (nI d)), some (.int (nI s9)), some (.int (nI i))] [.int (nI (if s9 ≠ 0 ∨ (li i = l ∧ co i = d) then 1 else 0))] Mq (fun r9 M1 => r9 = some (.int (nI (if cnt (thB li co l d) c ≠ 0 then 1 else 0))) ∧ M1 = Mq) := by
          refine zw_n 1 (ls' := [some (.ref 139), some (.int (nI l)), some (.int (nI d)), some (.int (nI (if s9 ≠ 0 ∨ (li i = l ∧ co i = d) then 1 else 0))), some (.int (nI i))]) rfl ?_
          refine zw_inc rfl (x' := (nI (i + 1))) (ls' := [some (.ref 139), some (.int (nI l)), some (.int (nI d)), some (.int (nI (if s9 ≠ 0 ∨ (li i = l ∧ co i = d) then 1 else 0))), some (.int (nI (i + 1)))]) rfl (na (a := i) (b := 1) rfl rfl) rfl ?_
          refine zw_n 1 rfl ?_
          exact ih5 (if s9 ≠ 0 ∨ (li i = l ∧ co i = d) then 1 else 0) (i + 1) (⟨by omega, th_s hi5.2⟩) (by omega)
        refine zw_n 1 rfl ?_
        refine zw_ne0N (a := s9) rfl rfl (by omega) (fun c15 => ?_) (fun c15 => ?_)
        · -- 15 to 48
          refine zw_n 2 rfl ?_
          refine zw_top (x' := nI (if s9 ≠ 0 ∨ (li i = l ∧ co i = d) then 1 else 0)) (show nI 1 = nI (if s9 ≠ 0 ∨ (li i = l ∧ co i = d) then 1 else 0) by rw [if_pos (by omega)]) ?_
          exact j14
        · -- 15 to 18
          refine zw_n 1 rfl ?_
          refine zw_get (v := .ref 140) rfl hM.1 rfl ?_
          refine zw_n 3 rfl ?_
          refine zw_top (na (a := 550) (b := i) rfl rfl) ?_
          refine zw_iald (f := ai (f 140)) (j := (550 + i)) rfl (hM.2 140 (by decide) (by decide)) rfl (by decide) (by omega) ?_
          refine zw_top (x' := (nI (li i))) (congrArg nI (ht.2 i (by omega)).2.1) ?_
          refine zw_n 1 rfl ?_
          refine zw_ineN (a := li i) (b := l) rfl rfl rfl (by omega) (by omega) (fun c30 => ?_) (fun c30 => ?_)
          · -- 30 to 52
            refine zw_n 1 rfl ?_
            refine zw_top (x' := nI (if s9 ≠ 0 ∨ (li i = l ∧ co i = d) then 1 else 0)) (show nI 0 = nI (if s9 ≠ 0 ∨ (li i = l ∧ co i = d) then 1 else 0) by rw [if_neg (by omega)]) ?_
            exact j14
          · -- 30 to 33
            refine zw_n 1 rfl ?_
            refine zw_get (v := .ref 140) rfl hM.1 rfl ?_
            refine zw_n 3 rfl ?_
            refine zw_top (na (a := 570) (b := i) rfl rfl) ?_
            refine zw_iald (f := ai (f 140)) (j := (570 + i)) rfl (hM.2 140 (by decide) (by decide)) rfl (by decide) (by omega) ?_
            refine zw_top (x' := (nI (co i))) (congrArg nI (ht.2 i (by omega)).2.2) ?_
            refine zw_n 1 rfl ?_
            refine zw_ineN (a := co i) (b := d) rfl rfl rfl (by omega) (by omega) (fun c45 => ?_) (fun c45 => ?_)
            · -- 45 to 52
              refine zw_n 1 rfl ?_
              refine zw_top (x' := nI (if s9 ≠ 0 ∨ (li i = l ∧ co i = d) then 1 else 0)) (show nI 0 = nI (if s9 ≠ 0 ∨ (li i = l ∧ co i = d) then 1 else 0) by rw [if_neg (by omega)]) ?_
              exact j14
            · -- 45 to 48
              refine zw_n 2 rfl ?_
              refine zw_top (x' := nI (if s9 ≠ 0 ∨ (li i = l ∧ co i = d) then 1 else 0)) (show nI 1 = nI (if s9 ≠ 0 ∨ (li i = l ∧ co i = d) then 1 else 0) by rw [if_pos (by omega)]) ?_
              exact j14
  exact lp5 _ 0 0 (⟨Nat.zero_le _, rfl⟩) (Nat.lt_succ_self _)

set_option maxHeartbeats 4000000 in
set_option maxRecDepth 100000 in
theorem m_putA (Mq : zM) (o : Nat → Nat) (f : Nat → Nat → Nat) (hM : MM Mq o f) (c : Nat) (sg li co : Nat → Nat) (ht : RelT f c sg li co) (hS : SafeT c sg li co) (x z g : Int32) (hx : ∀ u : Int, (c = 0 → u = 0) → (0 < c → u = (li (c - 1) : Int) + 1) → ¬ ((0 ≤ x.toInt ∧ x.toInt ≤ u) ∧ (0 ≤ z.toInt ∧ z.toInt < 40) ∧ 33 ≤ g.toInt ∧ g.toInt ≤ 126)) : Zm 2 zm_MO_put [.ref 139, .int x, .int z, .int g] Mq (fun r9 M1 => r9 = some (.int (-1)) ∧ MM M1 (up o 0 0) f ∧ Sm Mq M1 [139]) := by
  show Zw 2 zm_MO_put 0 [some (.ref 139), some (.int x), some (.int z), some (.int g), none] [] Mq _
  have hc20 := hS.1
  have hli := hS.2.2.1
  have hco := hS.2.2.2
  have hlc := hli (c - 1)
  have hu0 : c = 0 → (if c = 0 then -1 else ((li (c - 1) : Nat) : Int)) + 1 = 0 := fun q => by rw [if_pos q]; rfl
  have hu1 : 0 < c → (if c = 0 then -1 else ((li (c - 1) : Nat) : Int)) + 1 = (li (c - 1) : Int) + 1 := fun q => by rw [if_neg (by omega)]
  refine zw_n 2 rfl ?_
  refine zw_put rfl hM.1 (rfl) (Nat.le_of_ble_eq_true rfl) ?_
  generalize ez1515 : List.set Mq 139 _ = Mz1514
  refine zw_n 4 rfl ?_
  refine zw_callV (as := []) (rest := [.long 0, .long (Int32.toInt64 x)]) rfl rfl rfl (zat_self ez1515 hM.1) rfl rfl rfl (by decide) (m_lastLine Mz1514 (up o 0 0) f (MM.of (o' := up o 0 0) (f' := f) hM (Sm.tset Sm.rf ez1515 (by decide)) (zat_self ez1515 hM.1) (c1_skip c1_nil) (fs_k fs_n)) c sg li co ht hS) (fun rz1516 Mz1517 hz1518 => ?_)
  rw [hz1518.1, hz1518.2]
  show Zw 2 zm_MO_put 12 [some (.ref 139), some (.int x), some (.int z), some (.int g), none] [.int (if c = 0 then -1 else nI (li (c - 1))), .long 0, .long (Int32.toInt64 x)] Mz1514 _
  refine zw_n 3 rfl ?_
  refine zw_callS (as := [.long (Int32.toInt64 x), .long 0, .long ((Int32.toInt64 (if c = 0 then -1 else nI (li (c - 1)))) + 1)]) (rest := []) rfl rfl rfl rfl rfl rfl (by decide) (m_in Mz1514 (Int32.toInt64 x) 0 ((Int32.toInt64 (if c = 0 then -1 else nI (li (c - 1)))) + 1) x.toInt 0 ((if c = 0 then -1 else ((li (c - 1) : Nat) : Int)) + 1) (Int32.toInt_toInt64 _) (by decide) (l_add1 (ll_z hlc) (by split <;> omega) (by split <;> omega))) (fun rz1519 Mz1520 hz1521 => ?_)
  rw [hz1521.1, hz1521.2]
  show Zw 2 zm_MO_put 18 [some (.ref 139), some (.int x), some (.int z), some (.int g), none] [.int (nI (if 0 ≤ x.toInt ∧ x.toInt ≤ (if c = 0 then -1 else ((li (c - 1) : Nat) : Int)) + 1 then 1 else 0))] Mz1514 _
  refine zw_eq0N (a := if 0 ≤ x.toInt ∧ x.toInt ≤ (if c = 0 then -1 else ((li (c - 1) : Nat) : Int)) + 1 then 1 else 0) rfl rfl (ite_b) (fun c18 => ?_) (fun c18 => ?_)
  · -- 18 to 40
    refine zw_n 1 rfl ?_
    exact zw_iret rfl rfl (⟨rfl, (MM.of (o' := up o 0 0) (f' := f) hM (Sm.tset Sm.rf ez1515 (by decide)) (zat_self ez1515 hM.1) (c1_skip c1_nil) (fs_k fs_n)), Sm.tset Sm.rf ez1515 (by decide)⟩)
  · -- 18 to 21
    refine zw_n 4 rfl ?_
    refine zw_callS (as := [.long (Int32.toInt64 z), .long 0, .long 39]) (rest := []) rfl rfl rfl rfl rfl rfl (by decide) (m_in Mz1514 (Int32.toInt64 z) 0 39 z.toInt 0 39 (Int32.toInt_toInt64 _) (by decide) (by decide)) (fun rz1522 Mz1523 hz1524 => ?_)
    rw [hz1524.1, hz1524.2]
    show Zw 2 zm_MO_put 30 [some (.ref 139), some (.int x), some (.int z), some (.int g), none] [.int (nI (if 0 ≤ z.toInt ∧ z.toInt ≤ 39 then 1 else 0))] Mz1514 _
    refine zw_eq0N (a := if 0 ≤ z.toInt ∧ z.toInt ≤ 39 then 1 else 0) rfl rfl (ite_b) (fun c30 => ?_) (fun c30 => ?_)
    · -- 30 to 40
      refine zw_n 1 rfl ?_
      exact zw_iret rfl rfl (⟨rfl, (MM.of (o' := up o 0 0) (f' := f) hM (Sm.tset Sm.rf ez1515 (by decide)) (zat_self ez1515 hM.1) (c1_skip c1_nil) (fs_k fs_n)), Sm.tset Sm.rf ez1515 (by decide)⟩)
    · -- 30 to 33
      refine zw_n 1 rfl ?_
      refine zw_callS (as := [.int g]) (rest := []) rfl rfl rfl rfl rfl rfl (by decide) (m_isSign _ g) (fun rz1525 Mz1526 hz1527 => ?_)
      rw [hz1527.1, hz1527.2]
      show Zw 2 zm_MO_put 37 [some (.ref 139), some (.int x), some (.int z), some (.int g), none] [.int (nI (if 33 ≤ g.toInt ∧ g.toInt ≤ 126 then 1 else 0))] Mz1514 _
      refine zw_ne0N (a := if 33 ≤ g.toInt ∧ g.toInt ≤ 126 then 1 else 0) rfl rfl (ite_b) (fun c37 => ?_) (fun c37 => ?_)
      · -- 37 to 42
        exfalso
        exact hx _ hu0 hu1 ⟨ite_ne c18, by have := ite_ne c30; omega, ite_ne c37⟩
      · -- 37 to 40
        refine zw_n 1 rfl ?_
        exact zw_iret rfl rfl (⟨rfl, (MM.of (o' := up o 0 0) (f' := f) hM (Sm.tset Sm.rf ez1515 (by decide)) (zat_self ez1515 hM.1) (c1_skip c1_nil) (fs_k fs_n)), Sm.tset Sm.rf ez1515 (by decide)⟩)

set_option maxHeartbeats 4000000 in
set_option maxRecDepth 100000 in
theorem m_putC (Mq : zM) (o : Nat → Nat) (f : Nat → Nat → Nat) (hM : MM Mq o f) (c : Nat) (sg li co : Nat → Nat) (ht : RelT f c sg li co) (hS : SafeT c sg li co) (l d g : Nat) (hd : d < 40) (hg : 33 ≤ g ∧ g ≤ 126) (hl0 : c = 0 → l = 0) (hl1 : 0 < c → l ≤ li (c - 1) + 1) (hl : l < 1000001) (hth : cnt (thB li co l d) c ≠ 0 ∨ c = 20) : Zm 2 zm_MO_put [.ref 139, .int (nI l), .int (nI d), .int (nI g)] Mq (fun r9 M1 => r9 = some (.int (-3)) ∧ MM M1 (up o 0 0) f ∧ Sm Mq M1 [139]) := by
  show Zw 2 zm_MO_put 0 [some (.ref 139), some (.int (nI l)), some (.int (nI d)), some (.int (nI g)), none] [] Mq _
  have hc20 := hS.1
  have hli := hS.2.2.1
  have hco := hS.2.2.2
  have hlc := hli (c - 1)
  have hu0 : c = 0 → (if c = 0 then -1 else ((li (c - 1) : Nat) : Int)) + 1 = 0 := fun q => by rw [if_pos q]; rfl
  have hu1 : 0 < c → (if c = 0 then -1 else ((li (c - 1) : Nat) : Int)) + 1 = (li (c - 1) : Int) + 1 := fun q => by rw [if_neg (by omega)]
  refine zw_n 2 rfl ?_
  refine zw_put rfl hM.1 (rfl) (Nat.le_of_ble_eq_true rfl) ?_
  generalize ez1529 : List.set Mq 139 _ = Mz1528
  refine zw_n 4 rfl ?_
  refine zw_callV (as := []) (rest := [.long 0, .long (Int32.toInt64 (nI l))]) rfl rfl rfl (zat_self ez1529 hM.1) rfl rfl rfl (by decide) (m_lastLine Mz1528 (up o 0 0) f (MM.of (o' := up o 0 0) (f' := f) hM (Sm.tset Sm.rf ez1529 (by decide)) (zat_self ez1529 hM.1) (c1_skip c1_nil) (fs_k fs_n)) c sg li co ht hS) (fun rz1530 Mz1531 hz1532 => ?_)
  rw [hz1532.1, hz1532.2]
  show Zw 2 zm_MO_put 12 [some (.ref 139), some (.int (nI l)), some (.int (nI d)), some (.int (nI g)), none] [.int (if c = 0 then -1 else nI (li (c - 1))), .long 0, .long (Int32.toInt64 (nI l))] Mz1528 _
  refine zw_n 3 rfl ?_
  refine zw_callS (as := [.long (Int32.toInt64 (nI l)), .long 0, .long ((Int32.toInt64 (if c = 0 then -1 else nI (li (c - 1)))) + 1)]) (rest := []) rfl rfl rfl rfl rfl rfl (by decide) (m_in Mz1528 (Int32.toInt64 (nI l)) 0 ((Int32.toInt64 (if c = 0 then -1 else nI (li (c - 1)))) + 1) ((l : Nat) : Int) 0 ((if c = 0 then -1 else ((li (c - 1) : Nat) : Int)) + 1) (l_nI (by omega)) (by decide) (l_add1 (ll_z hlc) (by split <;> omega) (by split <;> omega))) (fun rz1533 Mz1534 hz1535 => ?_)
  rw [hz1535.1, hz1535.2]
  show Zw 2 zm_MO_put 18 [some (.ref 139), some (.int (nI l)), some (.int (nI d)), some (.int (nI g)), none] [.int (nI (if 0 ≤ ((l : Nat) : Int) ∧ ((l : Nat) : Int) ≤ (if c = 0 then -1 else ((li (c - 1) : Nat) : Int)) + 1 then 1 else 0))] Mz1528 _
  refine zw_eq0N (a := if 0 ≤ ((l : Nat) : Int) ∧ ((l : Nat) : Int) ≤ (if c = 0 then -1 else ((li (c - 1) : Nat) : Int)) + 1 then 1 else 0) rfl rfl (ite_b) (fun c18 => ?_) (fun c18 => ?_)
  · -- 18 to 40
    exfalso
    first | (have h9 := ite_eq0 c18; apply h9; refine ⟨by omega, ?_⟩; rcases Nat.eq_zero_or_pos c with q | q; (have := hu0 q; have := hl0 q; omega); (have := hu1 q; have := hl1 q; omega)) | (have := ite_eq0 c30; omega) | exact ite_eq0 c37 (by rw [nI_toInt (by omega)]; omega)
  · -- 18 to 21
    refine zw_n 4 rfl ?_
    refine zw_callS (as := [.long (Int32.toInt64 (nI d)), .long 0, .long 39]) (rest := []) rfl rfl rfl rfl rfl rfl (by decide) (m_in Mz1528 (Int32.toInt64 (nI d)) 0 39 ((d : Nat) : Int) 0 39 (l_nI (by omega)) (by decide) (by decide)) (fun rz1536 Mz1537 hz1538 => ?_)
    rw [hz1538.1, hz1538.2]
    show Zw 2 zm_MO_put 30 [some (.ref 139), some (.int (nI l)), some (.int (nI d)), some (.int (nI g)), none] [.int (nI (if 0 ≤ ((d : Nat) : Int) ∧ ((d : Nat) : Int) ≤ 39 then 1 else 0))] Mz1528 _
    refine zw_eq0N (a := if 0 ≤ ((d : Nat) : Int) ∧ ((d : Nat) : Int) ≤ 39 then 1 else 0) rfl rfl (ite_b) (fun c30 => ?_) (fun c30 => ?_)
    · -- 30 to 40
      exfalso
      first | (have h9 := ite_eq0 c18; apply h9; refine ⟨by omega, ?_⟩; rcases Nat.eq_zero_or_pos c with q | q; (have := hu0 q; have := hl0 q; omega); (have := hu1 q; have := hl1 q; omega)) | (have := ite_eq0 c30; omega) | exact ite_eq0 c37 (by rw [nI_toInt (by omega)]; omega)
    · -- 30 to 33
      refine zw_n 1 rfl ?_
      refine zw_callS (as := [.int (nI g)]) (rest := []) rfl rfl rfl rfl rfl rfl (by decide) (m_isSign _ (nI g)) (fun rz1539 Mz1540 hz1541 => ?_)
      rw [hz1541.1, hz1541.2]
      show Zw 2 zm_MO_put 37 [some (.ref 139), some (.int (nI l)), some (.int (nI d)), some (.int (nI g)), none] [.int (nI (if 33 ≤ (nI g).toInt ∧ (nI g).toInt ≤ 126 then 1 else 0))] Mz1528 _
      refine zw_ne0N (a := if 33 ≤ (nI g).toInt ∧ (nI g).toInt ≤ 126 then 1 else 0) rfl rfl (ite_b) (fun c37 => ?_) (fun c37 => ?_)
      · -- 37 to 42
        refine zw_n 1 rfl ?_
        refine zw_callV (as := []) (rest := []) rfl rfl rfl (zat_self ez1529 hM.1) rfl rfl rfl (by decide) (m_tok1 Mz1528 (up o 0 0) f (MM.of (o' := up o 0 0) (f' := f) hM (Sm.tset Sm.rf ez1529 (by decide)) (zat_self ez1529 hM.1) (c1_skip c1_nil) (fs_k fs_n)) c ht.1) (fun rz1542 Mz1543 hz1544 => ?_)
        rw [hz1544.1, hz1544.2]
        show Zw 2 zm_MO_put 46 [some (.ref 139), some (.int (nI l)), some (.int (nI d)), some (.int (nI g)), none] [.int (nI c)] Mz1528 _
        refine zw_n 1 rfl ?_
        refine zw_ieqN (a := c) (b := 20) rfl rfl rfl (by omega) (by omega) (fun c48 => ?_) (fun c48 => ?_)
        · -- 48 to 60
          refine zw_n 1 rfl ?_
          exact zw_iret rfl rfl (⟨rfl, (MM.of (o' := up o 0 0) (f' := f) hM (Sm.tset Sm.rf ez1529 (by decide)) (zat_self ez1529 hM.1) (c1_skip c1_nil) (fs_k fs_n)), Sm.tset Sm.rf ez1529 (by decide)⟩)
        · -- 48 to 51
          refine zw_n 3 rfl ?_
          refine zw_callV (as := [.int (nI l), .int (nI d)]) (rest := []) rfl rfl rfl (zat_self ez1529 hM.1) rfl rfl rfl (by decide) (m_isThere Mz1528 (up o 0 0) f (MM.of (o' := up o 0 0) (f' := f) hM (Sm.tset Sm.rf ez1529 (by decide)) (zat_self ez1529 hM.1) (c1_skip c1_nil) (fs_k fs_n)) c sg li co ht hS l d (by omega) (by omega)) (fun rz1545 Mz1546 hz1547 => ?_)
          rw [hz1547.1, hz1547.2]
          show Zw 2 zm_MO_put 57 [some (.ref 139), some (.int (nI l)), some (.int (nI d)), some (.int (nI g)), none] [.int (nI (if cnt (thB li co l d) c ≠ 0 then 1 else 0))] Mz1528 _
          refine zw_eq0N (a := if cnt (thB li co l d) c ≠ 0 then 1 else 0) rfl rfl (ite_b) (fun c57 => ?_) (fun c57 => ?_)
          · -- 57 to 63
            exfalso
            have := ite_eq0 c57; omega
          · -- 57 to 60
            refine zw_n 1 rfl ?_
            exact zw_iret rfl rfl (⟨rfl, (MM.of (o' := up o 0 0) (f' := f) hM (Sm.tset Sm.rf ez1529 (by decide)) (zat_self ez1529 hM.1) (c1_skip c1_nil) (fs_k fs_n)), Sm.tset Sm.rf ez1529 (by decide)⟩)
      · -- 37 to 40
        exfalso
        first | (have h9 := ite_eq0 c18; apply h9; refine ⟨by omega, ?_⟩; rcases Nat.eq_zero_or_pos c with q | q; (have := hu0 q; have := hl0 q; omega); (have := hu1 q; have := hl1 q; omega)) | (have := ite_eq0 c30; omega) | exact ite_eq0 c37 (by rw [nI_toInt (by omega)]; omega)

set_option maxHeartbeats 4000000 in
set_option maxRecDepth 100000 in
theorem m_putOk (Mq : zM) (o : Nat → Nat) (f : Nat → Nat → Nat) (hM : MM Mq o f) (c : Nat) (sg li co : Nat → Nat) (ht : RelT f c sg li co) (hS : SafeT c sg li co) (ho : o 5 ≤ 10) (hq0 : ∀ q, f 140 q < 2147483648) (l d g : Nat) (hd : d < 40) (hg : 33 ≤ g ∧ g ≤ 126) (hl0 : c = 0 → l = 0) (hl1 : 0 < c → l ≤ li (c - 1) + 1) (hl : l < 1000001) (hs : Srt c li co) (hth : ¬ (cnt (thB li co l d) c ≠ 0 ∨ c = 20)) : Zm 2 zm_MO_put [.ref 139, .int (nI l), .int (nI d), .int (nI g)] Mq (fun r9 M1 => r9 = some (.int (nI (cnt (ahB li co l d) c))) ∧ ∃ R U, MM M1 (up (up o 0 0) 5 (if o 5 = 10 then 10 else o 5 + 1)) (fset (fset f 143 U) 140 R) ∧ Sm Mq M1 [139, 140, 143] ∧ UnS (o 5) (f 143) (f 140) U ∧ (∀ q, q < 529 → R q = f 140 q) ∧ (∀ q, R q < 2147483648) ∧ RelT (fset f 140 R) (c + 1) (inF (cnt (ahB li co l d) c) g sg) (inF (cnt (ahB li co l d) c) l li) (inF (cnt (ahB li co l d) c) d co)) := by
  show Zw 2 zm_MO_put 0 [some (.ref 139), some (.int (nI l)), some (.int (nI d)), some (.int (nI g)), none] [] Mq _
  have hc20 := hS.1
  have hli := hS.2.2.1
  have hco := hS.2.2.2
  have hlc := hli (c - 1)
  have hu0 : c = 0 → (if c = 0 then -1 else ((li (c - 1) : Nat) : Int)) + 1 = 0 := fun q => by rw [if_pos q]; rfl
  have hu1 : 0 < c → (if c = 0 then -1 else ((li (c - 1) : Nat) : Int)) + 1 = (li (c - 1) : Int) + 1 := fun q => by rw [if_neg (by omega)]
  refine zw_n 2 rfl ?_
  refine zw_put rfl hM.1 (rfl) (Nat.le_of_ble_eq_true rfl) ?_
  generalize ez1549 : List.set Mq 139 _ = Mz1548
  refine zw_n 4 rfl ?_
  refine zw_callV (as := []) (rest := [.long 0, .long (Int32.toInt64 (nI l))]) rfl rfl rfl (zat_self ez1549 hM.1) rfl rfl rfl (by decide) (m_lastLine Mz1548 (up o 0 0) f (MM.of (o' := up o 0 0) (f' := f) hM (Sm.tset Sm.rf ez1549 (by decide)) (zat_self ez1549 hM.1) (c1_skip (c1_cons (zat_set ez1549 (by decide) (hM.2 140 (by decide) (by decide))) (c1_cons (zat_set ez1549 (by decide) (hM.2 143 (by decide) (by decide))) c1_nil))) (fs_k (fs_k (fs_k fs_n)))) c sg li co ht hS) (fun rz1550 Mz1551 hz1552 => ?_)
  rw [hz1552.1, hz1552.2]
  show Zw 2 zm_MO_put 12 [some (.ref 139), some (.int (nI l)), some (.int (nI d)), some (.int (nI g)), none] [.int (if c = 0 then -1 else nI (li (c - 1))), .long 0, .long (Int32.toInt64 (nI l))] Mz1548 _
  refine zw_n 3 rfl ?_
  refine zw_callS (as := [.long (Int32.toInt64 (nI l)), .long 0, .long ((Int32.toInt64 (if c = 0 then -1 else nI (li (c - 1)))) + 1)]) (rest := []) rfl rfl rfl rfl rfl rfl (by decide) (m_in Mz1548 (Int32.toInt64 (nI l)) 0 ((Int32.toInt64 (if c = 0 then -1 else nI (li (c - 1)))) + 1) ((l : Nat) : Int) 0 ((if c = 0 then -1 else ((li (c - 1) : Nat) : Int)) + 1) (l_nI (by omega)) (by decide) (l_add1 (ll_z hlc) (by split <;> omega) (by split <;> omega))) (fun rz1553 Mz1554 hz1555 => ?_)
  rw [hz1555.1, hz1555.2]
  show Zw 2 zm_MO_put 18 [some (.ref 139), some (.int (nI l)), some (.int (nI d)), some (.int (nI g)), none] [.int (nI (if 0 ≤ ((l : Nat) : Int) ∧ ((l : Nat) : Int) ≤ (if c = 0 then -1 else ((li (c - 1) : Nat) : Int)) + 1 then 1 else 0))] Mz1548 _
  refine zw_eq0N (a := if 0 ≤ ((l : Nat) : Int) ∧ ((l : Nat) : Int) ≤ (if c = 0 then -1 else ((li (c - 1) : Nat) : Int)) + 1 then 1 else 0) rfl rfl (ite_b) (fun c18 => ?_) (fun c18 => ?_)
  · -- 18 to 40
    exfalso
    first | (have h9 := ite_eq0 c18; apply h9; refine ⟨by omega, ?_⟩; rcases Nat.eq_zero_or_pos c with q | q; (have := hu0 q; have := hl0 q; omega); (have := hu1 q; have := hl1 q; omega)) | (have := ite_eq0 c30; omega) | exact ite_eq0 c37 (by rw [nI_toInt (by omega)]; omega)
  · -- 18 to 21
    refine zw_n 4 rfl ?_
    refine zw_callS (as := [.long (Int32.toInt64 (nI d)), .long 0, .long 39]) (rest := []) rfl rfl rfl rfl rfl rfl (by decide) (m_in Mz1548 (Int32.toInt64 (nI d)) 0 39 ((d : Nat) : Int) 0 39 (l_nI (by omega)) (by decide) (by decide)) (fun rz1556 Mz1557 hz1558 => ?_)
    rw [hz1558.1, hz1558.2]
    show Zw 2 zm_MO_put 30 [some (.ref 139), some (.int (nI l)), some (.int (nI d)), some (.int (nI g)), none] [.int (nI (if 0 ≤ ((d : Nat) : Int) ∧ ((d : Nat) : Int) ≤ 39 then 1 else 0))] Mz1548 _
    refine zw_eq0N (a := if 0 ≤ ((d : Nat) : Int) ∧ ((d : Nat) : Int) ≤ 39 then 1 else 0) rfl rfl (ite_b) (fun c30 => ?_) (fun c30 => ?_)
    · -- 30 to 40
      exfalso
      first | (have h9 := ite_eq0 c18; apply h9; refine ⟨by omega, ?_⟩; rcases Nat.eq_zero_or_pos c with q | q; (have := hu0 q; have := hl0 q; omega); (have := hu1 q; have := hl1 q; omega)) | (have := ite_eq0 c30; omega) | exact ite_eq0 c37 (by rw [nI_toInt (by omega)]; omega)
    · -- 30 to 33
      refine zw_n 1 rfl ?_
      refine zw_callS (as := [.int (nI g)]) (rest := []) rfl rfl rfl rfl rfl rfl (by decide) (m_isSign _ (nI g)) (fun rz1559 Mz1560 hz1561 => ?_)
      rw [hz1561.1, hz1561.2]
      show Zw 2 zm_MO_put 37 [some (.ref 139), some (.int (nI l)), some (.int (nI d)), some (.int (nI g)), none] [.int (nI (if 33 ≤ (nI g).toInt ∧ (nI g).toInt ≤ 126 then 1 else 0))] Mz1548 _
      refine zw_ne0N (a := if 33 ≤ (nI g).toInt ∧ (nI g).toInt ≤ 126 then 1 else 0) rfl rfl (ite_b) (fun c37 => ?_) (fun c37 => ?_)
      · -- 37 to 42
        refine zw_n 1 rfl ?_
        refine zw_callV (as := []) (rest := []) rfl rfl rfl (zat_self ez1549 hM.1) rfl rfl rfl (by decide) (m_tok1 Mz1548 (up o 0 0) f (MM.of (o' := up o 0 0) (f' := f) hM (Sm.tset Sm.rf ez1549 (by decide)) (zat_self ez1549 hM.1) (c1_skip (c1_cons (zat_set ez1549 (by decide) (hM.2 140 (by decide) (by decide))) (c1_cons (zat_set ez1549 (by decide) (hM.2 143 (by decide) (by decide))) c1_nil))) (fs_k (fs_k (fs_k fs_n)))) c ht.1) (fun rz1562 Mz1563 hz1564 => ?_)
        rw [hz1564.1, hz1564.2]
        show Zw 2 zm_MO_put 46 [some (.ref 139), some (.int (nI l)), some (.int (nI d)), some (.int (nI g)), none] [.int (nI c)] Mz1548 _
        refine zw_n 1 rfl ?_
        refine zw_ieqN (a := c) (b := 20) rfl rfl rfl (by omega) (by omega) (fun c48 => ?_) (fun c48 => ?_)
        · -- 48 to 60
          exfalso
          first | omega | (have := ite_ne c57; omega)
        · -- 48 to 51
          refine zw_n 3 rfl ?_
          refine zw_callV (as := [.int (nI l), .int (nI d)]) (rest := []) rfl rfl rfl (zat_self ez1549 hM.1) rfl rfl rfl (by decide) (m_isThere Mz1548 (up o 0 0) f (MM.of (o' := up o 0 0) (f' := f) hM (Sm.tset Sm.rf ez1549 (by decide)) (zat_self ez1549 hM.1) (c1_skip (c1_cons (zat_set ez1549 (by decide) (hM.2 140 (by decide) (by decide))) (c1_cons (zat_set ez1549 (by decide) (hM.2 143 (by decide) (by decide))) c1_nil))) (fs_k (fs_k (fs_k fs_n)))) c sg li co ht hS l d (by omega) (by omega)) (fun rz1565 Mz1566 hz1567 => ?_)
          rw [hz1567.1, hz1567.2]
          show Zw 2 zm_MO_put 57 [some (.ref 139), some (.int (nI l)), some (.int (nI d)), some (.int (nI g)), none] [.int (nI (if cnt (thB li co l d) c ≠ 0 then 1 else 0))] Mz1548 _
          refine zw_eq0N (a := if cnt (thB li co l d) c ≠ 0 then 1 else 0) rfl rfl (ite_b) (fun c57 => ?_) (fun c57 => ?_)
          · -- 57 to 63
            refine zw_n 1 rfl ?_
            refine zw_callV (as := []) (rest := []) rfl rfl rfl (zat_self ez1549 hM.1) rfl rfl rfl (by decide) (m_remember Mz1548 (up o 0 0) f (MM.of (o' := up o 0 0) (f' := f) hM (Sm.tset Sm.rf ez1549 (by decide)) (zat_self ez1549 hM.1) (c1_skip (c1_cons (zat_set ez1549 (by decide) (hM.2 140 (by decide) (by decide))) (c1_cons (zat_set ez1549 (by decide) (hM.2 143 (by decide) (by decide))) c1_nil))) (fs_k (fs_k (fs_k fs_n)))) (by first | exact ho | omega)) (fun rz1573 Mz1574 hz1575 => ?_)
            obtain ⟨hAz1568, Uz1569, hMMz1570, hSz1571, hUz1572⟩ := hz1575
            rw [hAz1568]
            show Zw 2 zm_MO_put 67 [some (.ref 139), some (.int (nI l)), some (.int (nI d)), some (.int (nI g)), none] [] Mz1574 _
            refine zw_n 1 rfl ?_
            refine zw_callV (as := []) (rest := []) rfl rfl rfl hMMz1570.1 rfl rfl rfl (by decide) (m_tok1 Mz1574 (up (up o 0 0) 5 (if o 5 = 10 then 10 else o 5 + 1)) (fset f 143 Uz1569) (MM.of (o' := up (up o 0 0) 5 (if o 5 = 10 then 10 else o 5 + 1)) (f' := fset f 143 Uz1569) hM (Sm.tw (Sm.tset Sm.rf ez1549 (by decide)) hSz1571 (by decide)) hMMz1570.1 (c1_skip (c1_cons (Sm.at hSz1571 (by decide) (zat_set ez1549 (by decide) (hM.2 140 (by decide) (by decide)))) (c1_cons (hMMz1570.2 143 (by decide) (by decide)) c1_nil))) (fs_k (fs_k (fs_c fs_n)))) c ht.1) (fun rz1576 Mz1577 hz1578 => ?_)
            rw [hz1578.1, hz1578.2]
            show Zw 2 zm_MO_put 71 [some (.ref 139), some (.int (nI l)), some (.int (nI d)), some (.int (nI g)), none] [.int (nI c)] Mz1574 _
            refine zw_n 1 (ls' := [some (.ref 139), some (.int (nI l)), some (.int (nI d)), some (.int (nI g)), some (.int (nI c))]) rfl ?_
            have mz1579 : Mz1574[140]? = some (.inl (0, 590, .inl (ai (f 140)))) := Sm.at hSz1571 (by decide) (zat_set ez1549 (by decide) (hM.2 140 (by decide) (by decide)))
            have lp73 : ∀ (n73 : Nat) (k : Nat) (R : Nat → Nat) (M_73 : zM), Sm Mq M_73 [139, 140, 143] → M_73[140]? = some (.inl (0, 590, .inl (ai R))) → M_73[139]? = some (.inr (12, [.int 0, .ref 140, .ref 141, .ref 142, .ref 143, .int (nI (if o 5 = 10 then 10 else o 5 + 1)), .ref 144, .int (nI (o 7)), .int (nI (o 8)), .int (nI (o 9)), .int (nI (o 10)), .ref 145, .ref 146, .ref 147, .ref 148, .ref 149, .ref 150, .ref 151, .ref 152, .ref 153, .ref 154, .ref 155, .ref 156, .ref 157, .ref 158, .ref 159, .ref 160, .ref 161, .ref 162, .ref 163, .ref 164, .int (nI (o 31)), .ref 165, .int (nI (o 33)), .ref 166, .ref 167, .ref 168, .ref 169, .int (nI (o 38)), .ref 170, .ref 171, .ref 172, .ref 173, .ref 174, .ref 175, .int (nI (o 45)), .int (nI (o 46)), .int (nI (o 47)), .long (lN (o 48)), .ref 176])) → M_73[143]? = some (.inl (0, 610, .inl (ai Uz1569))) → (k ≤ c ∧ R = puR (f 140) c k ∧ ∀ q, k ≤ q → q < c → (l < li q ∨ (li q = l ∧ d < co q))) → k < n73 → Zw 2 zm_MO_put 73 [some (.ref 139), some (.int (nI l)), some (.int (nI d)), some (.int (nI g)), some (.int (nI k))] [] M_73 (fun r9 M1 => r9 = some (.int (nI (cnt (ahB li co l d) c))) ∧ ∃ R U, MM M1 (up (up o 0 0) 5 (if o 5 = 10 then 10 else o 5 + 1)) (fset (fset f 143 U) 140 R) ∧ Sm Mq M1 [139, 140, 143] ∧ UnS (o 5) (f 143) (f 140) U ∧ (∀ q, q < 529 → R q = f 140 q) ∧ (∀ q, R q < 2147483648) ∧ RelT (fset f 140 R) (c + 1) (inF (cnt (ahB li co l d) c) g sg) (inF (cnt (ahB li co l d) c) l li) (inF (cnt (ahB li co l d) c) d co)) := by
              intro n73
              induction n73 with
              | zero => intro k R M_73 _ _ _ _ _ h; exact absurd h (Nat.not_lt_zero _)
              | succ n73 ih73 =>
                intro k R M_73 s_73 f73_0 f73_1 f73_2 hi73 hm73
                have hR := hi73.2.1
                have hk8 := hi73.1
                have hl1 := hli (k - 1)
                have hc1 := hco (k - 1)
                refine zw_n 1 rfl ?_
                refine zw_le0N (a := k) rfl rfl (by omega) (fun c75 => ?_) (fun c75 => ?_)
                · -- 75 to 207
                  have hk9 : cnt (ahB li co l d) c = k := ah_cnt hs (by omega) (pu_ah hs (by omega) (by omega) (by omega) (by first | (exact fun q => absurd q (by omega)) | (exact fun _ => by omega))) (fun q => pu_no (hi73.2.2 k (Nat.le_refl _) q))
                  refine zw_n 1 rfl ?_
                  refine zw_get (v := .ref 140) rfl f73_1 rfl ?_
                  refine zw_n 3 rfl ?_
                  refine zw_top (na (a := 530) (b := k) rfl rfl) ?_
                  refine zw_n 1 rfl ?_
                  refine zw_iastN (g := R) (j := (530 + k)) (v := g) rfl f73_0 rfl (by decide) (by omega) (rfl) ?_
                  generalize ez1581 : List.set M_73 140 _ = Mz1580
                  refine zw_n 1 rfl ?_
                  refine zw_get (v := .ref 140) rfl (zat_set ez1581 (by decide) f73_1) rfl ?_
                  refine zw_n 3 rfl ?_
                  refine zw_top (na (a := 550) (b := k) rfl rfl) ?_
                  refine zw_n 1 rfl ?_
                  refine zw_iastN (g := (up R (530 + k) g)) (j := (550 + k)) (v := l) rfl (zat_self ez1581 f73_0) rfl (by decide) (by omega) (rfl) ?_
                  generalize ez1583 : List.set Mz1580 140 _ = Mz1582
                  refine zw_n 1 rfl ?_
                  refine zw_get (v := .ref 140) rfl (zat_set ez1583 (by decide) (zat_set ez1581 (by decide) f73_1)) rfl ?_
                  refine zw_n 3 rfl ?_
                  refine zw_top (na (a := 570) (b := k) rfl rfl) ?_
                  refine zw_n 1 rfl ?_
                  refine zw_iastN (g := (up (up R (530 + k) g) (550 + k) l)) (j := (570 + k)) (v := d) rfl (zat_self ez1583 (zat_self ez1581 f73_0)) rfl (by decide) (by omega) (rfl) ?_
                  generalize ez1585 : List.set Mz1582 140 _ = Mz1584
                  refine zw_n 1 rfl ?_
                  refine zw_get (v := .ref 140) rfl (zat_set ez1585 (by decide) (zat_set ez1583 (by decide) (zat_set ez1581 (by decide) f73_1))) rfl ?_
                  refine zw_n 2 rfl ?_
                  refine zw_iald (f := ai (up (up (up R (530 + k) g) (550 + k) l) (570 + k) d)) (j := 529) rfl (zat_self ez1585 (zat_self ez1583 (zat_self ez1581 f73_0))) rfl (by decide) (by omega) ?_
                  refine zw_top (x' := (nI c)) (congrArg nI ((show up _ _ _ _ = _ from up_n (by omega)).trans ((up_n (by omega)).trans ((up_n (by omega)).trans ((congrFun hR _).trans ((puR_o (by omega)).trans ht.1)))))) ?_
                  refine zw_n 2 rfl ?_
                  refine zw_top (na (a := c) (b := 1) rfl rfl) ?_
                  refine zw_iastN (g := (up (up (up R (530 + k) g) (550 + k) l) (570 + k) d)) (j := 529) (v := (c + 1)) rfl (zat_self ez1585 (zat_self ez1583 (zat_self ez1581 f73_0))) rfl (by decide) (by omega) (rfl) ?_
                  generalize ez1587 : List.set Mz1584 140 _ = Mz1586
                  refine zw_n 1 rfl ?_
                  exact zw_iret rfl rfl (⟨by rw [hk9], _, _, (MM.of (o' := up (up o 0 0) 5 (if o 5 = 10 then 10 else o 5 + 1)) (f' := fset (fset f 143 Uz1569) 140 (up (up (up (up R (530 + k) g) (550 + k) l) (570 + k) d) 529 (c + 1))) hM (Sm.tset (Sm.tset (Sm.tset (Sm.tset s_73 ez1581 (by decide)) ez1583 (by decide)) ez1585 (by decide)) ez1587 (by decide)) (zat_set ez1587 (by decide) (zat_set ez1585 (by decide) (zat_set ez1583 (by decide) (zat_set ez1581 (by decide) f73_1)))) (c1_skip (c1_cons (zat_self ez1587 (zat_self ez1585 (zat_self ez1583 (zat_self ez1581 f73_0)))) (c1_cons (zat_set ez1587 (by decide) (zat_set ez1585 (by decide) (zat_set ez1583 (by decide) (zat_set ez1581 (by decide) f73_2)))) c1_nil))) (fs_k (fs_c (fs_c fs_n)))), Sm.tset (Sm.tset (Sm.tset (Sm.tset s_73 ez1581 (by decide)) ez1583 (by decide)) ez1585 (by decide)) ez1587 (by decide), hUz1572, fun q hq => (up_n (by omega)).trans ((up_n (by omega)).trans ((up_n (by omega)).trans ((up_n (by omega)).trans ((congrFun hR _).trans (puR_o (by omega)))))), up_lt (up_lt (up_lt (up_lt (fun q => by rw [hR]; exact puR_lt hq0 q) (by omega)) (by omega)) (by omega)) (by omega), by rw [hk9, hR]; exact RelT.put ht hk8 (by omega)⟩)
                · -- 75 to 78
                  refine zw_n 1 rfl ?_
                  refine zw_get (v := .ref 140) rfl f73_1 rfl ?_
                  refine zw_n 3 rfl ?_
                  refine zw_top (na (a := 550) (b := k) rfl rfl) ?_
                  refine zw_n 2 rfl ?_
                  refine zw_top (ns (a := 550 + k) (b := 1) rfl rfl (by omega)) ?_
                  refine zw_iald (f := ai R) (j := ((550 + k) - 1)) rfl f73_0 rfl (by decide) (by omega) ?_
                  refine zw_top (x' := (nI (li (k - 1)))) (congrArg nI ((congrFun hR _).trans ((puR_o (by omega)).trans ((congrArg (f 140) (show 550 + k - 1 = 550 + (k - 1) by omega)).trans (ht.2 (k - 1) (by omega)).2.1)))) ?_
                  refine zw_n 1 rfl ?_
                  refine zw_igtN (a := li (k - 1)) (b := l) rfl rfl rfl (by omega) (by omega) (fun c92 => ?_) (fun c92 => ?_)
                  · -- 92 to 129
                    refine zw_n 1 rfl ?_
                    refine zw_get (v := .ref 140) rfl f73_1 rfl ?_
                    refine zw_n 3 rfl ?_
                    refine zw_top (na (a := 530) (b := k) rfl rfl) ?_
                    refine zw_n 1 rfl ?_
                    refine zw_get (v := .ref 140) rfl f73_1 rfl ?_
                    refine zw_n 3 rfl ?_
                    refine zw_top (na (a := 530) (b := k) rfl rfl) ?_
                    refine zw_n 2 rfl ?_
                    refine zw_top (ns (a := 530 + k) (b := 1) rfl rfl (by omega)) ?_
                    refine zw_iald (f := ai R) (j := ((530 + k) - 1)) rfl f73_0 rfl (by decide) (by omega) ?_
                    refine zw_iastN (g := R) (j := (530 + k)) (v := (R ((530 + k) - 1))) rfl f73_0 rfl (by decide) (by omega) (rfl) ?_
                    generalize ez1589 : List.set M_73 140 _ = Mz1588
                    refine zw_n 1 rfl ?_
                    refine zw_get (v := .ref 140) rfl (zat_set ez1589 (by decide) f73_1) rfl ?_
                    refine zw_n 3 rfl ?_
                    refine zw_top (na (a := 550) (b := k) rfl rfl) ?_
                    refine zw_n 1 rfl ?_
                    refine zw_get (v := .ref 140) rfl (zat_set ez1589 (by decide) f73_1) rfl ?_
                    refine zw_n 3 rfl ?_
                    refine zw_top (na (a := 550) (b := k) rfl rfl) ?_
                    refine zw_n 2 rfl ?_
                    refine zw_top (ns (a := 550 + k) (b := 1) rfl rfl (by omega)) ?_
                    refine zw_iald (f := ai (up R (530 + k) (R ((530 + k) - 1)))) (j := ((550 + k) - 1)) rfl (zat_self ez1589 f73_0) rfl (by decide) (by omega) ?_
                    refine zw_iastN (g := (up R (530 + k) (R ((530 + k) - 1)))) (j := (550 + k)) (v := ((up R (530 + k) (R ((530 + k) - 1))) ((550 + k) - 1))) rfl (zat_self ez1589 f73_0) rfl (by decide) (by omega) (rfl) ?_
                    generalize ez1591 : List.set Mz1588 140 _ = Mz1590
                    refine zw_n 1 rfl ?_
                    refine zw_get (v := .ref 140) rfl (zat_set ez1591 (by decide) (zat_set ez1589 (by decide) f73_1)) rfl ?_
                    refine zw_n 3 rfl ?_
                    refine zw_top (na (a := 570) (b := k) rfl rfl) ?_
                    refine zw_n 1 rfl ?_
                    refine zw_get (v := .ref 140) rfl (zat_set ez1591 (by decide) (zat_set ez1589 (by decide) f73_1)) rfl ?_
                    refine zw_n 3 rfl ?_
                    refine zw_top (na (a := 570) (b := k) rfl rfl) ?_
                    refine zw_n 2 rfl ?_
                    refine zw_top (ns (a := 570 + k) (b := 1) rfl rfl (by omega)) ?_
                    refine zw_iald (f := ai (up (up R (530 + k) (R ((530 + k) - 1))) (550 + k) ((up R (530 + k) (R ((530 + k) - 1))) ((550 + k) - 1)))) (j := ((570 + k) - 1)) rfl (zat_self ez1591 (zat_self ez1589 f73_0)) rfl (by decide) (by omega) ?_
                    refine zw_iastN (g := (up (up R (530 + k) (R ((530 + k) - 1))) (550 + k) ((up R (530 + k) (R ((530 + k) - 1))) ((550 + k) - 1)))) (j := (570 + k)) (v := ((up (up R (530 + k) (R ((530 + k) - 1))) (550 + k) ((up R (530 + k) (R ((530 + k) - 1))) ((550 + k) - 1))) ((570 + k) - 1))) rfl (zat_self ez1591 (zat_self ez1589 f73_0)) rfl (by decide) (by omega) (rfl) ?_
                    generalize ez1593 : List.set Mz1590 140 _ = Mz1592
                    refine zw_inc rfl (x' := (nI (k - 1))) (ls' := [some (.ref 139), some (.int (nI l)), some (.int (nI d)), some (.int (nI g)), some (.int (nI (k - 1)))]) rfl (nsc (a := k) (n := 1) (by decide) rfl (by omega)) rfl ?_
                    refine zw_n 1 rfl ?_
                    exact ih73 (k - 1) (up (up (up R (530 + k) (R ((530 + k) - 1))) (550 + k) ((up R (530 + k) (R ((530 + k) - 1))) ((550 + k) - 1))) (570 + k) ((up (up R (530 + k) (R ((530 + k) - 1))) (550 + k) ((up R (530 + k) (R ((530 + k) - 1))) ((550 + k) - 1))) ((570 + k) - 1))) Mz1592 (Sm.tset (Sm.tset (Sm.tset s_73 ez1589 (by decide)) ez1591 (by decide)) ez1593 (by decide)) (zat_self ez1593 (zat_self ez1591 (zat_self ez1589 f73_0))) (zat_set ez1593 (by decide) (zat_set ez1591 (by decide) (zat_set ez1589 (by decide) f73_1))) (zat_set ez1593 (by decide) (zat_set ez1591 (by decide) (zat_set ez1589 (by decide) f73_2))) (⟨by omega, by rw [hR]; exact puR_s (by omega) (by omega) (by omega), fun q q1 q2 => if e : q = k - 1 then by rw [e]; omega else hi73.2.2 q (by omega) q2⟩) (by omega)
                  · -- 92 to 95
                    refine zw_n 1 rfl ?_
                    refine zw_get (v := .ref 140) rfl f73_1 rfl ?_
                    refine zw_n 3 rfl ?_
                    refine zw_top (na (a := 550) (b := k) rfl rfl) ?_
                    refine zw_n 2 rfl ?_
                    refine zw_top (ns (a := 550 + k) (b := 1) rfl rfl (by omega)) ?_
                    refine zw_iald (f := ai R) (j := ((550 + k) - 1)) rfl f73_0 rfl (by decide) (by omega) ?_
                    refine zw_top (x' := (nI (li (k - 1)))) (congrArg nI ((congrFun hR _).trans ((puR_o (by omega)).trans ((congrArg (f 140) (show 550 + k - 1 = 550 + (k - 1) by omega)).trans (ht.2 (k - 1) (by omega)).2.1)))) ?_
                    refine zw_n 1 rfl ?_
                    refine zw_ineN (a := li (k - 1)) (b := l) rfl rfl rfl (by omega) (by omega) (fun c109 => ?_) (fun c109 => ?_)
                    · -- 109 to 207
                      have hk9 : cnt (ahB li co l d) c = k := ah_cnt hs (by omega) (pu_ah hs (by omega) (by omega) (by omega) (by first | (exact fun q => absurd q (by omega)) | (exact fun _ => by omega))) (fun q => pu_no (hi73.2.2 k (Nat.le_refl _) q))
                      refine zw_n 1 rfl ?_
                      refine zw_get (v := .ref 140) rfl f73_1 rfl ?_
                      refine zw_n 3 rfl ?_
                      refine zw_top (na (a := 530) (b := k) rfl rfl) ?_
                      refine zw_n 1 rfl ?_
                      refine zw_iastN (g := R) (j := (530 + k)) (v := g) rfl f73_0 rfl (by decide) (by omega) (rfl) ?_
                      generalize ez1595 : List.set M_73 140 _ = Mz1594
                      refine zw_n 1 rfl ?_
                      refine zw_get (v := .ref 140) rfl (zat_set ez1595 (by decide) f73_1) rfl ?_
                      refine zw_n 3 rfl ?_
                      refine zw_top (na (a := 550) (b := k) rfl rfl) ?_
                      refine zw_n 1 rfl ?_
                      refine zw_iastN (g := (up R (530 + k) g)) (j := (550 + k)) (v := l) rfl (zat_self ez1595 f73_0) rfl (by decide) (by omega) (rfl) ?_
                      generalize ez1597 : List.set Mz1594 140 _ = Mz1596
                      refine zw_n 1 rfl ?_
                      refine zw_get (v := .ref 140) rfl (zat_set ez1597 (by decide) (zat_set ez1595 (by decide) f73_1)) rfl ?_
                      refine zw_n 3 rfl ?_
                      refine zw_top (na (a := 570) (b := k) rfl rfl) ?_
                      refine zw_n 1 rfl ?_
                      refine zw_iastN (g := (up (up R (530 + k) g) (550 + k) l)) (j := (570 + k)) (v := d) rfl (zat_self ez1597 (zat_self ez1595 f73_0)) rfl (by decide) (by omega) (rfl) ?_
                      generalize ez1599 : List.set Mz1596 140 _ = Mz1598
                      refine zw_n 1 rfl ?_
                      refine zw_get (v := .ref 140) rfl (zat_set ez1599 (by decide) (zat_set ez1597 (by decide) (zat_set ez1595 (by decide) f73_1))) rfl ?_
                      refine zw_n 2 rfl ?_
                      refine zw_iald (f := ai (up (up (up R (530 + k) g) (550 + k) l) (570 + k) d)) (j := 529) rfl (zat_self ez1599 (zat_self ez1597 (zat_self ez1595 f73_0))) rfl (by decide) (by omega) ?_
                      refine zw_top (x' := (nI c)) (congrArg nI ((show up _ _ _ _ = _ from up_n (by omega)).trans ((up_n (by omega)).trans ((up_n (by omega)).trans ((congrFun hR _).trans ((puR_o (by omega)).trans ht.1)))))) ?_
                      refine zw_n 2 rfl ?_
                      refine zw_top (na (a := c) (b := 1) rfl rfl) ?_
                      refine zw_iastN (g := (up (up (up R (530 + k) g) (550 + k) l) (570 + k) d)) (j := 529) (v := (c + 1)) rfl (zat_self ez1599 (zat_self ez1597 (zat_self ez1595 f73_0))) rfl (by decide) (by omega) (rfl) ?_
                      generalize ez1601 : List.set Mz1598 140 _ = Mz1600
                      refine zw_n 1 rfl ?_
                      exact zw_iret rfl rfl (⟨by rw [hk9], _, _, (MM.of (o' := up (up o 0 0) 5 (if o 5 = 10 then 10 else o 5 + 1)) (f' := fset (fset f 143 Uz1569) 140 (up (up (up (up R (530 + k) g) (550 + k) l) (570 + k) d) 529 (c + 1))) hM (Sm.tset (Sm.tset (Sm.tset (Sm.tset s_73 ez1595 (by decide)) ez1597 (by decide)) ez1599 (by decide)) ez1601 (by decide)) (zat_set ez1601 (by decide) (zat_set ez1599 (by decide) (zat_set ez1597 (by decide) (zat_set ez1595 (by decide) f73_1)))) (c1_skip (c1_cons (zat_self ez1601 (zat_self ez1599 (zat_self ez1597 (zat_self ez1595 f73_0)))) (c1_cons (zat_set ez1601 (by decide) (zat_set ez1599 (by decide) (zat_set ez1597 (by decide) (zat_set ez1595 (by decide) f73_2)))) c1_nil))) (fs_k (fs_c (fs_c fs_n)))), Sm.tset (Sm.tset (Sm.tset (Sm.tset s_73 ez1595 (by decide)) ez1597 (by decide)) ez1599 (by decide)) ez1601 (by decide), hUz1572, fun q hq => (up_n (by omega)).trans ((up_n (by omega)).trans ((up_n (by omega)).trans ((up_n (by omega)).trans ((congrFun hR _).trans (puR_o (by omega)))))), up_lt (up_lt (up_lt (up_lt (fun q => by rw [hR]; exact puR_lt hq0 q) (by omega)) (by omega)) (by omega)) (by omega), by rw [hk9, hR]; exact RelT.put ht hk8 (by omega)⟩)
                    · -- 109 to 112
                      refine zw_n 1 rfl ?_
                      refine zw_get (v := .ref 140) rfl f73_1 rfl ?_
                      refine zw_n 3 rfl ?_
                      refine zw_top (na (a := 570) (b := k) rfl rfl) ?_
                      refine zw_n 2 rfl ?_
                      refine zw_top (ns (a := 570 + k) (b := 1) rfl rfl (by omega)) ?_
                      refine zw_iald (f := ai R) (j := ((570 + k) - 1)) rfl f73_0 rfl (by decide) (by omega) ?_
                      refine zw_top (x' := (nI (co (k - 1)))) (congrArg nI ((congrFun hR _).trans ((puR_o (by omega)).trans ((congrArg (f 140) (show 570 + k - 1 = 570 + (k - 1) by omega)).trans (ht.2 (k - 1) (by omega)).2.2)))) ?_
                      refine zw_n 1 rfl ?_
                      refine zw_ileN (a := co (k - 1)) (b := d) rfl rfl rfl (by omega) (by omega) (fun c126 => ?_) (fun c126 => ?_)
                      · -- 126 to 207
                        have hk9 : cnt (ahB li co l d) c = k := ah_cnt hs (by omega) (pu_ah hs (by omega) (by omega) (by omega) (by first | (exact fun q => absurd q (by omega)) | (exact fun _ => by omega))) (fun q => pu_no (hi73.2.2 k (Nat.le_refl _) q))
                        refine zw_n 1 rfl ?_
                        refine zw_get (v := .ref 140) rfl f73_1 rfl ?_
                        refine zw_n 3 rfl ?_
                        refine zw_top (na (a := 530) (b := k) rfl rfl) ?_
                        refine zw_n 1 rfl ?_
                        refine zw_iastN (g := R) (j := (530 + k)) (v := g) rfl f73_0 rfl (by decide) (by omega) (rfl) ?_
                        generalize ez1603 : List.set M_73 140 _ = Mz1602
                        refine zw_n 1 rfl ?_
                        refine zw_get (v := .ref 140) rfl (zat_set ez1603 (by decide) f73_1) rfl ?_
                        refine zw_n 3 rfl ?_
                        refine zw_top (na (a := 550) (b := k) rfl rfl) ?_
                        refine zw_n 1 rfl ?_
                        refine zw_iastN (g := (up R (530 + k) g)) (j := (550 + k)) (v := l) rfl (zat_self ez1603 f73_0) rfl (by decide) (by omega) (rfl) ?_
                        generalize ez1605 : List.set Mz1602 140 _ = Mz1604
                        refine zw_n 1 rfl ?_
                        refine zw_get (v := .ref 140) rfl (zat_set ez1605 (by decide) (zat_set ez1603 (by decide) f73_1)) rfl ?_
                        refine zw_n 3 rfl ?_
                        refine zw_top (na (a := 570) (b := k) rfl rfl) ?_
                        refine zw_n 1 rfl ?_
                        refine zw_iastN (g := (up (up R (530 + k) g) (550 + k) l)) (j := (570 + k)) (v := d) rfl (zat_self ez1605 (zat_self ez1603 f73_0)) rfl (by decide) (by omega) (rfl) ?_
                        generalize ez1607 : List.set Mz1604 140 _ = Mz1606
                        refine zw_n 1 rfl ?_
                        refine zw_get (v := .ref 140) rfl (zat_set ez1607 (by decide) (zat_set ez1605 (by decide) (zat_set ez1603 (by decide) f73_1))) rfl ?_
                        refine zw_n 2 rfl ?_
                        refine zw_iald (f := ai (up (up (up R (530 + k) g) (550 + k) l) (570 + k) d)) (j := 529) rfl (zat_self ez1607 (zat_self ez1605 (zat_self ez1603 f73_0))) rfl (by decide) (by omega) ?_
                        refine zw_top (x' := (nI c)) (congrArg nI ((show up _ _ _ _ = _ from up_n (by omega)).trans ((up_n (by omega)).trans ((up_n (by omega)).trans ((congrFun hR _).trans ((puR_o (by omega)).trans ht.1)))))) ?_
                        refine zw_n 2 rfl ?_
                        refine zw_top (na (a := c) (b := 1) rfl rfl) ?_
                        refine zw_iastN (g := (up (up (up R (530 + k) g) (550 + k) l) (570 + k) d)) (j := 529) (v := (c + 1)) rfl (zat_self ez1607 (zat_self ez1605 (zat_self ez1603 f73_0))) rfl (by decide) (by omega) (rfl) ?_
                        generalize ez1609 : List.set Mz1606 140 _ = Mz1608
                        refine zw_n 1 rfl ?_
                        exact zw_iret rfl rfl (⟨by rw [hk9], _, _, (MM.of (o' := up (up o 0 0) 5 (if o 5 = 10 then 10 else o 5 + 1)) (f' := fset (fset f 143 Uz1569) 140 (up (up (up (up R (530 + k) g) (550 + k) l) (570 + k) d) 529 (c + 1))) hM (Sm.tset (Sm.tset (Sm.tset (Sm.tset s_73 ez1603 (by decide)) ez1605 (by decide)) ez1607 (by decide)) ez1609 (by decide)) (zat_set ez1609 (by decide) (zat_set ez1607 (by decide) (zat_set ez1605 (by decide) (zat_set ez1603 (by decide) f73_1)))) (c1_skip (c1_cons (zat_self ez1609 (zat_self ez1607 (zat_self ez1605 (zat_self ez1603 f73_0)))) (c1_cons (zat_set ez1609 (by decide) (zat_set ez1607 (by decide) (zat_set ez1605 (by decide) (zat_set ez1603 (by decide) f73_2)))) c1_nil))) (fs_k (fs_c (fs_c fs_n)))), Sm.tset (Sm.tset (Sm.tset (Sm.tset s_73 ez1603 (by decide)) ez1605 (by decide)) ez1607 (by decide)) ez1609 (by decide), hUz1572, fun q hq => (up_n (by omega)).trans ((up_n (by omega)).trans ((up_n (by omega)).trans ((up_n (by omega)).trans ((congrFun hR _).trans (puR_o (by omega)))))), up_lt (up_lt (up_lt (up_lt (fun q => by rw [hR]; exact puR_lt hq0 q) (by omega)) (by omega)) (by omega)) (by omega), by rw [hk9, hR]; exact RelT.put ht hk8 (by omega)⟩)
                      · -- 126 to 129
                        refine zw_n 1 rfl ?_
                        refine zw_get (v := .ref 140) rfl f73_1 rfl ?_
                        refine zw_n 3 rfl ?_
                        refine zw_top (na (a := 530) (b := k) rfl rfl) ?_
                        refine zw_n 1 rfl ?_
                        refine zw_get (v := .ref 140) rfl f73_1 rfl ?_
                        refine zw_n 3 rfl ?_
                        refine zw_top (na (a := 530) (b := k) rfl rfl) ?_
                        refine zw_n 2 rfl ?_
                        refine zw_top (ns (a := 530 + k) (b := 1) rfl rfl (by omega)) ?_
                        refine zw_iald (f := ai R) (j := ((530 + k) - 1)) rfl f73_0 rfl (by decide) (by omega) ?_
                        refine zw_iastN (g := R) (j := (530 + k)) (v := (R ((530 + k) - 1))) rfl f73_0 rfl (by decide) (by omega) (rfl) ?_
                        generalize ez1611 : List.set M_73 140 _ = Mz1610
                        refine zw_n 1 rfl ?_
                        refine zw_get (v := .ref 140) rfl (zat_set ez1611 (by decide) f73_1) rfl ?_
                        refine zw_n 3 rfl ?_
                        refine zw_top (na (a := 550) (b := k) rfl rfl) ?_
                        refine zw_n 1 rfl ?_
                        refine zw_get (v := .ref 140) rfl (zat_set ez1611 (by decide) f73_1) rfl ?_
                        refine zw_n 3 rfl ?_
                        refine zw_top (na (a := 550) (b := k) rfl rfl) ?_
                        refine zw_n 2 rfl ?_
                        refine zw_top (ns (a := 550 + k) (b := 1) rfl rfl (by omega)) ?_
                        refine zw_iald (f := ai (up R (530 + k) (R ((530 + k) - 1)))) (j := ((550 + k) - 1)) rfl (zat_self ez1611 f73_0) rfl (by decide) (by omega) ?_
                        refine zw_iastN (g := (up R (530 + k) (R ((530 + k) - 1)))) (j := (550 + k)) (v := ((up R (530 + k) (R ((530 + k) - 1))) ((550 + k) - 1))) rfl (zat_self ez1611 f73_0) rfl (by decide) (by omega) (rfl) ?_
                        generalize ez1613 : List.set Mz1610 140 _ = Mz1612
                        refine zw_n 1 rfl ?_
                        refine zw_get (v := .ref 140) rfl (zat_set ez1613 (by decide) (zat_set ez1611 (by decide) f73_1)) rfl ?_
                        refine zw_n 3 rfl ?_
                        refine zw_top (na (a := 570) (b := k) rfl rfl) ?_
                        refine zw_n 1 rfl ?_
                        refine zw_get (v := .ref 140) rfl (zat_set ez1613 (by decide) (zat_set ez1611 (by decide) f73_1)) rfl ?_
                        refine zw_n 3 rfl ?_
                        refine zw_top (na (a := 570) (b := k) rfl rfl) ?_
                        refine zw_n 2 rfl ?_
                        refine zw_top (ns (a := 570 + k) (b := 1) rfl rfl (by omega)) ?_
                        refine zw_iald (f := ai (up (up R (530 + k) (R ((530 + k) - 1))) (550 + k) ((up R (530 + k) (R ((530 + k) - 1))) ((550 + k) - 1)))) (j := ((570 + k) - 1)) rfl (zat_self ez1613 (zat_self ez1611 f73_0)) rfl (by decide) (by omega) ?_
                        refine zw_iastN (g := (up (up R (530 + k) (R ((530 + k) - 1))) (550 + k) ((up R (530 + k) (R ((530 + k) - 1))) ((550 + k) - 1)))) (j := (570 + k)) (v := ((up (up R (530 + k) (R ((530 + k) - 1))) (550 + k) ((up R (530 + k) (R ((530 + k) - 1))) ((550 + k) - 1))) ((570 + k) - 1))) rfl (zat_self ez1613 (zat_self ez1611 f73_0)) rfl (by decide) (by omega) (rfl) ?_
                        generalize ez1615 : List.set Mz1612 140 _ = Mz1614
                        refine zw_inc rfl (x' := (nI (k - 1))) (ls' := [some (.ref 139), some (.int (nI l)), some (.int (nI d)), some (.int (nI g)), some (.int (nI (k - 1)))]) rfl (nsc (a := k) (n := 1) (by decide) rfl (by omega)) rfl ?_
                        refine zw_n 1 rfl ?_
                        exact ih73 (k - 1) (up (up (up R (530 + k) (R ((530 + k) - 1))) (550 + k) ((up R (530 + k) (R ((530 + k) - 1))) ((550 + k) - 1))) (570 + k) ((up (up R (530 + k) (R ((530 + k) - 1))) (550 + k) ((up R (530 + k) (R ((530 + k) - 1))) ((550 + k) - 1))) ((570 + k) - 1))) Mz1614 (Sm.tset (Sm.tset (Sm.tset s_73 ez1611 (by decide)) ez1613 (by decide)) ez1615 (by decide)) (zat_self ez1615 (zat_self ez1613 (zat_self ez1611 f73_0))) (zat_set ez1615 (by decide) (zat_set ez1613 (by decide) (zat_set ez1611 (by decide) f73_1))) (zat_set ez1615 (by decide) (zat_set ez1613 (by decide) (zat_set ez1611 (by decide) f73_2))) (⟨by omega, by rw [hR]; exact puR_s (by omega) (by omega) (by omega), fun q q1 q2 => if e : q = k - 1 then by rw [e]; omega else hi73.2.2 q (by omega) q2⟩) (by omega)
            exact lp73 _ c (f 140) Mz1574 (Sm.tw (Sm.tset Sm.rf ez1549 (by decide)) hSz1571 (by decide)) mz1579 hMMz1570.1 (hMMz1570.2 143 (by decide) (by decide)) (⟨Nat.le_refl _, (puR_0 ..).symm, fun q q1 q2 => by omega⟩) (Nat.lt_succ_self _)
          · -- 57 to 60
            exfalso
            first | omega | (have := ite_ne c57; omega)
      · -- 37 to 40
        exfalso
        first | (have h9 := ite_eq0 c18; apply h9; refine ⟨by omega, ?_⟩; rcases Nat.eq_zero_or_pos c with q | q; (have := hu0 q; have := hl0 q; omega); (have := hu1 q; have := hl1 q; omega)) | (have := ite_eq0 c30; omega) | exact ite_eq0 c37 (by rw [nI_toInt (by omega)]; omega)

set_option maxHeartbeats 4000000 in
set_option maxRecDepth 100000 in
theorem m_undoNo (Mq : zM) (o : Nat → Nat) (f : Nat → Nat → Nat) (hM : MM Mq o f) (hx : o 5 = 0) : Zm 0 zm_MO_undo [.ref 139] Mq (fun r9 M1 => r9 = some (.int (-3)) ∧ MM M1 (up o 0 0) f ∧ Sm Mq M1 [139]) := by
  show Zw 0 zm_MO_undo 0 [some (.ref 139), none] [] Mq _
  refine zw_n 2 rfl ?_
  refine zw_put rfl hM.1 (rfl) (Nat.le_of_ble_eq_true rfl) ?_
  generalize ez1617 : List.set Mq 139 _ = Mz1616
  refine zw_n 1 rfl ?_
  refine zw_get (v := .int (nI (o 5))) rfl (zat_self ez1617 hM.1) rfl ?_
  refine zw_ne0N (a := o 5) rfl rfl (by omega) (fun c9 => ?_) (fun c9 => ?_)
  · -- 9 to 15
    exfalso
    omega
  · -- 9 to 12
    refine zw_n 1 rfl ?_
    exact zw_iret rfl rfl (⟨rfl, (MM.of (o' := up o 0 0) (f' := f) hM (Sm.tset Sm.rf ez1617 (by decide)) (zat_self ez1617 hM.1) (c1_skip c1_nil) (fs_k fs_n)), Sm.tset Sm.rf ez1617 (by decide)⟩)

set_option maxHeartbeats 4000000 in
set_option maxRecDepth 100000 in
theorem m_undoOk (Mq : zM) (o : Nat → Nat) (f : Nat → Nat → Nat) (hM : MM Mq o f) (hx : 0 < o 5) (ho : o 5 ≤ 10) : Zm 0 zm_MO_undo [.ref 139] Mq (fun r9 M1 => r9 = some (.int (nI (o 5 - 1))) ∧ ∃ R, MM M1 (up (up o 0 0) 5 (o 5 - 1)) (fset f 140 R) ∧ Sm Mq M1 [139, 140] ∧ ∀ q, R q = if 529 ≤ q ∧ q < 529 + 61 then f 143 (61 * (o 5 - 1) + (q - 529)) else f 140 q) := by
  show Zw 0 zm_MO_undo 0 [some (.ref 139), none] [] Mq _
  refine zw_n 2 rfl ?_
  refine zw_put rfl hM.1 (rfl) (Nat.le_of_ble_eq_true rfl) ?_
  generalize ez1619 : List.set Mq 139 _ = Mz1618
  refine zw_n 1 rfl ?_
  refine zw_get (v := .int (nI (o 5))) rfl (zat_self ez1619 hM.1) rfl ?_
  refine zw_ne0N (a := o 5) rfl rfl (by omega) (fun c9 => ?_) (fun c9 => ?_)
  · -- 9 to 15
    refine zw_n 2 rfl ?_
    refine zw_get (v := .int (nI (o 5))) rfl (zat_self ez1619 hM.1) rfl ?_
    refine zw_n 2 rfl ?_
    refine zw_top (ns (a := o 5) (b := 1) rfl rfl (by omega)) ?_
    refine zw_put rfl (zat_self ez1619 hM.1) (rfl) (Nat.le_of_ble_eq_true rfl) ?_
    generalize ez1621 : List.set Mz1618 139 _ = Mz1620
    refine zw_n 2 (ls' := [some (.ref 139), some (.int 0)]) rfl ?_
    have mz1622 : Mz1620[140]? = some (.inl (0, 590, .inl (ai (f 140)))) := zat_set ez1621 (by decide) (zat_set ez1619 (by decide) (hM.2 140 (by decide) (by decide)))
    have mz1623 : Mz1620[143]? = some (.inl (0, 610, .inl (ai (f 143)))) := zat_set ez1621 (by decide) (zat_set ez1619 (by decide) (hM.2 143 (by decide) (by decide)))
    have sz1624 : Sm Mq Mz1620 [139, 140] := Sm.tset (Sm.tset Sm.rf ez1619 (by decide)) ez1621 (by decide)
    have lp27 : ∀ (n27 : Nat) (i : Nat) (R : Nat → Nat) (M_27 : zM), Sm Mq M_27 [139, 140] → M_27[140]? = some (.inl (0, 590, .inl (ai R))) → M_27[139]? = some (.inr (12, [.int 0, .ref 140, .ref 141, .ref 142, .ref 143, .int (nI ((o 5) - 1)), .ref 144, .int (nI (o 7)), .int (nI (o 8)), .int (nI (o 9)), .int (nI (o 10)), .ref 145, .ref 146, .ref 147, .ref 148, .ref 149, .ref 150, .ref 151, .ref 152, .ref 153, .ref 154, .ref 155, .ref 156, .ref 157, .ref 158, .ref 159, .ref 160, .ref 161, .ref 162, .ref 163, .ref 164, .int (nI (o 31)), .ref 165, .int (nI (o 33)), .ref 166, .ref 167, .ref 168, .ref 169, .int (nI (o 38)), .ref 170, .ref 171, .ref 172, .ref 173, .ref 174, .ref 175, .int (nI (o 45)), .int (nI (o 46)), .int (nI (o 47)), .long (lN (o 48)), .ref 176])) → (i ≤ 61 ∧ ∀ q, R q = if 529 ≤ q ∧ q < 529 + i then f 143 (61 * (o 5 - 1) + (q - 529)) else f 140 q) → 61 - i < n27 → Zw 0 zm_MO_undo 27 [some (.ref 139), some (.int (nI i))] [] M_27 (fun r9 M1 => r9 = some (.int (nI (o 5 - 1))) ∧ ∃ R, MM M1 (up (up o 0 0) 5 (o 5 - 1)) (fset f 140 R) ∧ Sm Mq M1 [139, 140] ∧ ∀ q, R q = if 529 ≤ q ∧ q < 529 + 61 then f 143 (61 * (o 5 - 1) + (q - 529)) else f 140 q) := by
      intro n27
      induction n27 with
      | zero => intro i R M_27 _ _ _ _ h; exact absurd h (Nat.not_lt_zero _)
      | succ n27 ih27 =>
        intro i R M_27 s_27 f27_0 f27_1 hi27 hm27
        refine zw_n 2 rfl ?_
        refine zw_igeN (a := i) (b := 61) rfl rfl rfl (by omega) (by omega) (fun c30 => ?_) (fun c30 => ?_)
        · -- 30 to 63
          refine zw_n 1 rfl ?_
          refine zw_get (v := .int (nI ((o 5) - 1))) rfl f27_1 rfl ?_
          exact zw_iret rfl rfl (⟨rfl, R, (MM.of (o' := up (up o 0 0) 5 ((o 5) - 1)) (f' := fset f 140 R) hM s_27 f27_1 (c1_skip (c1_cons f27_0 c1_nil)) (fs_k (fs_c fs_n))), s_27, fun q => by rw [hi27.2 q, show i = 61 by omega]⟩)
        · -- 30 to 33
          refine zw_n 1 rfl ?_
          refine zw_get (v := .ref 140) rfl f27_1 rfl ?_
          refine zw_n 3 rfl ?_
          refine zw_top (na (a := 529) (b := i) rfl rfl) ?_
          refine zw_n 1 rfl ?_
          refine zw_get (v := .ref 143) rfl f27_1 rfl ?_
          refine zw_n 2 rfl ?_
          refine zw_get (v := .int (nI ((o 5) - 1))) rfl f27_1 rfl ?_
          refine zw_n 1 rfl ?_
          refine zw_top (nm (a := 61) (b := (o 5) - 1) rfl rfl) ?_
          refine zw_n 2 rfl ?_
          refine zw_top (na (a := 61 * ((o 5) - 1)) (b := i) rfl rfl) ?_
          refine zw_iald (f := ai (f 143)) (j := ((61 * ((o 5) - 1)) + i)) rfl (Sm.at s_27 (by decide) (hM.2 143 (by decide) (by decide))) rfl (by decide) (by omega) ?_
          refine zw_iastN (g := R) (j := (529 + i)) (v := ((f 143) ((61 * ((o 5) - 1)) + i))) rfl f27_0 rfl (by decide) (by omega) (rfl) ?_
          generalize ez1626 : List.set M_27 140 _ = Mz1625
          refine zw_inc rfl (x' := (nI (i + 1))) (ls' := [some (.ref 139), some (.int (nI (i + 1)))]) rfl (na (a := i) (b := 1) rfl rfl) rfl ?_
          refine zw_n 1 rfl ?_
          exact ih27 (i + 1) (up R (529 + i) ((f 143) ((61 * ((o 5) - 1)) + i))) Mz1625 (Sm.tset s_27 ez1626 (by decide)) (zat_self ez1626 f27_0) (zat_set ez1626 (by decide) f27_1) (⟨by omega, fun q => rg_up (v := fun t => f 143 (61 * (o 5 - 1) + t)) hi27.2 q⟩) (by omega)
    exact lp27 _ 0 (f 140) Mz1620 sz1624 mz1622 (zat_self ez1621 (zat_self ez1619 hM.1)) (⟨Nat.zero_le _, fun q => by rw [if_neg (by omega)]⟩) (Nat.lt_succ_self _)
  · -- 9 to 12
    exfalso
    omega
