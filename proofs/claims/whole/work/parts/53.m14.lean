set_option maxHeartbeats 4000000 in
set_option maxRecDepth 100000 in
theorem m_takeNo (Mq : zM) (o : Nat → Nat) (f : Nat → Nat → Nat) (hM : MM Mq o f) (c : Nat) (sg li co : Nat → Nat) (ht : RelT f c sg li co) (hS : SafeT c sg li co) (x : Int32) (hx : ¬ (0 ≤ x.toInt ∧ x.toInt < c)) : Zm 2 zm_MO_take [.ref 139, .int x] Mq (fun r9 M1 => r9 = some (.int (-2)) ∧ MM M1 (up o 0 0) f ∧ Sm Mq M1 [139]) := by
  show Zw 2 zm_MO_take 0 [some (.ref 139), some (.int x), none] [] Mq _
  have hc20 := hS.1
  have hli := hS.2.2.1
  have hco := hS.2.2.2
  refine zw_n 2 rfl ?_
  refine zw_put rfl hM.1 (rfl) (Nat.le_of_ble_eq_true rfl) ?_
  generalize ez1375 : List.set Mq 139 _ = Mz1374
  refine zw_n 2 rfl ?_
  refine zw_callV (as := [.int x]) (rest := []) rfl rfl rfl (zat_self ez1375 hM.1) rfl rfl rfl (by decide) (m_isToken Mz1374 (up o 0 0) f (MM.of (o' := up o 0 0) (f' := f) hM (Sm.tset Sm.rf ez1375 (by decide)) (zat_self ez1375 hM.1) (c1_skip c1_nil) (fs_k fs_n)) c ht.1 (by omega) x) (fun rz1376 Mz1377 hz1378 => ?_)
  rw [hz1378.1, hz1378.2]
  show Zw 2 zm_MO_take 10 [some (.ref 139), some (.int x), none] [.int (nI (if 0 ≤ x.toInt ∧ x.toInt < c then 1 else 0))] Mz1374 _
  refine zw_ne0N (a := if 0 ≤ x.toInt ∧ x.toInt < c then 1 else 0) rfl rfl (ite_b) (fun c10 => ?_) (fun c10 => ?_)
  · -- 10 to 16
    exfalso
    exact hx (ite_ne c10)
  · -- 10 to 13
    refine zw_n 1 rfl ?_
    exact zw_iret rfl rfl (⟨rfl, (MM.of (o' := up o 0 0) (f' := f) hM (Sm.tset Sm.rf ez1375 (by decide)) (zat_self ez1375 hM.1) (c1_skip c1_nil) (fs_k fs_n)), Sm.tset Sm.rf ez1375 (by decide)⟩)

set_option maxHeartbeats 4000000 in
set_option maxRecDepth 100000 in
theorem m_takeOk (Mq : zM) (o : Nat → Nat) (f : Nat → Nat → Nat) (hM : MM Mq o f) (c : Nat) (sg li co : Nat → Nat) (ht : RelT f c sg li co) (hS : SafeT c sg li co) (ho : o 5 ≤ 10) (hq0 : ∀ q, f 140 q < 2147483648) (x : Nat) (hx : x < c) : Zm 2 zm_MO_take [.ref 139, .int (nI x)] Mq (fun r9 M1 => r9 = some (.int (nI (c - 1))) ∧ ∃ R U, MM M1 (up (up o 0 0) 5 (if o 5 = 10 then 10 else o 5 + 1)) (fset (fset f 143 U) 140 R) ∧ Sm Mq M1 [139, 140, 143] ∧ UnS (o 5) (f 143) (f 140) U ∧ (∀ q, q < 529 → R q = f 140 q) ∧ (∀ q, R q < 2147483648) ∧ RelT (fset f 140 R) (c - 1) (tkF x sg) (tkF x li) (tkF x co)) := by
  show Zw 2 zm_MO_take 0 [some (.ref 139), some (.int (nI x)), none] [] Mq _
  have hc20 := hS.1
  have hli := hS.2.2.1
  have hco := hS.2.2.2
  refine zw_n 2 rfl ?_
  refine zw_put rfl hM.1 (rfl) (Nat.le_of_ble_eq_true rfl) ?_
  generalize ez1380 : List.set Mq 139 _ = Mz1379
  refine zw_n 2 rfl ?_
  refine zw_callV (as := [.int (nI x)]) (rest := []) rfl rfl rfl (zat_self ez1380 hM.1) rfl rfl rfl (by decide) (m_isToken Mz1379 (up o 0 0) f (MM.of (o' := up o 0 0) (f' := f) hM (Sm.tset Sm.rf ez1380 (by decide)) (zat_self ez1380 hM.1) (c1_skip (c1_cons (zat_set ez1380 (by decide) (hM.2 140 (by decide) (by decide))) (c1_cons (zat_set ez1380 (by decide) (hM.2 143 (by decide) (by decide))) c1_nil))) (fs_k (fs_k (fs_k fs_n)))) c ht.1 (by omega) (nI x)) (fun rz1381 Mz1382 hz1383 => ?_)
  rw [hz1383.1, hz1383.2]
  show Zw 2 zm_MO_take 10 [some (.ref 139), some (.int (nI x)), none] [.int (nI (if 0 ≤ (nI x).toInt ∧ (nI x).toInt < c then 1 else 0))] Mz1379 _
  refine zw_ne0N (a := if 0 ≤ (nI x).toInt ∧ (nI x).toInt < c then 1 else 0) rfl rfl (ite_b) (fun c10 => ?_) (fun c10 => ?_)
  · -- 10 to 16
    refine zw_n 1 rfl ?_
    refine zw_callV (as := []) (rest := []) rfl rfl rfl (zat_self ez1380 hM.1) rfl rfl rfl (by decide) (m_remember Mz1379 (up o 0 0) f (MM.of (o' := up o 0 0) (f' := f) hM (Sm.tset Sm.rf ez1380 (by decide)) (zat_self ez1380 hM.1) (c1_skip (c1_cons (zat_set ez1380 (by decide) (hM.2 140 (by decide) (by decide))) (c1_cons (zat_set ez1380 (by decide) (hM.2 143 (by decide) (by decide))) c1_nil))) (fs_k (fs_k (fs_k fs_n)))) (by first | exact ho | omega)) (fun rz1389 Mz1390 hz1391 => ?_)
    obtain ⟨hAz1384, Uz1385, hMMz1386, hSz1387, hUz1388⟩ := hz1391
    rw [hAz1384]
    show Zw 2 zm_MO_take 20 [some (.ref 139), some (.int (nI x)), none] [] Mz1390 _
    refine zw_n 1 rfl ?_
    refine zw_get (v := .ref 140) rfl hMMz1386.1 rfl ?_
    refine zw_n 2 rfl ?_
    refine zw_iald (f := ai (f 140)) (j := 529) rfl (Sm.at hSz1387 (by decide) (zat_set ez1380 (by decide) (hM.2 140 (by decide) (by decide)))) rfl (by decide) (by omega) ?_
    refine zw_top (x' := (nI c)) (congrArg nI ht.1) ?_
    refine zw_n 2 rfl ?_
    refine zw_top (ns (a := c) (b := 1) rfl rfl (by omega)) ?_
    refine zw_iastN (g := (f 140)) (j := 529) (v := (c - 1)) rfl (Sm.at hSz1387 (by decide) (zat_set ez1380 (by decide) (hM.2 140 (by decide) (by decide)))) rfl (by decide) (by omega) (rfl) ?_
    generalize ez1393 : List.set Mz1390 140 _ = Mz1392
    refine zw_n 2 (ls' := [some (.ref 139), some (.int (nI x)), some (.int (nI x))]) rfl ?_
    have mz1394 : Mz1392[140]? = some (.inl (0, 590, .inl (ai (up (f 140) 529 (c - 1))))) := zat_self ez1393 (Sm.at hSz1387 (by decide) (zat_set ez1380 (by decide) (hM.2 140 (by decide) (by decide))))
    have mz1395 : Mz1392[143]? = some (.inl (0, 610, .inl (ai Uz1385))) := zat_set ez1393 (by decide) (hMMz1386.2 143 (by decide) (by decide))
    have sz1396 : Sm Mq Mz1392 [139, 140, 143] := Sm.tset (Sm.tw (Sm.tset Sm.rf ez1380 (by decide)) hSz1387 (by decide)) ez1393 (by decide)
    have lp34 : ∀ (n34 : Nat) (j : Nat) (R : Nat → Nat) (M_34 : zM), Sm Mq M_34 [139, 140, 143] → M_34[140]? = some (.inl (0, 590, .inl (ai R))) → M_34[139]? = some (.inr (12, [.int 0, .ref 140, .ref 141, .ref 142, .ref 143, .int (nI (if o 5 = 10 then 10 else o 5 + 1)), .ref 144, .int (nI (o 7)), .int (nI (o 8)), .int (nI (o 9)), .int (nI (o 10)), .ref 145, .ref 146, .ref 147, .ref 148, .ref 149, .ref 150, .ref 151, .ref 152, .ref 153, .ref 154, .ref 155, .ref 156, .ref 157, .ref 158, .ref 159, .ref 160, .ref 161, .ref 162, .ref 163, .ref 164, .int (nI (o 31)), .ref 165, .int (nI (o 33)), .ref 166, .ref 167, .ref 168, .ref 169, .int (nI (o 38)), .ref 170, .ref 171, .ref 172, .ref 173, .ref 174, .ref 175, .int (nI (o 45)), .int (nI (o 46)), .int (nI (o 47)), .long (lN (o 48)), .ref 176])) → M_34[143]? = some (.inl (0, 610, .inl (ai Uz1385))) → (x ≤ j ∧ j ≤ c - 1 ∧ R = tkR (f 140) c x j) → c - 1 - j < n34 → Zw 2 zm_MO_take 34 [some (.ref 139), some (.int (nI x)), some (.int (nI j))] [] M_34 (fun r9 M1 => r9 = some (.int (nI (c - 1))) ∧ ∃ R U, MM M1 (up (up o 0 0) 5 (if o 5 = 10 then 10 else o 5 + 1)) (fset (fset f 143 U) 140 R) ∧ Sm Mq M1 [139, 140, 143] ∧ UnS (o 5) (f 143) (f 140) U ∧ (∀ q, q < 529 → R q = f 140 q) ∧ (∀ q, R q < 2147483648) ∧ RelT (fset f 140 R) (c - 1) (tkF x sg) (tkF x li) (tkF x co)) := by
      intro n34
      induction n34 with
      | zero => intro j R M_34 _ _ _ _ _ h; exact absurd h (Nat.not_lt_zero _)
      | succ n34 ih34 =>
        intro j R M_34 s_34 f34_0 f34_1 f34_2 hi34 hm34
        obtain ⟨hj8, hj9, hR⟩ := hi34
        refine zw_n 2 rfl ?_
        refine zw_callV (as := []) (rest := [.int (nI j)]) rfl rfl rfl f34_1 rfl rfl rfl (by decide) (m_tok1 M_34 (up (up o 0 0) 5 (if o 5 = 10 then 10 else o 5 + 1)) (fset (fset f 143 Uz1385) 140 R) (MM.of (o' := up (up o 0 0) 5 (if o 5 = 10 then 10 else o 5 + 1)) (f' := fset (fset f 143 Uz1385) 140 R) hM s_34 f34_1 (c1_skip (c1_cons f34_0 (c1_cons f34_2 c1_nil))) (fs_k (fs_c (fs_c fs_n)))) (c - 1) ((congrFun hR _).trans (if_pos rfl))) (fun rz1397 Mz1398 hz1399 => ?_)
        rw [hz1399.1, hz1399.2]
        show Zw 2 zm_MO_take 39 [some (.ref 139), some (.int (nI x)), some (.int (nI j))] [.int (nI (c - 1)), .int (nI j)] M_34 _
        refine zw_igeN (a := j) (b := c - 1) rfl rfl rfl (by omega) (by omega) (fun c39 => ?_) (fun c39 => ?_)
        · -- 39 to 114
          refine zw_n 1 rfl ?_
          refine zw_callV (as := []) (rest := []) rfl rfl rfl f34_1 rfl rfl rfl (by decide) (m_tok1 M_34 (up (up o 0 0) 5 (if o 5 = 10 then 10 else o 5 + 1)) (fset (fset f 143 Uz1385) 140 R) (MM.of (o' := up (up o 0 0) 5 (if o 5 = 10 then 10 else o 5 + 1)) (f' := fset (fset f 143 Uz1385) 140 R) hM s_34 f34_1 (c1_skip (c1_cons f34_0 (c1_cons f34_2 c1_nil))) (fs_k (fs_c (fs_c fs_n)))) (c - 1) ((congrFun hR _).trans (if_pos rfl))) (fun rz1400 Mz1401 hz1402 => ?_)
          rw [hz1402.1, hz1402.2]
          show Zw 2 zm_MO_take 118 [some (.ref 139), some (.int (nI x)), some (.int (nI j))] [.int (nI (c - 1))] M_34 _
          exact zw_iret rfl rfl (⟨rfl, _, _, (MM.of (o' := up (up o 0 0) 5 (if o 5 = 10 then 10 else o 5 + 1)) (f' := fset (fset f 143 Uz1385) 140 R) hM s_34 f34_1 (c1_skip (c1_cons f34_0 (c1_cons f34_2 c1_nil))) (fs_k (fs_c (fs_c fs_n)))), s_34, hUz1388, fun q hq => (congrFun hR _).trans (tkR_o (by omega) (by omega) (by omega) (by omega)), fun q => by rw [hR]; exact tkR_lt hq0 (by omega) q, RelT.take ht hx hc20 (by omega) hR⟩)
        · -- 39 to 42
          refine zw_n 1 rfl ?_
          refine zw_get (v := .ref 140) rfl f34_1 rfl ?_
          refine zw_n 3 rfl ?_
          refine zw_top (na (a := 530) (b := j) rfl rfl) ?_
          refine zw_n 1 rfl ?_
          refine zw_get (v := .ref 140) rfl f34_1 rfl ?_
          refine zw_n 3 rfl ?_
          refine zw_top (na (a := 530) (b := j) rfl rfl) ?_
          refine zw_n 2 rfl ?_
          refine zw_top (na (a := 530 + j) (b := 1) rfl rfl) ?_
          refine zw_iald (f := ai R) (j := ((530 + j) + 1)) rfl f34_0 rfl (by decide) (by omega) ?_
          refine zw_iastN (g := R) (j := (530 + j)) (v := (R ((530 + j) + 1))) rfl f34_0 rfl (by decide) (by omega) (rfl) ?_
          generalize ez1404 : List.set M_34 140 _ = Mz1403
          refine zw_n 1 rfl ?_
          refine zw_get (v := .ref 140) rfl (zat_set ez1404 (by decide) f34_1) rfl ?_
          refine zw_n 3 rfl ?_
          refine zw_top (na (a := 550) (b := j) rfl rfl) ?_
          refine zw_n 1 rfl ?_
          refine zw_get (v := .ref 140) rfl (zat_set ez1404 (by decide) f34_1) rfl ?_
          refine zw_n 3 rfl ?_
          refine zw_top (na (a := 550) (b := j) rfl rfl) ?_
          refine zw_n 2 rfl ?_
          refine zw_top (na (a := 550 + j) (b := 1) rfl rfl) ?_
          refine zw_iald (f := ai (up R (530 + j) (R ((530 + j) + 1)))) (j := ((550 + j) + 1)) rfl (zat_self ez1404 f34_0) rfl (by decide) (by omega) ?_
          refine zw_iastN (g := (up R (530 + j) (R ((530 + j) + 1)))) (j := (550 + j)) (v := ((up R (530 + j) (R ((530 + j) + 1))) ((550 + j) + 1))) rfl (zat_self ez1404 f34_0) rfl (by decide) (by omega) (rfl) ?_
          generalize ez1406 : List.set Mz1403 140 _ = Mz1405
          refine zw_n 1 rfl ?_
          refine zw_get (v := .ref 140) rfl (zat_set ez1406 (by decide) (zat_set ez1404 (by decide) f34_1)) rfl ?_
          refine zw_n 3 rfl ?_
          refine zw_top (na (a := 570) (b := j) rfl rfl) ?_
          refine zw_n 1 rfl ?_
          refine zw_get (v := .ref 140) rfl (zat_set ez1406 (by decide) (zat_set ez1404 (by decide) f34_1)) rfl ?_
          refine zw_n 3 rfl ?_
          refine zw_top (na (a := 570) (b := j) rfl rfl) ?_
          refine zw_n 2 rfl ?_
          refine zw_top (na (a := 570 + j) (b := 1) rfl rfl) ?_
          refine zw_iald (f := ai (up (up R (530 + j) (R ((530 + j) + 1))) (550 + j) ((up R (530 + j) (R ((530 + j) + 1))) ((550 + j) + 1)))) (j := ((570 + j) + 1)) rfl (zat_self ez1406 (zat_self ez1404 f34_0)) rfl (by decide) (by omega) ?_
          refine zw_iastN (g := (up (up R (530 + j) (R ((530 + j) + 1))) (550 + j) ((up R (530 + j) (R ((530 + j) + 1))) ((550 + j) + 1)))) (j := (570 + j)) (v := ((up (up R (530 + j) (R ((530 + j) + 1))) (550 + j) ((up R (530 + j) (R ((530 + j) + 1))) ((550 + j) + 1))) ((570 + j) + 1))) rfl (zat_self ez1406 (zat_self ez1404 f34_0)) rfl (by decide) (by omega) (rfl) ?_
          generalize ez1408 : List.set Mz1405 140 _ = Mz1407
          refine zw_inc rfl (x' := (nI (j + 1))) (ls' := [some (.ref 139), some (.int (nI x)), some (.int (nI (j + 1)))]) rfl (na (a := j) (b := 1) rfl rfl) rfl ?_
          refine zw_n 1 rfl ?_
          exact ih34 (j + 1) (up (up (up R (530 + j) (R ((530 + j) + 1))) (550 + j) ((up R (530 + j) (R ((530 + j) + 1))) ((550 + j) + 1))) (570 + j) ((up (up R (530 + j) (R ((530 + j) + 1))) (550 + j) ((up R (530 + j) (R ((530 + j) + 1))) ((550 + j) + 1))) ((570 + j) + 1))) Mz1407 (Sm.tset (Sm.tset (Sm.tset s_34 ez1404 (by decide)) ez1406 (by decide)) ez1408 (by decide)) (zat_self ez1408 (zat_self ez1406 (zat_self ez1404 f34_0))) (zat_set ez1408 (by decide) (zat_set ez1406 (by decide) (zat_set ez1404 (by decide) f34_1))) (zat_set ez1408 (by decide) (zat_set ez1406 (by decide) (zat_set ez1404 (by decide) f34_2))) (⟨by omega, by omega, by rw [hR]; exact tkR_s (by omega) (by omega) (by omega)⟩) (by omega)
    exact lp34 _ x (up (f 140) 529 (c - 1)) Mz1392 sz1396 mz1394 (zat_set ez1393 (by decide) hMMz1386.1) mz1395 (⟨Nat.le_refl _, by omega, (tkR_0 ..).symm⟩) (Nat.lt_succ_self _)
  · -- 10 to 13
    exfalso
    exact ite_eq0 c10 (by rw [nI_toInt (by omega)]; omega)

set_option maxHeartbeats 4000000 in
set_option maxRecDepth 100000 in
theorem m_changeA (Mq : zM) (o : Nat → Nat) (f : Nat → Nat → Nat) (hM : MM Mq o f) (c : Nat) (sg li co : Nat → Nat) (ht : RelT f c sg li co) (hS : SafeT c sg li co) (x z : Int32) (hz : ¬ (33 ≤ z.toInt ∧ z.toInt ≤ 126)) : Zm 2 zm_MO_change [.ref 139, .int x, .int z] Mq (fun r9 M1 => r9 = some (.int (-1)) ∧ MM M1 (up o 0 0) f ∧ Sm Mq M1 [139]) := by
  show Zw 2 zm_MO_change 0 [some (.ref 139), some (.int x), some (.int z), none] [] Mq _
  have hc20 := hS.1
  have hli := hS.2.2.1
  have hco := hS.2.2.2
  refine zw_n 2 rfl ?_
  refine zw_put rfl hM.1 (rfl) (Nat.le_of_ble_eq_true rfl) ?_
  generalize ez1410 : List.set Mq 139 _ = Mz1409
  refine zw_n 1 rfl ?_
  refine zw_callS (as := [.int z]) (rest := []) rfl rfl rfl rfl rfl rfl (by decide) (m_isSign _ z) (fun rz1411 Mz1412 hz1413 => ?_)
  rw [hz1413.1, hz1413.2]
  show Zw 2 zm_MO_change 9 [some (.ref 139), some (.int x), some (.int z), none] [.int (nI (if 33 ≤ z.toInt ∧ z.toInt ≤ 126 then 1 else 0))] Mz1409 _
  refine zw_ne0N (a := if 33 ≤ z.toInt ∧ z.toInt ≤ 126 then 1 else 0) rfl rfl (ite_b) (fun c9 => ?_) (fun c9 => ?_)
  · -- 9 to 14
    exfalso
    exact hz (ite_ne c9)
  · -- 9 to 12
    refine zw_n 1 rfl ?_
    exact zw_iret rfl rfl (⟨rfl, (MM.of (o' := up o 0 0) (f' := f) hM (Sm.tset Sm.rf ez1410 (by decide)) (zat_self ez1410 hM.1) (c1_skip c1_nil) (fs_k fs_n)), Sm.tset Sm.rf ez1410 (by decide)⟩)

set_option maxHeartbeats 4000000 in
set_option maxRecDepth 100000 in
theorem m_changeB (Mq : zM) (o : Nat → Nat) (f : Nat → Nat → Nat) (hM : MM Mq o f) (c : Nat) (sg li co : Nat → Nat) (ht : RelT f c sg li co) (hS : SafeT c sg li co) (x z : Int32) (hz : 33 ≤ z.toInt ∧ z.toInt ≤ 126) (hx : ¬ (0 ≤ x.toInt ∧ x.toInt < c)) : Zm 2 zm_MO_change [.ref 139, .int x, .int z] Mq (fun r9 M1 => r9 = some (.int (-2)) ∧ MM M1 (up o 0 0) f ∧ Sm Mq M1 [139]) := by
  show Zw 2 zm_MO_change 0 [some (.ref 139), some (.int x), some (.int z), none] [] Mq _
  have hc20 := hS.1
  have hli := hS.2.2.1
  have hco := hS.2.2.2
  refine zw_n 2 rfl ?_
  refine zw_put rfl hM.1 (rfl) (Nat.le_of_ble_eq_true rfl) ?_
  generalize ez1415 : List.set Mq 139 _ = Mz1414
  refine zw_n 1 rfl ?_
  refine zw_callS (as := [.int z]) (rest := []) rfl rfl rfl rfl rfl rfl (by decide) (m_isSign _ z) (fun rz1416 Mz1417 hz1418 => ?_)
  rw [hz1418.1, hz1418.2]
  show Zw 2 zm_MO_change 9 [some (.ref 139), some (.int x), some (.int z), none] [.int (nI (if 33 ≤ z.toInt ∧ z.toInt ≤ 126 then 1 else 0))] Mz1414 _
  refine zw_ne0N (a := if 33 ≤ z.toInt ∧ z.toInt ≤ 126 then 1 else 0) rfl rfl (ite_b) (fun c9 => ?_) (fun c9 => ?_)
  · -- 9 to 14
    refine zw_n 2 rfl ?_
    refine zw_callV (as := [.int x]) (rest := []) rfl rfl rfl (zat_self ez1415 hM.1) rfl rfl rfl (by decide) (m_isToken Mz1414 (up o 0 0) f (MM.of (o' := up o 0 0) (f' := f) hM (Sm.tset Sm.rf ez1415 (by decide)) (zat_self ez1415 hM.1) (c1_skip c1_nil) (fs_k fs_n)) c ht.1 (by omega) x) (fun rz1419 Mz1420 hz1421 => ?_)
    rw [hz1421.1, hz1421.2]
    show Zw 2 zm_MO_change 19 [some (.ref 139), some (.int x), some (.int z), none] [.int (nI (if 0 ≤ x.toInt ∧ x.toInt < c then 1 else 0))] Mz1414 _
    refine zw_ne0N (a := if 0 ≤ x.toInt ∧ x.toInt < c then 1 else 0) rfl rfl (ite_b) (fun c19 => ?_) (fun c19 => ?_)
    · -- 19 to 25
      exfalso
      exact hx (ite_ne c19)
    · -- 19 to 22
      refine zw_n 1 rfl ?_
      exact zw_iret rfl rfl (⟨rfl, (MM.of (o' := up o 0 0) (f' := f) hM (Sm.tset Sm.rf ez1415 (by decide)) (zat_self ez1415 hM.1) (c1_skip c1_nil) (fs_k fs_n)), Sm.tset Sm.rf ez1415 (by decide)⟩)
  · -- 9 to 12
    exfalso
    exact ite_eq0 c9 hz

set_option maxHeartbeats 4000000 in
set_option maxRecDepth 100000 in
theorem m_changeC (Mq : zM) (o : Nat → Nat) (f : Nat → Nat → Nat) (hM : MM Mq o f) (c : Nat) (sg li co : Nat → Nat) (ht : RelT f c sg li co) (hS : SafeT c sg li co) (x g : Nat) (hx : x < c) (hg : 33 ≤ g ∧ g ≤ 126) (hgx : sg x = g) : Zm 2 zm_MO_change [.ref 139, .int (nI x), .int (nI g)] Mq (fun r9 M1 => r9 = some (.int (-3)) ∧ MM M1 (up o 0 0) f ∧ Sm Mq M1 [139]) := by
  show Zw 2 zm_MO_change 0 [some (.ref 139), some (.int (nI x)), some (.int (nI g)), none] [] Mq _
  have hc20 := hS.1
  have hli := hS.2.2.1
  have hco := hS.2.2.2
  have hsx := hS.2.1 x
  refine zw_n 2 rfl ?_
  refine zw_put rfl hM.1 (rfl) (Nat.le_of_ble_eq_true rfl) ?_
  generalize ez1423 : List.set Mq 139 _ = Mz1422
  refine zw_n 1 rfl ?_
  refine zw_callS (as := [.int (nI g)]) (rest := []) rfl rfl rfl rfl rfl rfl (by decide) (m_isSign _ (nI g)) (fun rz1424 Mz1425 hz1426 => ?_)
  rw [hz1426.1, hz1426.2]
  show Zw 2 zm_MO_change 9 [some (.ref 139), some (.int (nI x)), some (.int (nI g)), none] [.int (nI (if 33 ≤ (nI g).toInt ∧ (nI g).toInt ≤ 126 then 1 else 0))] Mz1422 _
  refine zw_ne0N (a := if 33 ≤ (nI g).toInt ∧ (nI g).toInt ≤ 126 then 1 else 0) rfl rfl (ite_b) (fun c9 => ?_) (fun c9 => ?_)
  · -- 9 to 14
    refine zw_n 2 rfl ?_
    refine zw_callV (as := [.int (nI x)]) (rest := []) rfl rfl rfl (zat_self ez1423 hM.1) rfl rfl rfl (by decide) (m_isToken Mz1422 (up o 0 0) f (MM.of (o' := up o 0 0) (f' := f) hM (Sm.tset Sm.rf ez1423 (by decide)) (zat_self ez1423 hM.1) (c1_skip c1_nil) (fs_k fs_n)) c ht.1 (by omega) (nI x)) (fun rz1427 Mz1428 hz1429 => ?_)
    rw [hz1429.1, hz1429.2]
    show Zw 2 zm_MO_change 19 [some (.ref 139), some (.int (nI x)), some (.int (nI g)), none] [.int (nI (if 0 ≤ (nI x).toInt ∧ (nI x).toInt < c then 1 else 0))] Mz1422 _
    refine zw_ne0N (a := if 0 ≤ (nI x).toInt ∧ (nI x).toInt < c then 1 else 0) rfl rfl (ite_b) (fun c19 => ?_) (fun c19 => ?_)
    · -- 19 to 25
      refine zw_n 1 rfl ?_
      refine zw_get (v := .ref 140) rfl (zat_self ez1423 hM.1) rfl ?_
      refine zw_n 3 rfl ?_
      refine zw_top (na (a := 530) (b := x) rfl rfl) ?_
      refine zw_iald (f := ai (f 140)) (j := (530 + x)) rfl (zat_set ez1423 (by decide) (hM.2 140 (by decide) (by decide))) rfl (by decide) (by omega) ?_
      refine zw_top (x' := (nI (sg x))) (congrArg nI (ht.2 x (by omega)).1) ?_
      refine zw_n 3 (ls' := [some (.ref 139), some (.int (nI x)), some (.int (nI g)), some (.int (nI (sg x)))]) rfl ?_
      refine zw_ineN (a := sg x) (b := g) rfl rfl rfl (by omega) (by omega) (fun c38 => ?_) (fun c38 => ?_)
      · -- 38 to 44
        exfalso
        exact c38 hgx
      · -- 38 to 41
        refine zw_n 1 rfl ?_
        exact zw_iret rfl rfl (⟨rfl, (MM.of (o' := up o 0 0) (f' := f) hM (Sm.tset Sm.rf ez1423 (by decide)) (zat_self ez1423 hM.1) (c1_skip c1_nil) (fs_k fs_n)), Sm.tset Sm.rf ez1423 (by decide)⟩)
    · -- 19 to 22
      exfalso
      exact ite_eq0 c19 (by rw [nI_toInt (by omega)]; omega)
  · -- 9 to 12
    exfalso
    exact ite_eq0 c9 (by rw [nI_toInt (by omega)]; omega)

set_option maxHeartbeats 4000000 in
set_option maxRecDepth 100000 in
theorem m_changeOk (Mq : zM) (o : Nat → Nat) (f : Nat → Nat → Nat) (hM : MM Mq o f) (c : Nat) (sg li co : Nat → Nat) (ht : RelT f c sg li co) (hS : SafeT c sg li co) (ho : o 5 ≤ 10) (hq0 : ∀ q, f 140 q < 2147483648) (x g : Nat) (hx : x < c) (hg : 33 ≤ g ∧ g ≤ 126) (hgx : ¬ sg x = g) : Zm 2 zm_MO_change [.ref 139, .int (nI x), .int (nI g)] Mq (fun r9 M1 => r9 = some (.int (nI (sg x))) ∧ ∃ R U, MM M1 (up (up o 0 0) 5 (if o 5 = 10 then 10 else o 5 + 1)) (fset (fset f 143 U) 140 R) ∧ Sm Mq M1 [139, 140, 143] ∧ UnS (o 5) (f 143) (f 140) U ∧ (∀ q, q < 529 → R q = f 140 q) ∧ (∀ q, R q < 2147483648) ∧ RelT (fset f 140 R) c (up sg x g) li co) := by
  show Zw 2 zm_MO_change 0 [some (.ref 139), some (.int (nI x)), some (.int (nI g)), none] [] Mq _
  have hc20 := hS.1
  have hli := hS.2.2.1
  have hco := hS.2.2.2
  have hsx := hS.2.1 x
  refine zw_n 2 rfl ?_
  refine zw_put rfl hM.1 (rfl) (Nat.le_of_ble_eq_true rfl) ?_
  generalize ez1431 : List.set Mq 139 _ = Mz1430
  refine zw_n 1 rfl ?_
  refine zw_callS (as := [.int (nI g)]) (rest := []) rfl rfl rfl rfl rfl rfl (by decide) (m_isSign _ (nI g)) (fun rz1432 Mz1433 hz1434 => ?_)
  rw [hz1434.1, hz1434.2]
  show Zw 2 zm_MO_change 9 [some (.ref 139), some (.int (nI x)), some (.int (nI g)), none] [.int (nI (if 33 ≤ (nI g).toInt ∧ (nI g).toInt ≤ 126 then 1 else 0))] Mz1430 _
  refine zw_ne0N (a := if 33 ≤ (nI g).toInt ∧ (nI g).toInt ≤ 126 then 1 else 0) rfl rfl (ite_b) (fun c9 => ?_) (fun c9 => ?_)
  · -- 9 to 14
    refine zw_n 2 rfl ?_
    refine zw_callV (as := [.int (nI x)]) (rest := []) rfl rfl rfl (zat_self ez1431 hM.1) rfl rfl rfl (by decide) (m_isToken Mz1430 (up o 0 0) f (MM.of (o' := up o 0 0) (f' := f) hM (Sm.tset Sm.rf ez1431 (by decide)) (zat_self ez1431 hM.1) (c1_skip (c1_cons (zat_set ez1431 (by decide) (hM.2 140 (by decide) (by decide))) (c1_cons (zat_set ez1431 (by decide) (hM.2 143 (by decide) (by decide))) c1_nil))) (fs_k (fs_k (fs_k fs_n)))) c ht.1 (by omega) (nI x)) (fun rz1435 Mz1436 hz1437 => ?_)
    rw [hz1437.1, hz1437.2]
    show Zw 2 zm_MO_change 19 [some (.ref 139), some (.int (nI x)), some (.int (nI g)), none] [.int (nI (if 0 ≤ (nI x).toInt ∧ (nI x).toInt < c then 1 else 0))] Mz1430 _
    refine zw_ne0N (a := if 0 ≤ (nI x).toInt ∧ (nI x).toInt < c then 1 else 0) rfl rfl (ite_b) (fun c19 => ?_) (fun c19 => ?_)
    · -- 19 to 25
      refine zw_n 1 rfl ?_
      refine zw_get (v := .ref 140) rfl (zat_self ez1431 hM.1) rfl ?_
      refine zw_n 3 rfl ?_
      refine zw_top (na (a := 530) (b := x) rfl rfl) ?_
      refine zw_iald (f := ai (f 140)) (j := (530 + x)) rfl (zat_set ez1431 (by decide) (hM.2 140 (by decide) (by decide))) rfl (by decide) (by omega) ?_
      refine zw_top (x' := (nI (sg x))) (congrArg nI (ht.2 x (by omega)).1) ?_
      refine zw_n 3 (ls' := [some (.ref 139), some (.int (nI x)), some (.int (nI g)), some (.int (nI (sg x)))]) rfl ?_
      refine zw_ineN (a := sg x) (b := g) rfl rfl rfl (by omega) (by omega) (fun c38 => ?_) (fun c38 => ?_)
      · -- 38 to 44
        refine zw_n 1 rfl ?_
        refine zw_callV (as := []) (rest := []) rfl rfl rfl (zat_self ez1431 hM.1) rfl rfl rfl (by decide) (m_remember Mz1430 (up o 0 0) f (MM.of (o' := up o 0 0) (f' := f) hM (Sm.tset Sm.rf ez1431 (by decide)) (zat_self ez1431 hM.1) (c1_skip (c1_cons (zat_set ez1431 (by decide) (hM.2 140 (by decide) (by decide))) (c1_cons (zat_set ez1431 (by decide) (hM.2 143 (by decide) (by decide))) c1_nil))) (fs_k (fs_k (fs_k fs_n)))) (by first | exact ho | omega)) (fun rz1443 Mz1444 hz1445 => ?_)
        obtain ⟨hAz1438, Uz1439, hMMz1440, hSz1441, hUz1442⟩ := hz1445
        rw [hAz1438]
        show Zw 2 zm_MO_change 48 [some (.ref 139), some (.int (nI x)), some (.int (nI g)), some (.int (nI (sg x)))] [] Mz1444 _
        refine zw_n 1 rfl ?_
        refine zw_get (v := .ref 140) rfl hMMz1440.1 rfl ?_
        refine zw_n 3 rfl ?_
        refine zw_top (na (a := 530) (b := x) rfl rfl) ?_
        refine zw_n 1 rfl ?_
        refine zw_iastN (g := (f 140)) (j := (530 + x)) (v := g) rfl (Sm.at hSz1441 (by decide) (zat_set ez1431 (by decide) (hM.2 140 (by decide) (by decide)))) rfl (by decide) (by omega) (rfl) ?_
        generalize ez1447 : List.set Mz1444 140 _ = Mz1446
        refine zw_n 1 rfl ?_
        exact zw_iret rfl rfl (⟨rfl, _, _, (MM.of (o' := up (up o 0 0) 5 (if o 5 = 10 then 10 else o 5 + 1)) (f' := fset (fset f 143 Uz1439) 140 (up (f 140) (530 + x) g)) hM (Sm.tset (Sm.tw (Sm.tset Sm.rf ez1431 (by decide)) hSz1441 (by decide)) ez1447 (by decide)) (zat_set ez1447 (by decide) hMMz1440.1) (c1_skip (c1_cons (zat_self ez1447 (Sm.at hSz1441 (by decide) (zat_set ez1431 (by decide) (hM.2 140 (by decide) (by decide))))) (c1_cons (zat_set ez1447 (by decide) (hMMz1440.2 143 (by decide) (by decide))) c1_nil))) (fs_k (fs_c (fs_c fs_n)))), Sm.tset (Sm.tw (Sm.tset Sm.rf ez1431 (by decide)) hSz1441 (by decide)) ez1447 (by decide), hUz1442, fun q hq => up_n (by omega), up_lt hq0 (by omega), (show up _ _ _ _ = _ from up_n (by omega)).trans ht.1, fun k hk => ⟨rt_ch ht hk, (show up _ _ _ _ = _ from up_n (by omega)).trans (ht.2 k hk).2.1, (show up _ _ _ _ = _ from up_n (by omega)).trans (ht.2 k hk).2.2⟩⟩)
      · -- 38 to 41
        exfalso
        exact hgx c38
    · -- 19 to 22
      exfalso
      exact ite_eq0 c19 (by rw [nI_toInt (by omega)]; omega)
  · -- 9 to 12
    exfalso
    exact ite_eq0 c9 (by rw [nI_toInt (by omega)]; omega)

set_option maxHeartbeats 4000000 in
set_option maxRecDepth 100000 in
theorem m_partA (Mq : zM) (o : Nat → Nat) (f : Nat → Nat → Nat) (hM : MM Mq o f) (c : Nat) (sg li co : Nat → Nat) (ht : RelT f c sg li co) (hS : SafeT c sg li co) (x z : Int32) (hz : ¬ (0 ≤ z.toInt ∧ z.toInt < 40)) : Zm 2 zm_MO_part [.ref 139, .int x, .int z] Mq (fun r9 M1 => r9 = some (.int (-1)) ∧ MM M1 (up o 0 0) f ∧ Sm Mq M1 [139]) := by
  show Zw 2 zm_MO_part 0 [some (.ref 139), some (.int x), some (.int z), none, none, none] [] Mq _
  have hc20 := hS.1
  have hli := hS.2.2.1
  have hco := hS.2.2.2
  refine zw_n 2 rfl ?_
  refine zw_put rfl hM.1 (rfl) (Nat.le_of_ble_eq_true rfl) ?_
  generalize ez1449 : List.set Mq 139 _ = Mz1448
  refine zw_n 4 rfl ?_
  refine zw_callS (as := [.long (Int32.toInt64 z), .long 0, .long 39]) (rest := []) rfl rfl rfl rfl rfl rfl (by decide) (m_in Mz1448 (Int32.toInt64 z) 0 39 z.toInt 0 39 (Int32.toInt_toInt64 _) (by decide) (by decide)) (fun rz1450 Mz1451 hz1452 => ?_)
  rw [hz1452.1, hz1452.2]
  show Zw 2 zm_MO_part 14 [some (.ref 139), some (.int x), some (.int z), none, none, none] [.int (nI (if 0 ≤ z.toInt ∧ z.toInt ≤ 39 then 1 else 0))] Mz1448 _
  refine zw_ne0N (a := if 0 ≤ z.toInt ∧ z.toInt ≤ 39 then 1 else 0) rfl rfl (ite_b) (fun c14 => ?_) (fun c14 => ?_)
  · -- 14 to 19
    exfalso
    have := ite_ne c14; omega
  · -- 14 to 17
    refine zw_n 1 rfl ?_
    exact zw_iret rfl rfl (⟨rfl, (MM.of (o' := up o 0 0) (f' := f) hM (Sm.tset Sm.rf ez1449 (by decide)) (zat_self ez1449 hM.1) (c1_skip c1_nil) (fs_k fs_n)), Sm.tset Sm.rf ez1449 (by decide)⟩)

set_option maxHeartbeats 4000000 in
set_option maxRecDepth 100000 in
theorem m_partB (Mq : zM) (o : Nat → Nat) (f : Nat → Nat → Nat) (hM : MM Mq o f) (c : Nat) (sg li co : Nat → Nat) (ht : RelT f c sg li co) (hS : SafeT c sg li co) (x z : Int32) (hz : 0 ≤ z.toInt ∧ z.toInt < 40) (hx : ¬ (0 ≤ x.toInt ∧ x.toInt < c)) : Zm 2 zm_MO_part [.ref 139, .int x, .int z] Mq (fun r9 M1 => r9 = some (.int (-2)) ∧ MM M1 (up o 0 0) f ∧ Sm Mq M1 [139]) := by
  show Zw 2 zm_MO_part 0 [some (.ref 139), some (.int x), some (.int z), none, none, none] [] Mq _
  have hc20 := hS.1
  have hli := hS.2.2.1
  have hco := hS.2.2.2
  refine zw_n 2 rfl ?_
  refine zw_put rfl hM.1 (rfl) (Nat.le_of_ble_eq_true rfl) ?_
  generalize ez1454 : List.set Mq 139 _ = Mz1453
  refine zw_n 4 rfl ?_
  refine zw_callS (as := [.long (Int32.toInt64 z), .long 0, .long 39]) (rest := []) rfl rfl rfl rfl rfl rfl (by decide) (m_in Mz1453 (Int32.toInt64 z) 0 39 z.toInt 0 39 (Int32.toInt_toInt64 _) (by decide) (by decide)) (fun rz1455 Mz1456 hz1457 => ?_)
  rw [hz1457.1, hz1457.2]
  show Zw 2 zm_MO_part 14 [some (.ref 139), some (.int x), some (.int z), none, none, none] [.int (nI (if 0 ≤ z.toInt ∧ z.toInt ≤ 39 then 1 else 0))] Mz1453 _
  refine zw_ne0N (a := if 0 ≤ z.toInt ∧ z.toInt ≤ 39 then 1 else 0) rfl rfl (ite_b) (fun c14 => ?_) (fun c14 => ?_)
  · -- 14 to 19
    refine zw_n 2 rfl ?_
    refine zw_callV (as := [.int x]) (rest := []) rfl rfl rfl (zat_self ez1454 hM.1) rfl rfl rfl (by decide) (m_isToken Mz1453 (up o 0 0) f (MM.of (o' := up o 0 0) (f' := f) hM (Sm.tset Sm.rf ez1454 (by decide)) (zat_self ez1454 hM.1) (c1_skip c1_nil) (fs_k fs_n)) c ht.1 (by omega) x) (fun rz1458 Mz1459 hz1460 => ?_)
    rw [hz1460.1, hz1460.2]
    show Zw 2 zm_MO_part 24 [some (.ref 139), some (.int x), some (.int z), none, none, none] [.int (nI (if 0 ≤ x.toInt ∧ x.toInt < c then 1 else 0))] Mz1453 _
    refine zw_ne0N (a := if 0 ≤ x.toInt ∧ x.toInt < c then 1 else 0) rfl rfl (ite_b) (fun c24 => ?_) (fun c24 => ?_)
    · -- 24 to 30
      exfalso
      exact hx (ite_ne c24)
    · -- 24 to 27
      refine zw_n 1 rfl ?_
      exact zw_iret rfl rfl (⟨rfl, (MM.of (o' := up o 0 0) (f' := f) hM (Sm.tset Sm.rf ez1454 (by decide)) (zat_self ez1454 hM.1) (c1_skip c1_nil) (fs_k fs_n)), Sm.tset Sm.rf ez1454 (by decide)⟩)
  · -- 14 to 17
    exfalso
    have := ite_eq0 c14; omega

set_option maxHeartbeats 4000000 in
set_option maxRecDepth 100000 in
theorem m_partC (Mq : zM) (o : Nat → Nat) (f : Nat → Nat → Nat) (hM : MM Mq o f) (c : Nat) (sg li co : Nat → Nat) (ht : RelT f c sg li co) (hS : SafeT c sg li co) (x d : Nat) (hx : x < c) (hd : d < 40) (hs : Srt c li co) (hp : ¬ ptOk c li co x d) : Zm 2 zm_MO_part [.ref 139, .int (nI x), .int (nI d)] Mq (fun r9 M1 => r9 = some (.int (-3)) ∧ MM M1 (up o 0 0) f ∧ Sm Mq M1 [139]) := by
  show Zw 2 zm_MO_part 0 [some (.ref 139), some (.int (nI x)), some (.int (nI d)), none, none, none] [] Mq _
  have hc20 := hS.1
  have hli := hS.2.2.1
  have hco := hS.2.2.2
  have hcx := hco x
  have hlx := hli x
  have hzz : (nI d - nI (co x)).toInt = (d : Int) - (co x : Int) := nI_sub_toInt (by omega) (by omega)
  have hzl : (nI (li x)).toInt = (li x : Int) := nI_toInt (by omega)
  refine zw_n 2 rfl ?_
  refine zw_put rfl hM.1 (rfl) (Nat.le_of_ble_eq_true rfl) ?_
  generalize ez1462 : List.set Mq 139 _ = Mz1461
  refine zw_n 4 rfl ?_
  refine zw_callS (as := [.long (Int32.toInt64 (nI d)), .long 0, .long 39]) (rest := []) rfl rfl rfl rfl rfl rfl (by decide) (m_in Mz1461 (Int32.toInt64 (nI d)) 0 39 ((d : Nat) : Int) 0 39 (l_nI (by omega)) (by decide) (by decide)) (fun rz1463 Mz1464 hz1465 => ?_)
  rw [hz1465.1, hz1465.2]
  show Zw 2 zm_MO_part 14 [some (.ref 139), some (.int (nI x)), some (.int (nI d)), none, none, none] [.int (nI (if 0 ≤ ((d : Nat) : Int) ∧ ((d : Nat) : Int) ≤ 39 then 1 else 0))] Mz1461 _
  refine zw_ne0N (a := if 0 ≤ ((d : Nat) : Int) ∧ ((d : Nat) : Int) ≤ 39 then 1 else 0) rfl rfl (ite_b) (fun c14 => ?_) (fun c14 => ?_)
  · -- 14 to 19
    refine zw_n 2 rfl ?_
    refine zw_callV (as := [.int (nI x)]) (rest := []) rfl rfl rfl (zat_self ez1462 hM.1) rfl rfl rfl (by decide) (m_isToken Mz1461 (up o 0 0) f (MM.of (o' := up o 0 0) (f' := f) hM (Sm.tset Sm.rf ez1462 (by decide)) (zat_self ez1462 hM.1) (c1_skip c1_nil) (fs_k fs_n)) c ht.1 (by omega) (nI x)) (fun rz1466 Mz1467 hz1468 => ?_)
    rw [hz1468.1, hz1468.2]
    show Zw 2 zm_MO_part 24 [some (.ref 139), some (.int (nI x)), some (.int (nI d)), none, none, none] [.int (nI (if 0 ≤ (nI x).toInt ∧ (nI x).toInt < c then 1 else 0))] Mz1461 _
    refine zw_ne0N (a := if 0 ≤ (nI x).toInt ∧ (nI x).toInt < c then 1 else 0) rfl rfl (ite_b) (fun c24 => ?_) (fun c24 => ?_)
    · -- 24 to 30
      refine zw_n 1 rfl ?_
      refine zw_get (v := .ref 140) rfl (zat_self ez1462 hM.1) rfl ?_
      refine zw_n 3 rfl ?_
      refine zw_top (na (a := 550) (b := x) rfl rfl) ?_
      refine zw_iald (f := ai (f 140)) (j := (550 + x)) rfl (zat_set ez1462 (by decide) (hM.2 140 (by decide) (by decide))) rfl (by decide) (by omega) ?_
      refine zw_top (x' := (nI (li x))) (congrArg nI (ht.2 x (by omega)).2.1) ?_
      refine zw_n 3 (ls' := [some (.ref 139), some (.int (nI x)), some (.int (nI d)), some (.int (nI (li x))), none, none]) rfl ?_
      refine zw_get (v := .ref 140) rfl (zat_self ez1462 hM.1) rfl ?_
      refine zw_n 3 rfl ?_
      refine zw_top (na (a := 570) (b := x) rfl rfl) ?_
      refine zw_iald (f := ai (f 140)) (j := (570 + x)) rfl (zat_set ez1462 (by decide) (hM.2 140 (by decide) (by decide))) rfl (by decide) (by omega) ?_
      refine zw_top (x' := (nI (co x))) (congrArg nI (ht.2 x (by omega)).2.2) ?_
      refine zw_n 1 rfl ?_
      refine zw_n 3 (ls' := [some (.ref 139), some (.int (nI x)), some (.int (nI d)), some (.int (nI (li x))), some (.int ((nI d) - (nI (co x)))), none]) rfl ?_
      refine zw_callV (as := [.int (nI x)]) (rest := []) rfl rfl rfl (zat_self ez1462 hM.1) rfl rfl rfl (by decide) (m_isFirst Mz1461 (up o 0 0) f (MM.of (o' := up o 0 0) (f' := f) hM (Sm.tset Sm.rf ez1462 (by decide)) (zat_self ez1462 hM.1) (c1_skip c1_nil) (fs_k fs_n)) c sg li co ht hS x (by omega)) (fun rz1469 Mz1470 hz1471 => ?_)
      rw [hz1471.1, hz1471.2]
      show Zw 2 zm_MO_part 60 [some (.ref 139), some (.int (nI x)), some (.int (nI d)), some (.int (nI (li x))), some (.int ((nI d) - (nI (co x)))), none] [.int (nI (if x = 0 ∨ li (x - 1) ≠ li x then 1 else 0))] Mz1461 _
      refine zw_ne0N (a := if x = 0 ∨ li (x - 1) ≠ li x then 1 else 0) rfl rfl (ite_b) (fun c60 => ?_) (fun c60 => ?_)
      · -- 60 to 74
        refine zw_n 1 rfl ?_
        exact zw_iret rfl rfl (⟨rfl, (MM.of (o' := up o 0 0) (f' := f) hM (Sm.tset Sm.rf ez1462 (by decide)) (zat_self ez1462 hM.1) (c1_skip c1_nil) (fs_k fs_n)), Sm.tset Sm.rf ez1462 (by decide)⟩)
      · -- 60 to 63
        refine zw_n 4 rfl ?_
        refine zw_callV (as := [.int (nI (li x)), .int (nI x), .int ((nI d) - (nI (co x)))]) (rest := []) rfl rfl rfl (zat_self ez1462 hM.1) rfl rfl rfl (by decide) (m_canMove Mz1461 (up o 0 0) f (MM.of (o' := up o 0 0) (f' := f) hM (Sm.tset Sm.rf ez1462 (by decide)) (zat_self ez1462 hM.1) (c1_skip c1_nil) (fs_k fs_n)) c sg li co ht hS (nI (li x)) ((nI d) - (nI (co x))) x (by omega) (by rw [hzz]; omega)) (fun rz1472 Mz1473 hz1474 => ?_)
        rw [hz1474.1, hz1474.2]
        show Zw 2 zm_MO_part 71 [some (.ref 139), some (.int (nI x)), some (.int (nI d)), some (.int (nI (li x))), some (.int ((nI d) - (nI (co x)))), none] [.int (nI (if stA li co (nI (li x)).toInt ((nI d) - (nI (co x))).toInt x c = true then 1 else 0))] Mz1461 _
        refine zw_ne0N (a := if stA li co (nI (li x)).toInt ((nI d) - (nI (co x))).toInt x c = true then 1 else 0) rfl rfl (ite_b) (fun c71 => ?_) (fun c71 => ?_)
        · -- 71 to 77
          exfalso
          have h9 := ite_ne c71; rw [hzz, hzl] at h9; exact hp ⟨ite_eq0 c60, (stA_pt hs hx hd hco).mp h9⟩
        · -- 71 to 74
          refine zw_n 1 rfl ?_
          exact zw_iret rfl rfl (⟨rfl, (MM.of (o' := up o 0 0) (f' := f) hM (Sm.tset Sm.rf ez1462 (by decide)) (zat_self ez1462 hM.1) (c1_skip c1_nil) (fs_k fs_n)), Sm.tset Sm.rf ez1462 (by decide)⟩)
    · -- 24 to 27
      exfalso
      exact ite_eq0 c24 (by rw [nI_toInt (by omega)]; omega)
  · -- 14 to 17
    exfalso
    have := ite_eq0 c14; omega

set_option maxHeartbeats 4000000 in
set_option maxRecDepth 100000 in
theorem m_partOk (Mq : zM) (o : Nat → Nat) (f : Nat → Nat → Nat) (hM : MM Mq o f) (c : Nat) (sg li co : Nat → Nat) (ht : RelT f c sg li co) (hS : SafeT c sg li co) (ho : o 5 ≤ 10) (hq0 : ∀ q, f 140 q < 2147483648) (x d : Nat) (hx : x < c) (hd : d < 40) (hs : Srt c li co) (hp : ptOk c li co x d) : Zm 2 zm_MO_part [.ref 139, .int (nI x), .int (nI d)] Mq (fun r9 M1 => r9 = some (.int (nI (li x + 1))) ∧ ∃ R U, MM M1 (up (up o 0 0) 5 (if o 5 = 10 then 10 else o 5 + 1)) (fset (fset f 143 U) 140 R) ∧ Sm Mq M1 [139, 140, 143] ∧ UnS (o 5) (f 143) (f 140) U ∧ (∀ q, q < 529 → R q = f 140 q) ∧ (∀ q, R q < 2147483648) ∧ RelT (fset f 140 R) c sg (ptL li x) (ptC li co x d)) := by
  show Zw 2 zm_MO_part 0 [some (.ref 139), some (.int (nI x)), some (.int (nI d)), none, none, none] [] Mq _
  have hc20 := hS.1
  have hli := hS.2.2.1
  have hco := hS.2.2.2
  have hcx := hco x
  have hlx := hli x
  have hzz : (nI d - nI (co x)).toInt = (d : Int) - (co x : Int) := nI_sub_toInt (by omega) (by omega)
  have hzl : (nI (li x)).toInt = (li x : Int) := nI_toInt (by omega)
  refine zw_n 2 rfl ?_
  refine zw_put rfl hM.1 (rfl) (Nat.le_of_ble_eq_true rfl) ?_
  generalize ez1476 : List.set Mq 139 _ = Mz1475
  refine zw_n 4 rfl ?_
  refine zw_callS (as := [.long (Int32.toInt64 (nI d)), .long 0, .long 39]) (rest := []) rfl rfl rfl rfl rfl rfl (by decide) (m_in Mz1475 (Int32.toInt64 (nI d)) 0 39 ((d : Nat) : Int) 0 39 (l_nI (by omega)) (by decide) (by decide)) (fun rz1477 Mz1478 hz1479 => ?_)
  rw [hz1479.1, hz1479.2]
  show Zw 2 zm_MO_part 14 [some (.ref 139), some (.int (nI x)), some (.int (nI d)), none, none, none] [.int (nI (if 0 ≤ ((d : Nat) : Int) ∧ ((d : Nat) : Int) ≤ 39 then 1 else 0))] Mz1475 _
  refine zw_ne0N (a := if 0 ≤ ((d : Nat) : Int) ∧ ((d : Nat) : Int) ≤ 39 then 1 else 0) rfl rfl (ite_b) (fun c14 => ?_) (fun c14 => ?_)
  · -- 14 to 19
    refine zw_n 2 rfl ?_
    refine zw_callV (as := [.int (nI x)]) (rest := []) rfl rfl rfl (zat_self ez1476 hM.1) rfl rfl rfl (by decide) (m_isToken Mz1475 (up o 0 0) f (MM.of (o' := up o 0 0) (f' := f) hM (Sm.tset Sm.rf ez1476 (by decide)) (zat_self ez1476 hM.1) (c1_skip (c1_cons (zat_set ez1476 (by decide) (hM.2 140 (by decide) (by decide))) (c1_cons (zat_set ez1476 (by decide) (hM.2 143 (by decide) (by decide))) c1_nil))) (fs_k (fs_k (fs_k fs_n)))) c ht.1 (by omega) (nI x)) (fun rz1480 Mz1481 hz1482 => ?_)
    rw [hz1482.1, hz1482.2]
    show Zw 2 zm_MO_part 24 [some (.ref 139), some (.int (nI x)), some (.int (nI d)), none, none, none] [.int (nI (if 0 ≤ (nI x).toInt ∧ (nI x).toInt < c then 1 else 0))] Mz1475 _
    refine zw_ne0N (a := if 0 ≤ (nI x).toInt ∧ (nI x).toInt < c then 1 else 0) rfl rfl (ite_b) (fun c24 => ?_) (fun c24 => ?_)
    · -- 24 to 30
      refine zw_n 1 rfl ?_
      refine zw_get (v := .ref 140) rfl (zat_self ez1476 hM.1) rfl ?_
      refine zw_n 3 rfl ?_
      refine zw_top (na (a := 550) (b := x) rfl rfl) ?_
      refine zw_iald (f := ai (f 140)) (j := (550 + x)) rfl (zat_set ez1476 (by decide) (hM.2 140 (by decide) (by decide))) rfl (by decide) (by omega) ?_
      refine zw_top (x' := (nI (li x))) (congrArg nI (ht.2 x (by omega)).2.1) ?_
      refine zw_n 3 (ls' := [some (.ref 139), some (.int (nI x)), some (.int (nI d)), some (.int (nI (li x))), none, none]) rfl ?_
      refine zw_get (v := .ref 140) rfl (zat_self ez1476 hM.1) rfl ?_
      refine zw_n 3 rfl ?_
      refine zw_top (na (a := 570) (b := x) rfl rfl) ?_
      refine zw_iald (f := ai (f 140)) (j := (570 + x)) rfl (zat_set ez1476 (by decide) (hM.2 140 (by decide) (by decide))) rfl (by decide) (by omega) ?_
      refine zw_top (x' := (nI (co x))) (congrArg nI (ht.2 x (by omega)).2.2) ?_
      refine zw_n 1 rfl ?_
      refine zw_n 3 (ls' := [some (.ref 139), some (.int (nI x)), some (.int (nI d)), some (.int (nI (li x))), some (.int ((nI d) - (nI (co x)))), none]) rfl ?_
      refine zw_callV (as := [.int (nI x)]) (rest := []) rfl rfl rfl (zat_self ez1476 hM.1) rfl rfl rfl (by decide) (m_isFirst Mz1475 (up o 0 0) f (MM.of (o' := up o 0 0) (f' := f) hM (Sm.tset Sm.rf ez1476 (by decide)) (zat_self ez1476 hM.1) (c1_skip (c1_cons (zat_set ez1476 (by decide) (hM.2 140 (by decide) (by decide))) (c1_cons (zat_set ez1476 (by decide) (hM.2 143 (by decide) (by decide))) c1_nil))) (fs_k (fs_k (fs_k fs_n)))) c sg li co ht hS x (by omega)) (fun rz1483 Mz1484 hz1485 => ?_)
      rw [hz1485.1, hz1485.2]
      show Zw 2 zm_MO_part 60 [some (.ref 139), some (.int (nI x)), some (.int (nI d)), some (.int (nI (li x))), some (.int ((nI d) - (nI (co x)))), none] [.int (nI (if x = 0 ∨ li (x - 1) ≠ li x then 1 else 0))] Mz1475 _
      refine zw_ne0N (a := if x = 0 ∨ li (x - 1) ≠ li x then 1 else 0) rfl rfl (ite_b) (fun c60 => ?_) (fun c60 => ?_)
      · -- 60 to 74
        exfalso
        first | exact hp.1 (ite_ne c60) | (have h9 := ite_eq0 c71; rw [hzz, hzl] at h9; exact h9 ((stA_pt hs hx hd hco).mpr hp.2))
      · -- 60 to 63
        refine zw_n 4 rfl ?_
        refine zw_callV (as := [.int (nI (li x)), .int (nI x), .int ((nI d) - (nI (co x)))]) (rest := []) rfl rfl rfl (zat_self ez1476 hM.1) rfl rfl rfl (by decide) (m_canMove Mz1475 (up o 0 0) f (MM.of (o' := up o 0 0) (f' := f) hM (Sm.tset Sm.rf ez1476 (by decide)) (zat_self ez1476 hM.1) (c1_skip (c1_cons (zat_set ez1476 (by decide) (hM.2 140 (by decide) (by decide))) (c1_cons (zat_set ez1476 (by decide) (hM.2 143 (by decide) (by decide))) c1_nil))) (fs_k (fs_k (fs_k fs_n)))) c sg li co ht hS (nI (li x)) ((nI d) - (nI (co x))) x (by omega) (by rw [hzz]; omega)) (fun rz1486 Mz1487 hz1488 => ?_)
        rw [hz1488.1, hz1488.2]
        show Zw 2 zm_MO_part 71 [some (.ref 139), some (.int (nI x)), some (.int (nI d)), some (.int (nI (li x))), some (.int ((nI d) - (nI (co x)))), none] [.int (nI (if stA li co (nI (li x)).toInt ((nI d) - (nI (co x))).toInt x c = true then 1 else 0))] Mz1475 _
        refine zw_ne0N (a := if stA li co (nI (li x)).toInt ((nI d) - (nI (co x))).toInt x c = true then 1 else 0) rfl rfl (ite_b) (fun c71 => ?_) (fun c71 => ?_)
        · -- 71 to 77
          refine zw_n 1 rfl ?_
          refine zw_callV (as := []) (rest := []) rfl rfl rfl (zat_self ez1476 hM.1) rfl rfl rfl (by decide) (m_remember Mz1475 (up o 0 0) f (MM.of (o' := up o 0 0) (f' := f) hM (Sm.tset Sm.rf ez1476 (by decide)) (zat_self ez1476 hM.1) (c1_skip (c1_cons (zat_set ez1476 (by decide) (hM.2 140 (by decide) (by decide))) (c1_cons (zat_set ez1476 (by decide) (hM.2 143 (by decide) (by decide))) c1_nil))) (fs_k (fs_k (fs_k fs_n)))) (by first | exact ho | omega)) (fun rz1494 Mz1495 hz1496 => ?_)
          obtain ⟨hAz1489, Uz1490, hMMz1491, hSz1492, hUz1493⟩ := hz1496
          rw [hAz1489]
          show Zw 2 zm_MO_part 81 [some (.ref 139), some (.int (nI x)), some (.int (nI d)), some (.int (nI (li x))), some (.int ((nI d) - (nI (co x)))), none] [] Mz1495 _
          refine zw_n 2 (ls' := [some (.ref 139), some (.int (nI x)), some (.int (nI d)), some (.int (nI (li x))), some (.int ((nI d) - (nI (co x)))), some (.int (nI x))]) rfl ?_
          have mz1497 : Mz1495[140]? = some (.inl (0, 590, .inl (ai (f 140)))) := Sm.at hSz1492 (by decide) (zat_set ez1476 (by decide) (hM.2 140 (by decide) (by decide)))
          have lp84 : ∀ (n84 : Nat) (j : Nat) (R : Nat → Nat) (M_84 : zM), Sm Mq M_84 [139, 140, 143] → M_84[140]? = some (.inl (0, 590, .inl (ai R))) → M_84[139]? = some (.inr (12, [.int 0, .ref 140, .ref 141, .ref 142, .ref 143, .int (nI (if o 5 = 10 then 10 else o 5 + 1)), .ref 144, .int (nI (o 7)), .int (nI (o 8)), .int (nI (o 9)), .int (nI (o 10)), .ref 145, .ref 146, .ref 147, .ref 148, .ref 149, .ref 150, .ref 151, .ref 152, .ref 153, .ref 154, .ref 155, .ref 156, .ref 157, .ref 158, .ref 159, .ref 160, .ref 161, .ref 162, .ref 163, .ref 164, .int (nI (o 31)), .ref 165, .int (nI (o 33)), .ref 166, .ref 167, .ref 168, .ref 169, .int (nI (o 38)), .ref 170, .ref 171, .ref 172, .ref 173, .ref 174, .ref 175, .int (nI (o 45)), .int (nI (o 46)), .int (nI (o 47)), .long (lN (o 48)), .ref 176])) → M_84[143]? = some (.inl (0, 610, .inl (ai Uz1490))) → (x ≤ j ∧ j ≤ c ∧ R = ptR (f 140) li co x d j) → c - j < n84 → Zw 2 zm_MO_part 84 [some (.ref 139), some (.int (nI x)), some (.int (nI d)), some (.int (nI (li x))), some (.int ((nI d) - (nI (co x)))), some (.int (nI j))] [] M_84 (fun r9 M1 => r9 = some (.int (nI (li x + 1))) ∧ ∃ R U, MM M1 (up (up o 0 0) 5 (if o 5 = 10 then 10 else o 5 + 1)) (fset (fset f 143 U) 140 R) ∧ Sm Mq M1 [139, 140, 143] ∧ UnS (o 5) (f 143) (f 140) U ∧ (∀ q, q < 529 → R q = f 140 q) ∧ (∀ q, R q < 2147483648) ∧ RelT (fset f 140 R) c sg (ptL li x) (ptC li co x d)) := by
            intro n84
            induction n84 with
            | zero => intro j R M_84 _ _ _ _ _ h; exact absurd h (Nat.not_lt_zero _)
            | succ n84 ih84 =>
              intro j R M_84 s_84 f84_0 f84_1 f84_2 hi84 hm84
              obtain ⟨hj8, hj9, hR⟩ := hi84
              have hl1 := hli j
              refine zw_n 2 rfl ?_
              refine zw_callV (as := []) (rest := [.int (nI j)]) rfl rfl rfl f84_1 rfl rfl rfl (by decide) (m_tok1 M_84 (up (up o 0 0) 5 (if o 5 = 10 then 10 else o 5 + 1)) (fset (fset f 143 Uz1490) 140 R) (MM.of (o' := up (up o 0 0) 5 (if o 5 = 10 then 10 else o 5 + 1)) (f' := fset (fset f 143 Uz1490) 140 R) hM s_84 f84_1 (c1_skip (c1_cons f84_0 (c1_cons f84_2 c1_nil))) (fs_k (fs_c (fs_c fs_n)))) c ((congrFun hR _).trans ((ptR_o (by omega) (by omega)).trans ht.1))) (fun rz1498 Mz1499 hz1500 => ?_)
              rw [hz1500.1, hz1500.2]
              show Zw 2 zm_MO_part 90 [some (.ref 139), some (.int (nI x)), some (.int (nI d)), some (.int (nI (li x))), some (.int ((nI d) - (nI (co x)))), some (.int (nI j))] [.int (nI c), .int (nI j)] M_84 _
              refine zw_igeN (a := j) (b := c) rfl rfl rfl (by omega) (by omega) (fun c90 => ?_) (fun c90 => ?_)
              · -- 90 to 149
                refine zw_n 3 rfl ?_
                refine zw_top (na (a := li x) (b := 1) rfl rfl) ?_
                exact zw_iret rfl rfl (⟨rfl, _, _, (MM.of (o' := up (up o 0 0) 5 (if o 5 = 10 then 10 else o 5 + 1)) (f' := fset (fset f 143 Uz1490) 140 R) hM s_84 f84_1 (c1_skip (c1_cons f84_0 (c1_cons f84_2 c1_nil))) (fs_k (fs_c (fs_c fs_n)))), s_84, hUz1493, fun q hq => (congrFun hR _).trans (ptR_o (by omega) (by omega)), fun q => by rw [hR]; exact ptR_lt hq0 (fun q q1 q2 => by rw [(ht.2 q (by omega)).2.1]; have := hli q; omega) (fun q q1 q2 => Nat.lt_trans (ptC_lt hp hco q (by omega)) (by decide)) q, RelT.part ht hx hc20 (by rw [hR, show j = c by omega])⟩)
              · -- 90 to 93
                refine zw_n 1 rfl ?_
                refine zw_get (v := .ref 140) rfl f84_1 rfl ?_
                refine zw_n 3 rfl ?_
                refine zw_top (na (a := 570) (b := j) rfl rfl) ?_
                refine zw_n 1 rfl ?_
                refine zw_iald (f := ai R) (j := (570 + j)) rfl f84_0 rfl (by decide) (by omega) ?_
                refine zw_top (x' := (nI (co j))) (congrArg nI ((congrFun hR _).trans ((ptR_o (by omega) (by omega)).trans (ht.2 j (by omega)).2.2))) ?_
                have j105 : Zw 2 zm_MO_part 126 [some (.ref 139), some (.int (nI x)), some (.int (nI d)), some (.int (nI (li x))), some (.int ((nI d) - (nI (co x)))), some (.int (nI j))] [.int (if li j = li x then nI d - nI (co x) else 0), .int (nI (co j)), .int (nI (570 + j)), .ref 140] M_84 (fun r9 M1 => r9 = some (.int (nI (li x + 1))) ∧ ∃ R U, MM M1 (up (up o 0 0) 5 (if o 5 = 10 then 10 else o 5 + 1)) (fset (fset f 143 U) 140 R) ∧ Sm Mq M1 [139, 140, 143] ∧ UnS (o 5) (f 143) (f 140) U ∧ (∀ q, q < 529 → R q = f 140 q) ∧ (∀ q, R q < 2147483648) ∧ RelT (fset f 140 R) c sg (ptL li x) (ptC li co x d)) := by
                  refine zw_n 1 rfl ?_
                  refine zw_iastN (g := R) (j := (570 + j)) (v := (ptC li co x d j)) rfl f84_0 rfl (by decide) (by omega) (pt_st hs hco hd (by omega) (by omega)) ?_
                  generalize ez1502 : List.set M_84 140 _ = Mz1501
                  refine zw_n 1 rfl ?_
                  refine zw_get (v := .ref 140) rfl (zat_set ez1502 (by decide) f84_1) rfl ?_
                  refine zw_n 3 rfl ?_
                  refine zw_top (na (a := 550) (b := j) rfl rfl) ?_
                  refine zw_n 1 rfl ?_
                  refine zw_iald (f := ai (up R (570 + j) (ptC li co x d j))) (j := (550 + j)) rfl (zat_self ez1502 f84_0) rfl (by decide) (by omega) ?_
                  refine zw_top (x' := (nI (li j))) (congrArg nI ((show up _ _ _ _ = _ from up_n (by omega)).trans ((congrFun hR _).trans ((ptR_o (by omega) (by omega)).trans (ht.2 j (by omega)).2.1)))) ?_
                  refine zw_n 2 rfl ?_
                  refine zw_top (na (a := li j) (b := 1) rfl rfl) ?_
                  refine zw_iastN (g := (up R (570 + j) (ptC li co x d j))) (j := (550 + j)) (v := ((li j) + 1)) rfl (zat_self ez1502 f84_0) rfl (by decide) (by omega) (rfl) ?_
                  generalize ez1504 : List.set Mz1501 140 _ = Mz1503
                  refine zw_inc rfl (x' := (nI (j + 1))) (ls' := [some (.ref 139), some (.int (nI x)), some (.int (nI d)), some (.int (nI (li x))), some (.int ((nI d) - (nI (co x)))), some (.int (nI (j + 1)))]) rfl (na (a := j) (b := 1) rfl rfl) rfl ?_
                  refine zw_n 1 rfl ?_
                  exact ih84 (j + 1) (up (up R (570 + j) (ptC li co x d j)) (550 + j) ((li j) + 1)) Mz1503 (Sm.tset (Sm.tset s_84 ez1502 (by decide)) ez1504 (by decide)) (zat_self ez1504 (zat_self ez1502 f84_0)) (zat_set ez1504 (by decide) (zat_set ez1502 (by decide) f84_1)) (zat_set ez1504 (by decide) (zat_set ez1502 (by decide) f84_2)) (⟨by omega, by omega, by rw [hR]; exact ptR_s (by omega) (by omega) (ht.2 j (by omega)).2.1.symm⟩) (by omega)
                refine zw_n 1 rfl ?_
                refine zw_get (v := .ref 140) rfl f84_1 rfl ?_
                refine zw_n 3 rfl ?_
                refine zw_top (na (a := 550) (b := j) rfl rfl) ?_
                refine zw_iald (f := ai R) (j := (550 + j)) rfl f84_0 rfl (by decide) (by omega) ?_
                refine zw_top (x' := (nI (li j))) (congrArg nI ((congrFun hR _).trans ((ptR_o (by omega) (by omega)).trans (ht.2 j (by omega)).2.1))) ?_
                refine zw_n 1 rfl ?_
                refine zw_ineN (a := li j) (b := li x) rfl rfl rfl (by omega) (by omega) (fun c117 => ?_) (fun c117 => ?_)
                · -- 117 to 125
                  refine zw_n 1 rfl ?_
                  refine zw_top (x' := (if li j = li x then nI d - nI (co x) else 0)) (show (0 : Int32) = (if li j = li x then nI d - nI (co x) else 0) by rw [if_neg (by omega)]) ?_
                  exact j105
                · -- 117 to 120
                  refine zw_n 2 rfl ?_
                  refine zw_top (x' := (if li j = li x then nI d - nI (co x) else 0)) (show (nI d - nI (co x) : Int32) = (if li j = li x then nI d - nI (co x) else 0) by rw [if_pos (by omega)]) ?_
                  exact j105
          exact lp84 _ x (f 140) Mz1495 (Sm.tw (Sm.tset Sm.rf ez1476 (by decide)) hSz1492 (by decide)) mz1497 hMMz1491.1 (hMMz1491.2 143 (by decide) (by decide)) (⟨Nat.le_refl _, by omega, (ptR_0 ..).symm⟩) (Nat.lt_succ_self _)
        · -- 71 to 74
          exfalso
          first | exact hp.1 (ite_ne c60) | (have h9 := ite_eq0 c71; rw [hzz, hzl] at h9; exact h9 ((stA_pt hs hx hd hco).mpr hp.2))
    · -- 24 to 27
      exfalso
      exact ite_eq0 c24 (by rw [nI_toInt (by omega)]; omega)
  · -- 14 to 17
    exfalso
    have := ite_eq0 c14; omega
