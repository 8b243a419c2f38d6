set_option maxHeartbeats 4000000 in
set_option maxRecDepth 100000 in
theorem m_isNode (Mq : zM) (o : Nat → Nat) (f : Nat → Nat → Nat) (hM : MM Mq o f)(n : Nat) (gn al_ it pt tg bd : Nat → Nat) (hg : RelG f n gn al_ it pt tg bd) (hG : SafeG n gn al_ it pt tg bd) (hF : SafeF f) (c : Nat) (sg li co : Nat → Nat) (ht : RelT f c sg li co) (hS : SafeT c sg li co) (emp : Nat → Prop) (rk : Nat → Nat) (hA : Acyc (gE al_ it tg pt bd sg co) n emp rk) (x : Int32) : Zm 9 zm_MO_isNode [.ref 139, .int x] Mq (fun r9 M1 => r9 = some (.int (nI (if tFit (gE al_ it tg pt bd sg co) n c ∧ vlp x (tSz (gE al_ it tg pt bd sg co) n c) then 1 else 0))) ∧ ∃ o9 f9, MM M1 o9 f9 ∧ Sm Mq M1 [139, 156, 157, 158, 159, 160, 165, 167, 168, 169] ∧ Fsame f f9 [139, 156, 157, 158, 159, 160, 165, 167, 168, 169] ∧ SafeF f9 ∧ (∀ j, j ≠ 0 → j ≠ 33 → j ≠ 38 → o9 j = o j) ∧ o9 0 = o 0 ∧ (tFit (gE al_ it tg pt bd sg co) n c → TrS (gE al_ it tg pt bd sg co) n c (o9 33) (f9 165) ∧ (∀ p, p < c → f9 156 p = sg p ∧ f9 157 p = co p) ∧ VAll (gE al_ it tg pt bd sg co) n (c + 1) (f9 158))) := by
  show Zw 9 zm_MO_isNode 0 [some (.ref 139), some (.int x)] [] Mq _
  have hc20 := hS.1
  have hn8 := hG.1
  refine zw_n 1 rfl ?_
  refine zw_callV (as := []) (rest := []) rfl rfl rfl hM.1 rfl rfl rfl (by decide) (m_hasTree Mq o f hM n gn al_ it pt tg bd hg hG hF c sg li co ht hS emp rk hA) (fun rz5496 Mz5497 hz5498 => ?_)
  obtain ⟨hAT, oT, fT, hMT, hST, hFsT, hSFT, hoT, ho0T, hTT⟩ := hz5498
  rw [hAT]
  have hgT : RelG fT n gn al_ it pt tg bd := hg.keep (hFsT 140 (by decide)) (hFsT 153 (by decide))
  have htT : RelT fT c sg li co := ht.keep (hFsT 140 (by decide))
  show Zw 9 zm_MO_isNode 4 [some (.ref 139), some (.int x)] [.int (nI (if tFit (gE al_ it tg pt bd sg co) n c then 1 else 0))] Mz5497 _
  refine zw_eq0N (a := if tFit (gE al_ it tg pt bd sg co) n c then 1 else 0) rfl rfl (ite_b) (fun c4 => ?_) (fun c4 => ?_)
  · -- 4 to 27
    refine zw_n 1 rfl ?_
    exact zw_zret rfl rfl (Or.inl rfl) (⟨by rw [if_neg (fun q9 => ite_eq0 c4 q9.1)]; rfl, oT, fT, hMT, Sm.trans Sm.rf hST, hFsT, hSFT, hoT, ho0T, hTT⟩)
  · -- 4 to 7
    have hfit : tFit (gE al_ it tg pt bd sg co) n c := ite_ne c4
    have hTs := (hTT hfit).1
    have hTr : TrR (gE al_ it tg pt bd sg co) n c (oT 33) (fT 165) := hTs.rows (E := (gE al_ it tg pt bd sg co)) hA hn8 hG.2.2.1 hS.2.2.2 hG.2.2.2.2.2.2 hc20 hfit
    have hle := hTr.le
    obtain ⟨hcz, hcT⟩ := hTs.can (by omega)
    have hcq : tEq (oT 33) (fT 165) (tRw (gE al_ it tg pt bd sg co) n c) := hcT
    refine zw_n 4 rfl ?_
    refine zw_get (v := .int (nI (oT 33))) rfl hMT.1 rfl ?_
    refine zw_n 3 rfl ?_
    refine zw_callS (as := [.long (Int32.toInt64 x), .long 0, .long ((Int32.toInt64 (nI (oT 33))) - 1)]) (rest := []) rfl rfl rfl rfl rfl rfl (by decide) (m_in Mz5497 (Int32.toInt64 x) 0 ((Int32.toInt64 (nI (oT 33))) - 1) x.toInt 0 ((((oT 33) : Nat) : Int) - 1) (Int32.toInt_toInt64 _) (by decide) (l_sub1 (l_nI (by omega)) (by omega) (by omega))) (fun rz5499 Mz5500 hz5501 => ?_)
    rw [hz5501.1, hz5501.2]
    show Zw 9 zm_MO_isNode 20 [some (.ref 139), some (.int x)] [.int (nI (if 0 ≤ x.toInt ∧ x.toInt ≤ (((oT 33) : Nat) : Int) - 1 then 1 else 0))] Mz5497 _
    refine zw_eq0N (a := if 0 ≤ x.toInt ∧ x.toInt ≤ (((oT 33) : Nat) : Int) - 1 then 1 else 0) rfl rfl (ite_b) (fun c20 => ?_) (fun c20 => ?_)
    · -- 20 to 27
      refine zw_n 1 rfl ?_
      exact zw_zret rfl rfl (Or.inl rfl) (⟨by rw [if_neg (fun q9 => ite_eq0 c20 (by have := q9.2.1; have := q9.2.2; omega))]; rfl, oT, fT, hMT, Sm.trans Sm.rf hST, hFsT, hSFT, hoT, ho0T, hTT⟩)
    · -- 20 to 23
      refine zw_n 2 rfl ?_
      exact zw_zret rfl rfl (Or.inr rfl) (⟨by rw [if_pos ⟨hfit, ⟨by have := ite_ne c20; omega, by rw [← hcz]; have := ite_ne c20; omega⟩⟩]; rfl, oT, fT, hMT, Sm.trans Sm.rf hST, hFsT, hSFT, hoT, ho0T, hTT⟩)

set_option maxHeartbeats 4000000 in
set_option maxRecDepth 100000 in
theorem m_node (Mq : zM) (o : Nat → Nat) (f : Nat → Nat → Nat) (hM : MM Mq o f)(n : Nat) (gn al_ it pt tg bd : Nat → Nat) (hg : RelG f n gn al_ it pt tg bd) (hG : SafeG n gn al_ it pt tg bd) (hF : SafeF f) (c : Nat) (sg li co : Nat → Nat) (ht : RelT f c sg li co) (hS : SafeT c sg li co) (emp : Nat → Prop) (rk : Nat → Nat) (hA : Acyc (gE al_ it tg pt bd sg co) n emp rk) (x w : Int32) : Zm 10 zm_MO_node [.ref 139, .int x, .int w] Mq (fun r9 M1 => r9 = some (.int (if tFit (gE al_ it tg pt bd sg co) n c then nodA (tSz (gE al_ it tg pt bd sg co) n c) (tRw (gE al_ it tg pt bd sg co) n c) x w else -1)) ∧ ∃ o9 f9, MM M1 o9 f9 ∧ Sm Mq M1 [139, 156, 157, 158, 159, 160, 165, 167, 168, 169] ∧ Fsame f f9 [139, 156, 157, 158, 159, 160, 165, 167, 168, 169] ∧ SafeF f9 ∧ (∀ j, j ≠ 0 → j ≠ 33 → j ≠ 38 → o9 j = o j) ∧ o9 0 = 0) := by
  show Zw 10 zm_MO_node 0 [some (.ref 139), some (.int x), some (.int w)] [] Mq _
  have hc20 := hS.1
  have hn8 := hG.1
  refine zw_n 2 rfl ?_
  refine zw_put rfl hM.1 (rfl) (Nat.le_of_ble_eq_true rfl) ?_
  generalize ez5503 : List.set Mq 139 _ = Mz5502
  refine zw_n 4 rfl ?_
  refine zw_callS (as := [.long (Int32.toInt64 w), .long 0, .long 6]) (rest := []) rfl rfl rfl rfl rfl rfl (by decide) (m_in Mz5502 (Int32.toInt64 w) 0 6 w.toInt 0 6 (Int32.toInt_toInt64 _) (by decide) (by decide)) (fun rz5504 Mz5505 hz5506 => ?_)
  rw [hz5506.1, hz5506.2]
  show Zw 10 zm_MO_node 14 [some (.ref 139), some (.int x), some (.int w)] [.int (nI (if 0 ≤ w.toInt ∧ w.toInt ≤ 6 then 1 else 0))] Mz5502 _
  refine zw_eq0N (a := if 0 ≤ w.toInt ∧ w.toInt ≤ 6 then 1 else 0) rfl rfl (ite_b) (fun c14 => ?_) (fun c14 => ?_)
  · -- 14 to 34
    refine zw_n 1 rfl ?_
    exact zw_iret rfl rfl (⟨by split; (unfold nodA; rw [if_neg (fun q9 => ite_eq0 c14 q9.1)]); rfl, up o 0 0, f, (MM.of (o' := up o 0 0) (f' := f) hM (Sm.tset Sm.rf ez5503 (by decide)) (zat_self ez5503 hM.1) (c1_skip (c1_cons (zat_set ez5503 (by decide) (hM.2 156 (by decide) (by decide))) (c1_cons (zat_set ez5503 (by decide) (hM.2 157 (by decide) (by decide))) (c1_cons (zat_set ez5503 (by decide) (hM.2 158 (by decide) (by decide))) (c1_cons (zat_set ez5503 (by decide) (hM.2 159 (by decide) (by decide))) (c1_cons (zat_set ez5503 (by decide) (hM.2 160 (by decide) (by decide))) (c1_cons (zat_set ez5503 (by decide) (hM.2 165 (by decide) (by decide))) (c1_cons (zat_set ez5503 (by decide) (hM.2 167 (by decide) (by decide))) (c1_cons (zat_set ez5503 (by decide) (hM.2 168 (by decide) (by decide))) (c1_cons (zat_set ez5503 (by decide) (hM.2 169 (by decide) (by decide))) c1_nil)))))))))) (fs_k (fs_k (fs_k (fs_k (fs_k (fs_k (fs_k (fs_k (fs_k (fs_k fs_n))))))))))), Sm.tset Sm.rf ez5503 (by decide), fun _ _ => rfl, hF, (fun j h0 h1 h2 => up_n h0), rfl⟩)
  · -- 14 to 17
    refine zw_n 2 rfl ?_
    refine zw_callV (as := [.int x]) (rest := []) rfl rfl rfl (zat_self ez5503 hM.1) rfl rfl rfl (by decide) (m_isNode Mz5502 (up o 0 0) f (MM.of (o' := up o 0 0) (f' := f) hM (Sm.tset Sm.rf ez5503 (by decide)) (zat_self ez5503 hM.1) (c1_skip (c1_cons (zat_set ez5503 (by decide) (hM.2 156 (by decide) (by decide))) (c1_cons (zat_set ez5503 (by decide) (hM.2 157 (by decide) (by decide))) (c1_cons (zat_set ez5503 (by decide) (hM.2 158 (by decide) (by decide))) (c1_cons (zat_set ez5503 (by decide) (hM.2 159 (by decide) (by decide))) (c1_cons (zat_set ez5503 (by decide) (hM.2 160 (by decide) (by decide))) (c1_cons (zat_set ez5503 (by decide) (hM.2 165 (by decide) (by decide))) (c1_cons (zat_set ez5503 (by decide) (hM.2 167 (by decide) (by decide))) (c1_cons (zat_set ez5503 (by decide) (hM.2 168 (by decide) (by decide))) (c1_cons (zat_set ez5503 (by decide) (hM.2 169 (by decide) (by decide))) c1_nil)))))))))) (fs_k (fs_k (fs_k (fs_k (fs_k (fs_k (fs_k (fs_k (fs_k (fs_k fs_n))))))))))) n gn al_ it pt tg bd hg hG hF c sg li co ht hS emp rk hA x) (fun rz5507 Mz5508 hz5509 => ?_)
    obtain ⟨hAT, oT, fT, hMT, hST, hFsT, hSFT, hoT, ho0T, hTT⟩ := hz5509
    rw [hAT]
    have hgT : RelG fT n gn al_ it pt tg bd := hg.keep (hFsT 140 (by decide)) (hFsT 153 (by decide))
    have htT : RelT fT c sg li co := ht.keep (hFsT 140 (by decide))
    show Zw 10 zm_MO_node 22 [some (.ref 139), some (.int x), some (.int w)] [.int (nI (if tFit (gE al_ it tg pt bd sg co) n c ∧ vlp x (tSz (gE al_ it tg pt bd sg co) n c) then 1 else 0))] Mz5508 _
    refine zw_eq0N (a := if tFit (gE al_ it tg pt bd sg co) n c ∧ vlp x (tSz (gE al_ it tg pt bd sg co) n c) then 1 else 0) rfl rfl (ite_b) (fun c22 => ?_) (fun c22 => ?_)
    · -- 22 to 34
      refine zw_n 1 rfl ?_
      exact zw_iret rfl rfl (⟨by split; (unfold nodA; rw [if_neg (fun q9 => ite_eq0 c22 ⟨by assumption, q9.2⟩)]); rfl, oT, fT, hMT, Sm.trans (Sm.tset Sm.rf ez5503 (by decide)) hST, hFsT, hSFT, (fun j h0 h1 h2 => (hoT j h0 h1 h2).trans (up_n h0)), ho0T⟩)
    · -- 22 to 25
      have hfit : tFit (gE al_ it tg pt bd sg co) n c := (ite_ne c22).1
      have hTs := (hTT hfit).1
      have hTr : TrR (gE al_ it tg pt bd sg co) n c (oT 33) (fT 165) := hTs.rows (E := (gE al_ it tg pt bd sg co)) hA hn8 hG.2.2.1 hS.2.2.2 hG.2.2.2.2.2.2 hc20 hfit
      have hle := hTr.le
      obtain ⟨hcz, hcT⟩ := hTs.can (by omega)
      have hcq : tEq (oT 33) (fT 165) (tRw (gE al_ it tg pt bd sg co) n c) := hcT
      have hx9 := (ite_ne c22).2
      have hx8 : x.toInt < oT 33 := by rw [hcz]; exact hx9.2
      have hw9 := ite_ne c14
      obtain ⟨xq, hqx⟩ : ∃ xq : Nat, x.toInt.toNat = xq := ⟨_, rfl⟩
      have hex : x = nI xq := by rw [← hqx]; exact i32_nat (hx9.1)
      obtain ⟨wq, hqw⟩ : ∃ wq : Nat, w.toInt.toNat = wq := ⟨_, rfl⟩
      have hew : w = nI wq := by rw [← hqw]; exact i32_nat (by omega)
      refine zw_lse (ls' := [some (.ref 139), some (.int (nI xq)), some (.int (nI wq))]) (by rw [← hex, ← hew]) ?_
      refine zw_n 3 rfl ?_
      refine zw_callV (as := [.int (nI xq), .int (nI wq)]) (rest := []) rfl rfl rfl hMT.1 rfl rfl rfl (by decide) (m_of Mz5508 oT fT hMT xq wq (by omega) (by omega)) (fun rz5510 Mz5511 hz5512 => ?_)
      rw [hz5512.1, hz5512.2]
      show Zw 10 zm_MO_node 31 [some (.ref 139), some (.int (nI xq)), some (.int (nI wq))] [.int (nI ((fT 165) (xq * 8 + wq)))] Mz5508 _
      refine zw_n 1 rfl ?_
      exact zw_iret rfl rfl (⟨by rw [if_pos hfit]; unfold nodA; rw [if_pos ⟨⟨by omega, by omega⟩, hx9⟩, hqx, hqw, ← hcT xq wq (by omega) (by omega)], oT, fT, hMT, Sm.trans (Sm.tset Sm.rf ez5503 (by decide)) hST, hFsT, hSFT, (fun j h0 h1 h2 => (hoT j h0 h1 h2).trans (up_n h0)), ho0T⟩)

set_option maxHeartbeats 4000000 in
set_option maxRecDepth 100000 in
theorem m_off (Mq : zM) (o : Nat → Nat) (f : Nat → Nat → Nat) (hM : MM Mq o f)(n : Nat) (gn al_ it pt tg bd : Nat → Nat) (hg : RelG f n gn al_ it pt tg bd) (hG : SafeG n gn al_ it pt tg bd) (hF : SafeF f) (c : Nat) (sg li co : Nat → Nat) (ht : RelT f c sg li co) (hS : SafeT c sg li co) (emp : Nat → Prop) (rk : Nat → Nat) (hA : Acyc (gE al_ it tg pt bd sg co) n emp rk) (x : Int32) : Zm 10 zm_MO_off [.ref 139, .int x] Mq (fun r9 M1 => r9 = some (.int (if tFit (gE al_ it tg pt bd sg co) n c then offA c (tSz (gE al_ it tg pt bd sg co) n c) (tRw (gE al_ it tg pt bd sg co) n c) x else -1)) ∧ ∃ o9 f9, MM M1 o9 f9 ∧ Sm Mq M1 [139, 156, 157, 158, 159, 160, 165, 167, 168, 169] ∧ Fsame f f9 [139, 156, 157, 158, 159, 160, 165, 167, 168, 169] ∧ SafeF f9 ∧ (∀ j, j ≠ 0 → j ≠ 33 → j ≠ 38 → o9 j = o j) ∧ o9 0 = 0) := by
  show Zw 10 zm_MO_off 0 [some (.ref 139), some (.int x), none, none] [] Mq _
  have hc20 := hS.1
  have hn8 := hG.1
  refine zw_n 2 rfl ?_
  refine zw_put rfl hM.1 (rfl) (Nat.le_of_ble_eq_true rfl) ?_
  generalize ez5514 : List.set Mq 139 _ = Mz5513
  refine zw_n 2 rfl ?_
  refine zw_callV (as := [.int x]) (rest := []) rfl rfl rfl (zat_self ez5514 hM.1) rfl rfl rfl (by decide) (m_isToken Mz5513 (up o 0 0) f (MM.of (o' := up o 0 0) (f' := f) hM (Sm.tset Sm.rf ez5514 (by decide)) (zat_self ez5514 hM.1) (c1_skip (c1_cons (zat_set ez5514 (by decide) (hM.2 156 (by decide) (by decide))) (c1_cons (zat_set ez5514 (by decide) (hM.2 157 (by decide) (by decide))) (c1_cons (zat_set ez5514 (by decide) (hM.2 158 (by decide) (by decide))) (c1_cons (zat_set ez5514 (by decide) (hM.2 159 (by decide) (by decide))) (c1_cons (zat_set ez5514 (by decide) (hM.2 160 (by decide) (by decide))) (c1_cons (zat_set ez5514 (by decide) (hM.2 165 (by decide) (by decide))) (c1_cons (zat_set ez5514 (by decide) (hM.2 167 (by decide) (by decide))) (c1_cons (zat_set ez5514 (by decide) (hM.2 168 (by decide) (by decide))) (c1_cons (zat_set ez5514 (by decide) (hM.2 169 (by decide) (by decide))) c1_nil)))))))))) (fs_k (fs_k (fs_k (fs_k (fs_k (fs_k (fs_k (fs_k (fs_k (fs_k fs_n))))))))))) c ht.1 (by omega) x) (fun rz5515 Mz5516 hz5517 => ?_)
  rw [hz5517.1, hz5517.2]
  show Zw 10 zm_MO_off 10 [some (.ref 139), some (.int x), none, none] [.int (nI (if 0 ≤ x.toInt ∧ x.toInt < c then 1 else 0))] Mz5513 _
  refine zw_eq0N (a := if 0 ≤ x.toInt ∧ x.toInt < c then 1 else 0) rfl rfl (ite_b) (fun c10 => ?_) (fun c10 => ?_)
  · -- 10 to 20
    refine zw_n 1 rfl ?_
    exact zw_iret rfl rfl (⟨by split; (unfold offA; rw [if_neg (ite_eq0 c10)]); rfl, up o 0 0, f, (MM.of (o' := up o 0 0) (f' := f) hM (Sm.tset Sm.rf ez5514 (by decide)) (zat_self ez5514 hM.1) (c1_skip (c1_cons (zat_set ez5514 (by decide) (hM.2 156 (by decide) (by decide))) (c1_cons (zat_set ez5514 (by decide) (hM.2 157 (by decide) (by decide))) (c1_cons (zat_set ez5514 (by decide) (hM.2 158 (by decide) (by decide))) (c1_cons (zat_set ez5514 (by decide) (hM.2 159 (by decide) (by decide))) (c1_cons (zat_set ez5514 (by decide) (hM.2 160 (by decide) (by decide))) (c1_cons (zat_set ez5514 (by decide) (hM.2 165 (by decide) (by decide))) (c1_cons (zat_set ez5514 (by decide) (hM.2 167 (by decide) (by decide))) (c1_cons (zat_set ez5514 (by decide) (hM.2 168 (by decide) (by decide))) (c1_cons (zat_set ez5514 (by decide) (hM.2 169 (by decide) (by decide))) c1_nil)))))))))) (fs_k (fs_k (fs_k (fs_k (fs_k (fs_k (fs_k (fs_k (fs_k (fs_k fs_n))))))))))), Sm.tset Sm.rf ez5514 (by decide), fun _ _ => rfl, hF, (fun j h0 h1 h2 => up_n h0), rfl⟩)
  · -- 10 to 13
    refine zw_n 1 rfl ?_
    refine zw_callV (as := []) (rest := []) rfl rfl rfl (zat_self ez5514 hM.1) rfl rfl rfl (by decide) (m_hasTree Mz5513 (up o 0 0) f (MM.of (o' := up o 0 0) (f' := f) hM (Sm.tset Sm.rf ez5514 (by decide)) (zat_self ez5514 hM.1) (c1_skip (c1_cons (zat_set ez5514 (by decide) (hM.2 156 (by decide) (by decide))) (c1_cons (zat_set ez5514 (by decide) (hM.2 157 (by decide) (by decide))) (c1_cons (zat_set ez5514 (by decide) (hM.2 158 (by decide) (by decide))) (c1_cons (zat_set ez5514 (by decide) (hM.2 159 (by decide) (by decide))) (c1_cons (zat_set ez5514 (by decide) (hM.2 160 (by decide) (by decide))) (c1_cons (zat_set ez5514 (by decide) (hM.2 165 (by decide) (by decide))) (c1_cons (zat_set ez5514 (by decide) (hM.2 167 (by decide) (by decide))) (c1_cons (zat_set ez5514 (by decide) (hM.2 168 (by decide) (by decide))) (c1_cons (zat_set ez5514 (by decide) (hM.2 169 (by decide) (by decide))) c1_nil)))))))))) (fs_k (fs_k (fs_k (fs_k (fs_k (fs_k (fs_k (fs_k (fs_k (fs_k fs_n))))))))))) n gn al_ it pt tg bd hg hG hF c sg li co ht hS emp rk hA) (fun rz5518 Mz5519 hz5520 => ?_)
    obtain ⟨hAT, oT, fT, hMT, hST, hFsT, hSFT, hoT, ho0T, hTT⟩ := hz5520
    rw [hAT]
    have hgT : RelG fT n gn al_ it pt tg bd := hg.keep (hFsT 140 (by decide)) (hFsT 153 (by decide))
    have htT : RelT fT c sg li co := ht.keep (hFsT 140 (by decide))
    show Zw 10 zm_MO_off 17 [some (.ref 139), some (.int x), none, none] [.int (nI (if tFit (gE al_ it tg pt bd sg co) n c then 1 else 0))] Mz5519 _
    refine zw_ne0N (a := if tFit (gE al_ it tg pt bd sg co) n c then 1 else 0) rfl rfl (ite_b) (fun c17 => ?_) (fun c17 => ?_)
    · -- 17 to 22
      have hfit : tFit (gE al_ it tg pt bd sg co) n c := ite_ne c17
      have hTs := (hTT hfit).1
      have hTr : TrR (gE al_ it tg pt bd sg co) n c (oT 33) (fT 165) := hTs.rows (E := (gE al_ it tg pt bd sg co)) hA hn8 hG.2.2.1 hS.2.2.2 hG.2.2.2.2.2.2 hc20 hfit
      have hle := hTr.le
      obtain ⟨hcz, hcT⟩ := hTs.can (by omega)
      have hcq : tEq (oT 33) (fT 165) (tRw (gE al_ it tg pt bd sg co) n c) := hcT
      have hx9 := ite_ne c10
      obtain ⟨xq, hqx⟩ : ∃ xq : Nat, x.toInt.toNat = xq := ⟨_, rfl⟩
      have hex : x = nI xq := by rw [← hqx]; exact i32_nat (hx9.1)
      refine zw_lse (ls' := [some (.ref 139), some (.int (nI xq)), none, none]) (by rw [← hex]) ?_
      refine zw_n 4 (ls' := [some (.ref 139), some (.int (nI xq)), some (.int 0), some (.int 0)]) rfl ?_
      have lp26 : ∀ (n26 : Nat) (a : Nat) (q : Nat), (q ≤ oT 33 ∧ a = offN (fT 165) xq q) → oT 33 - q < n26 → Zw 10 zm_MO_off 26 [some (.ref 139), some (.int (nI xq)), some (.int (nI a)), some (.int (nI q))] [] Mz5519 (fun r9 M1 => r9 = some (.int (if tFit (gE al_ it tg pt bd sg co) n c then offA c (tSz (gE al_ it tg pt bd sg co) n c) (tRw (gE al_ it tg pt bd sg co) n c) x else -1)) ∧ ∃ o9 f9, MM M1 o9 f9 ∧ Sm Mq M1 [139, 156, 157, 158, 159, 160, 165, 167, 168, 169] ∧ Fsame f f9 [139, 156, 157, 158, 159, 160, 165, 167, 168, 169] ∧ SafeF f9 ∧ (∀ j, j ≠ 0 → j ≠ 33 → j ≠ 38 → o9 j = o j) ∧ o9 0 = 0) := by
        intro n26
        induction n26 with
        | zero => intro a q _ h; exact absurd h (Nat.not_lt_zero _)
        | succ n26 ih26 =>
          intro a q hi26 hm26
          refine zw_n 2 rfl ?_
          refine zw_get (v := .int (nI (oT 33))) rfl hMT.1 rfl ?_
          refine zw_igeN (a := q) (b := oT 33) rfl rfl rfl (by omega) (by omega) (fun c31 => ?_) (fun c31 => ?_)
          · -- 31 to 69
            refine zw_n 1 rfl ?_
            exact zw_iret rfl rfl (⟨by rw [if_pos hfit, ← hcz, ← offA_cg hcq]; unfold offA; rw [if_pos hx9, hqx, hi26.2, show q = oT 33 by omega], oT, fT, hMT, Sm.trans (Sm.tset Sm.rf ez5514 (by decide)) hST, hFsT, hSFT, (fun j h0 h1 h2 => (hoT j h0 h1 h2).trans (up_n h0)), ho0T⟩)
          · -- 31 to 34
            have h7 := hTr.f7 q (by omega)
            refine zw_n 4 rfl ?_
            refine zw_callV (as := [.int (nI q), .int (nI xq)]) (rest := [.int (nI a)]) rfl rfl rfl hMT.1 rfl rfl rfl (by decide) (m_covers Mz5519 oT fT hMT _ _ _ _ hTr hc20 q xq (by omega) (by omega)) (fun rz5521 Mz5522 hz5523 => ?_)
            rw [hz5523.1, hz5523.2]
            show Zw 10 zm_MO_off 41 [some (.ref 139), some (.int (nI xq)), some (.int (nI a)), some (.int (nI q))] [.int (nI (if hsB (fT 165) xq q = true then 1 else 0)), .int (nI a)] Mz5519 _
            refine zw_eq0N (a := if hsB (fT 165) xq q = true then 1 else 0) rfl rfl (ite_b) (fun c41 => ?_) (fun c41 => ?_)
            · -- 41 to 60
              refine zw_n 2 rfl ?_
              refine zw_top (na (a := a) (b := 0) rfl rfl) ?_
              refine zw_n 1 (ls' := [some (.ref 139), some (.int (nI xq)), some (.int (nI (a + 0))), some (.int (nI q))]) rfl ?_
              refine zw_inc rfl (x' := (nI (q + 1))) (ls' := [some (.ref 139), some (.int (nI xq)), some (.int (nI (a + 0))), some (.int (nI (q + 1)))]) rfl (na (a := q) (b := 1) rfl rfl) rfl ?_
              refine zw_n 1 rfl ?_
              exact ih26 (a + 0) (q + 1) (⟨by omega, by first | exact offN_y hi26.2 (ite_ne c41) c53 | exact offN_n hi26.2 (fun q9 => ite_eq0 c41 q9.1) | exact offN_n hi26.2 (fun q9 => c53 q9.2)⟩) (by omega)
            · -- 41 to 44
              refine zw_n 3 rfl ?_
              refine zw_callV (as := [.int (nI q), .int 7]) (rest := [.int (nI a)]) rfl rfl rfl hMT.1 rfl rfl rfl (by decide) (m_of Mz5519 oT fT hMT q 7 (by omega) (by omega)) (fun rz5524 Mz5525 hz5526 => ?_)
              rw [hz5526.1, hz5526.2]
              show Zw 10 zm_MO_off 51 [some (.ref 139), some (.int (nI xq)), some (.int (nI a)), some (.int (nI q))] [.int (nI ((fT 165) (q * 8 + 7))), .int (nI a)] Mz5519 _
              refine zw_n 1 rfl ?_
              refine zw_ineN (a := (fT 165) (q * 8 + 7)) (b := 42) rfl rfl rfl (by omega) (by omega) (fun c53 => ?_) (fun c53 => ?_)
              · -- 53 to 60
                refine zw_n 2 rfl ?_
                refine zw_top (na (a := a) (b := 0) rfl rfl) ?_
                refine zw_n 1 (ls' := [some (.ref 139), some (.int (nI xq)), some (.int (nI (a + 0))), some (.int (nI q))]) rfl ?_
                refine zw_inc rfl (x' := (nI (q + 1))) (ls' := [some (.ref 139), some (.int (nI xq)), some (.int (nI (a + 0))), some (.int (nI (q + 1)))]) rfl (na (a := q) (b := 1) rfl rfl) rfl ?_
                refine zw_n 1 rfl ?_
                exact ih26 (a + 0) (q + 1) (⟨by omega, by first | exact offN_y hi26.2 (ite_ne c41) c53 | exact offN_n hi26.2 (fun q9 => ite_eq0 c41 q9.1) | exact offN_n hi26.2 (fun q9 => c53 q9.2)⟩) (by omega)
              · -- 53 to 56
                refine zw_n 3 rfl ?_
                refine zw_top (na (a := a) (b := 1) rfl rfl) ?_
                refine zw_n 1 (ls' := [some (.ref 139), some (.int (nI xq)), some (.int (nI (a + 1))), some (.int (nI q))]) rfl ?_
                refine zw_inc rfl (x' := (nI (q + 1))) (ls' := [some (.ref 139), some (.int (nI xq)), some (.int (nI (a + 1))), some (.int (nI (q + 1)))]) rfl (na (a := q) (b := 1) rfl rfl) rfl ?_
                refine zw_n 1 rfl ?_
                exact ih26 (a + 1) (q + 1) (⟨by omega, by first | exact offN_y hi26.2 (ite_ne c41) c53 | exact offN_n hi26.2 (fun q9 => ite_eq0 c41 q9.1) | exact offN_n hi26.2 (fun q9 => c53 q9.2)⟩) (by omega)
      exact lp26 _ 0 0 (⟨Nat.zero_le _, rfl⟩) (Nat.lt_succ_self _)
    · -- 17 to 20
      refine zw_n 1 rfl ?_
      exact zw_iret rfl rfl (⟨by rw [if_neg (ite_eq0 c17)], oT, fT, hMT, Sm.trans (Sm.tset Sm.rf ez5514 (by decide)) hST, hFsT, hSFT, (fun j h0 h1 h2 => (hoT j h0 h1 h2).trans (up_n h0)), ho0T⟩)

set_option maxHeartbeats 4000000 in
set_option maxRecDepth 100000 in
theorem m_about (Mq : zM) (o : Nat → Nat) (f : Nat → Nat → Nat) (hM : MM Mq o f)(n : Nat) (gn al_ it pt tg bd : Nat → Nat) (hg : RelG f n gn al_ it pt tg bd) (hG : SafeG n gn al_ it pt tg bd) (hF : SafeF f) (c : Nat) (sg li co : Nat → Nat) (ht : RelT f c sg li co) (hS : SafeT c sg li co) (emp : Nat → Prop) (rk : Nat → Nat) (hA : Acyc (gE al_ it tg pt bd sg co) n emp rk) (x w : Int32) : Zm 10 zm_MO_about [.ref 139, .int x, .int w] Mq (fun r9 M1 => r9 = some (.int (if tFit (gE al_ it tg pt bd sg co) n c then aboA c (tSz (gE al_ it tg pt bd sg co) n c) (tRw (gE al_ it tg pt bd sg co) n c) x w else -1)) ∧ ∃ o9 f9, MM M1 o9 f9 ∧ Sm Mq M1 [139, 156, 157, 158, 159, 160, 165, 167, 168, 169] ∧ Fsame f f9 [139, 156, 157, 158, 159, 160, 165, 167, 168, 169] ∧ SafeF f9 ∧ (∀ j, j ≠ 0 → j ≠ 33 → j ≠ 38 → o9 j = o j) ∧ o9 0 = 0) := by
  show Zw 10 zm_MO_about 0 [some (.ref 139), some (.int x), some (.int w), none, none, none, none, none] [] Mq _
  have hc20 := hS.1
  have hn8 := hG.1
  refine zw_n 2 rfl ?_
  refine zw_put rfl hM.1 (rfl) (Nat.le_of_ble_eq_true rfl) ?_
  generalize ez5528 : List.set Mq 139 _ = Mz5527
  refine zw_n 2 rfl ?_
  refine zw_callV (as := [.int x]) (rest := []) rfl rfl rfl (zat_self ez5528 hM.1) rfl rfl rfl (by decide) (m_isToken Mz5527 (up o 0 0) f (MM.of (o' := up o 0 0) (f' := f) hM (Sm.tset Sm.rf ez5528 (by decide)) (zat_self ez5528 hM.1) (c1_skip (c1_cons (zat_set ez5528 (by decide) (hM.2 156 (by decide) (by decide))) (c1_cons (zat_set ez5528 (by decide) (hM.2 157 (by decide) (by decide))) (c1_cons (zat_set ez5528 (by decide) (hM.2 158 (by decide) (by decide))) (c1_cons (zat_set ez5528 (by decide) (hM.2 159 (by decide) (by decide))) (c1_cons (zat_set ez5528 (by decide) (hM.2 160 (by decide) (by decide))) (c1_cons (zat_set ez5528 (by decide) (hM.2 165 (by decide) (by decide))) (c1_cons (zat_set ez5528 (by decide) (hM.2 167 (by decide) (by decide))) (c1_cons (zat_set ez5528 (by decide) (hM.2 168 (by decide) (by decide))) (c1_cons (zat_set ez5528 (by decide) (hM.2 169 (by decide) (by decide))) c1_nil)))))))))) (fs_k (fs_k (fs_k (fs_k (fs_k (fs_k (fs_k (fs_k (fs_k (fs_k fs_n))))))))))) c ht.1 (by omega) x) (fun rz5529 Mz5530 hz5531 => ?_)
  rw [hz5531.1, hz5531.2]
  show Zw 10 zm_MO_about 10 [some (.ref 139), some (.int x), some (.int w), none, none, none, none, none] [.int (nI (if 0 ≤ x.toInt ∧ x.toInt < c then 1 else 0))] Mz5527 _
  refine zw_eq0N (a := if 0 ≤ x.toInt ∧ x.toInt < c then 1 else 0) rfl rfl (ite_b) (fun c10 => ?_) (fun c10 => ?_)
  · -- 10 to 32
    first | have hw8 := ite_eq0 c22 | skip
    refine zw_n 1 rfl ?_
    exact zw_iret rfl rfl (⟨by split; (unfold aboA; first | rw [if_neg (ite_eq0 c10)] | (split; (unfold aboK; rw [if_neg (wne (by omega) (by omega)), if_neg (wne (by omega) (by omega)), if_neg (wne (by omega) (by omega)), if_neg (wne (by omega) (by omega))]); rfl)); rfl, up o 0 0, f, (MM.of (o' := up o 0 0) (f' := f) hM (Sm.tset Sm.rf ez5528 (by decide)) (zat_self ez5528 hM.1) (c1_skip (c1_cons (zat_set ez5528 (by decide) (hM.2 156 (by decide) (by decide))) (c1_cons (zat_set ez5528 (by decide) (hM.2 157 (by decide) (by decide))) (c1_cons (zat_set ez5528 (by decide) (hM.2 158 (by decide) (by decide))) (c1_cons (zat_set ez5528 (by decide) (hM.2 159 (by decide) (by decide))) (c1_cons (zat_set ez5528 (by decide) (hM.2 160 (by decide) (by decide))) (c1_cons (zat_set ez5528 (by decide) (hM.2 165 (by decide) (by decide))) (c1_cons (zat_set ez5528 (by decide) (hM.2 167 (by decide) (by decide))) (c1_cons (zat_set ez5528 (by decide) (hM.2 168 (by decide) (by decide))) (c1_cons (zat_set ez5528 (by decide) (hM.2 169 (by decide) (by decide))) c1_nil)))))))))) (fs_k (fs_k (fs_k (fs_k (fs_k (fs_k (fs_k (fs_k (fs_k (fs_k fs_n))))))))))), Sm.tset Sm.rf ez5528 (by decide), fun _ _ => rfl, hF, (fun j h0 h1 h2 => up_n h0), rfl⟩)
  · -- 10 to 13
    refine zw_n 4 rfl ?_
    refine zw_callS (as := [.long (Int32.toInt64 w), .long 0, .long 3]) (rest := []) rfl rfl rfl rfl rfl rfl (by decide) (m_in Mz5527 (Int32.toInt64 w) 0 3 w.toInt 0 3 (Int32.toInt_toInt64 _) (by decide) (by decide)) (fun rz5532 Mz5533 hz5534 => ?_)
    rw [hz5534.1, hz5534.2]
    show Zw 10 zm_MO_about 22 [some (.ref 139), some (.int x), some (.int w), none, none, none, none, none] [.int (nI (if 0 ≤ w.toInt ∧ w.toInt ≤ 3 then 1 else 0))] Mz5527 _
    refine zw_eq0N (a := if 0 ≤ w.toInt ∧ w.toInt ≤ 3 then 1 else 0) rfl rfl (ite_b) (fun c22 => ?_) (fun c22 => ?_)
    · -- 22 to 32
      first | have hw8 := ite_eq0 c22 | skip
      refine zw_n 1 rfl ?_
      exact zw_iret rfl rfl (⟨by split; (unfold aboA; first | rw [if_neg (ite_eq0 c10)] | (split; (unfold aboK; rw [if_neg (wne (by omega) (by omega)), if_neg (wne (by omega) (by omega)), if_neg (wne (by omega) (by omega)), if_neg (wne (by omega) (by omega))]); rfl)); rfl, up o 0 0, f, (MM.of (o' := up o 0 0) (f' := f) hM (Sm.tset Sm.rf ez5528 (by decide)) (zat_self ez5528 hM.1) (c1_skip (c1_cons (zat_set ez5528 (by decide) (hM.2 156 (by decide) (by decide))) (c1_cons (zat_set ez5528 (by decide) (hM.2 157 (by decide) (by decide))) (c1_cons (zat_set ez5528 (by decide) (hM.2 158 (by decide) (by decide))) (c1_cons (zat_set ez5528 (by decide) (hM.2 159 (by decide) (by decide))) (c1_cons (zat_set ez5528 (by decide) (hM.2 160 (by decide) (by decide))) (c1_cons (zat_set ez5528 (by decide) (hM.2 165 (by decide) (by decide))) (c1_cons (zat_set ez5528 (by decide) (hM.2 167 (by decide) (by decide))) (c1_cons (zat_set ez5528 (by decide) (hM.2 168 (by decide) (by decide))) (c1_cons (zat_set ez5528 (by decide) (hM.2 169 (by decide) (by decide))) c1_nil)))))))))) (fs_k (fs_k (fs_k (fs_k (fs_k (fs_k (fs_k (fs_k (fs_k (fs_k fs_n))))))))))), Sm.tset Sm.rf ez5528 (by decide), fun _ _ => rfl, hF, (fun j h0 h1 h2 => up_n h0), rfl⟩)
    · -- 22 to 25
      have hw9 := ite_ne c22
      refine zw_n 1 rfl ?_
      refine zw_callV (as := []) (rest := []) rfl rfl rfl (zat_self ez5528 hM.1) rfl rfl rfl (by decide) (m_hasTree Mz5527 (up o 0 0) f (MM.of (o' := up o 0 0) (f' := f) hM (Sm.tset Sm.rf ez5528 (by decide)) (zat_self ez5528 hM.1) (c1_skip (c1_cons (zat_set ez5528 (by decide) (hM.2 156 (by decide) (by decide))) (c1_cons (zat_set ez5528 (by decide) (hM.2 157 (by decide) (by decide))) (c1_cons (zat_set ez5528 (by decide) (hM.2 158 (by decide) (by decide))) (c1_cons (zat_set ez5528 (by decide) (hM.2 159 (by decide) (by decide))) (c1_cons (zat_set ez5528 (by decide) (hM.2 160 (by decide) (by decide))) (c1_cons (zat_set ez5528 (by decide) (hM.2 165 (by decide) (by decide))) (c1_cons (zat_set ez5528 (by decide) (hM.2 167 (by decide) (by decide))) (c1_cons (zat_set ez5528 (by decide) (hM.2 168 (by decide) (by decide))) (c1_cons (zat_set ez5528 (by decide) (hM.2 169 (by decide) (by decide))) c1_nil)))))))))) (fs_k (fs_k (fs_k (fs_k (fs_k (fs_k (fs_k (fs_k (fs_k (fs_k fs_n))))))))))) n gn al_ it pt tg bd hg hG hF c sg li co ht hS emp rk hA) (fun rz5535 Mz5536 hz5537 => ?_)
      obtain ⟨hAT, oT, fT, hMT, hST, hFsT, hSFT, hoT, ho0T, hTT⟩ := hz5537
      rw [hAT]
      have hgT : RelG fT n gn al_ it pt tg bd := hg.keep (hFsT 140 (by decide)) (hFsT 153 (by decide))
      have htT : RelT fT c sg li co := ht.keep (hFsT 140 (by decide))
      show Zw 10 zm_MO_about 29 [some (.ref 139), some (.int x), some (.int w), none, none, none, none, none] [.int (nI (if tFit (gE al_ it tg pt bd sg co) n c then 1 else 0))] Mz5536 _
      refine zw_ne0N (a := if tFit (gE al_ it tg pt bd sg co) n c then 1 else 0) rfl rfl (ite_b) (fun c29 => ?_) (fun c29 => ?_)
      · -- 29 to 34
        have hfit : tFit (gE al_ it tg pt bd sg co) n c := ite_ne c29
        have hTs := (hTT hfit).1
        have hTr : TrR (gE al_ it tg pt bd sg co) n c (oT 33) (fT 165) := hTs.rows (E := (gE al_ it tg pt bd sg co)) hA hn8 hG.2.2.1 hS.2.2.2 hG.2.2.2.2.2.2 hc20 hfit
        have hle := hTr.le
        obtain ⟨hcz, hcT⟩ := hTs.can (by omega)
        have hcq : tEq (oT 33) (fT 165) (tRw (gE al_ it tg pt bd sg co) n c) := hcT
        have hx9 := ite_ne c10
        obtain ⟨xq, hqx⟩ : ∃ xq : Nat, x.toInt.toNat = xq := ⟨_, rfl⟩
        have hex : x = nI xq := by rw [← hqx]; exact i32_nat (hx9.1)
        refine zw_lse (ls' := [some (.ref 139), some (.int (nI xq)), some (.int w), none, none, none, none, none]) (by rw [← hex]) ?_
        refine zw_n 10 (ls' := [some (.ref 139), some (.int (nI xq)), some (.int w), some (.int 0), some (.int 0), some (.int 0), some (.int (-1)), some (.int 0)]) rfl ?_
        have lp48 : ∀ (n48 : Nat) (a : Nat) (b : Nat) (e : Nat) (l : Nat) (q : Nat), (q ≤ oT 33 ∧ a = cnW (fT 165) 2 xq q ∧ b = cnW (fT 165) 3 (xq + 1) q ∧ e = cnt (hsB (fT 165) xq) q ∧ l = lowN (fT 165) xq q) → oT 33 - q < n48 → Zw 10 zm_MO_about 48 [some (.ref 139), some (.int (nI xq)), some (.int w), some (.int (nI a)), some (.int (nI b)), some (.int (nI e)), some (.int (nI l)), some (.int (nI q))] [] Mz5536 (fun r9 M1 => r9 = some (.int (if tFit (gE al_ it tg pt bd sg co) n c then aboA c (tSz (gE al_ it tg pt bd sg co) n c) (tRw (gE al_ it tg pt bd sg co) n c) x w else -1)) ∧ ∃ o9 f9, MM M1 o9 f9 ∧ Sm Mq M1 [139, 156, 157, 158, 159, 160, 165, 167, 168, 169] ∧ Fsame f f9 [139, 156, 157, 158, 159, 160, 165, 167, 168, 169] ∧ SafeF f9 ∧ (∀ j, j ≠ 0 → j ≠ 33 → j ≠ 38 → o9 j = o j) ∧ o9 0 = 0) := by
          intro n48
          induction n48 with
          | zero => intro a b e l q _ h; exact absurd h (Nat.not_lt_zero _)
          | succ n48 ih48 =>
            intro a b e l q hi48 hm48
            refine zw_n 2 rfl ?_
            refine zw_get (v := .int (nI (oT 33))) rfl hMT.1 rfl ?_
            refine zw_igeN (a := q) (b := oT 33) rfl rfl rfl (by omega) (by omega) (fun c54 => ?_) (fun c54 => ?_)
            · -- 54 to 149
              refine zw_n 1 rfl ?_
              refine zw_ne0Z (a := w.toInt) rfl (rfl) (fun c150 => ?_) (fun c150 => ?_)
              · -- 150 to 157
                refine zw_n 2 rfl ?_
                refine zw_ineZ (a := w.toInt) (b := 1) rfl (rfl) (by decide) (fun c159 => ?_) (fun c159 => ?_)
                · -- 159 to 167
                  refine zw_n 2 rfl ?_
                  refine zw_ineZ (a := w.toInt) (b := 2) rfl (rfl) (by decide) (fun c169 => ?_) (fun c169 => ?_)
                  · -- 169 to 177
                    refine zw_n 1 rfl ?_
                    exact zw_iret rfl rfl (⟨by rw [if_pos hfit, ← hcz, ← aboA_cg hcq]; unfold aboA aboK; rw [if_pos hx9, hqx, if_neg (wne (by omega) (by omega)), if_neg (wne (by omega) (by omega)), if_neg (wne (by omega) (by omega)), if_pos (weq (by omega)), hi48.2.2.2.2, show q = oT 33 by omega], oT, fT, hMT, Sm.trans (Sm.tset Sm.rf ez5528 (by decide)) hST, hFsT, hSFT, (fun j h0 h1 h2 => (hoT j h0 h1 h2).trans (up_n h0)), ho0T⟩)
                  · -- 169 to 172
                    refine zw_n 2 rfl ?_
                    exact zw_iret rfl rfl (⟨by rw [if_pos hfit, ← hcz, ← aboA_cg hcq]; unfold aboA aboK; rw [if_pos hx9, hqx, if_neg (wne (by omega) (by omega)), if_neg (wne (by omega) (by omega)), if_pos (weq (by omega)), hi48.2.2.2.1, show q = oT 33 by omega], oT, fT, hMT, Sm.trans (Sm.tset Sm.rf ez5528 (by decide)) hST, hFsT, hSFT, (fun j h0 h1 h2 => (hoT j h0 h1 h2).trans (up_n h0)), ho0T⟩)
                · -- 159 to 162
                  refine zw_n 2 rfl ?_
                  exact zw_iret rfl rfl (⟨by rw [if_pos hfit, ← hcz, ← aboA_cg hcq]; unfold aboA aboK; rw [if_pos hx9, hqx, if_neg (wne (by omega) (by omega)), if_pos (weq (by omega)), hi48.2.2.1, show q = oT 33 by omega], oT, fT, hMT, Sm.trans (Sm.tset Sm.rf ez5528 (by decide)) hST, hFsT, hSFT, (fun j h0 h1 h2 => (hoT j h0 h1 h2).trans (up_n h0)), ho0T⟩)
              · -- 150 to 153
                refine zw_n 2 rfl ?_
                exact zw_iret rfl rfl (⟨by rw [if_pos hfit, ← hcz, ← aboA_cg hcq]; unfold aboA aboK; rw [if_pos hx9, hqx, if_pos (weq (by omega)), hi48.2.1, show q = oT 33 by omega], oT, fT, hMT, Sm.trans (Sm.tset Sm.rf ez5528 (by decide)) hST, hFsT, hSFT, (fun j h0 h1 h2 => (hoT j h0 h1 h2).trans (up_n h0)), ho0T⟩)
            · -- 54 to 57
              have h23 := hTr.f23 q (by omega)
              have h3 := hTr.f3 q (by omega)
              refine zw_n 1 rfl ?_
              have j58 : Zw 10 zm_MO_about 74 [some (.ref 139), some (.int (nI xq)), some (.int w), some (.int (nI a)), some (.int (nI b)), some (.int (nI e)), some (.int (nI l)), some (.int (nI q))] [.int (nI (if fT 165 (q * 8 + 2) = xq then 1 else 0)), .int (nI a)] Mz5536 (fun r9 M1 => r9 = some (.int (if tFit (gE al_ it tg pt bd sg co) n c then aboA c (tSz (gE al_ it tg pt bd sg co) n c) (tRw (gE al_ it tg pt bd sg co) n c) x w else -1)) ∧ ∃ o9 f9, MM M1 o9 f9 ∧ Sm Mq M1 [139, 156, 157, 158, 159, 160, 165, 167, 168, 169] ∧ Fsame f f9 [139, 156, 157, 158, 159, 160, 165, 167, 168, 169] ∧ SafeF f9 ∧ (∀ j, j ≠ 0 → j ≠ 33 → j ≠ 38 → o9 j = o j) ∧ o9 0 = 0) := by
                refine zw_n 1 rfl ?_
                refine zw_top (na (a := a) (b := if fT 165 (q * 8 + 2) = xq then 1 else 0) rfl rfl) ?_
                refine zw_n 2 (ls' := [some (.ref 139), some (.int (nI xq)), some (.int w), some (.int (nI (a + (if fT 165 (q * 8 + 2) = xq then 1 else 0)))), some (.int (nI b)), some (.int (nI e)), some (.int (nI l)), some (.int (nI q))]) rfl ?_
                have j78 : Zw 10 zm_MO_about 96 [some (.ref 139), some (.int (nI xq)), some (.int w), some (.int (nI (a + (if fT 165 (q * 8 + 2) = xq then 1 else 0)))), some (.int (nI b)), some (.int (nI e)), some (.int (nI l)), some (.int (nI q))] [.int (nI (if fT 165 (q * 8 + 3) = xq + 1 then 1 else 0)), .int (nI b)] Mz5536 (fun r9 M1 => r9 = some (.int (if tFit (gE al_ it tg pt bd sg co) n c then aboA c (tSz (gE al_ it tg pt bd sg co) n c) (tRw (gE al_ it tg pt bd sg co) n c) x w else -1)) ∧ ∃ o9 f9, MM M1 o9 f9 ∧ Sm Mq M1 [139, 156, 157, 158, 159, 160, 165, 167, 168, 169] ∧ Fsame f f9 [139, 156, 157, 158, 159, 160, 165, 167, 168, 169] ∧ SafeF f9 ∧ (∀ j, j ≠ 0 → j ≠ 33 → j ≠ 38 → o9 j = o j) ∧ o9 0 = 0) := by
                  refine zw_n 1 rfl ?_
                  refine zw_top (na (a := b) (b := if fT 165 (q * 8 + 3) = xq + 1 then 1 else 0) rfl rfl) ?_
                  refine zw_n 2 (ls' := [some (.ref 139), some (.int (nI xq)), some (.int w), some (.int (nI (a + (if fT 165 (q * 8 + 2) = xq then 1 else 0)))), some (.int (nI (b + (if fT 165 (q * 8 + 3) = xq + 1 then 1 else 0)))), some (.int (nI e)), some (.int (nI l)), some (.int (nI q))]) rfl ?_
                  have j101 : Zw 10 zm_MO_about 116 [some (.ref 139), some (.int (nI xq)), some (.int w), some (.int (nI (a + (if fT 165 (q * 8 + 2) = xq then 1 else 0)))), some (.int (nI (b + (if fT 165 (q * 8 + 3) = xq + 1 then 1 else 0)))), some (.int (nI e)), some (.int (nI l)), some (.int (nI q))] [.int (nI (if hsB (fT 165) xq q = true then 1 else 0)), .int (nI e)] Mz5536 (fun r9 M1 => r9 = some (.int (if tFit (gE al_ it tg pt bd sg co) n c then aboA c (tSz (gE al_ it tg pt bd sg co) n c) (tRw (gE al_ it tg pt bd sg co) n c) x w else -1)) ∧ ∃ o9 f9, MM M1 o9 f9 ∧ Sm Mq M1 [139, 156, 157, 158, 159, 160, 165, 167, 168, 169] ∧ Fsame f f9 [139, 156, 157, 158, 159, 160, 165, 167, 168, 169] ∧ SafeF f9 ∧ (∀ j, j ≠ 0 → j ≠ 33 → j ≠ 38 → o9 j = o j) ∧ o9 0 = 0) := by
                    refine zw_n 1 rfl ?_
                    refine zw_top (na (a := e) (b := if hsB (fT 165) xq q = true then 1 else 0) rfl rfl) ?_
                    refine zw_n 1 (ls' := [some (.ref 139), some (.int (nI xq)), some (.int w), some (.int (nI (a + (if fT 165 (q * 8 + 2) = xq then 1 else 0)))), some (.int (nI (b + (if fT 165 (q * 8 + 3) = xq + 1 then 1 else 0)))), some (.int (nI (e + (if hsB (fT 165) xq q = true then 1 else 0)))), some (.int (nI l)), some (.int (nI q))]) rfl ?_
                    have j119 : Zw 10 zm_MO_about 141 [some (.ref 139), some (.int (nI xq)), some (.int w), some (.int (nI (a + (if fT 165 (q * 8 + 2) = xq then 1 else 0)))), some (.int (nI (b + (if fT 165 (q * 8 + 3) = xq + 1 then 1 else 0)))), some (.int (nI (e + (if hsB (fT 165) xq q = true then 1 else 0)))), some (.int (nI l)), some (.int (nI q))] [.int (nI (if hsB (fT 165) xq q = true then fT 165 (q * 8 + 0) else l))] Mz5536 (fun r9 M1 => r9 = some (.int (if tFit (gE al_ it tg pt bd sg co) n c then aboA c (tSz (gE al_ it tg pt bd sg co) n c) (tRw (gE al_ it tg pt bd sg co) n c) x w else -1)) ∧ ∃ o9 f9, MM M1 o9 f9 ∧ Sm Mq M1 [139, 156, 157, 158, 159, 160, 165, 167, 168, 169] ∧ Fsame f f9 [139, 156, 157, 158, 159, 160, 165, 167, 168, 169] ∧ SafeF f9 ∧ (∀ j, j ≠ 0 → j ≠ 33 → j ≠ 38 → o9 j = o j) ∧ o9 0 = 0) := by
                      refine zw_n 1 (ls' := [some (.ref 139), some (.int (nI xq)), some (.int w), some (.int (nI (a + (if fT 165 (q * 8 + 2) = xq then 1 else 0)))), some (.int (nI (b + (if fT 165 (q * 8 + 3) = xq + 1 then 1 else 0)))), some (.int (nI (e + (if hsB (fT 165) xq q = true then 1 else 0)))), some (.int (nI (if hsB (fT 165) xq q = true then fT 165 (q * 8 + 0) else l))), some (.int (nI q))]) rfl ?_
                      refine zw_inc rfl (x' := (nI (q + 1))) (ls' := [some (.ref 139), some (.int (nI xq)), some (.int w), some (.int (nI (a + (if fT 165 (q * 8 + 2) = xq then 1 else 0)))), some (.int (nI (b + (if fT 165 (q * 8 + 3) = xq + 1 then 1 else 0)))), some (.int (nI (e + (if hsB (fT 165) xq q = true then 1 else 0)))), some (.int (nI (if hsB (fT 165) xq q = true then fT 165 (q * 8 + 0) else l))), some (.int (nI (q + 1)))]) rfl (na (a := q) (b := 1) rfl rfl) rfl ?_
                      refine zw_n 1 rfl ?_
                      exact ih48 (a + (if fT 165 (q * 8 + 2) = xq then 1 else 0)) (b + (if fT 165 (q * 8 + 3) = xq + 1 then 1 else 0)) (e + (if hsB (fT 165) xq q = true then 1 else 0)) (if hsB (fT 165) xq q = true then fT 165 (q * 8 + 0) else l) (q + 1) (⟨by omega, cnt_s hi48.2.1 (by rw [decide_eq_true_eq]), cnt_s hi48.2.2.1 (by rw [decide_eq_true_eq]), cnt_s hi48.2.2.2.1 Iff.rfl, by rw [lowN, ← hi48.2.2.2.2]⟩) (by omega)
                    refine zw_n 3 rfl ?_
                    refine zw_callV (as := [.int (nI q), .int (nI xq)]) (rest := []) rfl rfl rfl hMT.1 rfl rfl rfl (by decide) (m_covers Mz5536 oT fT hMT _ _ _ _ hTr hc20 q xq (by omega) (by omega)) (fun rz5538 Mz5539 hz5540 => ?_)
                    rw [hz5540.1, hz5540.2]
                    show Zw 10 zm_MO_about 126 [some (.ref 139), some (.int (nI xq)), some (.int w), some (.int (nI (a + (if fT 165 (q * 8 + 2) = xq then 1 else 0)))), some (.int (nI (b + (if fT 165 (q * 8 + 3) = xq + 1 then 1 else 0)))), some (.int (nI (e + (if hsB (fT 165) xq q = true then 1 else 0)))), some (.int (nI l)), some (.int (nI q))] [.int (nI (if hsB (fT 165) xq q = true then 1 else 0))] Mz5536 _
                    refine zw_eq0N (a := if hsB (fT 165) xq q = true then 1 else 0) rfl rfl (ite_b) (fun c126 => ?_) (fun c126 => ?_)
                    · -- 126 to 139
                      refine zw_n 1 rfl ?_
                      refine zw_top (x' := nI (if hsB (fT 165) xq q = true then fT 165 (q * 8 + 0) else l)) (show nI l = nI (if hsB (fT 165) xq q = true then fT 165 (q * 8 + 0) else l) by rw [if_neg (ite_eq0 c126)]) ?_
                      exact j119
                    · -- 126 to 129
                      refine zw_n 3 rfl ?_
                      refine zw_callV (as := [.int (nI q), .int 0]) (rest := []) rfl rfl rfl hMT.1 rfl rfl rfl (by decide) (m_of Mz5536 oT fT hMT q 0 (by omega) (by omega)) (fun rz5541 Mz5542 hz5543 => ?_)
                      rw [hz5543.1, hz5543.2]
                      show Zw 10 zm_MO_about 136 [some (.ref 139), some (.int (nI xq)), some (.int w), some (.int (nI (a + (if fT 165 (q * 8 + 2) = xq then 1 else 0)))), some (.int (nI (b + (if fT 165 (q * 8 + 3) = xq + 1 then 1 else 0)))), some (.int (nI (e + (if hsB (fT 165) xq q = true then 1 else 0)))), some (.int (nI l)), some (.int (nI q))] [.int (nI ((fT 165) (q * 8 + 0)))] Mz5536 _
                      refine zw_n 1 rfl ?_
                      refine zw_top (x' := nI (if hsB (fT 165) xq q = true then fT 165 (q * 8 + 0) else l)) (show nI (fT 165 (q * 8 + 0)) = nI (if hsB (fT 165) xq q = true then fT 165 (q * 8 + 0) else l) by rw [if_pos (ite_ne c126)]) ?_
                      exact j119
                  refine zw_n 3 rfl ?_
                  refine zw_callV (as := [.int (nI q), .int (nI xq)]) (rest := [.int (nI e)]) rfl rfl rfl hMT.1 rfl rfl rfl (by decide) (m_covers Mz5536 oT fT hMT _ _ _ _ hTr hc20 q xq (by omega) (by omega)) (fun rz5544 Mz5545 hz5546 => ?_)
                  rw [hz5546.1, hz5546.2]
                  show Zw 10 zm_MO_about 108 [some (.ref 139), some (.int (nI xq)), some (.int w), some (.int (nI (a + (if fT 165 (q * 8 + 2) = xq then 1 else 0)))), some (.int (nI (b + (if fT 165 (q * 8 + 3) = xq + 1 then 1 else 0)))), some (.int (nI e)), some (.int (nI l)), some (.int (nI q))] [.int (nI (if hsB (fT 165) xq q = true then 1 else 0)), .int (nI e)] Mz5536 _
                  refine zw_eq0N (a := if hsB (fT 165) xq q = true then 1 else 0) rfl rfl (ite_b) (fun c108 => ?_) (fun c108 => ?_)
                  · -- 108 to 115
                    refine zw_n 1 rfl ?_
                    refine zw_top (x' := nI (if hsB (fT 165) xq q = true then 1 else 0)) (show nI 0 = nI (if hsB (fT 165) xq q = true then 1 else 0) by rw [if_neg (ite_eq0 c108)]) ?_
                    exact j101
                  · -- 108 to 111
                    refine zw_n 2 rfl ?_
                    refine zw_top (x' := nI (if hsB (fT 165) xq q = true then 1 else 0)) (show nI 1 = nI (if hsB (fT 165) xq q = true then 1 else 0) by rw [if_pos (ite_ne c108)]) ?_
                    exact j101
                refine zw_n 3 rfl ?_
                refine zw_callV (as := [.int (nI q), .int 3]) (rest := [.int (nI b)]) rfl rfl rfl hMT.1 rfl rfl rfl (by decide) (m_of Mz5536 oT fT hMT q 3 (by omega) (by omega)) (fun rz5547 Mz5548 hz5549 => ?_)
                rw [hz5549.1, hz5549.2]
                show Zw 10 zm_MO_about 85 [some (.ref 139), some (.int (nI xq)), some (.int w), some (.int (nI (a + (if fT 165 (q * 8 + 2) = xq then 1 else 0)))), some (.int (nI b)), some (.int (nI e)), some (.int (nI l)), some (.int (nI q))] [.int (nI ((fT 165) (q * 8 + 3))), .int (nI b)] Mz5536 _
                refine zw_n 3 rfl ?_
                refine zw_top (na (a := xq) (b := 1) rfl rfl) ?_
                refine zw_ineN (a := (fT 165) (q * 8 + 3)) (b := xq + 1) rfl rfl rfl (by omega) (by omega) (fun c88 => ?_) (fun c88 => ?_)
                · -- 88 to 95
                  refine zw_n 1 rfl ?_
                  refine zw_top (x' := nI (if fT 165 (q * 8 + 3) = xq + 1 then 1 else 0)) (show nI 0 = nI (if fT 165 (q * 8 + 3) = xq + 1 then 1 else 0) by rw [if_neg (by omega)]) ?_
                  exact j78
                · -- 88 to 91
                  refine zw_n 2 rfl ?_
                  refine zw_top (x' := nI (if fT 165 (q * 8 + 3) = xq + 1 then 1 else 0)) (show nI 1 = nI (if fT 165 (q * 8 + 3) = xq + 1 then 1 else 0) by rw [if_pos (by omega)]) ?_
                  exact j78
              refine zw_n 3 rfl ?_
              refine zw_callV (as := [.int (nI q), .int 2]) (rest := [.int (nI a)]) rfl rfl rfl hMT.1 rfl rfl rfl (by decide) (m_of Mz5536 oT fT hMT q 2 (by omega) (by omega)) (fun rz5550 Mz5551 hz5552 => ?_)
              rw [hz5552.1, hz5552.2]
              show Zw 10 zm_MO_about 65 [some (.ref 139), some (.int (nI xq)), some (.int w), some (.int (nI a)), some (.int (nI b)), some (.int (nI e)), some (.int (nI l)), some (.int (nI q))] [.int (nI ((fT 165) (q * 8 + 2))), .int (nI a)] Mz5536 _
              refine zw_n 1 rfl ?_
              refine zw_ineN (a := (fT 165) (q * 8 + 2)) (b := xq) rfl rfl rfl (by omega) (by omega) (fun c66 => ?_) (fun c66 => ?_)
              · -- 66 to 73
                refine zw_n 1 rfl ?_
                refine zw_top (x' := nI (if fT 165 (q * 8 + 2) = xq then 1 else 0)) (show nI 0 = nI (if fT 165 (q * 8 + 2) = xq then 1 else 0) by rw [if_neg (by omega)]) ?_
                exact j58
              · -- 66 to 69
                refine zw_n 2 rfl ?_
                refine zw_top (x' := nI (if fT 165 (q * 8 + 2) = xq then 1 else 0)) (show nI 1 = nI (if fT 165 (q * 8 + 2) = xq then 1 else 0) by rw [if_pos (by omega)]) ?_
                exact j58
        exact lp48 _ 0 0 0 NO 0 (⟨Nat.zero_le _, rfl, rfl, rfl, rfl⟩) (Nat.lt_succ_self _)
      · -- 29 to 32
        refine zw_n 1 rfl ?_
        exact zw_iret rfl rfl (⟨by rw [if_neg (ite_eq0 c29)], oT, fT, hMT, Sm.trans (Sm.tset Sm.rf ez5528 (by decide)) hST, hFsT, hSFT, (fun j h0 h1 h2 => (hoT j h0 h1 h2).trans (up_n h0)), ho0T⟩)
