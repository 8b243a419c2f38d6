set_option maxHeartbeats 4000000 in
set_option maxRecDepth 100000 in
theorem m_hasTree (Mq : zM) (o : Nat → Nat) (f : Nat → Nat → Nat) (hM : MM Mq o f)(n : Nat) (gn al_ it pt tg bd : Nat → Nat) (hg : RelG f n gn al_ it pt tg bd) (hG : SafeG n gn al_ it pt tg bd) (hF : SafeF f) (c : Nat) (sg li co : Nat → Nat) (ht : RelT f c sg li co) (hS : SafeT c sg li co) (emp : Nat → Prop) (rk : Nat → Nat) (hA : Acyc (gE al_ it tg pt bd sg co) n emp rk) : Zm 8 zm_MO_hasTree [.ref 139] Mq (fun r9 M1 => r9 = some (.int (nI (if tFit (gE al_ it tg pt bd sg co) n c then 1 else 0))) ∧ ∃ o9 f9, MM M1 o9 f9 ∧ Sm Mq M1 [139, 156, 157, 158, 159, 160, 165, 167, 168, 169] ∧ Fsame f f9 [139, 156, 157, 158, 159, 160, 165, 167, 168, 169] ∧ SafeF f9 ∧ (∀ j, j ≠ 0 → j ≠ 33 → j ≠ 38 → o9 j = o j) ∧ o9 0 = o 0 ∧ (tFit (gE al_ it tg pt bd sg co) n c → TrS (gE al_ it tg pt bd sg co) n c (o9 33) (f9 165) ∧ (∀ p, p < c → f9 156 p = sg p ∧ f9 157 p = co p) ∧ VAll (gE al_ it tg pt bd sg co) n (c + 1) (f9 158))) := by
  show Zw 8 zm_MO_hasTree 0 [some (.ref 139), none] [] Mq _
  have hc20 := hS.1
  have hn8 := hG.1
  refine zw_n 1 rfl ?_
  refine zw_callV (as := []) (rest := []) rfl rfl rfl hM.1 rfl rfl rfl (by decide) (m_isGrammar Mq o f hM n gn al_ it pt tg bd hg hG hF) (fun rz5448 Mz5449 hz5450 => ?_)
  rw [hz5450.1, hz5450.2]
  show Zw 8 zm_MO_hasTree 4 [some (.ref 139), none] [.int (nI (if 0 < n then 1 else 0))] Mq _
  refine zw_eq0N (a := if 0 < n then 1 else 0) rfl rfl (ite_b) (fun c4 => ?_) (fun c4 => ?_)
  · -- 4 to 18
    refine zw_n 3 (ls' := [some (.ref 139), some (.int 0)]) rfl ?_
    refine zw_if rfl ?_
    show Zw 8 zm_MO_hasTree 28 [some (.ref 139), some (.int 0)] [] Mq _
    refine zw_n 1 rfl ?_
    exact zw_zret rfl rfl (Or.inl rfl) (⟨by rw [if_neg (fun q9 => ite_eq0 c4 q9.1)]; rfl, o, f, hM, Sm.rf, fun _ _ => rfl, hF, fun _ _ _ _ => rfl, rfl, fun q9 => absurd q9 (fun q9 => ite_eq0 c4 q9.1)⟩)
  · -- 4 to 7
    have hn9 := ite_ne c4
    refine zw_n 1 rfl ?_
    refine zw_callV (as := []) (rest := []) rfl rfl rfl hM.1 rfl rfl rfl (by decide) (m_isFitting Mq o f hM n gn al_ it pt tg bd hg hG hF c sg li co ht hS emp rk hA (by omega)) (fun rz5459 Mz5460 hz5461 => ?_)
    obtain ⟨hAz5452, fz5451, hMMz5453, hSz5454, hFsz5455, hSFz5456, hz5457, hz5458⟩ := hz5461
    rw [hAz5452]
    show Zw 8 zm_MO_hasTree 11 [some (.ref 139), none] [.int (nI (if wh (gE al_ it tg pt bd sg co) n 0 0 c ≠ 0 then 1 else 0))] Mz5460 _
    refine zw_eq0N (a := if wh (gE al_ it tg pt bd sg co) n 0 0 c ≠ 0 then 1 else 0) rfl rfl (ite_b) (fun c11 => ?_) (fun c11 => ?_)
    · -- 11 to 18
      refine zw_n 3 (ls' := [some (.ref 139), some (.int 0)]) rfl ?_
      refine zw_if rfl ?_
      show Zw 8 zm_MO_hasTree 28 [some (.ref 139), some (.int 0)] [] Mz5460 _
      refine zw_n 1 rfl ?_
      exact zw_zret rfl rfl (Or.inl rfl) (⟨by rw [if_neg (fun q9 => ite_eq0 c11 q9.2)]; rfl, _, fset (fset (fset (fset (fset f 160 (fz5451 160)) 159 (fz5451 159)) 158 (fz5451 158)) 157 (fz5451 157)) 156 (fz5451 156), (MM.of (o' := o) (f' := fset (fset (fset (fset (fset f 160 (fz5451 160)) 159 (fz5451 159)) 158 (fz5451 158)) 157 (fz5451 157)) 156 (fz5451 156)) hM (Sm.tw Sm.rf hSz5454 (by decide)) (Sm.at hSz5454 (by decide) hM.1) (c1_skip (c1_cons (hMMz5453.2 156 (by decide) (by decide)) (c1_cons (hMMz5453.2 157 (by decide) (by decide)) (c1_cons (hMMz5453.2 158 (by decide) (by decide)) (c1_cons (hMMz5453.2 159 (by decide) (by decide)) (c1_cons (hMMz5453.2 160 (by decide) (by decide)) (c1_cons (Sm.at hSz5454 (by decide) (hM.2 165 (by decide) (by decide))) (c1_cons (Sm.at hSz5454 (by decide) (hM.2 167 (by decide) (by decide))) (c1_cons (Sm.at hSz5454 (by decide) (hM.2 168 (by decide) (by decide))) (c1_cons (Sm.at hSz5454 (by decide) (hM.2 169 (by decide) (by decide))) c1_nil)))))))))) (fs_k (fs_c (fs_c (fs_c (fs_c (fs_c (fs_k (fs_k (fs_k (fs_k fs_n))))))))))), Sm.tw Sm.rf hSz5454 (by decide), fs_k (fs_c (fs_c (fs_c (fs_c (fs_c (fs_k (fs_k (fs_k (fs_k fs_n))))))))), ⟨hF.1, hSFz5456.2.1, hSFz5456.2.2.1, hSFz5456.2.2.2.1, hSFz5456.2.2.2.2.1, hSFz5456.2.2.2.2.2⟩, fun _ _ _ _ => rfl, rfl, fun q9 => absurd q9 (fun q9 => ite_eq0 c11 q9.2)⟩)
    · -- 11 to 14
      refine zw_n 4 (ls' := [some (.ref 139), some (.int 1)]) rfl ?_
      refine zw_if rfl ?_
      show Zw 8 zm_MO_hasTree 24 [some (.ref 139), some (.int 1)] [] Mz5460 _
      have hfit : tFit (gE al_ it tg pt bd sg co) n c := ⟨ite_ne c4, ite_ne c11⟩
      refine zw_n 1 rfl ?_
      refine zw_callV (as := []) (rest := []) rfl rfl rfl (Sm.at hSz5454 (by decide) hM.1) rfl rfl rfl (by decide) (m_layTree Mz5460 o (fset (fset (fset (fset (fset f 160 (fz5451 160)) 159 (fz5451 159)) 158 (fz5451 158)) 157 (fz5451 157)) 156 (fz5451 156)) (MM.of (o' := o) (f' := fset (fset (fset (fset (fset f 160 (fz5451 160)) 159 (fz5451 159)) 158 (fz5451 158)) 157 (fz5451 157)) 156 (fz5451 156)) hM (Sm.tw Sm.rf hSz5454 (by decide)) (Sm.at hSz5454 (by decide) hM.1) (c1_skip (c1_cons (hMMz5453.2 156 (by decide) (by decide)) (c1_cons (hMMz5453.2 157 (by decide) (by decide)) (c1_cons (hMMz5453.2 158 (by decide) (by decide)) (c1_cons (hMMz5453.2 159 (by decide) (by decide)) (c1_cons (hMMz5453.2 160 (by decide) (by decide)) (c1_cons (Sm.at hSz5454 (by decide) (hM.2 165 (by decide) (by decide))) (c1_cons (Sm.at hSz5454 (by decide) (hM.2 167 (by decide) (by decide))) (c1_cons (Sm.at hSz5454 (by decide) (hM.2 168 (by decide) (by decide))) (c1_cons (Sm.at hSz5454 (by decide) (hM.2 169 (by decide) (by decide))) c1_nil)))))))))) (fs_k (fs_c (fs_c (fs_c (fs_c (fs_c (fs_k (fs_k (fs_k (fs_k fs_n))))))))))) n gn al_ it pt tg bd hg hG (⟨hF.1, hSFz5456.2.1, hSFz5456.2.2.1, hSFz5456.2.2.2.1, hSFz5456.2.2.2.2.1, hSFz5456.2.2.2.2.2⟩) c sg li co hS hz5457 hz5458 hA.1 emp rk hA ht hfit) (fun rz5472 Mz5473 hz5474 => ?_)
      obtain ⟨hAz5462, szz5463, wtz5464, fz5465, hMz5466, hSz5467, hFsz5468, s9z5469, s0z5470, hTz5471⟩ := hz5474
      rw [hAz5462]
      show Zw 8 zm_MO_hasTree 28 [some (.ref 139), some (.int 1)] [] Mz5473 _
      refine zw_n 1 rfl ?_
      exact zw_zret rfl rfl (Or.inr rfl) (⟨by rw [if_pos hfit]; rfl, _, fset (fset (fset (fset (fset (fset (fset (fset (fset f 169 (fz5465 169)) 168 (fz5465 168)) 167 (fz5465 167)) 165 (fz5465 165)) 160 (fz5465 160)) 159 (fz5465 159)) 158 (fz5451 158)) 157 (fz5451 157)) 156 (fz5451 156), (MM.of (o' := up (up o 33 szz5463) 38 wtz5464) (f' := fset (fset (fset (fset (fset (fset (fset (fset (fset f 169 (fz5465 169)) 168 (fz5465 168)) 167 (fz5465 167)) 165 (fz5465 165)) 160 (fz5465 160)) 159 (fz5465 159)) 158 (fz5451 158)) 157 (fz5451 157)) 156 (fz5451 156)) hM (Sm.tw (Sm.tw Sm.rf hSz5454 (by decide)) hSz5467 (by decide)) hMz5466.1 (c1_skip (c1_cons (Sm.at hSz5467 (by decide) (hMMz5453.2 156 (by decide) (by decide))) (c1_cons (Sm.at hSz5467 (by decide) (hMMz5453.2 157 (by decide) (by decide))) (c1_cons (Sm.at hSz5467 (by decide) (hMMz5453.2 158 (by decide) (by decide))) (c1_cons (hMz5466.2 159 (by decide) (by decide)) (c1_cons (hMz5466.2 160 (by decide) (by decide)) (c1_cons (hMz5466.2 165 (by decide) (by decide)) (c1_cons (hMz5466.2 167 (by decide) (by decide)) (c1_cons (hMz5466.2 168 (by decide) (by decide)) (c1_cons (hMz5466.2 169 (by decide) (by decide)) c1_nil)))))))))) (fs_k (fs_c (fs_c (fs_c (fs_c (fs_c (fs_c (fs_c (fs_c (fs_c fs_n))))))))))), Sm.tw (Sm.tw Sm.rf hSz5454 (by decide)) hSz5467 (by decide), fs_k (fs_c (fs_c (fs_c (fs_c (fs_c (fs_c (fs_c (fs_c (fs_c fs_n))))))))), ⟨hF.1, hSFz5456.2.1, hSFz5456.2.2.1, hSFz5456.2.2.2.1, s9z5469, s0z5470⟩, (fun j h0 h1 h2 => by rw [up_n h2, up_n h1]), rfl, fun _ => ⟨hTz5471, hz5457, hz5458⟩⟩)

set_option maxHeartbeats 4000000 in
set_option maxRecDepth 100000 in
theorem m_nodes (Mq : zM) (o : Nat → Nat) (f : Nat → Nat → Nat) (hM : MM Mq o f)(n : Nat) (gn al_ it pt tg bd : Nat → Nat) (hg : RelG f n gn al_ it pt tg bd) (hG : SafeG n gn al_ it pt tg bd) (hF : SafeF f) (c : Nat) (sg li co : Nat → Nat) (ht : RelT f c sg li co) (hS : SafeT c sg li co) (emp : Nat → Prop) (rk : Nat → Nat) (hA : Acyc (gE al_ it tg pt bd sg co) n emp rk) : Zm 10 zm_MO_nodes [.ref 139] Mq (fun r9 M1 => r9 = some (.int (if tFit (gE al_ it tg pt bd sg co) n c then nI (tSz (gE al_ it tg pt bd sg co) n c) else -1)) ∧ ∃ o9 f9, MM M1 o9 f9 ∧ Sm Mq M1 [139, 156, 157, 158, 159, 160, 165, 167, 168, 169] ∧ Fsame f f9 [139, 156, 157, 158, 159, 160, 165, 167, 168, 169] ∧ SafeF f9 ∧ (∀ j, j ≠ 0 → j ≠ 33 → j ≠ 38 → o9 j = o j) ∧ o9 0 = 0) := by
  show Zw 10 zm_MO_nodes 0 [some (.ref 139)] [] Mq _
  have hc20 := hS.1
  have hn8 := hG.1
  refine zw_n 2 rfl ?_
  refine zw_put rfl hM.1 (rfl) (Nat.le_of_ble_eq_true rfl) ?_
  generalize ez5476 : List.set Mq 139 _ = Mz5475
  refine zw_n 1 rfl ?_
  refine zw_callV (as := []) (rest := []) rfl rfl rfl (zat_self ez5476 hM.1) rfl rfl rfl (by decide) (m_hasTree Mz5475 (up o 0 0) f (MM.of (o' := up o 0 0) (f' := f) hM (Sm.tset Sm.rf ez5476 (by decide)) (zat_self ez5476 hM.1) (c1_skip (c1_cons (zat_set ez5476 (by decide) (hM.2 156 (by decide) (by decide))) (c1_cons (zat_set ez5476 (by decide) (hM.2 157 (by decide) (by decide))) (c1_cons (zat_set ez5476 (by decide) (hM.2 158 (by decide) (by decide))) (c1_cons (zat_set ez5476 (by decide) (hM.2 159 (by decide) (by decide))) (c1_cons (zat_set ez5476 (by decide) (hM.2 160 (by decide) (by decide))) (c1_cons (zat_set ez5476 (by decide) (hM.2 165 (by decide) (by decide))) (c1_cons (zat_set ez5476 (by decide) (hM.2 167 (by decide) (by decide))) (c1_cons (zat_set ez5476 (by decide) (hM.2 168 (by decide) (by decide))) (c1_cons (zat_set ez5476 (by decide) (hM.2 169 (by decide) (by decide))) c1_nil)))))))))) (fs_k (fs_k (fs_k (fs_k (fs_k (fs_k (fs_k (fs_k (fs_k (fs_k fs_n))))))))))) n gn al_ it pt tg bd hg hG hF c sg li co ht hS emp rk hA) (fun rz5487 Mz5488 hz5489 => ?_)
  obtain ⟨hAz5477, oz5478, fz5479, hMz5480, hSz5481, hFsz5482, hSFz5483, hoz5484, ho0z5485, hTz5486⟩ := hz5489
  rw [hAz5477]
  show Zw 10 zm_MO_nodes 9 [some (.ref 139)] [.int (nI (if tFit (gE al_ it tg pt bd sg co) n c then 1 else 0))] Mz5488 _
  refine zw_eq0N (a := if tFit (gE al_ it tg pt bd sg co) n c then 1 else 0) rfl rfl (ite_b) (fun c9 => ?_) (fun c9 => ?_)
  · -- 9 to 19
    refine zw_n 1 rfl ?_
    exact zw_iret rfl rfl (⟨by rw [if_neg (ite_eq0 c9)], oz5478, fz5479, hMz5480, Sm.trans (Sm.tset Sm.rf ez5476 (by decide)) hSz5481, hFsz5482, hSFz5483, (fun j h0 h1 h2 => (hoz5484 j h0 h1 h2).trans (up_n h0)), ho0z5485⟩)
  · -- 9 to 12
    have hfit : tFit (gE al_ it tg pt bd sg co) n c := ite_ne c9
    have hTs := (hTz5486 hfit).1
    have hTr : TrR (gE al_ it tg pt bd sg co) n c (oz5478 33) (fz5479 165) := hTs.rows (E := (gE al_ it tg pt bd sg co)) hA hn8 hG.2.2.1 hS.2.2.2 hG.2.2.2.2.2.2 hc20 hfit
    have hle := hTr.le
    obtain ⟨hcz, hcT⟩ := hTs.can (by omega)
    have hcq : tEq (oz5478 33) (fz5479 165) (tRw (gE al_ it tg pt bd sg co) n c) := hcT
    refine zw_n 1 rfl ?_
    refine zw_get (v := .int (nI (oz5478 33))) rfl hMz5480.1 rfl ?_
    refine zw_n 1 rfl ?_
    exact zw_iret rfl rfl (⟨by rw [if_pos hfit, hcz], oz5478, fz5479, hMz5480, Sm.trans (Sm.tset Sm.rf ez5476 (by decide)) hSz5481, hFsz5482, hSFz5483, (fun j h0 h1 h2 => (hoz5484 j h0 h1 h2).trans (up_n h0)), ho0z5485⟩)

set_option maxHeartbeats 4000000 in
set_option maxRecDepth 100000 in
theorem m_of (Mq : zM) (o : Nat → Nat) (f : Nat → Nat → Nat) (hM : MM Mq o f) (q w : Nat) (hq : q < 400) (hw : w < 8) : Zm 0 zm_MO_of [.ref 139, .int (nI q), .int (nI w)] Mq (fun r9 M1 => r9 = some (.int (nI (f 165 (q * 8 + w)))) ∧ M1 = Mq) := by
  show Zw 0 zm_MO_of 0 [some (.ref 139), some (.int (nI q)), some (.int (nI w))] [] Mq _
  refine zw_n 1 rfl ?_
  refine zw_get (v := .ref 165) rfl hM.1 rfl ?_
  refine zw_n 3 rfl ?_
  refine zw_top (nm (a := 8) (b := q) rfl rfl) ?_
  refine zw_n 2 rfl ?_
  refine zw_top (na (a := 8 * q) (b := w) rfl rfl) ?_
  refine zw_iald (f := ai (f 165)) (j := (q * 8 + w)) rfl (hM.2 165 (by decide) (by decide)) (congrArg nI (by omega)) (by decide) (by omega) ?_
  exact zw_iret rfl rfl (⟨rfl, rfl⟩)

set_option maxHeartbeats 4000000 in
set_option maxRecDepth 100000 in
theorem m_covers (Mq : zM) (o : Nat → Nat) (f : Nat → Nat → Nat) (hM : MM Mq o f) (E : Nat → Nat → Nat) (n c sz : Nat) (hTr : TrR E n c sz (f 165)) (hc20 : c ≤ 20) (q t : Nat) (hq : q < sz) (ht : t < 2147483648) : Zm 1 zm_MO_covers [.ref 139, .int (nI q), .int (nI t)] Mq (fun r9 M1 => r9 = some (.int (nI (if hsB (f 165) t q = true then 1 else 0))) ∧ M1 = Mq) := by
  show Zw 1 zm_MO_covers 0 [some (.ref 139), some (.int (nI q)), some (.int (nI t))] [] Mq _
  have hle := hTr.le
  have h1 := hTr.f23 q hq
  have h2 := hTr.f3 q hq
  refine zw_n 3 rfl ?_
  refine zw_callV (as := [.int (nI q), .int 2]) (rest := []) rfl rfl rfl hM.1 rfl rfl rfl (by decide) (m_of Mq o f hM q 2 (by omega) (by omega)) (fun rz5490 Mz5491 hz5492 => ?_)
  rw [hz5492.1, hz5492.2]
  show Zw 1 zm_MO_covers 6 [some (.ref 139), some (.int (nI q)), some (.int (nI t))] [.int (nI ((f 165) (q * 8 + 2)))] Mq _
  refine zw_n 1 rfl ?_
  refine zw_igtN (a := (f 165) (q * 8 + 2)) (b := t) rfl rfl rfl (by omega) (by omega) (fun c7 => ?_) (fun c7 => ?_)
  · -- 7 to 24
    refine zw_n 1 rfl ?_
    exact zw_zret rfl rfl (Or.inl rfl) (⟨by rw [if_neg (fun q9 => by have h9 := hsB_iff.mp q9; omega)]; rfl, rfl⟩)
  · -- 7 to 10
    refine zw_n 4 rfl ?_
    refine zw_callV (as := [.int (nI q), .int 3]) (rest := [.int (nI t)]) rfl rfl rfl hM.1 rfl rfl rfl (by decide) (m_of Mq o f hM q 3 (by omega) (by omega)) (fun rz5493 Mz5494 hz5495 => ?_)
    rw [hz5495.1, hz5495.2]
    show Zw 1 zm_MO_covers 17 [some (.ref 139), some (.int (nI q)), some (.int (nI t))] [.int (nI ((f 165) (q * 8 + 3))), .int (nI t)] Mq _
    refine zw_igeN (a := t) (b := (f 165) (q * 8 + 3)) rfl rfl rfl (by omega) (by omega) (fun c17 => ?_) (fun c17 => ?_)
    · -- 17 to 24
      refine zw_n 1 rfl ?_
      exact zw_zret rfl rfl (Or.inl rfl) (⟨by rw [if_neg (fun q9 => by have h9 := hsB_iff.mp q9; omega)]; rfl, rfl⟩)
    · -- 17 to 20
      refine zw_n 2 rfl ?_
      exact zw_zret rfl rfl (Or.inr rfl) (⟨by rw [if_pos (hsB_iff.mpr ⟨by omega, by omega⟩)]; rfl, rfl⟩)
