set_option maxHeartbeats 4000000 in
set_option maxRecDepth 100000 in
theorem c_hasTree (Mq : zM) (f : Nat → Nat → Nat) (L : Nat) (hC : CC Mq f) (hI : CInv L f) : Zm 6 zm_CG_hasTree [.ref 0] Mq (fun r9 M1 => r9 = some (.int (nI (if tFit (eAt f 16 26) (f 16 0) (f 26 0) then 1 else 0))) ∧ ∃ f9, CC M1 f9 ∧ CInv L f9 ∧ Smc Mq M1 ∧ Asame f f9 ∧ (tFit (eAt f 16 26) (f 16 0) (f 26 0) → f9 0 16 ≠ 0 ∧ f9 34 2 ≠ 0)) := by
  show Zw 6 zm_CG_hasTree 0 [some (.ref 0)] [] Mq _
  have hG : SafeG (f 16 0) (f 17) (f 18) (f 19) (f 20) (f 21) (f 22) := hI.gram.safe
  have hS : SafeT (f 26 0) (f 27) (f 28) (f 29) := hI.tok.safe
  have hn8 := hG.1
  have hc20 := hS.1
  obtain ⟨emp, rk, hA⟩ := hI.gram.acy
  have htst := hI.tst
  refine zw_n 1 rfl ?_
  refine zw_get (v := .ref 34) rfl (hC.1 0 (by decide) (by decide) (by decide)) rfl ?_
  refine zw_callV (as := []) (rest := []) rfl rfl rfl (hC.1 34 (by decide) (by decide) (by decide)) rfl rfl rfl (by decide) (c_readOnce Mq 34 16 26 (f 34 2) (f 35) (f 36) (f 16 0) (f 16 7) (f 17) (f 18) (f 19) (f 20) (f 21) (f 22) (f 23) (f 24) (f 25) (f 26 0) (f 27) (f 28) (f 29) (seg3 (hC.1 34 (by decide) (by decide) (by decide)) (hC.1 35 (by decide) (by decide) (by decide)) (hC.1 36 (by decide) (by decide) (by decide))) (seg10 (hC.1 16 (by decide) (by decide) (by decide)) (hC.1 17 (by decide) (by decide) (by decide)) (hC.1 18 (by decide) (by decide) (by decide)) (hC.1 19 (by decide) (by decide) (by decide)) (hC.1 20 (by decide) (by decide) (by decide)) (hC.1 21 (by decide) (by decide) (by decide)) (hC.1 22 (by decide) (by decide) (by decide)) (hC.1 23 (by decide) (by decide) (by decide)) (hC.1 24 (by decide) (by decide) (by decide)) (hC.1 25 (by decide) (by decide) (by decide))) (seg4 (hC.1 26 (by decide) (by decide) (by decide)) (hC.1 27 (by decide) (by decide) (by decide)) (hC.1 28 (by decide) (by decide) (by decide)) (hC.1 29 (by decide) (by decide) (by decide))) hG hS hI.csw hI.csr (by omega) emp rk hA hI.cst hI.cok) (fun rz4913 Mz4914 hz4915 => ?_)
  obtain ⟨hAz4905, Wz4906, Rz4907, hBz4908, hSz4909, hDz4910, hEz4911, hFz4912⟩ := hz4915
  rw [hAz4905]
  show Zw 6 zm_CG_hasTree 7 [some (.ref 0)] [.int (nI (if 0 < (f 16 0) ∧ wh (gE (f 18) (f 19) (f 21) (f 20) (f 22) (f 27) (f 29)) (f 16 0) 0 0 (f 26 0) ≠ 0 then 1 else 0))] Mz4914 _
  refine zw_ne0N (a := if 0 < (f 16 0) ∧ wh (gE (f 18) (f 19) (f 21) (f 20) (f 22) (f 27) (f 29)) (f 16 0) 0 0 (f 26 0) ≠ 0 then 1 else 0) rfl rfl (ite_b) (fun c7 => ?_) (fun c7 => ?_)
  · -- 7 to 12
    refine zw_n 1 rfl ?_
    refine zw_get (v := .int (nI (f 0 16))) rfl (Sm.at hSz4909 (by decide) (hC.1 0 (by decide) (by decide) (by decide))) rfl ?_
    refine zw_ne0N (a := f 0 16) rfl rfl (by omega) (fun c16 => ?_) (fun c16 => ?_)
    · -- 16 to 31
      refine zw_n 1 rfl ?_
      exact zw_zret rfl rfl (Or.inr rfl) (⟨by rw [if_pos (ite_ne c7)]; rfl, fset (fset (fset f 36 Rz4907) 35 Wz4906) 34 (up (f 34) 2 1), (CC.of (f' := fset (fset (fset f 36 Rz4907) 35 Wz4906) 34 (up (f 34) 2 1)) hC (Sm.tw Sm.rf hSz4909 (by decide)) ⟨by decide, by decide⟩ (d1_cons (Sm.at hSz4909 (by decide) (hC.1 0 (by decide) (by decide) (by decide))) (d1_cons (hBz4908.get 0 rfl) (d1_cons (hBz4908.get 1 rfl) (d1_cons (hBz4908.get 2 rfl) (d1_cons (Sm.at hSz4909 (by decide) (hC.1 37 (by decide) (by decide) (by decide))) (d1_cons (Sm.at hSz4909 (by decide) (hC.1 38 (by decide) (by decide) (by decide))) (d1_cons (Sm.at hSz4909 (by decide) (hC.1 39 (by decide) (by decide) (by decide))) (d1_cons (Sm.at hSz4909 (by decide) (hC.1 40 (by decide) (by decide) (by decide))) (d1_cons (Sm.at hSz4909 (by decide) (hC.1 41 (by decide) (by decide) (by decide))) d1_nil))))))))) (fs_k (fs_c (fs_c (fs_c (fs_k (fs_k (fs_k (fs_k (fs_k fs_n)))))))))), ⟨⟨hI.tl, hI.tx, hI.gram, hI.tok, hI.bef, hI.grn, hI.mvd, hI.hsz, hI.hen, hI.past, hI.lln, hI.kh, hI.kg, hI.kt, Nat.le_refl _, hDz4910, hEz4911, hI.ost, hI.osw, hI.osr, hI.tst, hI.rkn, hI.fnd, hI.ofs⟩, (fun _ => hFz4912), hI.blm, hI.tre, hI.rep⟩, (Smc.of (S := [0, 34, 35, 36, 37, 38, 39, 40, 41]) (Sm.tw Sm.rf hSz4909 (by decide)) (by decide)), Asame.of (S := [0, 34, 35, 36, 37, 38, 39, 40, 41]) (fs_k (fs_c (fs_c (fs_c (fs_k (fs_k (fs_k (fs_k (fs_k fs_n))))))))) rfl (by decide), fun _ => ⟨c16, (by decide : (1 : Nat) ≠ 0)⟩⟩)
    · -- 16 to 19
      refine zw_n 1 rfl ?_
      refine zw_get (v := .ref 37) rfl (Sm.at hSz4909 (by decide) (hC.1 0 (by decide) (by decide) (by decide))) rfl ?_
      refine zw_callV (as := []) (rest := []) rfl rfl rfl (Sm.at hSz4909 (by decide) (hC.1 37 (by decide) (by decide) (by decide))) rfl rfl rfl (by decide) (c_build Mz4914 34 16 26 1 Wz4906 Rz4907 (f 16 0) (f 16 7) (f 17) (f 18) (f 19) (f 20) (f 21) (f 22) (f 23) (f 24) (f 25) (f 26 0) (f 27) (f 28) (f 29) (seg3 (hBz4908.get 0 rfl) (hBz4908.get 1 rfl) (hBz4908.get 2 rfl)) (seg10 (Sm.at hSz4909 (by decide) (hC.1 16 (by decide) (by decide) (by decide))) (Sm.at hSz4909 (by decide) (hC.1 17 (by decide) (by decide) (by decide))) (Sm.at hSz4909 (by decide) (hC.1 18 (by decide) (by decide) (by decide))) (Sm.at hSz4909 (by decide) (hC.1 19 (by decide) (by decide) (by decide))) (Sm.at hSz4909 (by decide) (hC.1 20 (by decide) (by decide) (by decide))) (Sm.at hSz4909 (by decide) (hC.1 21 (by decide) (by decide) (by decide))) (Sm.at hSz4909 (by decide) (hC.1 22 (by decide) (by decide) (by decide))) (Sm.at hSz4909 (by decide) (hC.1 23 (by decide) (by decide) (by decide))) (Sm.at hSz4909 (by decide) (hC.1 24 (by decide) (by decide) (by decide))) (Sm.at hSz4909 (by decide) (hC.1 25 (by decide) (by decide) (by decide)))) (seg4 (Sm.at hSz4909 (by decide) (hC.1 26 (by decide) (by decide) (by decide))) (Sm.at hSz4909 (by decide) (hC.1 27 (by decide) (by decide) (by decide))) (Sm.at hSz4909 (by decide) (hC.1 28 (by decide) (by decide) (by decide))) (Sm.at hSz4909 (by decide) (hC.1 29 (by decide) (by decide) (by decide)))) hG hS hDz4910 hEz4911 (f 37 0) (f 37 3) (f 38) (f 39) (f 40) (f 41) (f 42) (seg6 (Sm.at hSz4909 (by decide) (hC.1 37 (by decide) (by decide) (by decide))) (Sm.at hSz4909 (by decide) (hC.1 38 (by decide) (by decide) (by decide))) (Sm.at hSz4909 (by decide) (hC.1 39 (by decide) (by decide) (by decide))) (Sm.at hSz4909 (by decide) (hC.1 40 (by decide) (by decide) (by decide))) (Sm.at hSz4909 (by decide) (hC.1 41 (by decide) (by decide) (by decide))) (Sm.at hSz4909 (by decide) (hC.1 42 (by decide) (by decide) (by decide)))) ⟨by decide, by decide⟩ emp rk hA hFz4912 (ite_ne c7)) (fun rz4926 Mz4927 hz4928 => ?_)
      obtain ⟨hAz4916, szz4917, wtz4918, Tz4919, Vz4920, Rz4921, Ez4922, hZz4923, hSz4924, hTz4925⟩ := hz4928
      rw [hAz4916]
      show Zw 6 zm_CG_hasTree 26 [some (.ref 0)] [] Mz4927 _
      refine zw_n 2 rfl ?_
      refine zw_put rfl (Sm.at hSz4924 (by decide) (Sm.at hSz4909 (by decide) (hC.1 0 (by decide) (by decide) (by decide)))) (rfl) (Nat.le_of_ble_eq_true rfl) ?_
      generalize ez4930 : List.set Mz4927 0 _ = Mz4929
      refine zw_n 1 rfl ?_
      exact zw_zret rfl rfl (Or.inr rfl) (⟨by rw [if_pos (ite_ne c7)]; rfl, fset (fset (fset (fset (fset (fset (fset (fset (fset f 41 Ez4922) 40 Rz4921) 39 Vz4920) 38 Tz4919) 37 (up (up (f 37) 0 szz4917) 3 wtz4918)) 36 Rz4907) 35 Wz4906) 34 (up (f 34) 2 1)) 0 (up (f 0) 16 1), (CC.of (f' := fset (fset (fset (fset (fset (fset (fset (fset (fset f 41 Ez4922) 40 Rz4921) 39 Vz4920) 38 Tz4919) 37 (up (up (f 37) 0 szz4917) 3 wtz4918)) 36 Rz4907) 35 Wz4906) 34 (up (f 34) 2 1)) 0 (up (f 0) 16 1)) hC (Sm.tset (Sm.tw (Sm.tw Sm.rf hSz4909 (by decide)) hSz4924 (by decide)) ez4930 (by decide)) ⟨by decide, by decide⟩ (d1_cons (zat_self ez4930 (Sm.at hSz4924 (by decide) (Sm.at hSz4909 (by decide) (hC.1 0 (by decide) (by decide) (by decide))))) (d1_cons (zat_set ez4930 (by decide) (Sm.at hSz4924 (by decide) (hBz4908.get 0 rfl))) (d1_cons (zat_set ez4930 (by decide) (Sm.at hSz4924 (by decide) (hBz4908.get 1 rfl))) (d1_cons (zat_set ez4930 (by decide) (Sm.at hSz4924 (by decide) (hBz4908.get 2 rfl))) (d1_cons (zat_set ez4930 (by decide) (hZz4923.get 0 rfl)) (d1_cons (zat_set ez4930 (by decide) (hZz4923.get 1 rfl)) (d1_cons (zat_set ez4930 (by decide) (hZz4923.get 2 rfl)) (d1_cons (zat_set ez4930 (by decide) (hZz4923.get 3 rfl)) (d1_cons (zat_set ez4930 (by decide) (hZz4923.get 4 rfl)) d1_nil))))))))) (fs_c (fs_c (fs_c (fs_c (fs_c (fs_c (fs_c (fs_c (fs_c fs_n)))))))))), ⟨⟨hI.tl, hI.tx, hI.gram, hI.tok, hI.bef, hI.grn, hI.mvd, hI.hsz, hI.hen, hI.past, hI.lln, hI.kh, hI.kg, hI.kt, Nat.le_refl _, hDz4910, hEz4911, hI.ost, hI.osw, hI.osr, Nat.le_refl _, hI.rkn, hI.fnd, hI.ofs⟩, (fun _ => hFz4912), hI.blm, (fun _ => hTz4925), hI.rep⟩, (Smc.of (S := [0, 34, 35, 36, 37, 38, 39, 40, 41]) (Sm.tset (Sm.tw (Sm.tw Sm.rf hSz4909 (by decide)) hSz4924 (by decide)) ez4930 (by decide)) (by decide)), Asame.of (S := [0, 34, 35, 36, 37, 38, 39, 40, 41]) (fs_c (fs_c (fs_c (fs_c (fs_c (fs_c (fs_c (fs_c (fs_c fs_n))))))))) rfl (by decide), fun _ => ⟨(by decide : (1 : Nat) ≠ 0), (by decide : (1 : Nat) ≠ 0)⟩⟩)
  · -- 7 to 10
    refine zw_n 1 rfl ?_
    exact zw_zret rfl rfl (Or.inl rfl) (⟨by rw [if_neg (ite_eq0 c7)]; rfl, fset (fset (fset f 36 Rz4907) 35 Wz4906) 34 (up (f 34) 2 1), (CC.of (f' := fset (fset (fset f 36 Rz4907) 35 Wz4906) 34 (up (f 34) 2 1)) hC (Sm.tw Sm.rf hSz4909 (by decide)) ⟨by decide, by decide⟩ (d1_cons (Sm.at hSz4909 (by decide) (hC.1 0 (by decide) (by decide) (by decide))) (d1_cons (hBz4908.get 0 rfl) (d1_cons (hBz4908.get 1 rfl) (d1_cons (hBz4908.get 2 rfl) (d1_cons (Sm.at hSz4909 (by decide) (hC.1 37 (by decide) (by decide) (by decide))) (d1_cons (Sm.at hSz4909 (by decide) (hC.1 38 (by decide) (by decide) (by decide))) (d1_cons (Sm.at hSz4909 (by decide) (hC.1 39 (by decide) (by decide) (by decide))) (d1_cons (Sm.at hSz4909 (by decide) (hC.1 40 (by decide) (by decide) (by decide))) (d1_cons (Sm.at hSz4909 (by decide) (hC.1 41 (by decide) (by decide) (by decide))) d1_nil))))))))) (fs_k (fs_c (fs_c (fs_c (fs_k (fs_k (fs_k (fs_k (fs_k fs_n)))))))))), ⟨⟨hI.tl, hI.tx, hI.gram, hI.tok, hI.bef, hI.grn, hI.mvd, hI.hsz, hI.hen, hI.past, hI.lln, hI.kh, hI.kg, hI.kt, Nat.le_refl _, hDz4910, hEz4911, hI.ost, hI.osw, hI.osr, hI.tst, hI.rkn, hI.fnd, hI.ofs⟩, (fun _ => hFz4912), hI.blm, hI.tre, hI.rep⟩, (Smc.of (S := [0, 34, 35, 36, 37, 38, 39, 40, 41]) (Sm.tw Sm.rf hSz4909 (by decide)) (by decide)), Asame.of (S := [0, 34, 35, 36, 37, 38, 39, 40, 41]) (fs_k (fs_c (fs_c (fs_c (fs_k (fs_k (fs_k (fs_k (fs_k fs_n))))))))) rfl (by decide), fun q9 => absurd q9 (ite_eq0 c7)⟩)

set_option maxHeartbeats 4000000 in
set_option maxRecDepth 100000 in
theorem c_nodes (Mq : zM) (f : Nat → Nat → Nat) (L : Nat) (hC : CC Mq f) (hI : CInv L f) : Zm 7 zm_CG_nodes [.ref 0] Mq (fun r9 M1 => r9 = some (.int (if tFit (eAt f 16 26) (f 16 0) (f 26 0) then nI (tSz (eAt f 16 26) (f 16 0) (f 26 0)) else -1)) ∧ ∃ f9, CC M1 f9 ∧ CInv L f9 ∧ Smc Mq M1 ∧ Asame f f9) := by
  show Zw 7 zm_CG_nodes 0 [some (.ref 0)] [] Mq _
  have hG : SafeG (f 16 0) (f 17) (f 18) (f 19) (f 20) (f 21) (f 22) := hI.gram.safe
  have hS : SafeT (f 26 0) (f 27) (f 28) (f 29) := hI.tok.safe
  have hn8 := hG.1
  have hc20 := hS.1
  obtain ⟨emp, rk, hA⟩ := hI.gram.acy
  refine zw_n 1 rfl ?_
  refine zw_callV (as := []) (rest := []) rfl rfl rfl (hC.1 0 (by decide) (by decide) (by decide)) rfl rfl rfl (by decide) (c_hasTree Mq f L hC hI) (fun rz4938 Mz4939 hz4940 => ?_)
  obtain ⟨hAz4931, fz4932, hCz4933, hIz4934, hSmz4935, hAsz4936, hTz4937⟩ := hz4940
  rw [hAz4931]
  show Zw 7 zm_CG_nodes 4 [some (.ref 0)] [.int (nI (if tFit (eAt f 16 26) (f 16 0) (f 26 0) then 1 else 0))] Mz4939 _
  refine zw_eq0N (a := if tFit (eAt f 16 26) (f 16 0) (f 26 0) then 1 else 0) rfl rfl (ite_b) (fun c4 => ?_) (fun c4 => ?_)
  · -- 4 to 17
    refine zw_n 1 rfl ?_
    exact zw_iret rfl rfl (⟨by rw [if_neg (ite_eq0 c4)], fz4932, hCz4933, hIz4934, hSmz4935, hAsz4936⟩)
  · -- 4 to 7
    have hfit := ite_ne c4
    have hTs : TrS (eAt f 16 26) (f 16 0) (f 26 0) (fz4932 37 0) (fz4932 38) := hAsz4936.tre (hIz4934.tre (hTz4937 hfit).1)
    have hTr : TrR (eAt f 16 26) (f 16 0) (f 26 0) (fz4932 37 0) (fz4932 38) := hTs.rows (E := eAt f 16 26) hA hn8 hG.2.2.1 hS.2.2.2 hG.2.2.2.2.2.2 hc20 hfit
    have hle := hTr.le
    obtain ⟨hcz, hcT⟩ := hTs.can (by omega)
    have hcq : tEq (fz4932 37 0) (fz4932 38) (tRw (eAt f 16 26) (f 16 0) (f 26 0)) := hcT
    refine zw_n 1 rfl ?_
    refine zw_get (v := .ref 37) rfl (hCz4933.1 0 (by decide) (by decide) (by decide)) rfl ?_
    refine zw_get (v := .int (nI (fz4932 37 0))) rfl (hCz4933.1 37 (by decide) (by decide) (by decide)) rfl ?_
    refine zw_n 1 rfl ?_
    exact zw_iret rfl rfl (⟨by rw [if_pos hfit, hcz], fz4932, hCz4933, hIz4934, hSmz4935, hAsz4936⟩)

set_option maxHeartbeats 4000000 in
set_option maxRecDepth 100000 in
theorem c_node (Mq : zM) (f : Nat → Nat → Nat) (L : Nat) (hC : CC Mq f) (hI : CInv L f) (x w : Int32) : Zm 7 zm_CG_node [.ref 0, .int x, .int w] Mq (fun r9 M1 => r9 = some (.int (if tFit (eAt f 16 26) (f 16 0) (f 26 0) then nodA (tSz (eAt f 16 26) (f 16 0) (f 26 0)) (tRw (eAt f 16 26) (f 16 0) (f 26 0)) x w else -1)) ∧ ∃ f9, CC M1 f9 ∧ CInv L f9 ∧ Smc Mq M1 ∧ Asame f f9) := by
  show Zw 7 zm_CG_node 0 [some (.ref 0), some (.int x), some (.int w)] [] Mq _
  have hG : SafeG (f 16 0) (f 17) (f 18) (f 19) (f 20) (f 21) (f 22) := hI.gram.safe
  have hS : SafeT (f 26 0) (f 27) (f 28) (f 29) := hI.tok.safe
  have hn8 := hG.1
  have hc20 := hS.1
  obtain ⟨emp, rk, hA⟩ := hI.gram.acy
  refine zw_n 1 rfl ?_
  refine zw_lt0Z (a := w.toInt) rfl (rfl) (fun c1 => ?_) (fun c1 => ?_)
  · -- 1 to 28
    refine zw_n 1 rfl ?_
    exact zw_iret rfl rfl (⟨by split; (unfold nodA; rw [if_neg (fun q9 => by have := q9.1; omega)]); rfl, f, hC, hI, Smc.rf, Asame.rf⟩)
  · -- 1 to 4
    refine zw_n 2 rfl ?_
    refine zw_igtZ (a := w.toInt) (b := 6) rfl (rfl) (by decide) (fun c7 => ?_) (fun c7 => ?_)
    · -- 7 to 28
      refine zw_n 1 rfl ?_
      exact zw_iret rfl rfl (⟨by split; (unfold nodA; rw [if_neg (fun q9 => by have := q9.1; omega)]); rfl, f, hC, hI, Smc.rf, Asame.rf⟩)
    · -- 7 to 10
      refine zw_n 1 rfl ?_
      refine zw_callV (as := []) (rest := []) rfl rfl rfl (hC.1 0 (by decide) (by decide) (by decide)) rfl rfl rfl (by decide) (c_hasTree Mq f L hC hI) (fun rz4948 Mz4949 hz4950 => ?_)
      obtain ⟨hAz4941, fz4942, hCz4943, hIz4944, hSmz4945, hAsz4946, hTz4947⟩ := hz4950
      rw [hAz4941]
      show Zw 7 zm_CG_node 14 [some (.ref 0), some (.int x), some (.int w)] [.int (nI (if tFit (eAt f 16 26) (f 16 0) (f 26 0) then 1 else 0))] Mz4949 _
      refine zw_eq0N (a := if tFit (eAt f 16 26) (f 16 0) (f 26 0) then 1 else 0) rfl rfl (ite_b) (fun c14 => ?_) (fun c14 => ?_)
      · -- 14 to 28
        refine zw_n 1 rfl ?_
        exact zw_iret rfl rfl (⟨by rw [if_neg (ite_eq0 c14)], fz4942, hCz4943, hIz4944, hSmz4945, hAsz4946⟩)
      · -- 14 to 17
        have hfit := ite_ne c14
        have hTs : TrS (eAt f 16 26) (f 16 0) (f 26 0) (fz4942 37 0) (fz4942 38) := hAsz4946.tre (hIz4944.tre (hTz4947 hfit).1)
        have hTr : TrR (eAt f 16 26) (f 16 0) (f 26 0) (fz4942 37 0) (fz4942 38) := hTs.rows (E := eAt f 16 26) hA hn8 hG.2.2.1 hS.2.2.2 hG.2.2.2.2.2.2 hc20 hfit
        have hle := hTr.le
        obtain ⟨hcz, hcT⟩ := hTs.can (by omega)
        have hcq : tEq (fz4942 37 0) (fz4942 38) (tRw (eAt f 16 26) (f 16 0) (f 26 0)) := hcT
        refine zw_n 1 rfl ?_
        refine zw_get (v := .ref 37) rfl (hCz4943.1 0 (by decide) (by decide) (by decide)) rfl ?_
        refine zw_n 1 rfl ?_
        refine zw_callV (as := [.int x]) (rest := []) rfl rfl rfl (hCz4943.1 37 (by decide) (by decide) (by decide)) rfl rfl rfl (by decide) (c_isNode Mz4949 34 (fz4942 37 0) (fz4942 37 3) (fz4942 38) (fz4942 39) (fz4942 40) (fz4942 41) (fz4942 42) (seg6 (hCz4943.1 37 (by decide) (by decide) (by decide)) (hCz4943.1 38 (by decide) (by decide) (by decide)) (hCz4943.1 39 (by decide) (by decide) (by decide)) (hCz4943.1 40 (by decide) (by decide) (by decide)) (hCz4943.1 41 (by decide) (by decide) (by decide)) (hCz4943.1 42 (by decide) (by decide) (by decide))) (by omega) x) (fun rz4951 Mz4952 hz4953 => ?_)
        rw [hz4953.1, hz4953.2]
        show Zw 7 zm_CG_node 25 [some (.ref 0), some (.int x), some (.int w)] [.int (nI (if 0 ≤ x.toInt ∧ x.toInt < fz4942 37 0 then 1 else 0))] Mz4949 _
        refine zw_ne0N (a := if 0 ≤ x.toInt ∧ x.toInt < fz4942 37 0 then 1 else 0) rfl rfl (ite_b) (fun c25 => ?_) (fun c25 => ?_)
        · -- 25 to 30
          have hx9 := ite_ne c25
          obtain ⟨xq, hqx⟩ : ∃ xq : Nat, x.toInt.toNat = xq := ⟨_, rfl⟩
          have hex : x = nI xq := by rw [← hqx]; exact i32_nat (hx9.1)
          obtain ⟨wq, hqw⟩ : ∃ wq : Nat, w.toInt.toNat = wq := ⟨_, rfl⟩
          have hew : w = nI wq := by rw [← hqw]; exact i32_nat (by omega)
          refine zw_lse (ls' := [some (.ref 0), some (.int (nI xq)), some (.int (nI wq))]) (by rw [← hex, ← hew]) ?_
          refine zw_n 1 rfl ?_
          refine zw_get (v := .ref 37) rfl (hCz4943.1 0 (by decide) (by decide) (by decide)) rfl ?_
          refine zw_n 2 rfl ?_
          refine zw_callV (as := [.int (nI xq), .int (nI wq)]) (rest := []) rfl rfl rfl (hCz4943.1 37 (by decide) (by decide) (by decide)) rfl rfl rfl (by decide) (c_field Mz4949 34 (fz4942 37 0) (fz4942 37 3) (fz4942 38) (fz4942 39) (fz4942 40) (fz4942 41) (fz4942 42) (seg6 (hCz4943.1 37 (by decide) (by decide) (by decide)) (hCz4943.1 38 (by decide) (by decide) (by decide)) (hCz4943.1 39 (by decide) (by decide) (by decide)) (hCz4943.1 40 (by decide) (by decide) (by decide)) (hCz4943.1 41 (by decide) (by decide) (by decide)) (hCz4943.1 42 (by decide) (by decide) (by decide))) xq wq (by omega) (by omega)) (fun rz4954 Mz4955 hz4956 => ?_)
          rw [hz4956.1, hz4956.2]
          show Zw 7 zm_CG_node 39 [some (.ref 0), some (.int (nI xq)), some (.int (nI wq))] [.int (nI ((fz4942 38) (xq * 8 + wq)))] Mz4949 _
          exact zw_iret rfl rfl (⟨by rw [if_pos hfit]; unfold nodA; rw [if_pos ⟨⟨by omega, by omega⟩, ⟨by omega, by rw [← hcz]; omega⟩⟩, hqx, hqw, ← hcT xq wq (by omega) (by omega)], fz4942, hCz4943, hIz4944, hSmz4945, hAsz4946⟩)
        · -- 25 to 28
          refine zw_n 1 rfl ?_
          exact zw_iret rfl rfl (⟨by rw [if_pos hfit, ← hcz]; unfold nodA; rw [if_neg (fun q9 => ite_eq0 c25 q9.2)], fz4942, hCz4943, hIz4944, hSmz4945, hAsz4946⟩)

set_option maxHeartbeats 4000000 in
set_option maxRecDepth 100000 in
theorem c_ways (Mq : zM) (f : Nat → Nat → Nat) (L : Nat) (hC : CC Mq f) (hI : CInv L f) (x : Int32) : Zm 7 zm_CG_ways [.ref 0, .int x] Mq (fun r9 M1 => r9 = some (.int (if tFit (eAt f 16 26) (f 16 0) (f 26 0) then wayA (eAt f 16 26) (f 16 0) (tSz (eAt f 16 26) (f 16 0) (f 26 0)) (tRw (eAt f 16 26) (f 16 0) (f 26 0)) x else -1)) ∧ ∃ f9, CC M1 f9 ∧ CInv L f9 ∧ Smc Mq M1 ∧ Asame f f9) := by
  show Zw 7 zm_CG_ways 0 [some (.ref 0), some (.int x)] [] Mq _
  have hG : SafeG (f 16 0) (f 17) (f 18) (f 19) (f 20) (f 21) (f 22) := hI.gram.safe
  have hS : SafeT (f 26 0) (f 27) (f 28) (f 29) := hI.tok.safe
  have hn8 := hG.1
  have hc20 := hS.1
  obtain ⟨emp, rk, hA⟩ := hI.gram.acy
  refine zw_n 1 rfl ?_
  refine zw_callV (as := []) (rest := []) rfl rfl rfl (hC.1 0 (by decide) (by decide) (by decide)) rfl rfl rfl (by decide) (c_hasTree Mq f L hC hI) (fun rz4964 Mz4965 hz4966 => ?_)
  obtain ⟨hAz4957, fz4958, hCz4959, hIz4960, hSmz4961, hAsz4962, hTz4963⟩ := hz4966
  rw [hAz4957]
  show Zw 7 zm_CG_ways 4 [some (.ref 0), some (.int x)] [.int (nI (if tFit (eAt f 16 26) (f 16 0) (f 26 0) then 1 else 0))] Mz4965 _
  refine zw_eq0N (a := if tFit (eAt f 16 26) (f 16 0) (f 26 0) then 1 else 0) rfl rfl (ite_b) (fun c4 => ?_) (fun c4 => ?_)
  · -- 4 to 29
    refine zw_n 1 rfl ?_
    exact zw_iret rfl rfl (⟨by rw [if_neg (ite_eq0 c4)], fz4958, hCz4959, hIz4960, hSmz4961, hAsz4962⟩)
  · -- 4 to 7
    have hfit := ite_ne c4
    have hTs : TrS (eAt f 16 26) (f 16 0) (f 26 0) (fz4958 37 0) (fz4958 38) := hAsz4962.tre (hIz4960.tre (hTz4963 hfit).1)
    have hTr : TrR (eAt f 16 26) (f 16 0) (f 26 0) (fz4958 37 0) (fz4958 38) := hTs.rows (E := eAt f 16 26) hA hn8 hG.2.2.1 hS.2.2.2 hG.2.2.2.2.2.2 hc20 hfit
    have hle := hTr.le
    obtain ⟨hcz, hcT⟩ := hTs.can (by omega)
    have hcq : tEq (fz4958 37 0) (fz4958 38) (tRw (eAt f 16 26) (f 16 0) (f 26 0)) := hcT
    refine zw_n 1 rfl ?_
    refine zw_get (v := .ref 37) rfl (hCz4959.1 0 (by decide) (by decide) (by decide)) rfl ?_
    refine zw_n 1 rfl ?_
    refine zw_callV (as := [.int x]) (rest := []) rfl rfl rfl (hCz4959.1 37 (by decide) (by decide) (by decide)) rfl rfl rfl (by decide) (c_isNode Mz4965 34 (fz4958 37 0) (fz4958 37 3) (fz4958 38) (fz4958 39) (fz4958 40) (fz4958 41) (fz4958 42) (seg6 (hCz4959.1 37 (by decide) (by decide) (by decide)) (hCz4959.1 38 (by decide) (by decide) (by decide)) (hCz4959.1 39 (by decide) (by decide) (by decide)) (hCz4959.1 40 (by decide) (by decide) (by decide)) (hCz4959.1 41 (by decide) (by decide) (by decide)) (hCz4959.1 42 (by decide) (by decide) (by decide))) (by omega) x) (fun rz4967 Mz4968 hz4969 => ?_)
    rw [hz4969.1, hz4969.2]
    show Zw 7 zm_CG_ways 15 [some (.ref 0), some (.int x)] [.int (nI (if 0 ≤ x.toInt ∧ x.toInt < fz4958 37 0 then 1 else 0))] Mz4965 _
    refine zw_eq0N (a := if 0 ≤ x.toInt ∧ x.toInt < fz4958 37 0 then 1 else 0) rfl rfl (ite_b) (fun c15 => ?_) (fun c15 => ?_)
    · -- 15 to 29
      refine zw_n 1 rfl ?_
      exact zw_iret rfl rfl (⟨by rw [if_pos hfit, ← hcz]; unfold wayA; rw [if_neg (ite_eq0 c15)], fz4958, hCz4959, hIz4960, hSmz4961, hAsz4962⟩)
    · -- 15 to 18
      have hx9 := ite_ne c15
      obtain ⟨xq, hqx⟩ : ∃ xq : Nat, x.toInt.toNat = xq := ⟨_, rfl⟩
      have hex : x = nI xq := by rw [← hqx]; exact i32_nat (hx9.1)
      refine zw_lse (ls' := [some (.ref 0), some (.int (nI xq))]) (by rw [← hex]) ?_
      refine zw_n 1 rfl ?_
      refine zw_get (v := .ref 37) rfl (hCz4959.1 0 (by decide) (by decide) (by decide)) rfl ?_
      refine zw_n 1 rfl ?_
      refine zw_callV (as := [.int (nI xq)]) (rest := []) rfl rfl rfl (hCz4959.1 37 (by decide) (by decide) (by decide)) rfl rfl rfl (by decide) (c_waysOf Mz4965 34 16 26 (fz4958 34 2) (fz4958 35) (fz4958 36) (f 16 0) (f 16 7) (f 17) (f 18) (f 19) (f 20) (f 21) (f 22) (f 23) (f 24) (f 25) (f 26 0) (f 27) (f 28) (f 29) (seg3 (hCz4959.1 34 (by decide) (by decide) (by decide)) (hCz4959.1 35 (by decide) (by decide) (by decide)) (hCz4959.1 36 (by decide) (by decide) (by decide))) (seg10 (hCz4959.core hAsz4962 (a := 16) rfl (by decide) (by decide) (by decide)) (hCz4959.core hAsz4962 (a := 17) rfl (by decide) (by decide) (by decide)) (hCz4959.core hAsz4962 (a := 18) rfl (by decide) (by decide) (by decide)) (hCz4959.core hAsz4962 (a := 19) rfl (by decide) (by decide) (by decide)) (hCz4959.core hAsz4962 (a := 20) rfl (by decide) (by decide) (by decide)) (hCz4959.core hAsz4962 (a := 21) rfl (by decide) (by decide) (by decide)) (hCz4959.core hAsz4962 (a := 22) rfl (by decide) (by decide) (by decide)) (hCz4959.core hAsz4962 (a := 23) rfl (by decide) (by decide) (by decide)) (hCz4959.core hAsz4962 (a := 24) rfl (by decide) (by decide) (by decide)) (hCz4959.core hAsz4962 (a := 25) rfl (by decide) (by decide) (by decide))) (seg4 (hCz4959.core hAsz4962 (a := 26) rfl (by decide) (by decide) (by decide)) (hCz4959.core hAsz4962 (a := 27) rfl (by decide) (by decide) (by decide)) (hCz4959.core hAsz4962 (a := 28) rfl (by decide) (by decide) (by decide)) (hCz4959.core hAsz4962 (a := 29) rfl (by decide) (by decide) (by decide))) hG hS hIz4960.csw hIz4960.csr (fz4958 37 0) (fz4958 37 3) (fz4958 38) (fz4958 39) (fz4958 40) (fz4958 41) (fz4958 42) (seg6 (hCz4959.1 37 (by decide) (by decide) (by decide)) (hCz4959.1 38 (by decide) (by decide) (by decide)) (hCz4959.1 39 (by decide) (by decide) (by decide)) (hCz4959.1 40 (by decide) (by decide) (by decide)) (hCz4959.1 41 (by decide) (by decide) (by decide)) (hCz4959.1 42 (by decide) (by decide) (by decide))) ⟨by decide, by decide⟩ xq _ _ _ _ (by omega) (hTr.f0 xq (by omega)) (hTr.f23 xq (by omega)) (hTr.f3 xq (by omega)) (hTr.f4 xq (by omega)) rfl rfl rfl rfl (hAsz4962.chs (hIz4960.cok (hTz4963 hfit).2)) hA.1) (fun rz4974 Mz4975 hz4976 => ?_)
      obtain ⟨Sz4970, hAz4971, hBz4972, hSz4973⟩ := hz4976
      rw [hAz4971]
      show Zw 7 zm_CG_ways 26 [some (.ref 0), some (.int (nI xq))] [.int (nI (wyN (eAt f 16 26) (f 16 0) (fz4958 38) xq))] Mz4975 _
      refine zw_n 1 rfl ?_
      exact zw_iret rfl rfl (⟨by rw [if_pos hfit, ← hcz, ← wayA_cg hcq]; unfold wayA; rw [if_pos hx9, hqx], fset fz4958 42 Sz4970, CC.of (f' := fset fz4958 42 Sz4970) (S := [42]) hCz4959 hSz4973 ⟨by decide, by decide⟩ (d1_cons hBz4972 d1_nil) (fs_c fs_n), ⟨⟨hIz4960.tl, hIz4960.tx, hIz4960.gram, hIz4960.tok, hIz4960.bef, hIz4960.grn, hIz4960.mvd, hIz4960.hsz, hIz4960.hen, hIz4960.past, hIz4960.lln, hIz4960.kh, hIz4960.kg, hIz4960.kt, hIz4960.cst, hIz4960.csw, hIz4960.csr, hIz4960.ost, hIz4960.osw, hIz4960.osr, hIz4960.tst, hIz4960.rkn, hIz4960.fnd, hIz4960.ofs⟩, hIz4960.cok, hIz4960.blm, hIz4960.tre, hIz4960.rep⟩, Smc.tr hSmz4961 (Smc.of (S := [42]) hSz4973 (by decide)), Asame.tr hAsz4962 (Asame.of (S := [42]) (fs_c fs_n) rfl (by decide))⟩)
