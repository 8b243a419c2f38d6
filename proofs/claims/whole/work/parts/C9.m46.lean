set_option maxHeartbeats 4000000 in
set_option maxRecDepth 100000 in
theorem c_nextNo (Mq : zM) (f : Nat → Nat → Nat) (L : Nat) (hC : CC Mq f) (hI : CInv L f) (x z : Int32) (hx : ¬ (0 < f 16 0 ∧ (0 ≤ x.toInt ∧ x.toInt ≤ f 26 0) ∧ 33 ≤ z.toInt ∧ z.toInt ≤ 126)) : Zm 6 zm_CG_next [.ref 0, .int x, .int z] Mq (fun r9 M1 => r9 = some (.long (lN 0)) ∧ M1 = Mq) := by
  show Zw 6 zm_CG_next 0 [some (.ref 0), some (.int x), some (.int z)] [] Mq _
  have hG : SafeG (f 16 0) (f 17) (f 18) (f 19) (f 20) (f 21) (f 22) := hI.gram.safe
  have hS : SafeT (f 26 0) (f 27) (f 28) (f 29) := hI.tok.safe
  have hn8 := hG.1
  have hc20 := hS.1
  obtain ⟨emp, rk, hA⟩ := hI.gram.acy
  refine zw_n 1 rfl ?_
  refine zw_get (v := .ref 16) rfl (hC.1 0 (by decide) (by decide) (by decide)) rfl ?_
  refine zw_get (v := .int (nI (f 16 0))) rfl (hC.1 16 (by decide) (by decide) (by decide)) rfl ?_
  refine zw_eq0N (a := f 16 0) rfl rfl (by omega) (fun c7 => ?_) (fun c7 => ?_)
  · -- 7 to 32
    refine zw_n 1 rfl ?_
    refine zw_topl (x' := lN 0) (by decide) ?_
    exact zw_lret rfl rfl (⟨rfl, rfl⟩)
  · -- 7 to 10
    refine zw_n 1 rfl ?_
    refine zw_lt0Z (a := x.toInt) rfl (rfl) (fun c11 => ?_) (fun c11 => ?_)
    · -- 11 to 32
      refine zw_n 1 rfl ?_
      refine zw_topl (x' := lN 0) (by decide) ?_
      exact zw_lret rfl rfl (⟨rfl, rfl⟩)
    · -- 11 to 14
      refine zw_n 2 rfl ?_
      refine zw_get (v := .ref 26) rfl (hC.1 0 (by decide) (by decide) (by decide)) rfl ?_
      refine zw_get (v := .int (nI (f 26 0))) rfl (hC.1 26 (by decide) (by decide) (by decide)) rfl ?_
      refine zw_igtZ (a := x.toInt) (b := ((f 26 0 : Nat) : Int)) rfl (rfl) (nI_toInt (by omega)) (fun c22 => ?_) (fun c22 => ?_)
      · -- 22 to 32
        refine zw_n 1 rfl ?_
        refine zw_topl (x' := lN 0) (by decide) ?_
        exact zw_lret rfl rfl (⟨rfl, rfl⟩)
      · -- 22 to 25
        refine zw_n 1 rfl ?_
        refine zw_callS (as := [.int z]) (rest := []) rfl rfl rfl rfl rfl rfl (by decide) (c_isSign _ _) (fun rz4286 Mz4287 hz4288 => ?_)
        rw [hz4288.1, hz4288.2]
        show Zw 6 zm_CG_next 29 [some (.ref 0), some (.int x), some (.int z)] [.int (nI (if 33 ≤ z.toInt ∧ z.toInt ≤ 126 then 1 else 0))] Mq _
        refine zw_ne0N (a := if 33 ≤ z.toInt ∧ z.toInt ≤ 126 then 1 else 0) rfl rfl (ite_b) (fun c29 => ?_) (fun c29 => ?_)
        · -- 29 to 34
          exfalso
          exact hx ⟨by omega, ⟨by omega, by omega⟩, ite_ne c29⟩
        · -- 29 to 32
          refine zw_n 1 rfl ?_
          refine zw_topl (x' := lN 0) (by decide) ?_
          exact zw_lret rfl rfl (⟨rfl, rfl⟩)

set_option maxHeartbeats 4000000 in
set_option maxRecDepth 100000 in
theorem c_nextOk (Mq : zM) (f : Nat → Nat → Nat) (L : Nat) (hC : CC Mq f) (hI : CInv L f) (hn : 0 < f 16 0) (m z : Nat) (hm : m ≤ f 26 0) (hz : 33 ≤ z ∧ z ≤ 126) : Zm 6 zm_CG_next [.ref 0, .int (nI m), .int (nI z)] Mq (fun r9 M1 => ∃ F, r9 = some (.long (lN F)) ∧ F < 1099511627776 ∧ (∀ d, F.testBit d = true ↔ Fnd (eAt f 16 26) (f 16 0) (f 23) m z 0 d) ∧ ∃ f9, CC M1 f9 ∧ CInv L f9 ∧ Smc Mq M1 ∧ Asame f f9) := by
  show Zw 6 zm_CG_next 0 [some (.ref 0), some (.int (nI m)), some (.int (nI z))] [] Mq _
  have hG : SafeG (f 16 0) (f 17) (f 18) (f 19) (f 20) (f 21) (f 22) := hI.gram.safe
  have hS : SafeT (f 26 0) (f 27) (f 28) (f 29) := hI.tok.safe
  have hn8 := hG.1
  have hc20 := hS.1
  obtain ⟨emp, rk, hA⟩ := hI.gram.acy
  refine zw_n 1 rfl ?_
  refine zw_get (v := .ref 16) rfl (hC.1 0 (by decide) (by decide) (by decide)) rfl ?_
  refine zw_get (v := .int (nI (f 16 0))) rfl (hC.1 16 (by decide) (by decide) (by decide)) rfl ?_
  refine zw_eq0N (a := f 16 0) rfl rfl (by omega) (fun c7 => ?_) (fun c7 => ?_)
  · -- 7 to 32
    exfalso
    first | omega | exact ite_eq0 c29 (by rw [nI_toInt (by omega)]; omega)
  · -- 7 to 10
    refine zw_n 1 rfl ?_
    refine zw_lt0N (a := m) rfl rfl (by omega) ?_
    refine zw_n 2 rfl ?_
    refine zw_get (v := .ref 26) rfl (hC.1 0 (by decide) (by decide) (by decide)) rfl ?_
    refine zw_get (v := .int (nI (f 26 0))) rfl (hC.1 26 (by decide) (by decide) (by decide)) rfl ?_
    refine zw_igtN (a := m) (b := f 26 0) rfl rfl rfl (by omega) (by omega) (fun c22 => ?_) (fun c22 => ?_)
    · -- 22 to 32
      exfalso
      first | omega | exact ite_eq0 c29 (by rw [nI_toInt (by omega)]; omega)
    · -- 22 to 25
      refine zw_n 1 rfl ?_
      refine zw_callS (as := [.int (nI z)]) (rest := []) rfl rfl rfl rfl rfl rfl (by decide) (c_isSign _ _) (fun rz4289 Mz4290 hz4291 => ?_)
      rw [hz4291.1, hz4291.2]
      show Zw 6 zm_CG_next 29 [some (.ref 0), some (.int (nI m)), some (.int (nI z))] [.int (nI (if 33 ≤ (nI z).toInt ∧ (nI z).toInt ≤ 126 then 1 else 0))] Mq _
      refine zw_ne0N (a := if 33 ≤ (nI z).toInt ∧ (nI z).toInt ≤ 126 then 1 else 0) rfl rfl (ite_b) (fun c29 => ?_) (fun c29 => ?_)
      · -- 29 to 34
        refine zw_n 1 rfl ?_
        refine zw_get (v := .ref 34) rfl (hC.1 0 (by decide) (by decide) (by decide)) rfl ?_
        refine zw_callV (as := []) (rest := []) rfl rfl rfl (hC.1 34 (by decide) (by decide) (by decide)) rfl rfl rfl (by decide) (c_readOnce Mq 34 16 26 (f 34 2) (f 35) (f 36) (f 16 0) (f 16 7) (f 17) (f 18) (f 19) (f 20) (f 21) (f 22) (f 23) (f 24) (f 25) (f 26 0) (f 27) (f 28) (f 29) (seg3 (hC.1 34 (by decide) (by decide) (by decide)) (hC.1 35 (by decide) (by decide) (by decide)) (hC.1 36 (by decide) (by decide) (by decide))) (seg10 (hC.1 16 (by decide) (by decide) (by decide)) (hC.1 17 (by decide) (by decide) (by decide)) (hC.1 18 (by decide) (by decide) (by decide)) (hC.1 19 (by decide) (by decide) (by decide)) (hC.1 20 (by decide) (by decide) (by decide)) (hC.1 21 (by decide) (by decide) (by decide)) (hC.1 22 (by decide) (by decide) (by decide)) (hC.1 23 (by decide) (by decide) (by decide)) (hC.1 24 (by decide) (by decide) (by decide)) (hC.1 25 (by decide) (by decide) (by decide))) (seg4 (hC.1 26 (by decide) (by decide) (by decide)) (hC.1 27 (by decide) (by decide) (by decide)) (hC.1 28 (by decide) (by decide) (by decide)) (hC.1 29 (by decide) (by decide) (by decide))) hG hS hI.csw hI.csr (by omega) emp rk hA hI.cst hI.cok) (fun rz4300 Mz4301 hz4302 => ?_)
        obtain ⟨hAz4292, Wz4293, Rz4294, hBz4295, hSz4296, hDz4297, hEz4298, hFz4299⟩ := hz4302
        rw [hAz4292]
        show Zw 6 zm_CG_next 41 [some (.ref 0), some (.int (nI m)), some (.int (nI z))] [.int (nI (if 0 < (f 16 0) ∧ wh (gE (f 18) (f 19) (f 21) (f 20) (f 22) (f 27) (f 29)) (f 16 0) 0 0 (f 26 0) ≠ 0 then 1 else 0))] Mz4301 _
        refine zw_n 2 rfl ?_
        refine zw_get (v := .ref 43) rfl (Sm.at hSz4296 (by decide) (hC.1 0 (by decide) (by decide) (by decide))) rfl ?_
        refine zw_n 3 rfl ?_
        refine zw_callV (as := [.int (nI m), .int (nI z), .int 0]) (rest := []) rfl rfl rfl (Sm.at hSz4296 (by decide) (hC.1 43 (by decide) (by decide) (by decide))) rfl rfl rfl (by decide) (c_behind Mz4301 1 Wz4293 Rz4294 (f 16 0) (f 16 7) (f 17) (f 18) (f 19) (f 20) (f 21) (f 22) (f 23) (f 24) (f 25) (f 26 0) (f 27) (f 28) (f 29) (seg3 (hBz4295.get 0 rfl) (hBz4295.get 1 rfl) (hBz4295.get 2 rfl)) (seg10 (Sm.at hSz4296 (by decide) (hC.1 16 (by decide) (by decide) (by decide))) (Sm.at hSz4296 (by decide) (hC.1 17 (by decide) (by decide) (by decide))) (Sm.at hSz4296 (by decide) (hC.1 18 (by decide) (by decide) (by decide))) (Sm.at hSz4296 (by decide) (hC.1 19 (by decide) (by decide) (by decide))) (Sm.at hSz4296 (by decide) (hC.1 20 (by decide) (by decide) (by decide))) (Sm.at hSz4296 (by decide) (hC.1 21 (by decide) (by decide) (by decide))) (Sm.at hSz4296 (by decide) (hC.1 22 (by decide) (by decide) (by decide))) (Sm.at hSz4296 (by decide) (hC.1 23 (by decide) (by decide) (by decide))) (Sm.at hSz4296 (by decide) (hC.1 24 (by decide) (by decide) (by decide))) (Sm.at hSz4296 (by decide) (hC.1 25 (by decide) (by decide) (by decide)))) (seg4 (Sm.at hSz4296 (by decide) (hC.1 26 (by decide) (by decide) (by decide))) (Sm.at hSz4296 (by decide) (hC.1 27 (by decide) (by decide) (by decide))) (Sm.at hSz4296 (by decide) (hC.1 28 (by decide) (by decide) (by decide))) (Sm.at hSz4296 (by decide) (hC.1 29 (by decide) (by decide) (by decide)))) hG hS hDz4297 hEz4298 (f 43 2) (f 43 3) (f 43 4) (f 44) (Sm.at hSz4296 (by decide) (hC.1 43 (by decide) (by decide) (by decide))) (Sm.at hSz4296 (by decide) (hC.1 44 (by decide) (by decide) (by decide))) m z 0 (by omega) (by omega) (by omega) hI.ofs hI.gram.sfb (fun r a k h1 h2 h3 => hI.gram.fbh r a k h1 h2 h3) (fun r a k h1 h2 h3 h4 => ((hI.gram.prt _ ⟨r, a, k, h1, h2, h3, rfl⟩).2 h4).1) hA.1 hFz4299) (fun rz4315 Mz4316 hz4317 => ?_)
        obtain ⟨Fz4303, Rz4304, Oz4305, hAz4306, hFlz4307, hFz4308, h43z4309, h44z4310, h36z4311, sRz4312, sOz4313, hSz4314⟩ := hz4317
        rw [hAz4306]
        show Zw 6 zm_CG_next 52 [some (.ref 0), some (.int (nI m)), some (.int (nI z))] [.long (lN Fz4303)] Mz4316 _
        exact zw_lret rfl rfl (⟨Fz4303, rfl, hFlz4307, hFz4308, fset (fset (fset (fset (fset f 44 Oz4305) 43 (up (up (up (f 43) 2 m) 3 z) 4 Fz4303)) 36 Rz4304) 35 Wz4293) 34 (up (f 34) 2 1), (CC.of (f' := fset (fset (fset (fset (fset f 44 Oz4305) 43 (up (up (up (f 43) 2 m) 3 z) 4 Fz4303)) 36 Rz4304) 35 Wz4293) 34 (up (f 34) 2 1)) hC (Sm.tw (Sm.tw Sm.rf hSz4296 (by decide)) hSz4314 (by decide)) ⟨by decide, by decide⟩ (d1_cons (Sm.at hSz4314 (by decide) (hBz4295.get 0 rfl)) (d1_cons (Sm.at hSz4314 (by decide) (hBz4295.get 1 rfl)) (d1_cons h36z4311 (d1_cons h43z4309 (d1_cons h44z4310 d1_nil))))) (fs_c (fs_c (fs_c (fs_c (fs_c fs_n)))))), ⟨⟨hI.tl, hI.tx, hI.gram, hI.tok, hI.bef, hI.grn, hI.mvd, hI.hsz, hI.hen, hI.past, hI.lln, hI.kh, hI.kg, hI.kt, Nat.le_refl _, hDz4297, sRz4312, hI.ost, hI.osw, hI.osr, hI.tst, hI.rkn, hI.fnd, sOz4313⟩, (fun _ => hFz4299), hI.blm, hI.tre, hI.rep⟩, (Smc.of (S := [34, 35, 36, 43, 44]) (Sm.tw (Sm.tw Sm.rf hSz4296 (by decide)) hSz4314 (by decide)) (by decide)), Asame.of (S := [34, 35, 36, 43, 44]) (fs_c (fs_c (fs_c (fs_c (fs_c fs_n))))) rfl (by decide)⟩)
      · -- 29 to 32
        exfalso
        first | omega | exact ite_eq0 c29 (by rw [nI_toInt (by omega)]; omega)

set_option maxHeartbeats 4000000 in
set_option maxRecDepth 100000 in
theorem c_roomNo (Mq : zM) (f : Nat → Nat → Nat) (L : Nat) (hC : CC Mq f) (hI : CInv L f) (x : Int32) (hx : ¬ (0 < f 16 0 ∧ 0 ≤ x.toInt ∧ x.toInt ≤ f 26 0)) : Zm 6 zm_CG_room [.ref 0, .int x] Mq (fun r9 M1 => r9 = some (.int (-1)) ∧ M1 = Mq) := by
  show Zw 6 zm_CG_room 0 [some (.ref 0), some (.int x)] [] Mq _
  have hG : SafeG (f 16 0) (f 17) (f 18) (f 19) (f 20) (f 21) (f 22) := hI.gram.safe
  have hS : SafeT (f 26 0) (f 27) (f 28) (f 29) := hI.tok.safe
  have hn8 := hG.1
  have hc20 := hS.1
  obtain ⟨emp, rk, hA⟩ := hI.gram.acy
  refine zw_n 1 rfl ?_
  refine zw_get (v := .ref 16) rfl (hC.1 0 (by decide) (by decide) (by decide)) rfl ?_
  refine zw_get (v := .int (nI (f 16 0))) rfl (hC.1 16 (by decide) (by decide) (by decide)) rfl ?_
  refine zw_eq0N (a := f 16 0) rfl rfl (by omega) (fun c7 => ?_) (fun c7 => ?_)
  · -- 7 to 25
    refine zw_n 1 rfl ?_
    exact zw_iret rfl rfl (⟨rfl, rfl⟩)
  · -- 7 to 10
    refine zw_n 1 rfl ?_
    refine zw_lt0Z (a := x.toInt) rfl (rfl) (fun c11 => ?_) (fun c11 => ?_)
    · -- 11 to 25
      refine zw_n 1 rfl ?_
      exact zw_iret rfl rfl (⟨rfl, rfl⟩)
    · -- 11 to 14
      refine zw_n 2 rfl ?_
      refine zw_get (v := .ref 26) rfl (hC.1 0 (by decide) (by decide) (by decide)) rfl ?_
      refine zw_get (v := .int (nI (f 26 0))) rfl (hC.1 26 (by decide) (by decide) (by decide)) rfl ?_
      refine zw_ileZ (a := x.toInt) (b := ((f 26 0 : Nat) : Int)) rfl (rfl) (nI_toInt (by omega)) (fun c22 => ?_) (fun c22 => ?_)
      · -- 22 to 27
        exfalso
        exact hx ⟨by omega, by omega, by omega⟩
      · -- 22 to 25
        refine zw_n 1 rfl ?_
        exact zw_iret rfl rfl (⟨rfl, rfl⟩)

set_option maxHeartbeats 4000000 in
set_option maxRecDepth 100000 in
theorem c_roomOk (Mq : zM) (f : Nat → Nat → Nat) (L : Nat) (hC : CC Mq f) (hI : CInv L f) (hn : 0 < f 16 0) (m : Nat) (hm : m ≤ f 26 0) : Zm 6 zm_CG_room [.ref 0, .int (nI m)] Mq (fun r9 M1 => ∃ F, r9 = some (.int (nI (bc F))) ∧ F < 1099511627776 ∧ (∀ d, F.testBit d = true ↔ Fnd (eAt f 16 26) (f 16 0) (f 23) m 0 0 d) ∧ ∃ f9, CC M1 f9 ∧ CInv L f9 ∧ Smc Mq M1 ∧ Asame f f9) := by
  show Zw 6 zm_CG_room 0 [some (.ref 0), some (.int (nI m))] [] Mq _
  have hG : SafeG (f 16 0) (f 17) (f 18) (f 19) (f 20) (f 21) (f 22) := hI.gram.safe
  have hS : SafeT (f 26 0) (f 27) (f 28) (f 29) := hI.tok.safe
  have hn8 := hG.1
  have hc20 := hS.1
  obtain ⟨emp, rk, hA⟩ := hI.gram.acy
  refine zw_n 1 rfl ?_
  refine zw_get (v := .ref 16) rfl (hC.1 0 (by decide) (by decide) (by decide)) rfl ?_
  refine zw_get (v := .int (nI (f 16 0))) rfl (hC.1 16 (by decide) (by decide) (by decide)) rfl ?_
  refine zw_eq0N (a := f 16 0) rfl rfl (by omega) (fun c7 => ?_) (fun c7 => ?_)
  · -- 7 to 25
    exfalso
    omega
  · -- 7 to 10
    refine zw_n 1 rfl ?_
    refine zw_lt0N (a := m) rfl rfl (by omega) ?_
    refine zw_n 2 rfl ?_
    refine zw_get (v := .ref 26) rfl (hC.1 0 (by decide) (by decide) (by decide)) rfl ?_
    refine zw_get (v := .int (nI (f 26 0))) rfl (hC.1 26 (by decide) (by decide) (by decide)) rfl ?_
    refine zw_ileN (a := m) (b := f 26 0) rfl rfl rfl (by omega) (by omega) (fun c22 => ?_) (fun c22 => ?_)
    · -- 22 to 27
      refine zw_n 1 rfl ?_
      refine zw_get (v := .ref 34) rfl (hC.1 0 (by decide) (by decide) (by decide)) rfl ?_
      refine zw_callV (as := []) (rest := []) rfl rfl rfl (hC.1 34 (by decide) (by decide) (by decide)) rfl rfl rfl (by decide) (c_readOnce Mq 34 16 26 (f 34 2) (f 35) (f 36) (f 16 0) (f 16 7) (f 17) (f 18) (f 19) (f 20) (f 21) (f 22) (f 23) (f 24) (f 25) (f 26 0) (f 27) (f 28) (f 29) (seg3 (hC.1 34 (by decide) (by decide) (by decide)) (hC.1 35 (by decide) (by decide) (by decide)) (hC.1 36 (by decide) (by decide) (by decide))) (seg10 (hC.1 16 (by decide) (by decide) (by decide)) (hC.1 17 (by decide) (by decide) (by decide)) (hC.1 18 (by decide) (by decide) (by decide)) (hC.1 19 (by decide) (by decide) (by decide)) (hC.1 20 (by decide) (by decide) (by decide)) (hC.1 21 (by decide) (by decide) (by decide)) (hC.1 22 (by decide) (by decide) (by decide)) (hC.1 23 (by decide) (by decide) (by decide)) (hC.1 24 (by decide) (by decide) (by decide)) (hC.1 25 (by decide) (by decide) (by decide))) (seg4 (hC.1 26 (by decide) (by decide) (by decide)) (hC.1 27 (by decide) (by decide) (by decide)) (hC.1 28 (by decide) (by decide) (by decide)) (hC.1 29 (by decide) (by decide) (by decide))) hG hS hI.csw hI.csr (by omega) emp rk hA hI.cst hI.cok) (fun rz4326 Mz4327 hz4328 => ?_)
      obtain ⟨hAz4318, Wz4319, Rz4320, hBz4321, hSz4322, hDz4323, hEz4324, hFz4325⟩ := hz4328
      rw [hAz4318]
      show Zw 6 zm_CG_room 34 [some (.ref 0), some (.int (nI m))] [.int (nI (if 0 < (f 16 0) ∧ wh (gE (f 18) (f 19) (f 21) (f 20) (f 22) (f 27) (f 29)) (f 16 0) 0 0 (f 26 0) ≠ 0 then 1 else 0))] Mz4327 _
      refine zw_n 2 rfl ?_
      refine zw_get (v := .ref 43) rfl (Sm.at hSz4322 (by decide) (hC.1 0 (by decide) (by decide) (by decide))) rfl ?_
      refine zw_n 3 rfl ?_
      refine zw_callV (as := [.int (nI m), .int 0, .int 0]) (rest := []) rfl rfl rfl (Sm.at hSz4322 (by decide) (hC.1 43 (by decide) (by decide) (by decide))) rfl rfl rfl (by decide) (c_behind Mz4327 1 Wz4319 Rz4320 (f 16 0) (f 16 7) (f 17) (f 18) (f 19) (f 20) (f 21) (f 22) (f 23) (f 24) (f 25) (f 26 0) (f 27) (f 28) (f 29) (seg3 (hBz4321.get 0 rfl) (hBz4321.get 1 rfl) (hBz4321.get 2 rfl)) (seg10 (Sm.at hSz4322 (by decide) (hC.1 16 (by decide) (by decide) (by decide))) (Sm.at hSz4322 (by decide) (hC.1 17 (by decide) (by decide) (by decide))) (Sm.at hSz4322 (by decide) (hC.1 18 (by decide) (by decide) (by decide))) (Sm.at hSz4322 (by decide) (hC.1 19 (by decide) (by decide) (by decide))) (Sm.at hSz4322 (by decide) (hC.1 20 (by decide) (by decide) (by decide))) (Sm.at hSz4322 (by decide) (hC.1 21 (by decide) (by decide) (by decide))) (Sm.at hSz4322 (by decide) (hC.1 22 (by decide) (by decide) (by decide))) (Sm.at hSz4322 (by decide) (hC.1 23 (by decide) (by decide) (by decide))) (Sm.at hSz4322 (by decide) (hC.1 24 (by decide) (by decide) (by decide))) (Sm.at hSz4322 (by decide) (hC.1 25 (by decide) (by decide) (by decide)))) (seg4 (Sm.at hSz4322 (by decide) (hC.1 26 (by decide) (by decide) (by decide))) (Sm.at hSz4322 (by decide) (hC.1 27 (by decide) (by decide) (by decide))) (Sm.at hSz4322 (by decide) (hC.1 28 (by decide) (by decide) (by decide))) (Sm.at hSz4322 (by decide) (hC.1 29 (by decide) (by decide) (by decide)))) hG hS hDz4323 hEz4324 (f 43 2) (f 43 3) (f 43 4) (f 44) (Sm.at hSz4322 (by decide) (hC.1 43 (by decide) (by decide) (by decide))) (Sm.at hSz4322 (by decide) (hC.1 44 (by decide) (by decide) (by decide))) m 0 0 (by omega) (by omega) (by omega) hI.ofs hI.gram.sfb (fun r a k h1 h2 h3 => hI.gram.fbh r a k h1 h2 h3) (fun r a k h1 h2 h3 h4 => ((hI.gram.prt _ ⟨r, a, k, h1, h2, h3, rfl⟩).2 h4).1) hA.1 hFz4325) (fun rz4341 Mz4342 hz4343 => ?_)
      obtain ⟨Fz4329, Rz4330, Oz4331, hAz4332, hFlz4333, hFz4334, h43z4335, h44z4336, h36z4337, sRz4338, sOz4339, hSz4340⟩ := hz4343
      rw [hAz4332]
      show Zw 6 zm_CG_room 45 [some (.ref 0), some (.int (nI m))] [.long (lN Fz4329)] Mz4342 _
      refine zw_callS (as := [.long (lN Fz4329)]) (rest := []) rfl rfl rfl rfl rfl rfl (by decide) (c_bitCount _ _ hFlz4333) (fun rz4344 Mz4345 hz4346 => ?_)
      rw [hz4346.1, hz4346.2]
      show Zw 6 zm_CG_room 48 [some (.ref 0), some (.int (nI m))] [.int (nI (bc Fz4329))] Mz4342 _
      exact zw_iret rfl rfl (⟨Fz4329, rfl, hFlz4333, hFz4334, fset (fset (fset (fset (fset f 44 Oz4331) 43 (up (up (up (f 43) 2 m) 3 0) 4 Fz4329)) 36 Rz4330) 35 Wz4319) 34 (up (f 34) 2 1), (CC.of (f' := fset (fset (fset (fset (fset f 44 Oz4331) 43 (up (up (up (f 43) 2 m) 3 0) 4 Fz4329)) 36 Rz4330) 35 Wz4319) 34 (up (f 34) 2 1)) hC (Sm.tw (Sm.tw Sm.rf hSz4322 (by decide)) hSz4340 (by decide)) ⟨by decide, by decide⟩ (d1_cons (Sm.at hSz4340 (by decide) (hBz4321.get 0 rfl)) (d1_cons (Sm.at hSz4340 (by decide) (hBz4321.get 1 rfl)) (d1_cons h36z4337 (d1_cons h43z4335 (d1_cons h44z4336 d1_nil))))) (fs_c (fs_c (fs_c (fs_c (fs_c fs_n)))))), ⟨⟨hI.tl, hI.tx, hI.gram, hI.tok, hI.bef, hI.grn, hI.mvd, hI.hsz, hI.hen, hI.past, hI.lln, hI.kh, hI.kg, hI.kt, Nat.le_refl _, hDz4323, sRz4338, hI.ost, hI.osw, hI.osr, hI.tst, hI.rkn, hI.fnd, sOz4339⟩, (fun _ => hFz4325), hI.blm, hI.tre, hI.rep⟩, (Smc.of (S := [34, 35, 36, 43, 44]) (Sm.tw (Sm.tw Sm.rf hSz4322 (by decide)) hSz4340 (by decide)) (by decide)), Asame.of (S := [34, 35, 36, 43, 44]) (fs_c (fs_c (fs_c (fs_c (fs_c fs_n))))) rfl (by decide)⟩)
    · -- 22 to 25
      exfalso
      omega

set_option maxHeartbeats 4000000 in
set_option maxRecDepth 100000 in
theorem c_goesOnWith (Mq : zM) (f : Nat → Nat → Nat) (L : Nat) (hC : CC Mq f) (hI : CInv L f) (hst : ChS (eAt f 16 26) (f 16 0) (f 26 0) (f 35)) (t : Nat) (ht : t < f 26 0) : Zm 5 zm_CG_goesOnWith [.ref 0, .int (nI t)] Mq (fun r9 M1 => ∃ b F R O, r9 = some (.int (nI b)) ∧ M1[43]? = some (.inr (6, [.ref 34, .ref 44, .int (nI t), .int (nI (f 27 t)), .long (lN F)])) ∧ M1[44]? = some (.inl (1, 168, .inr (.inl (al O)))) ∧ M1[36]? = some (.inl (1, 3360, .inr (.inl (al R)))) ∧ SafeM R ∧ SafeM O ∧ Sm Mq M1 [36, 43, 44] ∧ b ≤ 1 ∧ (b = 1 ↔ Fnd (eAt f 16 26) (f 16 0) (f 23) t (f 27 t) 0 (f 29 t))) := by
  show Zw 5 zm_CG_goesOnWith 0 [some (.ref 0), some (.int (nI t))] [] Mq _
  have hG : SafeG (f 16 0) (f 17) (f 18) (f 19) (f 20) (f 21) (f 22) := hI.gram.safe
  have hS : SafeT (f 26 0) (f 27) (f 28) (f 29) := hI.tok.safe
  have hn8 := hG.1
  have hc20 := hS.1
  obtain ⟨emp, rk, hA⟩ := hI.gram.acy
  have hst9 := hS.2.1 t
  have hct9 := hS.2.2.2 t
  refine zw_n 1 rfl ?_
  refine zw_get (v := .ref 43) rfl (hC.1 0 (by decide) (by decide) (by decide)) rfl ?_
  refine zw_n 2 rfl ?_
  refine zw_get (v := .ref 26) rfl (hC.1 0 (by decide) (by decide) (by decide)) rfl ?_
  refine zw_get (v := .ref 27) rfl (hC.1 26 (by decide) (by decide) (by decide)) rfl ?_
  refine zw_n 1 rfl ?_
  refine zw_iald (f := ai (f 27)) (j := t) rfl (hC.1 27 (by decide) (by decide) (by decide)) rfl (by decide) (by omega) ?_
  refine zw_n 1 rfl ?_
  refine zw_callV (as := [.int (nI t), .int (nI ((f 27) t)), .int 0]) (rest := []) rfl rfl rfl (hC.1 43 (by decide) (by decide) (by decide)) rfl rfl rfl (by decide) (c_behind Mq (f 34 2) (f 35) (f 36) (f 16 0) (f 16 7) (f 17) (f 18) (f 19) (f 20) (f 21) (f 22) (f 23) (f 24) (f 25) (f 26 0) (f 27) (f 28) (f 29) (seg3 (hC.1 34 (by decide) (by decide) (by decide)) (hC.1 35 (by decide) (by decide) (by decide)) (hC.1 36 (by decide) (by decide) (by decide))) (seg10 (hC.1 16 (by decide) (by decide) (by decide)) (hC.1 17 (by decide) (by decide) (by decide)) (hC.1 18 (by decide) (by decide) (by decide)) (hC.1 19 (by decide) (by decide) (by decide)) (hC.1 20 (by decide) (by decide) (by decide)) (hC.1 21 (by decide) (by decide) (by decide)) (hC.1 22 (by decide) (by decide) (by decide)) (hC.1 23 (by decide) (by decide) (by decide)) (hC.1 24 (by decide) (by decide) (by decide)) (hC.1 25 (by decide) (by decide) (by decide))) (seg4 (hC.1 26 (by decide) (by decide) (by decide)) (hC.1 27 (by decide) (by decide) (by decide)) (hC.1 28 (by decide) (by decide) (by decide)) (hC.1 29 (by decide) (by decide) (by decide))) hG hS hI.csw hI.csr (f 43 2) (f 43 3) (f 43 4) (f 44) (hC.1 43 (by decide) (by decide) (by decide)) (hC.1 44 (by decide) (by decide) (by decide)) t ((f 27) t) 0 (by omega) (by omega) (by omega) hI.ofs hI.gram.sfb (fun r a k h1 h2 h3 => hI.gram.fbh r a k h1 h2 h3) (fun r a k h1 h2 h3 h4 => ((hI.gram.prt _ ⟨r, a, k, h1, h2, h3, rfl⟩).2 h4).1) hA.1 hst) (fun rz4359 Mz4360 hz4361 => ?_)
  obtain ⟨Fz4347, Rz4348, Oz4349, hAz4350, hFlz4351, hFz4352, h43z4353, h44z4354, h36z4355, sRz4356, sOz4357, hSz4358⟩ := hz4361
  rw [hAz4350]
  show Zw 5 zm_CG_goesOnWith 18 [some (.ref 0), some (.int (nI t))] [.long (lN Fz4347)] Mz4360 _
  refine zw_n 1 rfl ?_
  refine zw_get (v := .ref 26) rfl (Sm.at hSz4358 (by decide) (hC.1 0 (by decide) (by decide) (by decide))) rfl ?_
  refine zw_get (v := .ref 29) rfl (Sm.at hSz4358 (by decide) (hC.1 26 (by decide) (by decide) (by decide))) rfl ?_
  refine zw_n 1 rfl ?_
  refine zw_iald (f := ai (f 29)) (j := t) rfl (Sm.at hSz4358 (by decide) (hC.1 29 (by decide) (by decide) (by decide))) rfl (by decide) (by omega) ?_
  refine zw_callS (as := [.long (lN Fz4347), .int (nI ((f 29) t))]) (rest := []) rfl rfl rfl rfl rfl rfl (by decide) (c_hasColumn _ _ _ hFlz4351 (by omega)) (fun rz4362 Mz4363 hz4364 => ?_)
  rw [hz4364.1, hz4364.2]
  show Zw 5 zm_CG_goesOnWith 30 [some (.ref 0), some (.int (nI t))] [.int (nI (if Fz4347.testBit ((f 29) t) = true then 1 else 0))] Mz4360 _
  exact zw_zret rfl rfl (by split <;> first | exact Or.inr rfl | exact Or.inl rfl) (⟨if Fz4347.testBit (f 29 t) = true then 1 else 0, Fz4347, Rz4348, Oz4349, rfl, h43z4353, h44z4354, h36z4355, sRz4356, sOz4357, Sm.trans Sm.rf hSz4358, by split <;> decide, by rw [← hFz4352]; split <;> simp_all⟩)

set_option maxHeartbeats 4000000 in
set_option maxRecDepth 100000 in
theorem c_goesOnNo (Mq : zM) (f : Nat → Nat → Nat) (L : Nat) (hC : CC Mq f) (hI : CInv L f) (x : Int32) (hx : ¬ (0 < f 16 0 ∧ 0 ≤ x.toInt ∧ x.toInt ≤ f 26 0)) : Zm 6 zm_CG_goesOn [.ref 0, .int x] Mq (fun r9 M1 => r9 = some (.int (-1)) ∧ M1 = Mq) := by
  show Zw 6 zm_CG_goesOn 0 [some (.ref 0), some (.int x)] [] Mq _
  have hG : SafeG (f 16 0) (f 17) (f 18) (f 19) (f 20) (f 21) (f 22) := hI.gram.safe
  have hS : SafeT (f 26 0) (f 27) (f 28) (f 29) := hI.tok.safe
  have hn8 := hG.1
  have hc20 := hS.1
  obtain ⟨emp, rk, hA⟩ := hI.gram.acy
  refine zw_n 1 rfl ?_
  refine zw_get (v := .ref 16) rfl (hC.1 0 (by decide) (by decide) (by decide)) rfl ?_
  refine zw_get (v := .int (nI (f 16 0))) rfl (hC.1 16 (by decide) (by decide) (by decide)) rfl ?_
  refine zw_eq0N (a := f 16 0) rfl rfl (by omega) (fun c7 => ?_) (fun c7 => ?_)
  · -- 7 to 25
    refine zw_n 1 rfl ?_
    exact zw_iret rfl rfl (⟨rfl, rfl⟩)
  · -- 7 to 10
    refine zw_n 1 rfl ?_
    refine zw_lt0Z (a := x.toInt) rfl (rfl) (fun c11 => ?_) (fun c11 => ?_)
    · -- 11 to 25
      refine zw_n 1 rfl ?_
      exact zw_iret rfl rfl (⟨rfl, rfl⟩)
    · -- 11 to 14
      refine zw_n 2 rfl ?_
      refine zw_get (v := .ref 26) rfl (hC.1 0 (by decide) (by decide) (by decide)) rfl ?_
      refine zw_get (v := .int (nI (f 26 0))) rfl (hC.1 26 (by decide) (by decide) (by decide)) rfl ?_
      refine zw_ileZ (a := x.toInt) (b := ((f 26 0 : Nat) : Int)) rfl (rfl) (nI_toInt (by omega)) (fun c22 => ?_) (fun c22 => ?_)
      · -- 22 to 27
        exfalso
        exact hx ⟨by omega, by omega, by omega⟩
      · -- 22 to 25
        refine zw_n 1 rfl ?_
        exact zw_iret rfl rfl (⟨rfl, rfl⟩)

set_option maxHeartbeats 4000000 in
set_option maxRecDepth 100000 in
theorem c_goesOnOk (Mq : zM) (f : Nat → Nat → Nat) (L : Nat) (hC : CC Mq f) (hI : CInv L f) (hn : 0 < f 16 0) (m : Nat) (hm : m ≤ f 26 0) : Zm 6 zm_CG_goesOn [.ref 0, .int (nI m)] Mq (fun r9 M1 => ∃ b, r9 = some (.int (nI b)) ∧ b ≤ 1 ∧ (b = 1 ↔ GoN (eAt f 16 26) (f 16 0) (f 23) m) ∧ ∃ f9, CC M1 f9 ∧ CInv L f9 ∧ Smc Mq M1 ∧ Asame f f9) := by
  show Zw 6 zm_CG_goesOn 0 [some (.ref 0), some (.int (nI m))] [] Mq _
  have hG : SafeG (f 16 0) (f 17) (f 18) (f 19) (f 20) (f 21) (f 22) := hI.gram.safe
  have hS : SafeT (f 26 0) (f 27) (f 28) (f 29) := hI.tok.safe
  have hn8 := hG.1
  have hc20 := hS.1
  obtain ⟨emp, rk, hA⟩ := hI.gram.acy
  refine zw_n 1 rfl ?_
  refine zw_get (v := .ref 16) rfl (hC.1 0 (by decide) (by decide) (by decide)) rfl ?_
  refine zw_get (v := .int (nI (f 16 0))) rfl (hC.1 16 (by decide) (by decide) (by decide)) rfl ?_
  refine zw_eq0N (a := f 16 0) rfl rfl (by omega) (fun c7 => ?_) (fun c7 => ?_)
  · -- 7 to 25
    exfalso
    omega
  · -- 7 to 10
    refine zw_n 1 rfl ?_
    refine zw_lt0N (a := m) rfl rfl (by omega) ?_
    refine zw_n 2 rfl ?_
    refine zw_get (v := .ref 26) rfl (hC.1 0 (by decide) (by decide) (by decide)) rfl ?_
    refine zw_get (v := .int (nI (f 26 0))) rfl (hC.1 26 (by decide) (by decide) (by decide)) rfl ?_
    refine zw_ileN (a := m) (b := f 26 0) rfl rfl rfl (by omega) (by omega) (fun c22 => ?_) (fun c22 => ?_)
    · -- 22 to 27
      refine zw_n 1 rfl ?_
      refine zw_ne0N (a := m) rfl rfl (by omega) (fun c28 => ?_) (fun c28 => ?_)
      · -- 28 to 51
        refine zw_n 1 rfl ?_
        refine zw_get (v := .ref 34) rfl (hC.1 0 (by decide) (by decide) (by decide)) rfl ?_
        refine zw_callV (as := []) (rest := []) rfl rfl rfl (hC.1 34 (by decide) (by decide) (by decide)) rfl rfl rfl (by decide) (c_readOnce Mq 34 16 26 (f 34 2) (f 35) (f 36) (f 16 0) (f 16 7) (f 17) (f 18) (f 19) (f 20) (f 21) (f 22) (f 23) (f 24) (f 25) (f 26 0) (f 27) (f 28) (f 29) (seg3 (hC.1 34 (by decide) (by decide) (by decide)) (hC.1 35 (by decide) (by decide) (by decide)) (hC.1 36 (by decide) (by decide) (by decide))) (seg10 (hC.1 16 (by decide) (by decide) (by decide)) (hC.1 17 (by decide) (by decide) (by decide)) (hC.1 18 (by decide) (by decide) (by decide)) (hC.1 19 (by decide) (by decide) (by decide)) (hC.1 20 (by decide) (by decide) (by decide)) (hC.1 21 (by decide) (by decide) (by decide)) (hC.1 22 (by decide) (by decide) (by decide)) (hC.1 23 (by decide) (by decide) (by decide)) (hC.1 24 (by decide) (by decide) (by decide)) (hC.1 25 (by decide) (by decide) (by decide))) (seg4 (hC.1 26 (by decide) (by decide) (by decide)) (hC.1 27 (by decide) (by decide) (by decide)) (hC.1 28 (by decide) (by decide) (by decide)) (hC.1 29 (by decide) (by decide) (by decide))) hG hS hI.csw hI.csr (by omega) emp rk hA hI.cst hI.cok) (fun rz4373 Mz4374 hz4375 => ?_)
        obtain ⟨hAz4365, Wz4366, Rz4367, hBz4368, hSz4369, hDz4370, hEz4371, hFz4372⟩ := hz4375
        rw [hAz4365]
        show Zw 6 zm_CG_goesOn 58 [some (.ref 0), some (.int (nI m))] [.int (nI (if 0 < (f 16 0) ∧ wh (gE (f 18) (f 19) (f 21) (f 20) (f 22) (f 27) (f 29)) (f 16 0) 0 0 (f 26 0) ≠ 0 then 1 else 0))] Mz4374 _
        refine zw_n 5 rfl ?_
        refine zw_top (ns (a := m) (b := 1) rfl rfl (by omega)) ?_
        refine zw_callV (as := [.int (nI (m - 1))]) (rest := []) rfl rfl rfl (Sm.at hSz4369 (by decide) (hC.1 0 (by decide) (by decide) (by decide))) rfl rfl rfl (by decide) (c_goesOnWith Mz4374 (fset (fset (fset f 36 Rz4367) 35 Wz4366) 34 (up (f 34) 2 1)) L (CC.of (f' := fset (fset (fset f 36 Rz4367) 35 Wz4366) 34 (up (f 34) 2 1)) hC (Sm.tw Sm.rf hSz4369 (by decide)) ⟨by decide, by decide⟩ (d1_cons (hBz4368.get 0 rfl) (d1_cons (hBz4368.get 1 rfl) (d1_cons (hBz4368.get 2 rfl) (d1_cons (Sm.at hSz4369 (by decide) (hC.1 43 (by decide) (by decide) (by decide))) (d1_cons (Sm.at hSz4369 (by decide) (hC.1 44 (by decide) (by decide) (by decide))) d1_nil))))) (fs_c (fs_c (fs_c (fs_k (fs_k fs_n)))))) (⟨⟨hI.tl, hI.tx, hI.gram, hI.tok, hI.bef, hI.grn, hI.mvd, hI.hsz, hI.hen, hI.past, hI.lln, hI.kh, hI.kg, hI.kt, Nat.le_refl _, hDz4370, hEz4371, hI.ost, hI.osw, hI.osr, hI.tst, hI.rkn, hI.fnd, hI.ofs⟩, (fun _ => hFz4372), hI.blm, hI.tre, hI.rep⟩ : CInv L (fset (fset (fset f 36 Rz4367) 35 Wz4366) 34 (up (f 34) 2 1))) hFz4372 (m - 1) (show (m - 1) < f 26 0 by omega)) (fun rz4389 Mz4390 hz4391 => ?_)
        obtain ⟨bz4376, Fz4377, Rz4378, Oz4379, hAz4380, h43z4381, h44z4382, h36z4383, sRz4384, sOz4385, hSz4386, hb1z4387, hbz4388⟩ := hz4391
        rw [hAz4380]
        show Zw 6 zm_CG_goesOn 66 [some (.ref 0), some (.int (nI m))] [.int (nI bz4376)] Mz4390 _
        refine zw_eq0N (a := bz4376) rfl rfl (by omega) (fun c66 => ?_) (fun c66 => ?_)
        · -- 66 to 73
          refine zw_n 1 rfl ?_
          refine zw_top (x' := nI 0) (by decide) ?_
          exact zw_iret rfl rfl (⟨0, rfl, by decide, iff_of_false (by decide) (by unfold GoN; rw [if_neg (by omega)]; exact fun q9 => by have := hbz4388.mpr q9; omega), fset (fset (fset (fset (fset f 44 Oz4379) 43 (up (up (up (f 43) 2 (m - 1)) 3 (f 27 (m - 1))) 4 Fz4377)) 36 Rz4378) 35 Wz4366) 34 (up (f 34) 2 1), (CC.of (f' := fset (fset (fset (fset (fset f 44 Oz4379) 43 (up (up (up (f 43) 2 (m - 1)) 3 (f 27 (m - 1))) 4 Fz4377)) 36 Rz4378) 35 Wz4366) 34 (up (f 34) 2 1)) hC (Sm.tw (Sm.tw Sm.rf hSz4369 (by decide)) hSz4386 (by decide)) ⟨by decide, by decide⟩ (d1_cons (Sm.at hSz4386 (by decide) (hBz4368.get 0 rfl)) (d1_cons (Sm.at hSz4386 (by decide) (hBz4368.get 1 rfl)) (d1_cons h36z4383 (d1_cons h43z4381 (d1_cons h44z4382 d1_nil))))) (fs_c (fs_c (fs_c (fs_c (fs_c fs_n)))))), ⟨⟨hI.tl, hI.tx, hI.gram, hI.tok, hI.bef, hI.grn, hI.mvd, hI.hsz, hI.hen, hI.past, hI.lln, hI.kh, hI.kg, hI.kt, Nat.le_refl _, hDz4370, sRz4384, hI.ost, hI.osw, hI.osr, hI.tst, hI.rkn, hI.fnd, sOz4385⟩, (fun _ => hFz4372), hI.blm, hI.tre, hI.rep⟩, (Smc.of (S := [34, 35, 36, 43, 44]) (Sm.tw (Sm.tw Sm.rf hSz4369 (by decide)) hSz4386 (by decide)) (by decide)), Asame.of (S := [34, 35, 36, 43, 44]) (fs_c (fs_c (fs_c (fs_c (fs_c fs_n))))) rfl (by decide)⟩)
        · -- 66 to 69
          refine zw_n 2 rfl ?_
          refine zw_top (x' := nI 1) (by decide) ?_
          exact zw_iret rfl rfl (⟨1, rfl, by decide, iff_of_true rfl (by unfold GoN; rw [if_neg (by omega)]; exact hbz4388.mp (by omega)), fset (fset (fset (fset (fset f 44 Oz4379) 43 (up (up (up (f 43) 2 (m - 1)) 3 (f 27 (m - 1))) 4 Fz4377)) 36 Rz4378) 35 Wz4366) 34 (up (f 34) 2 1), (CC.of (f' := fset (fset (fset (fset (fset f 44 Oz4379) 43 (up (up (up (f 43) 2 (m - 1)) 3 (f 27 (m - 1))) 4 Fz4377)) 36 Rz4378) 35 Wz4366) 34 (up (f 34) 2 1)) hC (Sm.tw (Sm.tw Sm.rf hSz4369 (by decide)) hSz4386 (by decide)) ⟨by decide, by decide⟩ (d1_cons (Sm.at hSz4386 (by decide) (hBz4368.get 0 rfl)) (d1_cons (Sm.at hSz4386 (by decide) (hBz4368.get 1 rfl)) (d1_cons h36z4383 (d1_cons h43z4381 (d1_cons h44z4382 d1_nil))))) (fs_c (fs_c (fs_c (fs_c (fs_c fs_n)))))), ⟨⟨hI.tl, hI.tx, hI.gram, hI.tok, hI.bef, hI.grn, hI.mvd, hI.hsz, hI.hen, hI.past, hI.lln, hI.kh, hI.kg, hI.kt, Nat.le_refl _, hDz4370, sRz4384, hI.ost, hI.osw, hI.osr, hI.tst, hI.rkn, hI.fnd, sOz4385⟩, (fun _ => hFz4372), hI.blm, hI.tre, hI.rep⟩, (Smc.of (S := [34, 35, 36, 43, 44]) (Sm.tw (Sm.tw Sm.rf hSz4369 (by decide)) hSz4386 (by decide)) (by decide)), Asame.of (S := [34, 35, 36, 43, 44]) (fs_c (fs_c (fs_c (fs_c (fs_c fs_n))))) rfl (by decide)⟩)
      · -- 28 to 31
        refine zw_n 1 rfl ?_
        refine zw_get (v := .ref 16) rfl (hC.1 0 (by decide) (by decide) (by decide)) rfl ?_
        refine zw_get (v := .ref 23) rfl (hC.1 16 (by decide) (by decide) (by decide)) rfl ?_
        refine zw_n 1 rfl ?_
        refine zw_lald (f := al (f 23)) (j := 0) rfl (hC.1 23 (by decide) (by decide) (by decide)) rfl (by decide) (by omega) ?_
        refine zw_n 2 rfl ?_
        refine zw_leqN (a := (f 23) 0) (b := 0) rfl rfl rfl (by first | exact Nat.lt_trans (hI.gram.sfr _) (by decide) | decide) (by first | exact Nat.lt_trans (hI.gram.sfr _) (by decide) | decide) (fun c42 => ?_) (fun c42 => ?_)
        · -- 42 to 49
          refine zw_n 1 rfl ?_
          refine zw_top (x' := nI 0) (by decide) ?_
          exact zw_iret rfl rfl (⟨0, rfl, by decide, iff_of_false (by decide) (by unfold GoN; rw [if_pos (by omega)]; exact fun q9 => q9 c42), f, hC, hI, Smc.rf, Asame.rf⟩)
        · -- 42 to 45
          refine zw_n 2 rfl ?_
          refine zw_top (x' := nI 1) (by decide) ?_
          exact zw_iret rfl rfl (⟨1, rfl, by decide, iff_of_true rfl (by unfold GoN; rw [if_pos (by omega)]; exact c42), f, hC, hI, Smc.rf, Asame.rf⟩)
    · -- 22 to 25
      exfalso
      omega

set_option maxHeartbeats 4000000 in
set_option maxRecDepth 100000 in
theorem c_blamedToken (Mq : zM) (f : Nat → Nat → Nat) (L : Nat) (hC : CC Mq f) (hI : CInv L f) (hst : ChS (eAt f 16 26) (f 16 0) (f 26 0) (f 35)) : Zm 6 zm_CG_blamedToken [.ref 0] Mq (fun r9 M1 => ∃ k R O F m8 s8, r9 = some (.int (nI k)) ∧ M1[0]? = some (ccl 0 (up (f 0) 17 k)) ∧ M1[43]? = some (.inr (6, [.ref 34, .ref 44, .int (nI m8), .int (nI s8), .long (lN F)])) ∧ M1[44]? = some (.inl (1, 168, .inr (.inl (al O)))) ∧ M1[36]? = some (.inl (1, 3360, .inr (.inl (al R)))) ∧ SafeM R ∧ SafeM O ∧ Sm Mq M1 [0, 36, 43, 44] ∧ IsBl (eAt f 16 26) (f 16 0) (f 23) (f 26 0) k) := by
  show Zw 6 zm_CG_blamedToken 0 [some (.ref 0), none] [] Mq _
  have hG : SafeG (f 16 0) (f 17) (f 18) (f 19) (f 20) (f 21) (f 22) := hI.gram.safe
  have hS : SafeT (f 26 0) (f 27) (f 28) (f 29) := hI.tok.safe
  have hn8 := hG.1
  have hc20 := hS.1
  obtain ⟨emp, rk, hA⟩ := hI.gram.acy
  refine zw_n 1 rfl ?_
  refine zw_get (v := .int (nI (f 0 17))) rfl (hC.1 0 (by decide) (by decide) (by decide)) rfl ?_
  refine zw_n 1 rfl ?_
  refine zw_ine rfl (fun c6 => ?_) (fun c6 => ?_)
  · -- 6 to 41
    refine zw_n 1 rfl ?_
    refine zw_get (v := .int (nI (f 0 17))) rfl (hC.1 0 (by decide) (by decide) (by decide)) rfl ?_
    exact zw_iret rfl rfl (⟨f 0 17, f 36, f 44, f 43 4, f 43 2, f 43 3, rfl, by rw [up_id]; exact hC.1 0 (by decide) (by decide) (by decide), hC.1 43 (by decide) (by decide) (by decide), hC.1 44 (by decide) (by decide) (by decide), hC.1 36 (by decide) (by decide) (by decide), hI.csr, hI.ofs, Sm.rf, hI.blm (fun q9 => c6 (by rw [q9]; decide))⟩)
  · -- 6 to 9
    refine zw_n 2 (ls' := [some (.ref 0), some (.int 0)]) rfl ?_
    have lp11 : ∀ (n11 : Nat) (t : Nat) (R1 : Nat → Nat) (O1 : Nat → Nat) (F1 : Nat) (m7 : Nat) (s7 : Nat) (M_11 : zM), Sm Mq M_11 [0, 36, 43, 44] → M_11[36]? = some (.inl (1, 3360, .inr (.inl (al R1)))) → M_11[43]? = some (.inr (6, [.ref 34, .ref 44, .int (nI m7), .int (nI s7), .long (lN F1)])) → M_11[44]? = some (.inl (1, 168, .inr (.inl (al O1)))) → M_11[0]? = some (.inr (11, [.ref 1, .int (nI (f 0 1)), .ref 2, .ref 16, .ref 26, .ref 30, .ref 34, .ref 37, .ref 43, .ref 45, .ref 50, .ref 92, .ref 94, .ref 125, .ref 128, .ref 134, .int (nI (f 0 16)), .int (nI (f 0 17))])) → (t ≤ f 26 0 ∧ SafeM R1 ∧ SafeM O1 ∧ ∀ t9, t9 < t → Fnd (eAt f 16 26) (f 16 0) (f 23) t9 (f 27 t9) 0 (f 29 t9)) → f 26 0 - t < n11 → Zw 6 zm_CG_blamedToken 11 [some (.ref 0), some (.int (nI t))] [] M_11 (fun r9 M1 => ∃ k R O F m8 s8, r9 = some (.int (nI k)) ∧ M1[0]? = some (ccl 0 (up (f 0) 17 k)) ∧ M1[43]? = some (.inr (6, [.ref 34, .ref 44, .int (nI m8), .int (nI s8), .long (lN F)])) ∧ M1[44]? = some (.inl (1, 168, .inr (.inl (al O)))) ∧ M1[36]? = some (.inl (1, 3360, .inr (.inl (al R)))) ∧ SafeM R ∧ SafeM O ∧ Sm Mq M1 [0, 36, 43, 44] ∧ IsBl (eAt f 16 26) (f 16 0) (f 23) (f 26 0) k) := by
      intro n11
      induction n11 with
      | zero => intro t R1 O1 F1 m7 s7 M_11 _ _ _ _ _ _ h; exact absurd h (Nat.not_lt_zero _)
      | succ n11 ih11 =>
        intro t R1 O1 F1 m7 s7 M_11 s_11 f11_0 f11_1 f11_2 f11_3 hi11 hm11
        refine zw_n 2 rfl ?_
        refine zw_get (v := .ref 26) rfl f11_3 rfl ?_
        refine zw_get (v := .int (nI (f 26 0))) rfl (Sm.at s_11 (by decide) (hC.1 26 (by decide) (by decide) (by decide))) rfl ?_
        refine zw_igeN (a := t) (b := f 26 0) rfl rfl rfl (by omega) (by omega) (fun c19 => ?_) (fun c19 => ?_)
        · -- 19 to 36
          refine zw_n 2 rfl ?_
          refine zw_put rfl f11_3 (rfl) (Nat.le_of_ble_eq_true rfl) ?_
          generalize ez4393 : List.set M_11 0 _ = Mz4392
          refine zw_n 1 rfl ?_
          refine zw_get (v := .int (nI t)) rfl (zat_self ez4393 f11_3) rfl ?_
          exact zw_iret rfl rfl (⟨t, R1, O1, F1, m7, s7, rfl, zat_self ez4393 f11_3, zat_set ez4393 (by decide) f11_1, zat_set ez4393 (by decide) f11_2, zat_set ez4393 (by decide) f11_0, hi11.2.1, hi11.2.2.1, Sm.tset s_11 ez4393 (by decide), ⟨hi11.1, hi11.2.2.2, fun q9 => absurd q9 (by omega)⟩⟩)
        · -- 19 to 22
          refine zw_n 2 rfl ?_
          refine zw_callV (as := [.int (nI t)]) (rest := []) rfl rfl rfl f11_3 rfl rfl rfl (by decide) (c_goesOnWith M_11 (fset (fset (fset f 44 O1) 43 (up (up (up (f 43) 2 m7) 3 s7) 4 F1)) 36 R1) L (CC.of (f' := fset (fset (fset f 44 O1) 43 (up (up (up (f 43) 2 m7) 3 s7) 4 F1)) 36 R1) hC s_11 ⟨by decide, by decide⟩ (d1_cons f11_3 (d1_cons f11_0 (d1_cons f11_1 (d1_cons f11_2 d1_nil)))) (fs_k (fs_c (fs_c (fs_c fs_n))))) (⟨⟨hI.tl, hI.tx, hI.gram, hI.tok, hI.bef, hI.grn, hI.mvd, hI.hsz, hI.hen, hI.past, hI.lln, hI.kh, hI.kg, hI.kt, hI.cst, hI.csw, hi11.2.1, hI.ost, hI.osw, hI.osr, hI.tst, hI.rkn, hI.fnd, hi11.2.2.1⟩, hI.cok, hI.blm, hI.tre, hI.rep⟩ : CInv L (fset (fset (fset f 44 O1) 43 (up (up (up (f 43) 2 m7) 3 s7) 4 F1)) 36 R1)) hst t (show t < f 26 0 by omega)) (fun rz4407 Mz4408 hz4409 => ?_)
          obtain ⟨bz4394, Fz4395, Rz4396, Oz4397, hAz4398, h43z4399, h44z4400, h36z4401, sRz4402, sOz4403, hSz4404, hb1z4405, hbz4406⟩ := hz4409
          rw [hAz4398]
          show Zw 6 zm_CG_blamedToken 27 [some (.ref 0), some (.int (nI t))] [.int (nI bz4394)] Mz4408 _
          refine zw_eq0N (a := bz4394) rfl rfl (by omega) (fun c27 => ?_) (fun c27 => ?_)
          · -- 27 to 36
            refine zw_n 2 rfl ?_
            refine zw_put rfl (Sm.at hSz4404 (by decide) f11_3) (rfl) (Nat.le_of_ble_eq_true rfl) ?_
            generalize ez4411 : List.set Mz4408 0 _ = Mz4410
            refine zw_n 1 rfl ?_
            refine zw_get (v := .int (nI t)) rfl (zat_self ez4411 (Sm.at hSz4404 (by decide) f11_3)) rfl ?_
            exact zw_iret rfl rfl (⟨t, Rz4396, Oz4397, Fz4395, t, f 27 t, rfl, zat_self ez4411 (Sm.at hSz4404 (by decide) f11_3), zat_set ez4411 (by decide) h43z4399, zat_set ez4411 (by decide) h44z4400, zat_set ez4411 (by decide) h36z4401, sRz4402, sOz4403, Sm.tset (Sm.tw s_11 hSz4404 (by decide)) ez4411 (by decide), ⟨hi11.1, hi11.2.2.2, fun q9 q8 => by have := hbz4406.mpr q8; omega⟩⟩)
          · -- 27 to 30
            refine zw_inc rfl (x' := (nI (t + 1))) (ls' := [some (.ref 0), some (.int (nI (t + 1)))]) rfl (na (a := t) (b := 1) rfl rfl) rfl ?_
            refine zw_n 1 rfl ?_
            exact ih11 (t + 1) Rz4396 Oz4397 Fz4395 t (f 27 t) Mz4408 (Sm.tw s_11 hSz4404 (by decide)) h36z4401 h43z4399 h44z4400 (Sm.at hSz4404 (by decide) f11_3) (⟨by omega, sRz4402, sOz4403, fun t9 h9 => if e9 : t9 = t then e9 ▸ hbz4406.mp (by omega) else hi11.2.2.2 t9 (by omega)⟩) (by omega)
    exact lp11 _ 0 (f 36) (f 44) (f 43 4) (f 43 2) (f 43 3) Mq Sm.rf (hC.1 36 (by decide) (by decide) (by decide)) (hC.1 43 (by decide) (by decide) (by decide)) (hC.1 44 (by decide) (by decide) (by decide)) (hC.1 0 (by decide) (by decide) (by decide)) (⟨Nat.zero_le _, hI.csr, hI.ofs, fun t9 h9 => absurd h9 (Nat.not_lt_zero _)⟩) (Nat.lt_succ_self _)

set_option maxHeartbeats 4000000 in
set_option maxRecDepth 100000 in
theorem c_blame (Mq : zM) (f : Nat → Nat → Nat) (L : Nat) (hC : CC Mq f) (hI : CInv L f) (w : Int32) : Zm 7 zm_CG_blame [.ref 0, .int w] Mq (fun r9 M1 => ∃ k, r9 = some (.int (blV w k (f 26 0) (f 28))) ∧ (w = nI 0 ∨ w = nI 1 → BlK (eAt f 16 26) (f 16 0) (f 23) (f 26 0) k) ∧ ∃ f9, CC M1 f9 ∧ CInv L f9 ∧ Smc Mq M1 ∧ Asame f f9) := by
  show Zw 7 zm_CG_blame 0 [some (.ref 0), some (.int w), none] [] Mq _
  have hG : SafeG (f 16 0) (f 17) (f 18) (f 19) (f 20) (f 21) (f 22) := hI.gram.safe
  have hS : SafeT (f 26 0) (f 27) (f 28) (f 29) := hI.tok.safe
  have hn8 := hG.1
  have hc20 := hS.1
  obtain ⟨emp, rk, hA⟩ := hI.gram.acy
  refine zw_n 1 rfl ?_
  refine zw_lt0Z (a := w.toInt) rfl (rfl) (fun c1 => ?_) (fun c1 => ?_)
  · -- 1 to 29
    try (have hw9 : ¬ (0 ≤ w.toInt ∧ w.toInt ≤ 1) := by omega)
    refine zw_n 1 rfl ?_
    exact zw_iret rfl rfl (⟨NO, by unfold blV; first | rw [if_neg (fun q9 => hw9 (by rw [q9]; decide)), if_neg (fun q9 => hw9 (by rw [q9]; decide))] | (rcases w01 (show 0 ≤ w.toInt ∧ w.toInt ≤ 1 by omega) with q9 | q9; (rw [if_pos q9]; rfl); (rw [if_neg (by rw [q9]; decide), if_pos q9, if_pos rfl])), fun q9 => ⟨fun _ => rfl, fun q1 q2 => by first | exact absurd (by rcases q9 with q9 | q9 <;> (rw [q9]; decide)) hw9 | omega⟩, f, hC, hI, Smc.rf, Asame.rf⟩)
  · -- 1 to 4
    refine zw_n 2 rfl ?_
    refine zw_igtZ (a := w.toInt) (b := 1) rfl (rfl) (by decide) (fun c6 => ?_) (fun c6 => ?_)
    · -- 6 to 29
      try (have hw9 : ¬ (0 ≤ w.toInt ∧ w.toInt ≤ 1) := by omega)
      refine zw_n 1 rfl ?_
      exact zw_iret rfl rfl (⟨NO, by unfold blV; first | rw [if_neg (fun q9 => hw9 (by rw [q9]; decide)), if_neg (fun q9 => hw9 (by rw [q9]; decide))] | (rcases w01 (show 0 ≤ w.toInt ∧ w.toInt ≤ 1 by omega) with q9 | q9; (rw [if_pos q9]; rfl); (rw [if_neg (by rw [q9]; decide), if_pos q9, if_pos rfl])), fun q9 => ⟨fun _ => rfl, fun q1 q2 => by first | exact absurd (by rcases q9 with q9 | q9 <;> (rw [q9]; decide)) hw9 | omega⟩, f, hC, hI, Smc.rf, Asame.rf⟩)
    · -- 6 to 9
      refine zw_n 1 rfl ?_
      refine zw_get (v := .ref 16) rfl (hC.1 0 (by decide) (by decide) (by decide)) rfl ?_
      refine zw_get (v := .int (nI (f 16 0))) rfl (hC.1 16 (by decide) (by decide) (by decide)) rfl ?_
      refine zw_eq0N (a := f 16 0) rfl rfl (by omega) (fun c16 => ?_) (fun c16 => ?_)
      · -- 16 to 29
        try (have hw9 : ¬ (0 ≤ w.toInt ∧ w.toInt ≤ 1) := by omega)
        refine zw_n 1 rfl ?_
        exact zw_iret rfl rfl (⟨NO, by unfold blV; first | rw [if_neg (fun q9 => hw9 (by rw [q9]; decide)), if_neg (fun q9 => hw9 (by rw [q9]; decide))] | (rcases w01 (show 0 ≤ w.toInt ∧ w.toInt ≤ 1 by omega) with q9 | q9; (rw [if_pos q9]; rfl); (rw [if_neg (by rw [q9]; decide), if_pos q9, if_pos rfl])), fun q9 => ⟨fun _ => rfl, fun q1 q2 => by first | exact absurd (by rcases q9 with q9 | q9 <;> (rw [q9]; decide)) hw9 | omega⟩, f, hC, hI, Smc.rf, Asame.rf⟩)
      · -- 16 to 19
        refine zw_n 1 rfl ?_
        refine zw_get (v := .ref 34) rfl (hC.1 0 (by decide) (by decide) (by decide)) rfl ?_
        refine zw_callV (as := []) (rest := []) rfl rfl rfl (hC.1 34 (by decide) (by decide) (by decide)) rfl rfl rfl (by decide) (c_readOnce Mq 34 16 26 (f 34 2) (f 35) (f 36) (f 16 0) (f 16 7) (f 17) (f 18) (f 19) (f 20) (f 21) (f 22) (f 23) (f 24) (f 25) (f 26 0) (f 27) (f 28) (f 29) (seg3 (hC.1 34 (by decide) (by decide) (by decide)) (hC.1 35 (by decide) (by decide) (by decide)) (hC.1 36 (by decide) (by decide) (by decide))) (seg10 (hC.1 16 (by decide) (by decide) (by decide)) (hC.1 17 (by decide) (by decide) (by decide)) (hC.1 18 (by decide) (by decide) (by decide)) (hC.1 19 (by decide) (by decide) (by decide)) (hC.1 20 (by decide) (by decide) (by decide)) (hC.1 21 (by decide) (by decide) (by decide)) (hC.1 22 (by decide) (by decide) (by decide)) (hC.1 23 (by decide) (by decide) (by decide)) (hC.1 24 (by decide) (by decide) (by decide)) (hC.1 25 (by decide) (by decide) (by decide))) (seg4 (hC.1 26 (by decide) (by decide) (by decide)) (hC.1 27 (by decide) (by decide) (by decide)) (hC.1 28 (by decide) (by decide) (by decide)) (hC.1 29 (by decide) (by decide) (by decide))) hG hS hI.csw hI.csr (by omega) emp rk hA hI.cst hI.cok) (fun rz4420 Mz4421 hz4422 => ?_)
        obtain ⟨hAz4412, Wz4413, Rz4414, hBz4415, hSz4416, hDz4417, hEz4418, hFz4419⟩ := hz4422
        rw [hAz4412]
        show Zw 7 zm_CG_blame 26 [some (.ref 0), some (.int w), none] [.int (nI (if 0 < (f 16 0) ∧ wh (gE (f 18) (f 19) (f 21) (f 20) (f 22) (f 27) (f 29)) (f 16 0) 0 0 (f 26 0) ≠ 0 then 1 else 0))] Mz4421 _
        refine zw_eq0N (a := if 0 < (f 16 0) ∧ wh (gE (f 18) (f 19) (f 21) (f 20) (f 22) (f 27) (f 29)) (f 16 0) 0 0 (f 26 0) ≠ 0 then 1 else 0) rfl rfl (ite_b) (fun c26 => ?_) (fun c26 => ?_)
        · -- 26 to 31
          refine zw_n 1 rfl ?_
          refine zw_callV (as := []) (rest := []) rfl rfl rfl (Sm.at hSz4416 (by decide) (hC.1 0 (by decide) (by decide) (by decide))) rfl rfl rfl (by decide) (c_blamedToken Mz4421 (fset (fset (fset f 36 Rz4414) 35 Wz4413) 34 (up (f 34) 2 1)) L (CC.of (f' := fset (fset (fset f 36 Rz4414) 35 Wz4413) 34 (up (f 34) 2 1)) hC (Sm.tw Sm.rf hSz4416 (by decide)) ⟨by decide, by decide⟩ (d1_cons (Sm.at hSz4416 (by decide) (hC.1 0 (by decide) (by decide) (by decide))) (d1_cons (hBz4415.get 0 rfl) (d1_cons (hBz4415.get 1 rfl) (d1_cons (hBz4415.get 2 rfl) (d1_cons (Sm.at hSz4416 (by decide) (hC.1 43 (by decide) (by decide) (by decide))) (d1_cons (Sm.at hSz4416 (by decide) (hC.1 44 (by decide) (by decide) (by decide))) d1_nil)))))) (fs_k (fs_c (fs_c (fs_c (fs_k (fs_k fs_n))))))) (⟨⟨hI.tl, hI.tx, hI.gram, hI.tok, hI.bef, hI.grn, hI.mvd, hI.hsz, hI.hen, hI.past, hI.lln, hI.kh, hI.kg, hI.kt, Nat.le_refl _, hDz4417, hEz4418, hI.ost, hI.osw, hI.osr, hI.tst, hI.rkn, hI.fnd, hI.ofs⟩, (fun _ => hFz4419), hI.blm, hI.tre, hI.rep⟩ : CInv L (fset (fset (fset f 36 Rz4414) 35 Wz4413) 34 (up (f 34) 2 1))) hFz4419) (fun rz4438 Mz4439 hz4440 => ?_)
          obtain ⟨kz4423, Rz4424, Oz4425, Fz4426, m8z4427, s8z4428, hAz4429, h0z4430, h43z4431, h44z4432, h36z4433, sRz4434, sOz4435, hSz4436, hBz4437⟩ := hz4440
          rw [hAz4429]
          have hk9 : kz4423 ≤ f 26 0 := hBz4437.1
          show Zw 7 zm_CG_blame 35 [some (.ref 0), some (.int w), none] [.int (nI kz4423)] Mz4439 _
          refine zw_n 2 (ls' := [some (.ref 0), some (.int w), some (.int (nI kz4423))]) rfl ?_
          refine zw_ne0Z (a := w.toInt) rfl (rfl) (fun c37 => ?_) (fun c37 => ?_)
          · -- 37 to 42
            refine zw_n 2 rfl ?_
            refine zw_get (v := .ref 26) rfl h0z4430 rfl ?_
            refine zw_get (v := .int (nI (f 26 0))) rfl (Sm.at hSz4436 (by decide) (Sm.at hSz4416 (by decide) (hC.1 26 (by decide) (by decide) (by decide)))) rfl ?_
            refine zw_igeN (a := kz4423) (b := f 26 0) rfl rfl rfl (by omega) (by omega) (fun c50 => ?_) (fun c50 => ?_)
            · -- 50 to 63
              refine zw_n 1 rfl ?_
              refine zw_get (v := .ref 26) rfl h0z4430 rfl ?_
              refine zw_get (v := .int (nI (f 26 0))) rfl (Sm.at hSz4436 (by decide) (Sm.at hSz4416 (by decide) (hC.1 26 (by decide) (by decide) (by decide)))) rfl ?_
              refine zw_ne0N (a := f 26 0) rfl rfl (by omega) (fun c70 => ?_) (fun c70 => ?_)
              · -- 70 to 77
                refine zw_n 1 rfl ?_
                refine zw_get (v := .ref 26) rfl h0z4430 rfl ?_
                refine zw_get (v := .ref 28) rfl (Sm.at hSz4436 (by decide) (Sm.at hSz4416 (by decide) (hC.1 26 (by decide) (by decide) (by decide)))) rfl ?_
                refine zw_n 1 rfl ?_
                refine zw_get (v := .ref 26) rfl h0z4430 rfl ?_
                refine zw_get (v := .int (nI (f 26 0))) rfl (Sm.at hSz4436 (by decide) (Sm.at hSz4416 (by decide) (hC.1 26 (by decide) (by decide) (by decide)))) rfl ?_
                refine zw_n 2 rfl ?_
                refine zw_top (ns (a := f 26 0) (b := 1) rfl rfl (by omega)) ?_
                refine zw_iald (f := ai (f 28)) (j := ((f 26 0) - 1)) rfl (Sm.at hSz4436 (by decide) (Sm.at hSz4416 (by decide) (hC.1 28 (by decide) (by decide) (by decide)))) rfl (by decide) (by omega) ?_
                exact zw_iret rfl rfl (⟨kz4423, by unfold blV; rw [if_neg (show ¬ w = nI 0 from fun q9 => c37 (by rw [q9]; decide)), if_pos ((w01 (show 0 ≤ w.toInt ∧ w.toInt ≤ 1 by omega)).resolve_left (fun q9 => c37 (by rw [q9]; decide))), if_neg (show ¬ kz4423 = NO by unfold NO; omega)]; first | (rw [if_pos (show kz4423 < f 26 0 from c50)]; rfl) | (rw [if_neg (show ¬ kz4423 < f 26 0 by omega)]; first | rw [if_pos c70] | (rw [if_neg c70]; rfl)), fun _ => ⟨fun q9 => by rcases q9 with q9 | q9; exact absurd q9 (by omega); exact absurd ⟨by omega, q9⟩ (ite_eq0 c26), fun _ _ => hBz4437⟩, fset (fset (fset (fset (fset (fset f 44 Oz4425) 43 (up (up (up (f 43) 2 m8z4427) 3 s8z4428) 4 Fz4426)) 36 Rz4424) 35 Wz4413) 34 (up (f 34) 2 1)) 0 (up (f 0) 17 kz4423), (CC.of (f' := fset (fset (fset (fset (fset (fset f 44 Oz4425) 43 (up (up (up (f 43) 2 m8z4427) 3 s8z4428) 4 Fz4426)) 36 Rz4424) 35 Wz4413) 34 (up (f 34) 2 1)) 0 (up (f 0) 17 kz4423)) hC (Sm.tw (Sm.tw Sm.rf hSz4416 (by decide)) hSz4436 (by decide)) ⟨by decide, by decide⟩ (d1_cons h0z4430 (d1_cons (Sm.at hSz4436 (by decide) (hBz4415.get 0 rfl)) (d1_cons (Sm.at hSz4436 (by decide) (hBz4415.get 1 rfl)) (d1_cons h36z4433 (d1_cons h43z4431 (d1_cons h44z4432 d1_nil)))))) (fs_c (fs_c (fs_c (fs_c (fs_c (fs_c fs_n))))))), ⟨⟨hI.tl, hI.tx, hI.gram, hI.tok, hI.bef, hI.grn, hI.mvd, hI.hsz, hI.hen, hI.past, hI.lln, hI.kh, hI.kg, hI.kt, Nat.le_refl _, hDz4417, sRz4434, hI.ost, hI.osw, hI.osr, hI.tst, hI.rkn, hI.fnd, sOz4435⟩, (fun _ => hFz4419), (fun _ => hBz4437), hI.tre, hI.rep⟩, (Smc.of (S := [0, 34, 35, 36, 43, 44]) (Sm.tw (Sm.tw Sm.rf hSz4416 (by decide)) hSz4436 (by decide)) (by decide)), Asame.of (S := [0, 34, 35, 36, 43, 44]) (fs_c (fs_c (fs_c (fs_c (fs_c (fs_c fs_n)))))) rfl (by decide)⟩)
              · -- 70 to 73
                refine zw_n 2 rfl ?_
                refine zw_top (x' := nI 0) (by decide) ?_
                exact zw_iret rfl rfl (⟨kz4423, by unfold blV; rw [if_neg (show ¬ w = nI 0 from fun q9 => c37 (by rw [q9]; decide)), if_pos ((w01 (show 0 ≤ w.toInt ∧ w.toInt ≤ 1 by omega)).resolve_left (fun q9 => c37 (by rw [q9]; decide))), if_neg (show ¬ kz4423 = NO by unfold NO; omega)]; first | (rw [if_pos (show kz4423 < f 26 0 from c50)]; rfl) | (rw [if_neg (show ¬ kz4423 < f 26 0 by omega)]; first | rw [if_pos c70] | (rw [if_neg c70]; rfl)), fun _ => ⟨fun q9 => by rcases q9 with q9 | q9; exact absurd q9 (by omega); exact absurd ⟨by omega, q9⟩ (ite_eq0 c26), fun _ _ => hBz4437⟩, fset (fset (fset (fset (fset (fset f 44 Oz4425) 43 (up (up (up (f 43) 2 m8z4427) 3 s8z4428) 4 Fz4426)) 36 Rz4424) 35 Wz4413) 34 (up (f 34) 2 1)) 0 (up (f 0) 17 kz4423), (CC.of (f' := fset (fset (fset (fset (fset (fset f 44 Oz4425) 43 (up (up (up (f 43) 2 m8z4427) 3 s8z4428) 4 Fz4426)) 36 Rz4424) 35 Wz4413) 34 (up (f 34) 2 1)) 0 (up (f 0) 17 kz4423)) hC (Sm.tw (Sm.tw Sm.rf hSz4416 (by decide)) hSz4436 (by decide)) ⟨by decide, by decide⟩ (d1_cons h0z4430 (d1_cons (Sm.at hSz4436 (by decide) (hBz4415.get 0 rfl)) (d1_cons (Sm.at hSz4436 (by decide) (hBz4415.get 1 rfl)) (d1_cons h36z4433 (d1_cons h43z4431 (d1_cons h44z4432 d1_nil)))))) (fs_c (fs_c (fs_c (fs_c (fs_c (fs_c fs_n))))))), ⟨⟨hI.tl, hI.tx, hI.gram, hI.tok, hI.bef, hI.grn, hI.mvd, hI.hsz, hI.hen, hI.past, hI.lln, hI.kh, hI.kg, hI.kt, Nat.le_refl _, hDz4417, sRz4434, hI.ost, hI.osw, hI.osr, hI.tst, hI.rkn, hI.fnd, sOz4435⟩, (fun _ => hFz4419), (fun _ => hBz4437), hI.tre, hI.rep⟩, (Smc.of (S := [0, 34, 35, 36, 43, 44]) (Sm.tw (Sm.tw Sm.rf hSz4416 (by decide)) hSz4436 (by decide)) (by decide)), Asame.of (S := [0, 34, 35, 36, 43, 44]) (fs_c (fs_c (fs_c (fs_c (fs_c (fs_c fs_n)))))) rfl (by decide)⟩)
            · -- 50 to 53
              refine zw_n 1 rfl ?_
              refine zw_get (v := .ref 26) rfl h0z4430 rfl ?_
              refine zw_get (v := .ref 28) rfl (Sm.at hSz4436 (by decide) (Sm.at hSz4416 (by decide) (hC.1 26 (by decide) (by decide) (by decide)))) rfl ?_
              refine zw_n 1 rfl ?_
              refine zw_iald (f := ai (f 28)) (j := kz4423) rfl (Sm.at hSz4436 (by decide) (Sm.at hSz4416 (by decide) (hC.1 28 (by decide) (by decide) (by decide)))) rfl (by decide) (by omega) ?_
              exact zw_iret rfl rfl (⟨kz4423, by unfold blV; rw [if_neg (show ¬ w = nI 0 from fun q9 => c37 (by rw [q9]; decide)), if_pos ((w01 (show 0 ≤ w.toInt ∧ w.toInt ≤ 1 by omega)).resolve_left (fun q9 => c37 (by rw [q9]; decide))), if_neg (show ¬ kz4423 = NO by unfold NO; omega)]; first | (rw [if_pos (show kz4423 < f 26 0 from c50)]; rfl) | (rw [if_neg (show ¬ kz4423 < f 26 0 by omega)]; first | rw [if_pos c70] | (rw [if_neg c70]; rfl)), fun _ => ⟨fun q9 => by rcases q9 with q9 | q9; exact absurd q9 (by omega); exact absurd ⟨by omega, q9⟩ (ite_eq0 c26), fun _ _ => hBz4437⟩, fset (fset (fset (fset (fset (fset f 44 Oz4425) 43 (up (up (up (f 43) 2 m8z4427) 3 s8z4428) 4 Fz4426)) 36 Rz4424) 35 Wz4413) 34 (up (f 34) 2 1)) 0 (up (f 0) 17 kz4423), (CC.of (f' := fset (fset (fset (fset (fset (fset f 44 Oz4425) 43 (up (up (up (f 43) 2 m8z4427) 3 s8z4428) 4 Fz4426)) 36 Rz4424) 35 Wz4413) 34 (up (f 34) 2 1)) 0 (up (f 0) 17 kz4423)) hC (Sm.tw (Sm.tw Sm.rf hSz4416 (by decide)) hSz4436 (by decide)) ⟨by decide, by decide⟩ (d1_cons h0z4430 (d1_cons (Sm.at hSz4436 (by decide) (hBz4415.get 0 rfl)) (d1_cons (Sm.at hSz4436 (by decide) (hBz4415.get 1 rfl)) (d1_cons h36z4433 (d1_cons h43z4431 (d1_cons h44z4432 d1_nil)))))) (fs_c (fs_c (fs_c (fs_c (fs_c (fs_c fs_n))))))), ⟨⟨hI.tl, hI.tx, hI.gram, hI.tok, hI.bef, hI.grn, hI.mvd, hI.hsz, hI.hen, hI.past, hI.lln, hI.kh, hI.kg, hI.kt, Nat.le_refl _, hDz4417, sRz4434, hI.ost, hI.osw, hI.osr, hI.tst, hI.rkn, hI.fnd, sOz4435⟩, (fun _ => hFz4419), (fun _ => hBz4437), hI.tre, hI.rep⟩, (Smc.of (S := [0, 34, 35, 36, 43, 44]) (Sm.tw (Sm.tw Sm.rf hSz4416 (by decide)) hSz4436 (by decide)) (by decide)), Asame.of (S := [0, 34, 35, 36, 43, 44]) (fs_c (fs_c (fs_c (fs_c (fs_c (fs_c fs_n)))))) rfl (by decide)⟩)
          · -- 37 to 40
            refine zw_n 1 rfl ?_
            exact zw_iret rfl rfl (⟨kz4423, by unfold blV; rw [if_pos (wz_eq c37)], fun _ => ⟨fun q9 => by rcases q9 with q9 | q9; exact absurd q9 (by omega); exact absurd ⟨by omega, q9⟩ (ite_eq0 c26), fun _ _ => hBz4437⟩, fset (fset (fset (fset (fset (fset f 44 Oz4425) 43 (up (up (up (f 43) 2 m8z4427) 3 s8z4428) 4 Fz4426)) 36 Rz4424) 35 Wz4413) 34 (up (f 34) 2 1)) 0 (up (f 0) 17 kz4423), (CC.of (f' := fset (fset (fset (fset (fset (fset f 44 Oz4425) 43 (up (up (up (f 43) 2 m8z4427) 3 s8z4428) 4 Fz4426)) 36 Rz4424) 35 Wz4413) 34 (up (f 34) 2 1)) 0 (up (f 0) 17 kz4423)) hC (Sm.tw (Sm.tw Sm.rf hSz4416 (by decide)) hSz4436 (by decide)) ⟨by decide, by decide⟩ (d1_cons h0z4430 (d1_cons (Sm.at hSz4436 (by decide) (hBz4415.get 0 rfl)) (d1_cons (Sm.at hSz4436 (by decide) (hBz4415.get 1 rfl)) (d1_cons h36z4433 (d1_cons h43z4431 (d1_cons h44z4432 d1_nil)))))) (fs_c (fs_c (fs_c (fs_c (fs_c (fs_c fs_n))))))), ⟨⟨hI.tl, hI.tx, hI.gram, hI.tok, hI.bef, hI.grn, hI.mvd, hI.hsz, hI.hen, hI.past, hI.lln, hI.kh, hI.kg, hI.kt, Nat.le_refl _, hDz4417, sRz4434, hI.ost, hI.osw, hI.osr, hI.tst, hI.rkn, hI.fnd, sOz4435⟩, (fun _ => hFz4419), (fun _ => hBz4437), hI.tre, hI.rep⟩, (Smc.of (S := [0, 34, 35, 36, 43, 44]) (Sm.tw (Sm.tw Sm.rf hSz4416 (by decide)) hSz4436 (by decide)) (by decide)), Asame.of (S := [0, 34, 35, 36, 43, 44]) (fs_c (fs_c (fs_c (fs_c (fs_c (fs_c fs_n)))))) rfl (by decide)⟩)
        · -- 26 to 29
          try (have hw9 : ¬ (0 ≤ w.toInt ∧ w.toInt ≤ 1) := by omega)
          refine zw_n 1 rfl ?_
          exact zw_iret rfl rfl (⟨NO, by unfold blV; rcases w01 (show 0 ≤ w.toInt ∧ w.toInt ≤ 1 by omega) with q9 | q9; (rw [if_pos q9]; rfl); (rw [if_neg (by rw [q9]; decide), if_pos q9, if_pos rfl]), fun _ => ⟨fun _ => rfl, fun q1 q2 => absurd q2 (ite_ne c26).2⟩, fset (fset (fset f 36 Rz4414) 35 Wz4413) 34 (up (f 34) 2 1), (CC.of (f' := fset (fset (fset f 36 Rz4414) 35 Wz4413) 34 (up (f 34) 2 1)) hC (Sm.tw Sm.rf hSz4416 (by decide)) ⟨by decide, by decide⟩ (d1_cons (Sm.at hSz4416 (by decide) (hC.1 0 (by decide) (by decide) (by decide))) (d1_cons (hBz4415.get 0 rfl) (d1_cons (hBz4415.get 1 rfl) (d1_cons (hBz4415.get 2 rfl) (d1_cons (Sm.at hSz4416 (by decide) (hC.1 43 (by decide) (by decide) (by decide))) (d1_cons (Sm.at hSz4416 (by decide) (hC.1 44 (by decide) (by decide) (by decide))) d1_nil)))))) (fs_k (fs_c (fs_c (fs_c (fs_k (fs_k fs_n))))))), ⟨⟨hI.tl, hI.tx, hI.gram, hI.tok, hI.bef, hI.grn, hI.mvd, hI.hsz, hI.hen, hI.past, hI.lln, hI.kh, hI.kg, hI.kt, Nat.le_refl _, hDz4417, hEz4418, hI.ost, hI.osw, hI.osr, hI.tst, hI.rkn, hI.fnd, hI.ofs⟩, (fun _ => hFz4419), hI.blm, hI.tre, hI.rep⟩, (Smc.of (S := [0, 34, 35, 36, 43, 44]) (Sm.tw Sm.rf hSz4416 (by decide)) (by decide)), Asame.of (S := [0, 34, 35, 36, 43, 44]) (fs_k (fs_c (fs_c (fs_c (fs_k (fs_k fs_n)))))) rfl (by decide)⟩)

set_option maxHeartbeats 4000000 in
set_option maxRecDepth 100000 in
theorem c_nearest (Mq : zM) (m c : Nat) (hm : m < 1099511627776) (hc : c < 40) : Zm 1 zm_CG_nearest [.long (lN m), .int (nI c)] Mq (fun r9 M1 => ∃ v, r9 = some (.int (nI v)) ∧ M1 = Mq ∧ NrS m c v) := by
  show Zw 1 zm_CG_nearest 0 [some (.long (lN m)), none, some (.int (nI c)), none] [] Mq _
  refine zw_n 2 (ls' := [some (.long (lN m)), none, some (.int (nI c)), some (.int 0)]) rfl ?_
  have lp2 : ∀ (n2 : Nat) (far : Nat), (far ≤ 40 ∧ nrF m c far) → 40 - far < n2 → Zw 1 zm_CG_nearest 2 [some (.long (lN m)), none, some (.int (nI c)), some (.int (nI far))] [] Mq (fun r9 M1 => ∃ v, r9 = some (.int (nI v)) ∧ M1 = Mq ∧ NrS m c v) := by
    intro n2
    induction n2 with
    | zero => intro far _ h; exact absurd h (Nat.not_lt_zero _)
    | succ n2 ih2 =>
      intro far hi2 hm2
      refine zw_n 2 rfl ?_
      refine zw_igeN (a := far) (b := 40) rfl rfl rfl (by omega) (by omega) (fun c5 => ?_) (fun c5 => ?_)
      · -- 5 to 55
        refine zw_n 1 rfl ?_
        exact zw_iret rfl rfl (⟨NO, by decide, rfl, hi2.2.none hc (by omega)⟩)
      · -- 5 to 8
        refine zw_n 2 rfl ?_
        refine zw_iltN (a := c) (b := far) rfl rfl rfl (by omega) (by omega) (fun c10 => ?_) (fun c10 => ?_)
        · -- 10 to 27
          have hlo : far ≤ c → m.testBit (c - far) = false := fun q9 => by first | omega | (cases hb9 : m.testBit (c - far) with | false => rfl | true => exact absurd hb9 (ite_eq0 c20))
          refine zw_n 3 rfl ?_
          refine zw_top (na (a := c) (b := far) rfl rfl) ?_
          refine zw_n 1 rfl ?_
          refine zw_igeN (a := c + far) (b := 40) rfl rfl rfl (by omega) (by omega) (fun c32 => ?_) (fun c32 => ?_)
          · -- 32 to 49
            have hhi : c + far < 40 → m.testBit (c + far) = false := fun q9 => by first | omega | (cases hb9 : m.testBit (c + far) with | false => rfl | true => exact absurd hb9 (ite_eq0 c42))
            refine zw_inc rfl (x' := (nI (far + 1))) (ls' := [some (.long (lN m)), none, some (.int (nI c)), some (.int (nI (far + 1)))]) rfl (na (a := far) (b := 1) rfl rfl) rfl ?_
            refine zw_n 1 rfl ?_
            exact ih2 (far + 1) (⟨by omega, hi2.2.step hlo hhi⟩) (by omega)
          · -- 32 to 35
            refine zw_n 4 rfl ?_
            refine zw_top (na (a := c) (b := far) rfl rfl) ?_
            refine zw_callS (as := [.long (lN m), .int (nI (c + far))]) (rest := []) rfl rfl rfl rfl rfl rfl (by decide) (c_hasColumn _ _ _ hm (by omega)) (fun rz4441 Mz4442 hz4443 => ?_)
            rw [hz4443.1, hz4443.2]
            show Zw 1 zm_CG_nearest 42 [some (.long (lN m)), none, some (.int (nI c)), some (.int (nI far))] [.int (nI (if m.testBit (c + far) = true then 1 else 0))] Mq _
            refine zw_eq0N (a := if m.testBit (c + far) = true then 1 else 0) rfl rfl (ite_b) (fun c42 => ?_) (fun c42 => ?_)
            · -- 42 to 49
              have hhi : c + far < 40 → m.testBit (c + far) = false := fun q9 => by first | omega | (cases hb9 : m.testBit (c + far) with | false => rfl | true => exact absurd hb9 (ite_eq0 c42))
              refine zw_inc rfl (x' := (nI (far + 1))) (ls' := [some (.long (lN m)), none, some (.int (nI c)), some (.int (nI (far + 1)))]) rfl (na (a := far) (b := 1) rfl rfl) rfl ?_
              refine zw_n 1 rfl ?_
              exact ih2 (far + 1) (⟨by omega, hi2.2.step hlo hhi⟩) (by omega)
            · -- 42 to 45
              refine zw_n 3 rfl ?_
              refine zw_top (na (a := c) (b := far) rfl rfl) ?_
              exact zw_iret rfl rfl (⟨_, rfl, rfl, hi2.2.high hc hlo (by omega) (ite_ne c42)⟩)
        · -- 10 to 13
          refine zw_n 4 rfl ?_
          refine zw_top (ns (a := c) (b := far) rfl rfl (by omega)) ?_
          refine zw_callS (as := [.long (lN m), .int (nI (c - far))]) (rest := []) rfl rfl rfl rfl rfl rfl (by decide) (c_hasColumn _ _ _ hm (by omega)) (fun rz4444 Mz4445 hz4446 => ?_)
          rw [hz4446.1, hz4446.2]
          show Zw 1 zm_CG_nearest 20 [some (.long (lN m)), none, some (.int (nI c)), some (.int (nI far))] [.int (nI (if m.testBit (c - far) = true then 1 else 0))] Mq _
          refine zw_eq0N (a := if m.testBit (c - far) = true then 1 else 0) rfl rfl (ite_b) (fun c20 => ?_) (fun c20 => ?_)
          · -- 20 to 27
            have hlo : far ≤ c → m.testBit (c - far) = false := fun q9 => by first | omega | (cases hb9 : m.testBit (c - far) with | false => rfl | true => exact absurd hb9 (ite_eq0 c20))
            refine zw_n 3 rfl ?_
            refine zw_top (na (a := c) (b := far) rfl rfl) ?_
            refine zw_n 1 rfl ?_
            refine zw_igeN (a := c + far) (b := 40) rfl rfl rfl (by omega) (by omega) (fun c32 => ?_) (fun c32 => ?_)
            · -- 32 to 49
              have hhi : c + far < 40 → m.testBit (c + far) = false := fun q9 => by first | omega | (cases hb9 : m.testBit (c + far) with | false => rfl | true => exact absurd hb9 (ite_eq0 c42))
              refine zw_inc rfl (x' := (nI (far + 1))) (ls' := [some (.long (lN m)), none, some (.int (nI c)), some (.int (nI (far + 1)))]) rfl (na (a := far) (b := 1) rfl rfl) rfl ?_
              refine zw_n 1 rfl ?_
              exact ih2 (far + 1) (⟨by omega, hi2.2.step hlo hhi⟩) (by omega)
            · -- 32 to 35
              refine zw_n 4 rfl ?_
              refine zw_top (na (a := c) (b := far) rfl rfl) ?_
              refine zw_callS (as := [.long (lN m), .int (nI (c + far))]) (rest := []) rfl rfl rfl rfl rfl rfl (by decide) (c_hasColumn _ _ _ hm (by omega)) (fun rz4447 Mz4448 hz4449 => ?_)
              rw [hz4449.1, hz4449.2]
              show Zw 1 zm_CG_nearest 42 [some (.long (lN m)), none, some (.int (nI c)), some (.int (nI far))] [.int (nI (if m.testBit (c + far) = true then 1 else 0))] Mq _
              refine zw_eq0N (a := if m.testBit (c + far) = true then 1 else 0) rfl rfl (ite_b) (fun c42 => ?_) (fun c42 => ?_)
              · -- 42 to 49
                have hhi : c + far < 40 → m.testBit (c + far) = false := fun q9 => by first | omega | (cases hb9 : m.testBit (c + far) with | false => rfl | true => exact absurd hb9 (ite_eq0 c42))
                refine zw_inc rfl (x' := (nI (far + 1))) (ls' := [some (.long (lN m)), none, some (.int (nI c)), some (.int (nI (far + 1)))]) rfl (na (a := far) (b := 1) rfl rfl) rfl ?_
                refine zw_n 1 rfl ?_
                exact ih2 (far + 1) (⟨by omega, hi2.2.step hlo hhi⟩) (by omega)
              · -- 42 to 45
                refine zw_n 3 rfl ?_
                refine zw_top (na (a := c) (b := far) rfl rfl) ?_
                exact zw_iret rfl rfl (⟨_, rfl, rfl, hi2.2.high hc hlo (by omega) (ite_ne c42)⟩)
          · -- 20 to 23
            refine zw_n 3 rfl ?_
            refine zw_top (ns (a := c) (b := far) rfl rfl (by omega)) ?_
            exact zw_iret rfl rfl (⟨_, rfl, rfl, hi2.2.low hc (by omega) (ite_ne c20)⟩)
  exact lp2 _ 0 (⟨Nat.zero_le _, fun d _ _ => Nat.zero_le _⟩) (Nat.lt_succ_self _)

set_option maxHeartbeats 4000000 in
set_option maxRecDepth 100000 in
theorem c_hint (Mq : zM) (f : Nat → Nat → Nat) (L : Nat) (hC : CC Mq f) (hI : CInv L f) (w : Int32) : Zm 7 zm_CG_hint [.ref 0, .int w] Mq (fun r9 M1 => ∃ k F v, r9 = some (.int (if w = nI 0 then (if k = NO ∨ k = f 26 0 then -1 else nI v) else if w = nI 1 then (if k = NO ∨ k = f 26 0 then -1 else nI (bc F)) else -1)) ∧ (w = nI 0 ∨ w = nI 1 → BlK (eAt f 16 26) (f 16 0) (f 23) (f 26 0) k ∧ (k < f 26 0 → F < 1099511627776 ∧ (∀ d, F.testBit d = true ↔ Fnd (eAt f 16 26) (f 16 0) (f 23) k (f 27 k) 0 d) ∧ NrS F (f 29 k) v)) ∧ ∃ f9, CC M1 f9 ∧ CInv L f9 ∧ Smc Mq M1 ∧ Asame f f9) := by
  show Zw 7 zm_CG_hint 0 [some (.ref 0), some (.int w), none, none, none] [] Mq _
  have hG : SafeG (f 16 0) (f 17) (f 18) (f 19) (f 20) (f 21) (f 22) := hI.gram.safe
  have hS : SafeT (f 26 0) (f 27) (f 28) (f 29) := hI.tok.safe
  have hn8 := hG.1
  have hc20 := hS.1
  obtain ⟨emp, rk, hA⟩ := hI.gram.acy
  refine zw_n 1 rfl ?_
  refine zw_lt0Z (a := w.toInt) rfl (rfl) (fun c1 => ?_) (fun c1 => ?_)
  · -- 1 to 29
    try (have hw9 : ¬ (0 ≤ w.toInt ∧ w.toInt ≤ 1) := by omega)
    refine zw_n 1 rfl ?_
    exact zw_iret rfl rfl (⟨NO, 0, 0, by first | rw [if_neg (fun q9 => hw9 (by rw [q9]; decide)), if_neg (fun q9 => hw9 (by rw [q9]; decide))] | (rcases w01 (show 0 ≤ w.toInt ∧ w.toInt ≤ 1 by omega) with q9 | q9; (rw [if_pos q9, if_pos (Or.inl rfl)]); (rw [if_neg (by rw [q9]; decide), if_pos q9, if_pos (Or.inl rfl)])), fun q9 => ⟨⟨fun _ => rfl, fun q1 q2 => by first | exact absurd (by rcases q9 with q9 | q9 <;> (rw [q9]; decide)) hw9 | omega⟩, fun q8 => by unfold NO at q8; omega⟩, f, hC, hI, Smc.rf, Asame.rf⟩)
  · -- 1 to 4
    refine zw_n 2 rfl ?_
    refine zw_igtZ (a := w.toInt) (b := 1) rfl (rfl) (by decide) (fun c6 => ?_) (fun c6 => ?_)
    · -- 6 to 29
      try (have hw9 : ¬ (0 ≤ w.toInt ∧ w.toInt ≤ 1) := by omega)
      refine zw_n 1 rfl ?_
      exact zw_iret rfl rfl (⟨NO, 0, 0, by first | rw [if_neg (fun q9 => hw9 (by rw [q9]; decide)), if_neg (fun q9 => hw9 (by rw [q9]; decide))] | (rcases w01 (show 0 ≤ w.toInt ∧ w.toInt ≤ 1 by omega) with q9 | q9; (rw [if_pos q9, if_pos (Or.inl rfl)]); (rw [if_neg (by rw [q9]; decide), if_pos q9, if_pos (Or.inl rfl)])), fun q9 => ⟨⟨fun _ => rfl, fun q1 q2 => by first | exact absurd (by rcases q9 with q9 | q9 <;> (rw [q9]; decide)) hw9 | omega⟩, fun q8 => by unfold NO at q8; omega⟩, f, hC, hI, Smc.rf, Asame.rf⟩)
    · -- 6 to 9
      refine zw_n 1 rfl ?_
      refine zw_get (v := .ref 16) rfl (hC.1 0 (by decide) (by decide) (by decide)) rfl ?_
      refine zw_get (v := .int (nI (f 16 0))) rfl (hC.1 16 (by decide) (by decide) (by decide)) rfl ?_
      refine zw_eq0N (a := f 16 0) rfl rfl (by omega) (fun c16 => ?_) (fun c16 => ?_)
      · -- 16 to 29
        try (have hw9 : ¬ (0 ≤ w.toInt ∧ w.toInt ≤ 1) := by omega)
        refine zw_n 1 rfl ?_
        exact zw_iret rfl rfl (⟨NO, 0, 0, by first | rw [if_neg (fun q9 => hw9 (by rw [q9]; decide)), if_neg (fun q9 => hw9 (by rw [q9]; decide))] | (rcases w01 (show 0 ≤ w.toInt ∧ w.toInt ≤ 1 by omega) with q9 | q9; (rw [if_pos q9, if_pos (Or.inl rfl)]); (rw [if_neg (by rw [q9]; decide), if_pos q9, if_pos (Or.inl rfl)])), fun q9 => ⟨⟨fun _ => rfl, fun q1 q2 => by first | exact absurd (by rcases q9 with q9 | q9 <;> (rw [q9]; decide)) hw9 | omega⟩, fun q8 => by unfold NO at q8; omega⟩, f, hC, hI, Smc.rf, Asame.rf⟩)
      · -- 16 to 19
        refine zw_n 1 rfl ?_
        refine zw_get (v := .ref 34) rfl (hC.1 0 (by decide) (by decide) (by decide)) rfl ?_
        refine zw_callV (as := []) (rest := []) rfl rfl rfl (hC.1 34 (by decide) (by decide) (by decide)) rfl rfl rfl (by decide) (c_readOnce Mq 34 16 26 (f 34 2) (f 35) (f 36) (f 16 0) (f 16 7) (f 17) (f 18) (f 19) (f 20) (f 21) (f 22) (f 23) (f 24) (f 25) (f 26 0) (f 27) (f 28) (f 29) (seg3 (hC.1 34 (by decide) (by decide) (by decide)) (hC.1 35 (by decide) (by decide) (by decide)) (hC.1 36 (by decide) (by decide) (by decide))) (seg10 (hC.1 16 (by decide) (by decide) (by decide)) (hC.1 17 (by decide) (by decide) (by decide)) (hC.1 18 (by decide) (by decide) (by decide)) (hC.1 19 (by decide) (by decide) (by decide)) (hC.1 20 (by decide) (by decide) (by decide)) (hC.1 21 (by decide) (by decide) (by decide)) (hC.1 22 (by decide) (by decide) (by decide)) (hC.1 23 (by decide) (by decide) (by decide)) (hC.1 24 (by decide) (by decide) (by decide)) (hC.1 25 (by decide) (by decide) (by decide))) (seg4 (hC.1 26 (by decide) (by decide) (by decide)) (hC.1 27 (by decide) (by decide) (by decide)) (hC.1 28 (by decide) (by decide) (by decide)) (hC.1 29 (by decide) (by decide) (by decide))) hG hS hI.csw hI.csr (by omega) emp rk hA hI.cst hI.cok) (fun rz4458 Mz4459 hz4460 => ?_)
        obtain ⟨hAz4450, Wz4451, Rz4452, hBz4453, hSz4454, hDz4455, hEz4456, hFz4457⟩ := hz4460
        rw [hAz4450]
        show Zw 7 zm_CG_hint 26 [some (.ref 0), some (.int w), none, none, none] [.int (nI (if 0 < (f 16 0) ∧ wh (gE (f 18) (f 19) (f 21) (f 20) (f 22) (f 27) (f 29)) (f 16 0) 0 0 (f 26 0) ≠ 0 then 1 else 0))] Mz4459 _
        refine zw_eq0N (a := if 0 < (f 16 0) ∧ wh (gE (f 18) (f 19) (f 21) (f 20) (f 22) (f 27) (f 29)) (f 16 0) 0 0 (f 26 0) ≠ 0 then 1 else 0) rfl rfl (ite_b) (fun c26 => ?_) (fun c26 => ?_)
        · -- 26 to 31
          refine zw_n 1 rfl ?_
          refine zw_callV (as := []) (rest := []) rfl rfl rfl (Sm.at hSz4454 (by decide) (hC.1 0 (by decide) (by decide) (by decide))) rfl rfl rfl (by decide) (c_blamedToken Mz4459 (fset (fset (fset f 36 Rz4452) 35 Wz4451) 34 (up (f 34) 2 1)) L (CC.of (f' := fset (fset (fset f 36 Rz4452) 35 Wz4451) 34 (up (f 34) 2 1)) hC (Sm.tw Sm.rf hSz4454 (by decide)) ⟨by decide, by decide⟩ (d1_cons (Sm.at hSz4454 (by decide) (hC.1 0 (by decide) (by decide) (by decide))) (d1_cons (hBz4453.get 0 rfl) (d1_cons (hBz4453.get 1 rfl) (d1_cons (hBz4453.get 2 rfl) (d1_cons (Sm.at hSz4454 (by decide) (hC.1 43 (by decide) (by decide) (by decide))) (d1_cons (Sm.at hSz4454 (by decide) (hC.1 44 (by decide) (by decide) (by decide))) d1_nil)))))) (fs_k (fs_c (fs_c (fs_c (fs_k (fs_k fs_n))))))) (⟨⟨hI.tl, hI.tx, hI.gram, hI.tok, hI.bef, hI.grn, hI.mvd, hI.hsz, hI.hen, hI.past, hI.lln, hI.kh, hI.kg, hI.kt, Nat.le_refl _, hDz4455, hEz4456, hI.ost, hI.osw, hI.osr, hI.tst, hI.rkn, hI.fnd, hI.ofs⟩, (fun _ => hFz4457), hI.blm, hI.tre, hI.rep⟩ : CInv L (fset (fset (fset f 36 Rz4452) 35 Wz4451) 34 (up (f 34) 2 1))) hFz4457) (fun rz4476 Mz4477 hz4478 => ?_)
          obtain ⟨kz4461, Rz4462, Oz4463, Fz4464, m8z4465, s8z4466, hAz4467, h0z4468, h43z4469, h44z4470, h36z4471, sRz4472, sOz4473, hSz4474, hBz4475⟩ := hz4478
          rw [hAz4467]
          have hk9 : kz4461 ≤ f 26 0 := hBz4475.1
          show Zw 7 zm_CG_hint 35 [some (.ref 0), some (.int w), none, none, none] [.int (nI kz4461)] Mz4477 _
          refine zw_n 1 (ls' := [some (.ref 0), some (.int w), some (.int (nI kz4461)), none, none]) rfl ?_
          refine zw_n 2 rfl ?_
          refine zw_get (v := .ref 26) rfl h0z4468 rfl ?_
          refine zw_get (v := .int (nI (f 26 0))) rfl (Sm.at hSz4474 (by decide) (Sm.at hSz4454 (by decide) (hC.1 26 (by decide) (by decide) (by decide)))) rfl ?_
          refine zw_iltN (a := kz4461) (b := f 26 0) rfl rfl rfl (by omega) (by omega) (fun c44 => ?_) (fun c44 => ?_)
          · -- 44 to 49
            have hsk := hS.2.1 kz4461
            refine zw_n 1 rfl ?_
            refine zw_get (v := .ref 43) rfl h0z4468 rfl ?_
            refine zw_n 2 rfl ?_
            refine zw_get (v := .ref 26) rfl h0z4468 rfl ?_
            refine zw_get (v := .ref 27) rfl (Sm.at hSz4474 (by decide) (Sm.at hSz4454 (by decide) (hC.1 26 (by decide) (by decide) (by decide)))) rfl ?_
            refine zw_n 1 rfl ?_
            refine zw_iald (f := ai (f 27)) (j := kz4461) rfl (Sm.at hSz4474 (by decide) (Sm.at hSz4454 (by decide) (hC.1 27 (by decide) (by decide) (by decide)))) rfl (by decide) (by omega) ?_
            refine zw_n 1 rfl ?_
            refine zw_callV (as := [.int (nI kz4461), .int (nI ((f 27) kz4461)), .int 0]) (rest := []) rfl rfl rfl h43z4469 rfl rfl rfl (by decide) (c_behind Mz4477 1 Wz4451 Rz4462 (f 16 0) (f 16 7) (f 17) (f 18) (f 19) (f 20) (f 21) (f 22) (f 23) (f 24) (f 25) (f 26 0) (f 27) (f 28) (f 29) (seg3 (Sm.at hSz4474 (by decide) (hBz4453.get 0 rfl)) (Sm.at hSz4474 (by decide) (hBz4453.get 1 rfl)) h36z4471) (seg10 (Sm.at hSz4474 (by decide) (Sm.at hSz4454 (by decide) (hC.1 16 (by decide) (by decide) (by decide)))) (Sm.at hSz4474 (by decide) (Sm.at hSz4454 (by decide) (hC.1 17 (by decide) (by decide) (by decide)))) (Sm.at hSz4474 (by decide) (Sm.at hSz4454 (by decide) (hC.1 18 (by decide) (by decide) (by decide)))) (Sm.at hSz4474 (by decide) (Sm.at hSz4454 (by decide) (hC.1 19 (by decide) (by decide) (by decide)))) (Sm.at hSz4474 (by decide) (Sm.at hSz4454 (by decide) (hC.1 20 (by decide) (by decide) (by decide)))) (Sm.at hSz4474 (by decide) (Sm.at hSz4454 (by decide) (hC.1 21 (by decide) (by decide) (by decide)))) (Sm.at hSz4474 (by decide) (Sm.at hSz4454 (by decide) (hC.1 22 (by decide) (by decide) (by decide)))) (Sm.at hSz4474 (by decide) (Sm.at hSz4454 (by decide) (hC.1 23 (by decide) (by decide) (by decide)))) (Sm.at hSz4474 (by decide) (Sm.at hSz4454 (by decide) (hC.1 24 (by decide) (by decide) (by decide)))) (Sm.at hSz4474 (by decide) (Sm.at hSz4454 (by decide) (hC.1 25 (by decide) (by decide) (by decide))))) (seg4 (Sm.at hSz4474 (by decide) (Sm.at hSz4454 (by decide) (hC.1 26 (by decide) (by decide) (by decide)))) (Sm.at hSz4474 (by decide) (Sm.at hSz4454 (by decide) (hC.1 27 (by decide) (by decide) (by decide)))) (Sm.at hSz4474 (by decide) (Sm.at hSz4454 (by decide) (hC.1 28 (by decide) (by decide) (by decide)))) (Sm.at hSz4474 (by decide) (Sm.at hSz4454 (by decide) (hC.1 29 (by decide) (by decide) (by decide))))) hG hS hDz4455 sRz4472 m8z4465 s8z4466 Fz4464 Oz4463 h43z4469 h44z4470 kz4461 ((f 27) kz4461) 0 (by omega) (by omega) (by omega) sOz4473 hI.gram.sfb (fun r a k h1 h2 h3 => hI.gram.fbh r a k h1 h2 h3) (fun r a k h1 h2 h3 h4 => ((hI.gram.prt _ ⟨r, a, k, h1, h2, h3, rfl⟩).2 h4).1) hA.1 hFz4457) (fun rz4491 Mz4492 hz4493 => ?_)
            obtain ⟨Fz4479, Rz4480, Oz4481, hAz4482, hFlz4483, hFz4484, h43z4485, h44z4486, h36z4487, sRz4488, sOz4489, hSz4490⟩ := hz4493
            rw [hAz4482]
            show Zw 7 zm_CG_hint 67 [some (.ref 0), some (.int w), some (.int (nI kz4461)), none, none] [.long (lN Fz4479)] Mz4492 _
            refine zw_n 2 (ls' := [some (.ref 0), some (.int w), some (.int (nI kz4461)), some (.long (lN Fz4479)), none]) rfl ?_
            refine zw_ne0Z (a := w.toInt) rfl (rfl) (fun c69 => ?_) (fun c69 => ?_)
            · -- 69 to 88
              refine zw_n 1 rfl ?_
              refine zw_callS (as := [.long (lN Fz4479)]) (rest := []) rfl rfl rfl rfl rfl rfl (by decide) (c_bitCount _ _ hFlz4483) (fun rz4494 Mz4495 hz4496 => ?_)
              rw [hz4496.1, hz4496.2]
              show Zw 7 zm_CG_hint 92 [some (.ref 0), some (.int w), some (.int (nI kz4461)), some (.long (lN Fz4479)), none] [.int (nI (bc Fz4479))] Mz4492 _
              refine zw_iret rfl rfl ?_
              obtain ⟨v9, hv9⟩ := NrS.ex Fz4479 (f 29 kz4461)
              exact ⟨kz4461, Fz4479, v9, by rw [if_neg (show ¬ w = nI 0 from fun q9 => c69 (by rw [q9]; decide)), if_pos ((w01 (show 0 ≤ w.toInt ∧ w.toInt ≤ 1 by omega)).resolve_left (fun q9 => c69 (by rw [q9]; decide))), if_neg (fun q9 => by rcases q9 with q9 | q9; (unfold NO at q9; omega); omega)], fun _ => ⟨⟨fun q9 => by rcases q9 with q9 | q9; exact absurd q9 (by omega); exact absurd ⟨by omega, q9⟩ (ite_eq0 c26), fun _ _ => hBz4475⟩, fun _ => ⟨hFlz4483, hFz4484, hv9⟩⟩, fset (fset (fset (fset (fset (fset f 44 Oz4481) 43 (up (up (up (f 43) 2 kz4461) 3 ((f 27) kz4461)) 4 Fz4479)) 36 Rz4480) 35 Wz4451) 34 (up (f 34) 2 1)) 0 (up (f 0) 17 kz4461), (CC.of (f' := fset (fset (fset (fset (fset (fset f 44 Oz4481) 43 (up (up (up (f 43) 2 kz4461) 3 ((f 27) kz4461)) 4 Fz4479)) 36 Rz4480) 35 Wz4451) 34 (up (f 34) 2 1)) 0 (up (f 0) 17 kz4461)) hC (Sm.tw (Sm.tw (Sm.tw Sm.rf hSz4454 (by decide)) hSz4474 (by decide)) hSz4490 (by decide)) ⟨by decide, by decide⟩ (d1_cons (Sm.at hSz4490 (by decide) h0z4468) (d1_cons (Sm.at hSz4490 (by decide) (Sm.at hSz4474 (by decide) (hBz4453.get 0 rfl))) (d1_cons (Sm.at hSz4490 (by decide) (Sm.at hSz4474 (by decide) (hBz4453.get 1 rfl))) (d1_cons h36z4487 (d1_cons h43z4485 (d1_cons h44z4486 d1_nil)))))) (fs_c (fs_c (fs_c (fs_c (fs_c (fs_c fs_n))))))), ⟨⟨hI.tl, hI.tx, hI.gram, hI.tok, hI.bef, hI.grn, hI.mvd, hI.hsz, hI.hen, hI.past, hI.lln, hI.kh, hI.kg, hI.kt, Nat.le_refl _, hDz4455, sRz4488, hI.ost, hI.osw, hI.osr, hI.tst, hI.rkn, hI.fnd, sOz4489⟩, (fun _ => hFz4457), (fun _ => hBz4475), hI.tre, hI.rep⟩, (Smc.of (S := [0, 34, 35, 36, 43, 44]) (Sm.tw (Sm.tw (Sm.tw Sm.rf hSz4454 (by decide)) hSz4474 (by decide)) hSz4490 (by decide)) (by decide)), Asame.of (S := [0, 34, 35, 36, 43, 44]) (fs_c (fs_c (fs_c (fs_c (fs_c (fs_c fs_n)))))) rfl (by decide)⟩
            · -- 69 to 72
              refine zw_n 2 rfl ?_
              refine zw_get (v := .ref 26) rfl (Sm.at hSz4490 (by decide) h0z4468) rfl ?_
              refine zw_get (v := .ref 29) rfl (Sm.at hSz4490 (by decide) (Sm.at hSz4474 (by decide) (Sm.at hSz4454 (by decide) (hC.1 26 (by decide) (by decide) (by decide))))) rfl ?_
              refine zw_n 1 rfl ?_
              refine zw_iald (f := ai (f 29)) (j := kz4461) rfl (Sm.at hSz4490 (by decide) (Sm.at hSz4474 (by decide) (Sm.at hSz4454 (by decide) (hC.1 29 (by decide) (by decide) (by decide))))) rfl (by decide) (by omega) ?_
              refine zw_callS (as := [.long (lN Fz4479), .int (nI ((f 29) kz4461))]) (rest := []) rfl rfl rfl rfl rfl rfl (by decide) (c_nearest _ _ _ hFlz4483 (hS.2.2.2 _)) (fun rz4501 Mz4502 hz4503 => ?_)
              obtain ⟨vz4497, hAz4498, hMz4499, hvz4500⟩ := hz4503
              rw [hAz4498, hMz4499]
              show Zw 7 zm_CG_hint 85 [some (.ref 0), some (.int w), some (.int (nI kz4461)), some (.long (lN Fz4479)), none] [.int (nI vz4497)] Mz4492 _
              refine zw_n 1 rfl ?_
              exact zw_iret rfl rfl (⟨kz4461, Fz4479, vz4497, by rw [if_pos (wz_eq c69), if_neg (fun q9 => by rcases q9 with q9 | q9; (unfold NO at q9; omega); omega)], fun _ => ⟨⟨fun q9 => by rcases q9 with q9 | q9; exact absurd q9 (by omega); exact absurd ⟨by omega, q9⟩ (ite_eq0 c26), fun _ _ => hBz4475⟩, fun _ => ⟨hFlz4483, hFz4484, hvz4500⟩⟩, fset (fset (fset (fset (fset (fset f 44 Oz4481) 43 (up (up (up (f 43) 2 kz4461) 3 ((f 27) kz4461)) 4 Fz4479)) 36 Rz4480) 35 Wz4451) 34 (up (f 34) 2 1)) 0 (up (f 0) 17 kz4461), (CC.of (f' := fset (fset (fset (fset (fset (fset f 44 Oz4481) 43 (up (up (up (f 43) 2 kz4461) 3 ((f 27) kz4461)) 4 Fz4479)) 36 Rz4480) 35 Wz4451) 34 (up (f 34) 2 1)) 0 (up (f 0) 17 kz4461)) hC (Sm.tw (Sm.tw (Sm.tw Sm.rf hSz4454 (by decide)) hSz4474 (by decide)) hSz4490 (by decide)) ⟨by decide, by decide⟩ (d1_cons (Sm.at hSz4490 (by decide) h0z4468) (d1_cons (Sm.at hSz4490 (by decide) (Sm.at hSz4474 (by decide) (hBz4453.get 0 rfl))) (d1_cons (Sm.at hSz4490 (by decide) (Sm.at hSz4474 (by decide) (hBz4453.get 1 rfl))) (d1_cons h36z4487 (d1_cons h43z4485 (d1_cons h44z4486 d1_nil)))))) (fs_c (fs_c (fs_c (fs_c (fs_c (fs_c fs_n))))))), ⟨⟨hI.tl, hI.tx, hI.gram, hI.tok, hI.bef, hI.grn, hI.mvd, hI.hsz, hI.hen, hI.past, hI.lln, hI.kh, hI.kg, hI.kt, Nat.le_refl _, hDz4455, sRz4488, hI.ost, hI.osw, hI.osr, hI.tst, hI.rkn, hI.fnd, sOz4489⟩, (fun _ => hFz4457), (fun _ => hBz4475), hI.tre, hI.rep⟩, (Smc.of (S := [0, 34, 35, 36, 43, 44]) (Sm.tw (Sm.tw (Sm.tw Sm.rf hSz4454 (by decide)) hSz4474 (by decide)) hSz4490 (by decide)) (by decide)), Asame.of (S := [0, 34, 35, 36, 43, 44]) (fs_c (fs_c (fs_c (fs_c (fs_c (fs_c fs_n)))))) rfl (by decide)⟩)
          · -- 44 to 47
            refine zw_n 1 rfl ?_
            exact zw_iret rfl rfl (⟨kz4461, 0, 0, by rcases w01 (show 0 ≤ w.toInt ∧ w.toInt ≤ 1 by omega) with q9 | q9; (rw [if_pos q9, if_pos (Or.inr (by omega))]); (rw [if_neg (by rw [q9]; decide), if_pos q9, if_pos (Or.inr (by omega))]), fun _ => ⟨⟨fun q9 => by rcases q9 with q9 | q9; exact absurd q9 (by omega); exact absurd ⟨by omega, q9⟩ (ite_eq0 c26), fun _ _ => hBz4475⟩, fun q8 => by omega⟩, fset (fset (fset (fset (fset (fset f 44 Oz4463) 43 (up (up (up (f 43) 2 m8z4465) 3 s8z4466) 4 Fz4464)) 36 Rz4462) 35 Wz4451) 34 (up (f 34) 2 1)) 0 (up (f 0) 17 kz4461), (CC.of (f' := fset (fset (fset (fset (fset (fset f 44 Oz4463) 43 (up (up (up (f 43) 2 m8z4465) 3 s8z4466) 4 Fz4464)) 36 Rz4462) 35 Wz4451) 34 (up (f 34) 2 1)) 0 (up (f 0) 17 kz4461)) hC (Sm.tw (Sm.tw Sm.rf hSz4454 (by decide)) hSz4474 (by decide)) ⟨by decide, by decide⟩ (d1_cons h0z4468 (d1_cons (Sm.at hSz4474 (by decide) (hBz4453.get 0 rfl)) (d1_cons (Sm.at hSz4474 (by decide) (hBz4453.get 1 rfl)) (d1_cons h36z4471 (d1_cons h43z4469 (d1_cons h44z4470 d1_nil)))))) (fs_c (fs_c (fs_c (fs_c (fs_c (fs_c fs_n))))))), ⟨⟨hI.tl, hI.tx, hI.gram, hI.tok, hI.bef, hI.grn, hI.mvd, hI.hsz, hI.hen, hI.past, hI.lln, hI.kh, hI.kg, hI.kt, Nat.le_refl _, hDz4455, sRz4472, hI.ost, hI.osw, hI.osr, hI.tst, hI.rkn, hI.fnd, sOz4473⟩, (fun _ => hFz4457), (fun _ => hBz4475), hI.tre, hI.rep⟩, (Smc.of (S := [0, 34, 35, 36, 43, 44]) (Sm.tw (Sm.tw Sm.rf hSz4454 (by decide)) hSz4474 (by decide)) (by decide)), Asame.of (S := [0, 34, 35, 36, 43, 44]) (fs_c (fs_c (fs_c (fs_c (fs_c (fs_c fs_n)))))) rfl (by decide)⟩)
        · -- 26 to 29
          try (have hw9 : ¬ (0 ≤ w.toInt ∧ w.toInt ≤ 1) := by omega)
          refine zw_n 1 rfl ?_
          exact zw_iret rfl rfl (⟨NO, 0, 0, by rcases w01 (show 0 ≤ w.toInt ∧ w.toInt ≤ 1 by omega) with q9 | q9; (rw [if_pos q9, if_pos (Or.inl rfl)]); (rw [if_neg (by rw [q9]; decide), if_pos q9, if_pos (Or.inl rfl)]), fun _ => ⟨⟨fun _ => rfl, fun q1 q2 => absurd q2 (ite_ne c26).2⟩, fun q8 => by unfold NO at q8; omega⟩, fset (fset (fset f 36 Rz4452) 35 Wz4451) 34 (up (f 34) 2 1), (CC.of (f' := fset (fset (fset f 36 Rz4452) 35 Wz4451) 34 (up (f 34) 2 1)) hC (Sm.tw Sm.rf hSz4454 (by decide)) ⟨by decide, by decide⟩ (d1_cons (Sm.at hSz4454 (by decide) (hC.1 0 (by decide) (by decide) (by decide))) (d1_cons (hBz4453.get 0 rfl) (d1_cons (hBz4453.get 1 rfl) (d1_cons (hBz4453.get 2 rfl) (d1_cons (Sm.at hSz4454 (by decide) (hC.1 43 (by decide) (by decide) (by decide))) (d1_cons (Sm.at hSz4454 (by decide) (hC.1 44 (by decide) (by decide) (by decide))) d1_nil)))))) (fs_k (fs_c (fs_c (fs_c (fs_k (fs_k fs_n))))))), ⟨⟨hI.tl, hI.tx, hI.gram, hI.tok, hI.bef, hI.grn, hI.mvd, hI.hsz, hI.hen, hI.past, hI.lln, hI.kh, hI.kg, hI.kt, Nat.le_refl _, hDz4455, hEz4456, hI.ost, hI.osw, hI.osr, hI.tst, hI.rkn, hI.fnd, hI.ofs⟩, (fun _ => hFz4457), hI.blm, hI.tre, hI.rep⟩, (Smc.of (S := [0, 34, 35, 36, 43, 44]) (Sm.tw Sm.rf hSz4454 (by decide)) (by decide)), Asame.of (S := [0, 34, 35, 36, 43, 44]) (fs_k (fs_c (fs_c (fs_c (fs_k (fs_k fs_n)))))) rfl (by decide)⟩)

set_option maxHeartbeats 4000000 in
set_option maxRecDepth 100000 in
theorem c_firstNo (Mq : zM) (f : Nat → Nat → Nat) (L : Nat) (hC : CC Mq f) (hI : CInv L f) (x w : Int32) (hx : ¬ (0 ≤ x.toInt ∧ x.toInt < f 16 0) ∨ w.toInt < -1) : Zm 6 zm_CG_first [.ref 0, .int x, .int w] Mq (fun r9 M1 => r9 = some (.int (-1)) ∧ M1 = Mq) := by
  show Zw 6 zm_CG_first 0 [some (.ref 0), some (.int x), some (.int w), none, none] [] Mq _
  have hG : SafeG (f 16 0) (f 17) (f 18) (f 19) (f 20) (f 21) (f 22) := hI.gram.safe
  have hS : SafeT (f 26 0) (f 27) (f 28) (f 29) := hI.tok.safe
  have hn8 := hG.1
  have hc20 := hS.1
  obtain ⟨emp, rk, hA⟩ := hI.gram.acy
  refine zw_n 2 rfl ?_
  refine zw_callV (as := [.int x]) (rest := []) rfl rfl rfl (hC.1 0 (by decide) (by decide) (by decide)) rfl rfl rfl (by decide) (c_isRule Mq f hC (by omega) x) (fun rz4504 Mz4505 hz4506 => ?_)
  rw [hz4506.1, hz4506.2]
  show Zw 6 zm_CG_first 5 [some (.ref 0), some (.int x), some (.int w), none, none] [.int (nI (if 0 ≤ x.toInt ∧ x.toInt < f 16 0 then 1 else 0))] Mq _
  refine zw_eq0N (a := if 0 ≤ x.toInt ∧ x.toInt < f 16 0 then 1 else 0) rfl rfl (ite_b) (fun c5 => ?_) (fun c5 => ?_)
  · -- 5 to 13
    refine zw_n 1 rfl ?_
    exact zw_iret rfl rfl (⟨rfl, rfl⟩)
  · -- 5 to 8
    refine zw_n 2 rfl ?_
    refine zw_igeZ (a := w.toInt) (b := (-1)) rfl (rfl) (by decide) (fun c10 => ?_) (fun c10 => ?_)
    · -- 10 to 15
      exfalso
      rcases hx with q9 | q9; exact q9 (ite_ne c5); omega
    · -- 10 to 13
      refine zw_n 1 rfl ?_
      exact zw_iret rfl rfl (⟨rfl, rfl⟩)

set_option maxHeartbeats 4000000 in
set_option maxRecDepth 100000 in
theorem c_hasSign (Mq : zM) (k : Nat) (n em : Nat) (gn al_ it pt tg bd fr af fb : Nat → Nat) (hR : Seg Mq k (rulL k (n, gn, al_, it, pt, tg, bd, em, fr, af, fb))) (hG : SafeG n gn al_ it pt tg bd) (s : Nat) (hs : s < 128) : Zm 1 zm_Rules_hasSign [.ref k, .int (nI s)] Mq (fun r9 M1 => ∃ b, r9 = some (.int (nI b)) ∧ M1 = Mq ∧ b ≤ 1 ∧ (b = 1 ↔ ∃ r a k, r < n ∧ a < al_ r ∧ k < it (r * 4 + a) ∧ tg ((r * 4 + a) * 5 + k) = NO ∧ pt ((r * 4 + a) * 5 + k) = s)) := by
  show Zw 1 zm_Rules_hasSign 0 [some (.ref k), some (.int (nI s)), none, none, none] [] Mq _
  have hn8 := hG.1
  refine zw_n 2 (ls' := [some (.ref k), some (.int (nI s)), some (.int 0), none, none]) rfl ?_
  have lp2 : ∀ (n2 : Nat) (x : Nat), (x ≤ n * 4 ∧ ∀ a9 k9, (a9 < x ∨ (a9 = x ∧ k9 < 0)) → k9 < itO al_ it a9 → ¬ (tg (a9 * 5 + k9) = NO ∧ pt (a9 * 5 + k9) = s)) → n * 4 - x < n2 → Zw 1 zm_Rules_hasSign 2 [some (.ref k), some (.int (nI s)), some (.int (nI x)), none, none] [] Mq (fun r9 M1 => ∃ b, r9 = some (.int (nI b)) ∧ M1 = Mq ∧ b ≤ 1 ∧ (b = 1 ↔ ∃ r a k, r < n ∧ a < al_ r ∧ k < it (r * 4 + a) ∧ tg ((r * 4 + a) * 5 + k) = NO ∧ pt ((r * 4 + a) * 5 + k) = s)) := by
    intro n2
    induction n2 with
    | zero => intro x _ h; exact absurd h (Nat.not_lt_zero _)
    | succ n2 ih2 =>
      intro x hi2 hm2
      refine zw_n 2 rfl ?_
      refine zw_get (v := .int (nI n)) rfl (hR.get 0 rfl) rfl ?_
      refine zw_n 2 rfl ?_
      refine zw_top (nm (a := n) (b := 4) rfl rfl) ?_
      refine zw_igeN (a := x) (b := n * 4) rfl rfl rfl (by omega) (by omega) (fun c9 => ?_) (fun c9 => ?_)
      · -- 9 to 66
        refine zw_n 1 rfl ?_
        exact zw_zret rfl rfl (Or.inl rfl) (⟨0, rfl, rfl, by decide, iff_of_false (by decide) (fun ⟨r9, a9, k9, q1, q2, q3, q4, q5⟩ => hi2.2 (r9 * 4 + a9) k9 (Or.inl (by have := hG.2.2.1 r9; omega)) (by rw [itO_at (by have := hG.2.2.1 r9; omega) q2]; exact q3) ⟨q4, q5⟩)⟩)
      · -- 9 to 12
        refine zw_n 2 (ls' := [some (.ref k), some (.int (nI s)), some (.int (nI x)), some (.int 0), none]) rfl ?_
        have lp14 : ∀ (n14 : Nat) (y : Nat), (y ≤ itO al_ it x ∧ ∀ a9 k9, (a9 < x ∨ (a9 = x ∧ k9 < y)) → k9 < itO al_ it a9 → ¬ (tg (a9 * 5 + k9) = NO ∧ pt (a9 * 5 + k9) = s)) → itO al_ it x - y < n14 → Zw 1 zm_Rules_hasSign 14 [some (.ref k), some (.int (nI s)), some (.int (nI x)), some (.int (nI y)), none] [] Mq (fun r9 M1 => ∃ b, r9 = some (.int (nI b)) ∧ M1 = Mq ∧ b ≤ 1 ∧ (b = 1 ↔ ∃ r a k, r < n ∧ a < al_ r ∧ k < it (r * 4 + a) ∧ tg ((r * 4 + a) * 5 + k) = NO ∧ pt ((r * 4 + a) * 5 + k) = s)) := by
          intro n14
          induction n14 with
          | zero => intro y _ h; exact absurd h (Nat.not_lt_zero _)
          | succ n14 ih14 =>
            intro y hi14 hm14
            have hio := itO_le5 (al_ := al_) (it := it) (fun q => hG.2.2.2.1 q) x
            refine zw_n 3 rfl ?_
            refine zw_callV (as := [.int (nI x)]) (rest := [.int (nI y)]) rfl rfl rfl (hR.get 0 rfl) rfl rfl rfl (by decide) (c_itemsOf Mq k n em gn al_ it pt tg bd fr af fb (seg10 (hR.get 0 rfl) (hR.get 1 rfl) (hR.get 2 rfl) (hR.get 3 rfl) (hR.get 4 rfl) (hR.get 5 rfl) (hR.get 6 rfl) (hR.get 7 rfl) (hR.get 8 rfl) (hR.get 9 rfl)) hG x (by omega)) (fun rz4507 Mz4508 hz4509 => ?_)
            rw [hz4509.1, hz4509.2]
            show Zw 1 zm_Rules_hasSign 20 [some (.ref k), some (.int (nI s)), some (.int (nI x)), some (.int (nI y)), none] [.int (nI (itO al_ it x)), .int (nI y)] Mq _
            have hio := itO_le5 (al_ := al_) (it := it) (fun q => hG.2.2.2.1 q) x
            refine zw_igeN (a := y) (b := itO al_ it x) rfl rfl rfl (by omega) (by omega) (fun c20 => ?_) (fun c20 => ?_)
            · -- 20 to 60
              refine zw_inc rfl (x' := (nI (x + 1))) (ls' := [some (.ref k), some (.int (nI s)), some (.int (nI (x + 1))), some (.int (nI y)), none]) rfl (na (a := x) (b := 1) rfl rfl) rfl ?_
              refine zw_n 1 rfl ?_
              refine zw_ls (ls' := [some (.ref k), some (.int (nI s)), some (.int (nI (x + 1))), none, none]) ⟨Or.inr rfl, Or.inr rfl, Or.inr rfl, Or.inl rfl, Or.inl rfl, trivial⟩ ?_
              exact ih2 (x + 1) (⟨by omega, fun a9 k9 h9 h8 => hi14.2 a9 k9 (by by_cases e9 : a9 = x; (subst e9; omega); omega) h8⟩) (by omega)
            · -- 20 to 23
              refine zw_n 3 rfl ?_
              refine zw_top (nm (a := x) (b := 5) rfl rfl) ?_
              refine zw_n 2 rfl ?_
              refine zw_top (na (a := x * 5) (b := y) rfl rfl) ?_
              refine zw_n 2 (ls' := [some (.ref k), some (.int (nI s)), some (.int (nI x)), some (.int (nI y)), some (.int (nI ((x * 5) + y)))]) rfl ?_
              refine zw_get (v := .ref (k + 5)) rfl (hR.get 0 rfl) rfl ?_
              refine zw_n 1 rfl ?_
              refine zw_iald (f := ai tg) (j := ((x * 5) + y)) rfl (hR.get 5 rfl) rfl (by decide) (by omega) ?_
              have bz4510 := hG.2.2.2.2.2.1 ((x * 5) + y)
              refine zw_n 1 rfl ?_
              refine zw_ineM (a := tg ((x * 5) + y)) rfl rfl (by omega) (fun c38 => ?_) (fun c38 => ?_)
              · -- 38 to 54
                refine zw_inc rfl (x' := (nI (y + 1))) (ls' := [some (.ref k), some (.int (nI s)), some (.int (nI x)), some (.int (nI (y + 1))), some (.int (nI ((x * 5) + y)))]) rfl (na (a := y) (b := 1) rfl rfl) rfl ?_
                refine zw_n 1 rfl ?_
                refine zw_ls (ls' := [some (.ref k), some (.int (nI s)), some (.int (nI x)), some (.int (nI (y + 1))), none]) ⟨Or.inr rfl, Or.inr rfl, Or.inr rfl, Or.inr rfl, Or.inl rfl, trivial⟩ ?_
                exact ih14 (y + 1) (⟨by omega, fun a9 k9 h9 h8 => by by_cases e9 : a9 = x ∧ k9 = y; (obtain ⟨rfl, rfl⟩ := e9; exact fun q9 => by first | exact c38 q9.1 | exact c49 q9.2); exact hi14.2 a9 k9 (by omega) h8⟩) (by omega)
              · -- 38 to 41
                refine zw_n 1 rfl ?_
                refine zw_get (v := .ref (k + 4)) rfl (hR.get 0 rfl) rfl ?_
                refine zw_n 1 rfl ?_
                refine zw_iald (f := ai pt) (j := ((x * 5) + y)) rfl (hR.get 4 rfl) rfl (by decide) (by omega) ?_
                have bz4511 := hG.2.2.2.2.1 ((x * 5) + y)
                refine zw_n 1 rfl ?_
                refine zw_ineN (a := pt ((x * 5) + y)) (b := s) rfl rfl rfl (by omega) (by omega) (fun c49 => ?_) (fun c49 => ?_)
                · -- 49 to 54
                  refine zw_inc rfl (x' := (nI (y + 1))) (ls' := [some (.ref k), some (.int (nI s)), some (.int (nI x)), some (.int (nI (y + 1))), some (.int (nI ((x * 5) + y)))]) rfl (na (a := y) (b := 1) rfl rfl) rfl ?_
                  refine zw_n 1 rfl ?_
                  refine zw_ls (ls' := [some (.ref k), some (.int (nI s)), some (.int (nI x)), some (.int (nI (y + 1))), none]) ⟨Or.inr rfl, Or.inr rfl, Or.inr rfl, Or.inr rfl, Or.inl rfl, trivial⟩ ?_
                  exact ih14 (y + 1) (⟨by omega, fun a9 k9 h9 h8 => by by_cases e9 : a9 = x ∧ k9 = y; (obtain ⟨rfl, rfl⟩ := e9; exact fun q9 => by first | exact c38 q9.1 | exact c49 q9.2); exact hi14.2 a9 k9 (by omega) h8⟩) (by omega)
                · -- 49 to 52
                  refine zw_n 1 rfl ?_
                  exact zw_zret rfl rfl (Or.inr rfl) (⟨1, rfl, rfl, by decide, iff_of_true rfl (hs_y (by omega) (show y < itO al_ it x by omega) c38 c49)⟩)
        exact lp14 _ 0 (⟨Nat.zero_le _, hi2.2⟩) (Nat.lt_succ_self _)
  exact lp2 _ 0 (⟨Nat.zero_le _, fun a9 k9 h9 => by omega⟩) (Nat.lt_succ_self _)

set_option maxHeartbeats 4000000 in
set_option maxRecDepth 100000 in
theorem c_firstOk (Mq : zM) (f : Nat → Nat → Nat) (L : Nat) (hC : CC Mq f) (hI : CInv L f) (r : Nat) (x : Int32) (h_r : r < f 16 0) (hx : -1 ≤ x.toInt) : Zm 6 zm_CG_first [.ref 0, .int (nI r), .int x] Mq (fun r9 M1 => r9 = some (.int (fsV (fsQ (eAt f 16 26) (f 16 0) (f 23) r) x 94 33 0)) ∧ ∃ f9, CC M1 f9 ∧ CInv L f9 ∧ Smc Mq M1 ∧ Asame f f9) := by
  show Zw 6 zm_CG_first 0 [some (.ref 0), some (.int (nI r)), some (.int x), none, none] [] Mq _
  have hG : SafeG (f 16 0) (f 17) (f 18) (f 19) (f 20) (f 21) (f 22) := hI.gram.safe
  have hS : SafeT (f 26 0) (f 27) (f 28) (f 29) := hI.tok.safe
  have hn8 := hG.1
  have hc20 := hS.1
  obtain ⟨emp, rk, hA⟩ := hI.gram.acy
  refine zw_n 2 rfl ?_
  refine zw_callV (as := [.int (nI r)]) (rest := []) rfl rfl rfl (hC.1 0 (by decide) (by decide) (by decide)) rfl rfl rfl (by decide) (c_isRule Mq f hC (by omega) (nI r)) (fun rz4512 Mz4513 hz4514 => ?_)
  rw [hz4514.1, hz4514.2]
  show Zw 6 zm_CG_first 5 [some (.ref 0), some (.int (nI r)), some (.int x), none, none] [.int (nI (if 0 ≤ (nI r).toInt ∧ (nI r).toInt < f 16 0 then 1 else 0))] Mq _
  refine zw_eq0N (a := if 0 ≤ (nI r).toInt ∧ (nI r).toInt < f 16 0 then 1 else 0) rfl rfl (ite_b) (fun c5 => ?_) (fun c5 => ?_)
  · -- 5 to 13
    exfalso
    first | exact ite_eq0 c5 (by rw [nI_toInt (by omega)]; omega) | omega
  · -- 5 to 8
    refine zw_n 2 rfl ?_
    refine zw_igeZ (a := x.toInt) (b := (-1)) rfl (rfl) (by decide) (fun c10 => ?_) (fun c10 => ?_)
    · -- 10 to 15
      refine zw_n 1 rfl ?_
      refine zw_get (v := .ref 34) rfl (hC.1 0 (by decide) (by decide) (by decide)) rfl ?_
      refine zw_callV (as := []) (rest := []) rfl rfl rfl (hC.1 34 (by decide) (by decide) (by decide)) rfl rfl rfl (by decide) (c_readOnce Mq 34 16 26 (f 34 2) (f 35) (f 36) (f 16 0) (f 16 7) (f 17) (f 18) (f 19) (f 20) (f 21) (f 22) (f 23) (f 24) (f 25) (f 26 0) (f 27) (f 28) (f 29) (seg3 (hC.1 34 (by decide) (by decide) (by decide)) (hC.1 35 (by decide) (by decide) (by decide)) (hC.1 36 (by decide) (by decide) (by decide))) (seg10 (hC.1 16 (by decide) (by decide) (by decide)) (hC.1 17 (by decide) (by decide) (by decide)) (hC.1 18 (by decide) (by decide) (by decide)) (hC.1 19 (by decide) (by decide) (by decide)) (hC.1 20 (by decide) (by decide) (by decide)) (hC.1 21 (by decide) (by decide) (by decide)) (hC.1 22 (by decide) (by decide) (by decide)) (hC.1 23 (by decide) (by decide) (by decide)) (hC.1 24 (by decide) (by decide) (by decide)) (hC.1 25 (by decide) (by decide) (by decide))) (seg4 (hC.1 26 (by decide) (by decide) (by decide)) (hC.1 27 (by decide) (by decide) (by decide)) (hC.1 28 (by decide) (by decide) (by decide)) (hC.1 29 (by decide) (by decide) (by decide))) hG hS hI.csw hI.csr (by omega) emp rk hA hI.cst hI.cok) (fun rz4523 Mz4524 hz4525 => ?_)
      obtain ⟨hAz4515, Wz4516, Rz4517, hBz4518, hSz4519, hDz4520, hEz4521, hFz4522⟩ := hz4525
      rw [hAz4515]
      show Zw 6 zm_CG_first 22 [some (.ref 0), some (.int (nI r)), some (.int x), none, none] [.int (nI (if 0 < (f 16 0) ∧ wh (gE (f 18) (f 19) (f 21) (f 20) (f 22) (f 27) (f 29)) (f 16 0) 0 0 (f 26 0) ≠ 0 then 1 else 0))] Mz4524 _
      refine zw_n 5 (ls' := [some (.ref 0), some (.int (nI r)), some (.int x), some (.int 0), some (.int 33)]) rfl ?_
      have mz4526 : Mz4524[0]? = some (.inr (11, [.ref 1, .int (nI (f 0 1)), .ref 2, .ref 16, .ref 26, .ref 30, .ref 34, .ref 37, .ref 43, .ref 45, .ref 50, .ref 92, .ref 94, .ref 125, .ref 128, .ref 134, .int (nI (f 0 16)), .int (nI (f 0 17))])) := Sm.at hSz4519 (by decide) (hC.1 0 (by decide) (by decide) (by decide))
      have mz4527 : Mz4524[16]? = some (.inr (8, [.int (nI (f 16 0)), .ref 17, .ref 18, .ref 19, .ref 20, .ref 21, .ref 22, .int (nI (f 16 7)), .ref 23, .ref 24, .ref 25])) := Sm.at hSz4519 (by decide) (hC.1 16 (by decide) (by decide) (by decide))
      have mz4528 : Mz4524[17]? = some (.inl (0, 8, .inl (ai (f 17)))) := Sm.at hSz4519 (by decide) (hC.1 17 (by decide) (by decide) (by decide))
      have mz4529 : Mz4524[18]? = some (.inl (0, 8, .inl (ai (f 18)))) := Sm.at hSz4519 (by decide) (hC.1 18 (by decide) (by decide) (by decide))
      have mz4530 : Mz4524[19]? = some (.inl (0, 32, .inl (ai (f 19)))) := Sm.at hSz4519 (by decide) (hC.1 19 (by decide) (by decide) (by decide))
      have mz4531 : Mz4524[20]? = some (.inl (0, 160, .inl (ai (f 20)))) := Sm.at hSz4519 (by decide) (hC.1 20 (by decide) (by decide) (by decide))
      have mz4532 : Mz4524[21]? = some (.inl (0, 160, .inl (ai (f 21)))) := Sm.at hSz4519 (by decide) (hC.1 21 (by decide) (by decide) (by decide))
      have mz4533 : Mz4524[22]? = some (.inl (0, 160, .inl (ai (f 22)))) := Sm.at hSz4519 (by decide) (hC.1 22 (by decide) (by decide) (by decide))
      have mz4534 : Mz4524[23]? = some (.inl (1, 8, .inr (.inl (al (f 23))))) := Sm.at hSz4519 (by decide) (hC.1 23 (by decide) (by decide) (by decide))
      have mz4535 : Mz4524[24]? = some (.inl (1, 32, .inr (.inl (al (f 24))))) := Sm.at hSz4519 (by decide) (hC.1 24 (by decide) (by decide) (by decide))
      have mz4536 : Mz4524[25]? = some (.inl (1, 160, .inr (.inl (al (f 25))))) := Sm.at hSz4519 (by decide) (hC.1 25 (by decide) (by decide) (by decide))
      have mz4537 : Mz4524[26]? = some (.inr (9, [.int (nI (f 26 0)), .ref 27, .ref 28, .ref 29])) := Sm.at hSz4519 (by decide) (hC.1 26 (by decide) (by decide) (by decide))
      have mz4538 : Mz4524[27]? = some (.inl (0, 20, .inl (ai (f 27)))) := Sm.at hSz4519 (by decide) (hC.1 27 (by decide) (by decide) (by decide))
      have mz4539 : Mz4524[28]? = some (.inl (0, 20, .inl (ai (f 28)))) := Sm.at hSz4519 (by decide) (hC.1 28 (by decide) (by decide) (by decide))
      have mz4540 : Mz4524[29]? = some (.inl (0, 20, .inl (ai (f 29)))) := Sm.at hSz4519 (by decide) (hC.1 29 (by decide) (by decide) (by decide))
      have mz4541 : Mz4524[43]? = some (.inr (6, [.ref 34, .ref 44, .int (nI (f 43 2)), .int (nI (f 43 3)), .long (lN (f 43 4))])) := Sm.at hSz4519 (by decide) (hC.1 43 (by decide) (by decide) (by decide))
      have mz4542 : Mz4524[44]? = some (.inl (1, 168, .inr (.inl (al (f 44))))) := Sm.at hSz4519 (by decide) (hC.1 44 (by decide) (by decide) (by decide))
      have lp29 : ∀ (n29 : Nat) (k : Nat) (e : Nat) (R1 : Nat → Nat) (O1 : Nat → Nat) (F1 : Nat) (m7 : Nat) (s7 : Nat) (M_29 : zM), Sm Mq M_29 [34, 35, 36, 43, 44] → M_29[36]? = some (.inl (1, 3360, .inr (.inl (al R1)))) → M_29[43]? = some (.inr (6, [.ref 34, .ref 44, .int (nI m7), .int (nI s7), .long (lN F1)])) → M_29[44]? = some (.inl (1, 168, .inr (.inl (al O1)))) → M_29[34]? = some (.inr (0, [.ref 16, .ref 26, .int (nI 1), .ref 35, .ref 36])) → M_29[35]? = some (.inl (1, 3528, .inr (.inl (al Wz4516)))) → ((33 ≤ e ∧ e ≤ 127 ∧ k + 33 ≤ e) ∧ SafeM R1 ∧ SafeM O1 ∧ fsV (fsQ (eAt f 16 26) (f 16 0) (f 23) r) x 94 33 0 = fsV (fsQ (eAt f 16 26) (f 16 0) (f 23) r) x (127 - e) e k) → 127 - e < n29 → Zw 6 zm_CG_first 29 [some (.ref 0), some (.int (nI r)), some (.int x), some (.int (nI k)), some (.int (nI e))] [] M_29 (fun r9 M1 => r9 = some (.int (fsV (fsQ (eAt f 16 26) (f 16 0) (f 23) r) x 94 33 0)) ∧ ∃ f9, CC M1 f9 ∧ CInv L f9 ∧ Smc Mq M1 ∧ Asame f f9) := by
        intro n29
        induction n29 with
        | zero => intro k e R1 O1 F1 m7 s7 M_29 _ _ _ _ _ _ _ h; exact absurd h (Nat.not_lt_zero _)
        | succ n29 ih29 =>
          intro k e R1 O1 F1 m7 s7 M_29 s_29 f29_0 f29_1 f29_2 f29_3 f29_4 hi29 hm29
          refine zw_n 2 rfl ?_
          refine zw_igtN (a := e) (b := 126) rfl rfl rfl (by omega) (by omega) (fun c33 => ?_) (fun c33 => ?_)
          · -- 33 to 81
            refine zw_n 2 rfl ?_
            refine zw_ine rfl (fun c83 => ?_) (fun c83 => ?_)
            · -- 83 to 90
              refine zw_n 1 rfl ?_
              exact zw_iret rfl rfl (⟨by rw [hi29.2.2.2, show 127 - e = 0 by omega]; show _ = some (Value.int (if x = -1 then nI k else -1)); rw [if_neg c83], fset (fset (fset (fset (fset f 44 O1) 43 (up (up (up (f 43) 2 m7) 3 s7) 4 F1)) 36 R1) 35 Wz4516) 34 (up (f 34) 2 1), (CC.of (f' := fset (fset (fset (fset (fset f 44 O1) 43 (up (up (up (f 43) 2 m7) 3 s7) 4 F1)) 36 R1) 35 Wz4516) 34 (up (f 34) 2 1)) hC s_29 ⟨by decide, by decide⟩ (d1_cons f29_3 (d1_cons f29_4 (d1_cons f29_0 (d1_cons f29_1 (d1_cons f29_2 d1_nil))))) (fs_c (fs_c (fs_c (fs_c (fs_c fs_n)))))), ⟨⟨hI.tl, hI.tx, hI.gram, hI.tok, hI.bef, hI.grn, hI.mvd, hI.hsz, hI.hen, hI.past, hI.lln, hI.kh, hI.kg, hI.kt, Nat.le_refl _, hDz4520, hi29.2.1, hI.ost, hI.osw, hI.osr, hI.tst, hI.rkn, hI.fnd, hi29.2.2.1⟩, (fun _ => hFz4522), hI.blm, hI.tre, hI.rep⟩, (Smc.of (S := [34, 35, 36, 43, 44]) s_29 (by decide)), Asame.of (S := [34, 35, 36, 43, 44]) (fs_c (fs_c (fs_c (fs_c (fs_c fs_n))))) rfl (by decide)⟩)
            · -- 83 to 86
              refine zw_n 2 rfl ?_
              exact zw_iret rfl rfl (⟨by rw [hi29.2.2.2, show 127 - e = 0 by omega]; show _ = some (Value.int (if x = -1 then nI k else -1)); rw [if_pos c83], fset (fset (fset (fset (fset f 44 O1) 43 (up (up (up (f 43) 2 m7) 3 s7) 4 F1)) 36 R1) 35 Wz4516) 34 (up (f 34) 2 1), (CC.of (f' := fset (fset (fset (fset (fset f 44 O1) 43 (up (up (up (f 43) 2 m7) 3 s7) 4 F1)) 36 R1) 35 Wz4516) 34 (up (f 34) 2 1)) hC s_29 ⟨by decide, by decide⟩ (d1_cons f29_3 (d1_cons f29_4 (d1_cons f29_0 (d1_cons f29_1 (d1_cons f29_2 d1_nil))))) (fs_c (fs_c (fs_c (fs_c (fs_c fs_n)))))), ⟨⟨hI.tl, hI.tx, hI.gram, hI.tok, hI.bef, hI.grn, hI.mvd, hI.hsz, hI.hen, hI.past, hI.lln, hI.kh, hI.kg, hI.kt, Nat.le_refl _, hDz4520, hi29.2.1, hI.ost, hI.osw, hI.osr, hI.tst, hI.rkn, hI.fnd, hi29.2.2.1⟩, (fun _ => hFz4522), hI.blm, hI.tre, hI.rep⟩, (Smc.of (S := [34, 35, 36, 43, 44]) s_29 (by decide)), Asame.of (S := [34, 35, 36, 43, 44]) (fs_c (fs_c (fs_c (fs_c (fs_c fs_n))))) rfl (by decide)⟩)
          · -- 33 to 36
            refine zw_n 1 rfl ?_
            refine zw_get (v := .ref 16) rfl (Sm.at s_29 (by decide) (hC.1 0 (by decide) (by decide) (by decide))) rfl ?_
            refine zw_n 1 rfl ?_
            refine zw_callV (as := [.int (nI e)]) (rest := []) rfl rfl rfl (Sm.at s_29 (by decide) (hC.1 16 (by decide) (by decide) (by decide))) rfl rfl rfl (by decide) (c_hasSign M_29 16 (f 16 0) (f 16 7) (f 17) (f 18) (f 19) (f 20) (f 21) (f 22) (f 23) (f 24) (f 25) (seg10 (Sm.at s_29 (by decide) (hC.1 16 (by decide) (by decide) (by decide))) (Sm.at s_29 (by decide) (hC.1 17 (by decide) (by decide) (by decide))) (Sm.at s_29 (by decide) (hC.1 18 (by decide) (by decide) (by decide))) (Sm.at s_29 (by decide) (hC.1 19 (by decide) (by decide) (by decide))) (Sm.at s_29 (by decide) (hC.1 20 (by decide) (by decide) (by decide))) (Sm.at s_29 (by decide) (hC.1 21 (by decide) (by decide) (by decide))) (Sm.at s_29 (by decide) (hC.1 22 (by decide) (by decide) (by decide))) (Sm.at s_29 (by decide) (hC.1 23 (by decide) (by decide) (by decide))) (Sm.at s_29 (by decide) (hC.1 24 (by decide) (by decide) (by decide))) (Sm.at s_29 (by decide) (hC.1 25 (by decide) (by decide) (by decide)))) hG e (by omega)) (fun rz4548 Mz4549 hz4550 => ?_)
            obtain ⟨bz4543, hAz4544, hMz4545, hbz4546, hbz4547⟩ := hz4550
            rw [hAz4544, hMz4545]
            show Zw 6 zm_CG_first 45 [some (.ref 0), some (.int (nI r)), some (.int x), some (.int (nI k)), some (.int (nI e))] [.int (nI bz4543)] M_29 _
            refine zw_eq0N (a := bz4543) rfl rfl (by omega) (fun c45 => ?_) (fun c45 => ?_)
            · -- 45 to 75
              have hq9 : ¬ fsQ (eAt f 16 26) (f 16 0) (f 23) r e = true := fun q9 => by obtain ⟨d9, h9⟩ := fsQ_iff.mp q9; have := hbz4547.mpr (Fnd.sgn h9 (by omega)); omega
              refine zw_inc rfl (x' := (nI (e + 1))) (ls' := [some (.ref 0), some (.int (nI r)), some (.int x), some (.int (nI k)), some (.int (nI (e + 1)))]) rfl (na (a := e) (b := 1) rfl rfl) rfl ?_
              refine zw_n 1 rfl ?_
              exact ih29 k (e + 1) R1 O1 F1 m7 s7 M_29 s_29 f29_0 f29_1 f29_2 f29_3 f29_4 (⟨by omega, hi29.2.1, hi29.2.2.1, by rw [hi29.2.2.2, show 127 - (e + 1) = 127 - e - 1 by omega]; exact fsV_o (by omega) hq9⟩) (by omega)
            · -- 45 to 48
              refine zw_n 1 rfl ?_
              refine zw_get (v := .ref 43) rfl (Sm.at s_29 (by decide) (hC.1 0 (by decide) (by decide) (by decide))) rfl ?_
              refine zw_n 3 rfl ?_
              refine zw_callV (as := [.int 0, .int (nI e), .int (nI r)]) (rest := []) rfl rfl rfl f29_1 rfl rfl rfl (by decide) (c_behind M_29 1 Wz4516 R1 (f 16 0) (f 16 7) (f 17) (f 18) (f 19) (f 20) (f 21) (f 22) (f 23) (f 24) (f 25) (f 26 0) (f 27) (f 28) (f 29) (seg3 f29_3 f29_4 f29_0) (seg10 (Sm.at s_29 (by decide) (hC.1 16 (by decide) (by decide) (by decide))) (Sm.at s_29 (by decide) (hC.1 17 (by decide) (by decide) (by decide))) (Sm.at s_29 (by decide) (hC.1 18 (by decide) (by decide) (by decide))) (Sm.at s_29 (by decide) (hC.1 19 (by decide) (by decide) (by decide))) (Sm.at s_29 (by decide) (hC.1 20 (by decide) (by decide) (by decide))) (Sm.at s_29 (by decide) (hC.1 21 (by decide) (by decide) (by decide))) (Sm.at s_29 (by decide) (hC.1 22 (by decide) (by decide) (by decide))) (Sm.at s_29 (by decide) (hC.1 23 (by decide) (by decide) (by decide))) (Sm.at s_29 (by decide) (hC.1 24 (by decide) (by decide) (by decide))) (Sm.at s_29 (by decide) (hC.1 25 (by decide) (by decide) (by decide)))) (seg4 (Sm.at s_29 (by decide) (hC.1 26 (by decide) (by decide) (by decide))) (Sm.at s_29 (by decide) (hC.1 27 (by decide) (by decide) (by decide))) (Sm.at s_29 (by decide) (hC.1 28 (by decide) (by decide) (by decide))) (Sm.at s_29 (by decide) (hC.1 29 (by decide) (by decide) (by decide)))) hG hS hDz4520 hi29.2.1 m7 s7 F1 O1 f29_1 f29_2 0 e r (by omega) (by omega) (by omega) hi29.2.2.1 hI.gram.sfb (fun r a k h1 h2 h3 => hI.gram.fbh r a k h1 h2 h3) (fun r a k h1 h2 h3 h4 => ((hI.gram.prt _ ⟨r, a, k, h1, h2, h3, rfl⟩).2 h4).1) hA.1 hFz4522) (fun rz4563 Mz4564 hz4565 => ?_)
              obtain ⟨Fz4551, Rz4552, Oz4553, hAz4554, hFlz4555, hFz4556, h43z4557, h44z4558, h36z4559, sRz4560, sOz4561, hSz4562⟩ := hz4565
              rw [hAz4554]
              show Zw 6 zm_CG_first 59 [some (.ref 0), some (.int (nI r)), some (.int x), some (.int (nI k)), some (.int (nI e))] [.long (lN Fz4551)] Mz4564 _
              refine zw_n 2 rfl ?_
              refine zw_leqN (a := Fz4551) (b := 0) rfl rfl rfl (by first | exact Nat.lt_trans hFlz4555 (by decide) | decide) (by first | exact Nat.lt_trans hFlz4555 (by decide) | decide) (fun c61 => ?_) (fun c61 => ?_)
              · -- 61 to 75
                have hq9 : ¬ fsQ (eAt f 16 26) (f 16 0) (f 23) r e = true := fun q9 => by obtain ⟨d9, h9⟩ := fsQ_iff.mp q9; exact bit_ne0 ((hFz4556 d9).mpr h9) c61
                refine zw_inc rfl (x' := (nI (e + 1))) (ls' := [some (.ref 0), some (.int (nI r)), some (.int x), some (.int (nI k)), some (.int (nI (e + 1)))]) rfl (na (a := e) (b := 1) rfl rfl) rfl ?_
                refine zw_n 1 rfl ?_
                exact ih29 k (e + 1) Rz4552 Oz4553 Fz4551 0 e Mz4564 (Sm.tw s_29 hSz4562 (by decide)) h36z4559 h43z4557 h44z4558 (Sm.at hSz4562 (by decide) f29_3) (Sm.at hSz4562 (by decide) f29_4) (⟨by omega, sRz4560, sOz4561, by rw [hi29.2.2.2, show 127 - (e + 1) = 127 - e - 1 by omega]; exact fsV_o (by omega) hq9⟩) (by omega)
              · -- 61 to 64
                have hq9 : fsQ (eAt f 16 26) (f 16 0) (f 23) r e = true := fsQ_iff.mpr (by obtain ⟨d9, h9⟩ := Nat.exists_testBit_of_ne_zero c61; exact ⟨d9, (hFz4556 d9).mp h9⟩)
                refine zw_n 2 rfl ?_
                refine zw_ine rfl (fun c66 => ?_) (fun c66 => ?_)
                · -- 66 to 72
                  refine zw_inc rfl (x' := (nI (k + 1))) (ls' := [some (.ref 0), some (.int (nI r)), some (.int x), some (.int (nI (k + 1))), some (.int (nI e))]) rfl (na (a := k) (b := 1) rfl rfl) rfl ?_
                  refine zw_inc rfl (x' := (nI (e + 1))) (ls' := [some (.ref 0), some (.int (nI r)), some (.int x), some (.int (nI (k + 1))), some (.int (nI (e + 1)))]) rfl (na (a := e) (b := 1) rfl rfl) rfl ?_
                  refine zw_n 1 rfl ?_
                  exact ih29 (k + 1) (e + 1) Rz4552 Oz4553 Fz4551 0 e Mz4564 (Sm.tw s_29 hSz4562 (by decide)) h36z4559 h43z4557 h44z4558 (Sm.at hSz4562 (by decide) f29_3) (Sm.at hSz4562 (by decide) f29_4) (⟨by omega, sRz4560, sOz4561, by rw [hi29.2.2.2, show 127 - (e + 1) = 127 - e - 1 by omega]; exact fsV_n (by omega) hq9 c66⟩) (by omega)
                · -- 66 to 69
                  refine zw_n 1 rfl ?_
                  exact zw_iret rfl rfl (⟨by rw [hi29.2.2.2, fsV_y (by omega) hq9 c66], fset (fset (fset (fset (fset f 44 Oz4553) 43 (up (up (up (f 43) 2 0) 3 e) 4 Fz4551)) 36 Rz4552) 35 Wz4516) 34 (up (f 34) 2 1), (CC.of (f' := fset (fset (fset (fset (fset f 44 Oz4553) 43 (up (up (up (f 43) 2 0) 3 e) 4 Fz4551)) 36 Rz4552) 35 Wz4516) 34 (up (f 34) 2 1)) hC (Sm.tw s_29 hSz4562 (by decide)) ⟨by decide, by decide⟩ (d1_cons (Sm.at hSz4562 (by decide) f29_3) (d1_cons (Sm.at hSz4562 (by decide) f29_4) (d1_cons h36z4559 (d1_cons h43z4557 (d1_cons h44z4558 d1_nil))))) (fs_c (fs_c (fs_c (fs_c (fs_c fs_n)))))), ⟨⟨hI.tl, hI.tx, hI.gram, hI.tok, hI.bef, hI.grn, hI.mvd, hI.hsz, hI.hen, hI.past, hI.lln, hI.kh, hI.kg, hI.kt, Nat.le_refl _, hDz4520, sRz4560, hI.ost, hI.osw, hI.osr, hI.tst, hI.rkn, hI.fnd, sOz4561⟩, (fun _ => hFz4522), hI.blm, hI.tre, hI.rep⟩, (Smc.of (S := [34, 35, 36, 43, 44]) (Sm.tw s_29 hSz4562 (by decide)) (by decide)), Asame.of (S := [34, 35, 36, 43, 44]) (fs_c (fs_c (fs_c (fs_c (fs_c fs_n))))) rfl (by decide)⟩)
      exact lp29 _ 0 33 Rz4517 (f 44) (f 43 4) (f 43 2) (f 43 3) Mz4524 (Sm.tw Sm.rf hSz4519 (by decide)) (hBz4518.get 2 rfl) mz4541 mz4542 (hBz4518.get 0 rfl) (hBz4518.get 1 rfl) (⟨by decide, hEz4521, hI.ofs, rfl⟩) (Nat.lt_succ_self _)
    · -- 10 to 13
      exfalso
      first | exact ite_eq0 c5 (by rw [nI_toInt (by omega)]; omega) | omega
