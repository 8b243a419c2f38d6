set_option maxHeartbeats 4000000 in
set_option maxRecDepth 100000 in
theorem c_hold95 (Mq : zM) (f : Nat → Nat → Nat) (hC : CC Mq f) : Zm 2 zm_Kept_hold [.ref 95, .ref 16, .ref 26] Mq (fun r9 M1 => r9 = none ∧ CC M1 (kHold 95 f) ∧ Sm Mq M1 [95, 106, 107, 108, 109, 96, 97, 98, 99, 100, 101, 102, 103, 104, 105]) := by
  show Zw 2 zm_Kept_hold 0 [some (.ref 95), some (.ref 16), some (.ref 26)] [] Mq _
  refine zw_n 1 rfl ?_
  refine zw_get (v := .ref 96) rfl (hC.1 95 (by decide) (by decide) (by decide)) rfl ?_
  refine zw_n 1 rfl ?_
  refine zw_callV (as := [.ref 16]) (rest := []) rfl rfl rfl (hC.1 96 (by decide) (by decide) (by decide)) rfl rfl rfl (by decide) (c_copyRul Mq 96 16 (f 96 0) (f 96 7) (f 97) (f 98) (f 99) (f 100) (f 101) (f 102) (f 103) (f 104) (f 105) (seg10 (hC.1 96 (by decide) (by decide) (by decide)) (hC.1 97 (by decide) (by decide) (by decide)) (hC.1 98 (by decide) (by decide) (by decide)) (hC.1 99 (by decide) (by decide) (by decide)) (hC.1 100 (by decide) (by decide) (by decide)) (hC.1 101 (by decide) (by decide) (by decide)) (hC.1 102 (by decide) (by decide) (by decide)) (hC.1 103 (by decide) (by decide) (by decide)) (hC.1 104 (by decide) (by decide) (by decide)) (hC.1 105 (by decide) (by decide) (by decide))) (f 16 0) (f 16 7) (f 17) (f 18) (f 19) (f 20) (f 21) (f 22) (f 23) (f 24) (f 25) (seg10 (hC.1 16 (by decide) (by decide) (by decide)) (hC.1 17 (by decide) (by decide) (by decide)) (hC.1 18 (by decide) (by decide) (by decide)) (hC.1 19 (by decide) (by decide) (by decide)) (hC.1 20 (by decide) (by decide) (by decide)) (hC.1 21 (by decide) (by decide) (by decide)) (hC.1 22 (by decide) (by decide) (by decide)) (hC.1 23 (by decide) (by decide) (by decide)) (hC.1 24 (by decide) (by decide) (by decide)) (hC.1 25 (by decide) (by decide) (by decide))) (by omega)) (fun rz877 Mz878 hz879 => ?_)
  obtain ⟨hAz874, hBz875, hSz876⟩ := hz879
  rw [hAz874]
  show Zw 2 zm_Kept_hold 8 [some (.ref 95), some (.ref 16), some (.ref 26)] [] Mz878 _
  refine zw_n 1 rfl ?_
  refine zw_get (v := .ref 106) rfl (Sm.at hSz876 (by decide) (hC.1 95 (by decide) (by decide) (by decide))) rfl ?_
  refine zw_n 1 rfl ?_
  refine zw_callV (as := [.ref 26]) (rest := []) rfl rfl rfl (Sm.at hSz876 (by decide) (hC.1 106 (by decide) (by decide) (by decide))) rfl rfl rfl (by decide) (c_copyTok Mz878 106 26 (f 106 0) (f 107) (f 108) (f 109) (seg4 (Sm.at hSz876 (by decide) (hC.1 106 (by decide) (by decide) (by decide))) (Sm.at hSz876 (by decide) (hC.1 107 (by decide) (by decide) (by decide))) (Sm.at hSz876 (by decide) (hC.1 108 (by decide) (by decide) (by decide))) (Sm.at hSz876 (by decide) (hC.1 109 (by decide) (by decide) (by decide)))) (f 26 0) (f 27) (f 28) (f 29) (seg4 (Sm.at hSz876 (by decide) (hC.1 26 (by decide) (by decide) (by decide))) (Sm.at hSz876 (by decide) (hC.1 27 (by decide) (by decide) (by decide))) (Sm.at hSz876 (by decide) (hC.1 28 (by decide) (by decide) (by decide))) (Sm.at hSz876 (by decide) (hC.1 29 (by decide) (by decide) (by decide)))) (by omega)) (fun rz883 Mz884 hz885 => ?_)
  obtain ⟨hAz880, hBz881, hSz882⟩ := hz885
  rw [hAz880]
  show Zw 2 zm_Kept_hold 16 [some (.ref 95), some (.ref 16), some (.ref 26)] [] Mz884 _
  refine zw_n 2 rfl ?_
  refine zw_put rfl (Sm.at hSz882 (by decide) (Sm.at hSz876 (by decide) (hC.1 95 (by decide) (by decide) (by decide)))) (rfl) (Nat.le_of_ble_eq_true rfl) ?_
  generalize ez887 : List.set Mz884 95 _ = Mz886
  exact zw_vret rfl rfl (⟨rfl, (CC.of (f' := fset (fset (fset (fset (fset (fset (fset (fset (fset (fset (fset (fset (fset (fset (fset f 105 (f 25)) 104 (f 24)) 103 (f 23)) 102 (f 22)) 101 (f 21)) 100 (f 20)) 99 (f 19)) 98 (f 18)) 97 (f 17)) 96 (up (up (f 96) 0 (f 16 0)) 7 (f 16 7))) 109 (f 29)) 108 (f 28)) 107 (f 27)) 106 (up (f 106) 0 (f 26 0))) 95 (up (f 95) 0 1)) hC (Sm.tset (Sm.tw (Sm.tw Sm.rf hSz876 (by decide)) hSz882 (by decide)) ez887 (by decide)) ⟨by decide, by decide⟩ (d1_cons (zat_self ez887 (Sm.at hSz882 (by decide) (Sm.at hSz876 (by decide) (hC.1 95 (by decide) (by decide) (by decide))))) (d1_cons (zat_set ez887 (by decide) (hBz881.get 0 rfl)) (d1_cons (zat_set ez887 (by decide) (hBz881.get 1 rfl)) (d1_cons (zat_set ez887 (by decide) (hBz881.get 2 rfl)) (d1_cons (zat_set ez887 (by decide) (hBz881.get 3 rfl)) (d1_cons (zat_set ez887 (by decide) (Sm.at hSz882 (by decide) (hBz875.get 0 rfl))) (d1_cons (zat_set ez887 (by decide) (Sm.at hSz882 (by decide) (hBz875.get 1 rfl))) (d1_cons (zat_set ez887 (by decide) (Sm.at hSz882 (by decide) (hBz875.get 2 rfl))) (d1_cons (zat_set ez887 (by decide) (Sm.at hSz882 (by decide) (hBz875.get 3 rfl))) (d1_cons (zat_set ez887 (by decide) (Sm.at hSz882 (by decide) (hBz875.get 4 rfl))) (d1_cons (zat_set ez887 (by decide) (Sm.at hSz882 (by decide) (hBz875.get 5 rfl))) (d1_cons (zat_set ez887 (by decide) (Sm.at hSz882 (by decide) (hBz875.get 6 rfl))) (d1_cons (zat_set ez887 (by decide) (Sm.at hSz882 (by decide) (hBz875.get 7 rfl))) (d1_cons (zat_set ez887 (by decide) (Sm.at hSz882 (by decide) (hBz875.get 8 rfl))) (d1_cons (zat_set ez887 (by decide) (Sm.at hSz882 (by decide) (hBz875.get 9 rfl))) d1_nil))))))))))))))) (fs_c (fs_c (fs_c (fs_c (fs_c (fs_c (fs_c (fs_c (fs_c (fs_c (fs_c (fs_c (fs_c (fs_c (fs_c fs_n)))))))))))))))), Sm.tset (Sm.tw (Sm.tw Sm.rf hSz876 (by decide)) hSz882 (by decide)) ez887 (by decide)⟩)

set_option maxHeartbeats 4000000 in
set_option maxRecDepth 100000 in
theorem c_hold110 (Mq : zM) (f : Nat → Nat → Nat) (hC : CC Mq f) : Zm 2 zm_Kept_hold [.ref 110, .ref 16, .ref 26] Mq (fun r9 M1 => r9 = none ∧ CC M1 (kHold 110 f) ∧ Sm Mq M1 [110, 121, 122, 123, 124, 111, 112, 113, 114, 115, 116, 117, 118, 119, 120]) := by
  show Zw 2 zm_Kept_hold 0 [some (.ref 110), some (.ref 16), some (.ref 26)] [] Mq _
  refine zw_n 1 rfl ?_
  refine zw_get (v := .ref 111) rfl (hC.1 110 (by decide) (by decide) (by decide)) rfl ?_
  refine zw_n 1 rfl ?_
  refine zw_callV (as := [.ref 16]) (rest := []) rfl rfl rfl (hC.1 111 (by decide) (by decide) (by decide)) rfl rfl rfl (by decide) (c_copyRul Mq 111 16 (f 111 0) (f 111 7) (f 112) (f 113) (f 114) (f 115) (f 116) (f 117) (f 118) (f 119) (f 120) (seg10 (hC.1 111 (by decide) (by decide) (by decide)) (hC.1 112 (by decide) (by decide) (by decide)) (hC.1 113 (by decide) (by decide) (by decide)) (hC.1 114 (by decide) (by decide) (by decide)) (hC.1 115 (by decide) (by decide) (by decide)) (hC.1 116 (by decide) (by decide) (by decide)) (hC.1 117 (by decide) (by decide) (by decide)) (hC.1 118 (by decide) (by decide) (by decide)) (hC.1 119 (by decide) (by decide) (by decide)) (hC.1 120 (by decide) (by decide) (by decide))) (f 16 0) (f 16 7) (f 17) (f 18) (f 19) (f 20) (f 21) (f 22) (f 23) (f 24) (f 25) (seg10 (hC.1 16 (by decide) (by decide) (by decide)) (hC.1 17 (by decide) (by decide) (by decide)) (hC.1 18 (by decide) (by decide) (by decide)) (hC.1 19 (by decide) (by decide) (by decide)) (hC.1 20 (by decide) (by decide) (by decide)) (hC.1 21 (by decide) (by decide) (by decide)) (hC.1 22 (by decide) (by decide) (by decide)) (hC.1 23 (by decide) (by decide) (by decide)) (hC.1 24 (by decide) (by decide) (by decide)) (hC.1 25 (by decide) (by decide) (by decide))) (by omega)) (fun rz891 Mz892 hz893 => ?_)
  obtain ⟨hAz888, hBz889, hSz890⟩ := hz893
  rw [hAz888]
  show Zw 2 zm_Kept_hold 8 [some (.ref 110), some (.ref 16), some (.ref 26)] [] Mz892 _
  refine zw_n 1 rfl ?_
  refine zw_get (v := .ref 121) rfl (Sm.at hSz890 (by decide) (hC.1 110 (by decide) (by decide) (by decide))) rfl ?_
  refine zw_n 1 rfl ?_
  refine zw_callV (as := [.ref 26]) (rest := []) rfl rfl rfl (Sm.at hSz890 (by decide) (hC.1 121 (by decide) (by decide) (by decide))) rfl rfl rfl (by decide) (c_copyTok Mz892 121 26 (f 121 0) (f 122) (f 123) (f 124) (seg4 (Sm.at hSz890 (by decide) (hC.1 121 (by decide) (by decide) (by decide))) (Sm.at hSz890 (by decide) (hC.1 122 (by decide) (by decide) (by decide))) (Sm.at hSz890 (by decide) (hC.1 123 (by decide) (by decide) (by decide))) (Sm.at hSz890 (by decide) (hC.1 124 (by decide) (by decide) (by decide)))) (f 26 0) (f 27) (f 28) (f 29) (seg4 (Sm.at hSz890 (by decide) (hC.1 26 (by decide) (by decide) (by decide))) (Sm.at hSz890 (by decide) (hC.1 27 (by decide) (by decide) (by decide))) (Sm.at hSz890 (by decide) (hC.1 28 (by decide) (by decide) (by decide))) (Sm.at hSz890 (by decide) (hC.1 29 (by decide) (by decide) (by decide)))) (by omega)) (fun rz897 Mz898 hz899 => ?_)
  obtain ⟨hAz894, hBz895, hSz896⟩ := hz899
  rw [hAz894]
  show Zw 2 zm_Kept_hold 16 [some (.ref 110), some (.ref 16), some (.ref 26)] [] Mz898 _
  refine zw_n 2 rfl ?_
  refine zw_put rfl (Sm.at hSz896 (by decide) (Sm.at hSz890 (by decide) (hC.1 110 (by decide) (by decide) (by decide)))) (rfl) (Nat.le_of_ble_eq_true rfl) ?_
  generalize ez901 : List.set Mz898 110 _ = Mz900
  exact zw_vret rfl rfl (⟨rfl, (CC.of (f' := fset (fset (fset (fset (fset (fset (fset (fset (fset (fset (fset (fset (fset (fset (fset f 120 (f 25)) 119 (f 24)) 118 (f 23)) 117 (f 22)) 116 (f 21)) 115 (f 20)) 114 (f 19)) 113 (f 18)) 112 (f 17)) 111 (up (up (f 111) 0 (f 16 0)) 7 (f 16 7))) 124 (f 29)) 123 (f 28)) 122 (f 27)) 121 (up (f 121) 0 (f 26 0))) 110 (up (f 110) 0 1)) hC (Sm.tset (Sm.tw (Sm.tw Sm.rf hSz890 (by decide)) hSz896 (by decide)) ez901 (by decide)) ⟨by decide, by decide⟩ (d1_cons (zat_self ez901 (Sm.at hSz896 (by decide) (Sm.at hSz890 (by decide) (hC.1 110 (by decide) (by decide) (by decide))))) (d1_cons (zat_set ez901 (by decide) (hBz895.get 0 rfl)) (d1_cons (zat_set ez901 (by decide) (hBz895.get 1 rfl)) (d1_cons (zat_set ez901 (by decide) (hBz895.get 2 rfl)) (d1_cons (zat_set ez901 (by decide) (hBz895.get 3 rfl)) (d1_cons (zat_set ez901 (by decide) (Sm.at hSz896 (by decide) (hBz889.get 0 rfl))) (d1_cons (zat_set ez901 (by decide) (Sm.at hSz896 (by decide) (hBz889.get 1 rfl))) (d1_cons (zat_set ez901 (by decide) (Sm.at hSz896 (by decide) (hBz889.get 2 rfl))) (d1_cons (zat_set ez901 (by decide) (Sm.at hSz896 (by decide) (hBz889.get 3 rfl))) (d1_cons (zat_set ez901 (by decide) (Sm.at hSz896 (by decide) (hBz889.get 4 rfl))) (d1_cons (zat_set ez901 (by decide) (Sm.at hSz896 (by decide) (hBz889.get 5 rfl))) (d1_cons (zat_set ez901 (by decide) (Sm.at hSz896 (by decide) (hBz889.get 6 rfl))) (d1_cons (zat_set ez901 (by decide) (Sm.at hSz896 (by decide) (hBz889.get 7 rfl))) (d1_cons (zat_set ez901 (by decide) (Sm.at hSz896 (by decide) (hBz889.get 8 rfl))) (d1_cons (zat_set ez901 (by decide) (Sm.at hSz896 (by decide) (hBz889.get 9 rfl))) d1_nil))))))))))))))) (fs_c (fs_c (fs_c (fs_c (fs_c (fs_c (fs_c (fs_c (fs_c (fs_c (fs_c (fs_c (fs_c (fs_c (fs_c fs_n)))))))))))))))), Sm.tset (Sm.tw (Sm.tw Sm.rf hSz890 (by decide)) hSz896 (by decide)) ez901 (by decide)⟩)

set_option maxHeartbeats 4000000 in
set_option maxRecDepth 100000 in
theorem c_keep0 (Mq : zM) (f : Nat → Nat → Nat) (L : Nat) (hC : CC Mq f) (hI : CInv L f) : Zm 3 zm_CG_keep [.ref 0, .int 0] Mq (fun r9 M1 => r9 = some (.int 1) ∧ CC M1 (kHold 95 f) ∧ Smc Mq M1 ∧ CInv L (kHold 95 f)) := by
  show Zw 3 zm_CG_keep 0 [some (.ref 0), some (.int 0)] [] Mq _
  obtain ⟨gk, tk, htk, h94, hgk⟩ := hC.2.2
  refine zw_n 1 rfl ?_
  refine zw_if rfl ?_
  show Zw 3 zm_CG_keep 4 [some (.ref 0), some (.int 0)] [] Mq _
  refine zw_n 2 rfl ?_
  refine zw_get (v := .ref 94) rfl (hC.1 0 (by decide) (by decide) (by decide)) rfl ?_
  refine zw_alen rfl h94 (tk_lt htk) ?_
  refine zw_iltN (a := 0) (b := 2) rfl rfl rfl (by omega) (by omega) (fun c10 => ?_) (fun c10 => ?_)
  · -- 10 to 15
    refine zw_n 1 rfl ?_
    refine zw_get (v := .ref 94) rfl (hC.1 0 (by decide) (by decide) (by decide)) rfl ?_
    refine zw_n 1 rfl ?_
    refine zw_aald (j := 0) rfl h94 htk rfl (by decide) (by omega) (hgk 0 (by decide)) ?_
    refine zw_n 1 rfl ?_
    refine zw_get (v := .ref 16) rfl (hC.1 0 (by decide) (by decide) (by decide)) rfl ?_
    refine zw_n 1 rfl ?_
    refine zw_get (v := .ref 26) rfl (hC.1 0 (by decide) (by decide) (by decide)) rfl ?_
    refine zw_callV (as := [.ref 16, .ref 26]) (rest := []) rfl rfl rfl (hC.1 95 (by decide) (by decide) (by decide)) rfl rfl rfl (by decide) (c_hold95 Mq f hC) (fun rz905 Mz906 hz907 => ?_)
    obtain ⟨hAz902, hBz903, hSz904⟩ := hz907
    rw [hAz902]
    show Zw 3 zm_CG_keep 32 [some (.ref 0), some (.int 0)] [] Mz906 _
    refine zw_n 1 rfl ?_
    exact zw_zret rfl rfl (Or.inr rfl) (⟨rfl, hBz903, Smc.of hSz904 (by decide), ⟨⟨hI.tl, hI.tx, hI.gram, hI.tok, hI.bef, hI.grn, hI.mvd, hI.hsz, hI.hen, hI.past, hI.lln, ⟨Nat.le_refl _, hI.kh.2⟩, ⟨hI.gram, hI.kg.2⟩, ⟨hI.tok, hI.kt.2⟩, hI.cst, hI.csw, hI.csr, hI.ost, hI.osw, hI.osr, hI.tst, hI.rkn, hI.fnd, hI.ofs⟩, hI.cok, hI.blm, hI.tre, hI.rep⟩⟩)
  · -- 10 to 13
    exfalso
    omega

set_option maxHeartbeats 4000000 in
set_option maxRecDepth 100000 in
theorem c_keep1 (Mq : zM) (f : Nat → Nat → Nat) (L : Nat) (hC : CC Mq f) (hI : CInv L f) : Zm 3 zm_CG_keep [.ref 0, .int 1] Mq (fun r9 M1 => r9 = some (.int 1) ∧ CC M1 (kHold 110 f) ∧ Smc Mq M1 ∧ CInv L (kHold 110 f)) := by
  show Zw 3 zm_CG_keep 0 [some (.ref 0), some (.int 1)] [] Mq _
  obtain ⟨gk, tk, htk, h94, hgk⟩ := hC.2.2
  refine zw_n 1 rfl ?_
  refine zw_if rfl ?_
  show Zw 3 zm_CG_keep 4 [some (.ref 0), some (.int 1)] [] Mq _
  refine zw_n 2 rfl ?_
  refine zw_get (v := .ref 94) rfl (hC.1 0 (by decide) (by decide) (by decide)) rfl ?_
  refine zw_alen rfl h94 (tk_lt htk) ?_
  refine zw_iltN (a := 1) (b := 2) rfl rfl rfl (by omega) (by omega) (fun c10 => ?_) (fun c10 => ?_)
  · -- 10 to 15
    refine zw_n 1 rfl ?_
    refine zw_get (v := .ref 94) rfl (hC.1 0 (by decide) (by decide) (by decide)) rfl ?_
    refine zw_n 1 rfl ?_
    refine zw_aald (j := 1) rfl h94 htk rfl (by decide) (by omega) (hgk 1 (by decide)) ?_
    refine zw_n 1 rfl ?_
    refine zw_get (v := .ref 16) rfl (hC.1 0 (by decide) (by decide) (by decide)) rfl ?_
    refine zw_n 1 rfl ?_
    refine zw_get (v := .ref 26) rfl (hC.1 0 (by decide) (by decide) (by decide)) rfl ?_
    refine zw_callV (as := [.ref 16, .ref 26]) (rest := []) rfl rfl rfl (hC.1 110 (by decide) (by decide) (by decide)) rfl rfl rfl (by decide) (c_hold110 Mq f hC) (fun rz911 Mz912 hz913 => ?_)
    obtain ⟨hAz908, hBz909, hSz910⟩ := hz913
    rw [hAz908]
    show Zw 3 zm_CG_keep 32 [some (.ref 0), some (.int 1)] [] Mz912 _
    refine zw_n 1 rfl ?_
    exact zw_zret rfl rfl (Or.inr rfl) (⟨rfl, hBz909, Smc.of hSz910 (by decide), ⟨⟨hI.tl, hI.tx, hI.gram, hI.tok, hI.bef, hI.grn, hI.mvd, hI.hsz, hI.hen, hI.past, hI.lln, ⟨hI.kh.1, Nat.le_refl _⟩, ⟨hI.kg.1, hI.gram⟩, ⟨hI.kt.1, hI.tok⟩, hI.cst, hI.csw, hI.csr, hI.ost, hI.osw, hI.osr, hI.tst, hI.rkn, hI.fnd, hI.ofs⟩, hI.cok, hI.blm, hI.tre, hI.rep⟩⟩)
  · -- 10 to 13
    exfalso
    omega

set_option maxHeartbeats 4000000 in
set_option maxRecDepth 100000 in
theorem c_keepNo (Mq : zM) (f : Nat → Nat → Nat) (L : Nat) (hC : CC Mq f) (hI : CInv L f) (x : Int32) (hx : ¬ (0 ≤ x.toInt ∧ x.toInt < 2)) : Zm 3 zm_CG_keep [.ref 0, .int x] Mq (fun r9 M1 => r9 = some (.int 0) ∧ M1 = Mq) := by
  show Zw 3 zm_CG_keep 0 [some (.ref 0), some (.int x)] [] Mq _
  obtain ⟨gk, tk, htk, h94, hgk⟩ := hC.2.2
  refine zw_n 1 rfl ?_
  refine zw_lt0Z (a := x.toInt) rfl (rfl) (fun c1 => ?_) (fun c1 => ?_)
  · -- 1 to 13
    refine zw_n 1 rfl ?_
    exact zw_zret rfl rfl (Or.inl rfl) (⟨rfl, rfl⟩)
  · -- 1 to 4
    refine zw_n 2 rfl ?_
    refine zw_get (v := .ref 94) rfl (hC.1 0 (by decide) (by decide) (by decide)) rfl ?_
    refine zw_alen rfl h94 (tk_lt htk) ?_
    refine zw_iltZ (a := x.toInt) (b := ((2 : Nat) : Int)) rfl (rfl) (nI_toInt (by omega)) (fun c10 => ?_) (fun c10 => ?_)
    · -- 10 to 15
      exfalso
      omega
    · -- 10 to 13
      refine zw_n 1 rfl ?_
      exact zw_zret rfl rfl (Or.inl rfl) (⟨rfl, rfl⟩)

set_option maxHeartbeats 4000000 in
set_option maxRecDepth 100000 in
theorem c_isKept0 (Mq : zM) (f : Nat → Nat → Nat) (L : Nat) (hC : CC Mq f) (hI : CInv L f) : Zm 0 zm_CG_isKept [.ref 0, .int 0] Mq (fun r9 M1 => r9 = some (.int (nI (if f 95 0 = 0 then 0 else 1))) ∧ M1 = Mq) := by
  show Zw 0 zm_CG_isKept 0 [some (.ref 0), some (.int 0)] [] Mq _
  obtain ⟨gk, tk, htk, h94, hgk⟩ := hC.2.2
  have hkh := hI.kh
  refine zw_n 1 rfl ?_
  refine zw_if rfl ?_
  show Zw 0 zm_CG_isKept 4 [some (.ref 0), some (.int 0)] [] Mq _
  refine zw_n 2 rfl ?_
  refine zw_get (v := .ref 94) rfl (hC.1 0 (by decide) (by decide) (by decide)) rfl ?_
  refine zw_alen rfl h94 (tk_lt htk) ?_
  refine zw_igeN (a := 0) (b := 2) rfl rfl rfl (by omega) (by omega) (fun c10 => ?_) (fun c10 => ?_)
  · -- 10 to 29
    refine zw_n 1 rfl ?_
    exact zw_zret rfl rfl (Or.inl rfl) (⟨by first | rw [if_neg c22]; rfl | rw [if_pos c22]; rfl | omega, rfl⟩)
  · -- 10 to 13
    refine zw_n 1 rfl ?_
    refine zw_get (v := .ref 94) rfl (hC.1 0 (by decide) (by decide) (by decide)) rfl ?_
    refine zw_n 1 rfl ?_
    refine zw_aald (j := 0) rfl h94 htk rfl (by decide) (by omega) (hgk 0 (by decide)) ?_
    refine zw_get (v := .int (nI (f 95 0))) rfl (hC.1 95 (by decide) (by decide) (by decide)) rfl ?_
    refine zw_eq0N (a := f 95 0) rfl rfl (by omega) (fun c22 => ?_) (fun c22 => ?_)
    · -- 22 to 29
      refine zw_n 1 rfl ?_
      exact zw_zret rfl rfl (Or.inl rfl) (⟨by first | rw [if_neg c22]; rfl | rw [if_pos c22]; rfl | omega, rfl⟩)
    · -- 22 to 25
      refine zw_n 2 rfl ?_
      exact zw_zret rfl rfl (Or.inr rfl) (⟨by first | rw [if_neg c22]; rfl | rw [if_pos c22]; rfl | omega, rfl⟩)

set_option maxHeartbeats 4000000 in
set_option maxRecDepth 100000 in
theorem c_isKept1 (Mq : zM) (f : Nat → Nat → Nat) (L : Nat) (hC : CC Mq f) (hI : CInv L f) : Zm 0 zm_CG_isKept [.ref 0, .int 1] Mq (fun r9 M1 => r9 = some (.int (nI (if f 110 0 = 0 then 0 else 1))) ∧ M1 = Mq) := by
  show Zw 0 zm_CG_isKept 0 [some (.ref 0), some (.int 1)] [] Mq _
  obtain ⟨gk, tk, htk, h94, hgk⟩ := hC.2.2
  have hkh := hI.kh
  refine zw_n 1 rfl ?_
  refine zw_if rfl ?_
  show Zw 0 zm_CG_isKept 4 [some (.ref 0), some (.int 1)] [] Mq _
  refine zw_n 2 rfl ?_
  refine zw_get (v := .ref 94) rfl (hC.1 0 (by decide) (by decide) (by decide)) rfl ?_
  refine zw_alen rfl h94 (tk_lt htk) ?_
  refine zw_igeN (a := 1) (b := 2) rfl rfl rfl (by omega) (by omega) (fun c10 => ?_) (fun c10 => ?_)
  · -- 10 to 29
    refine zw_n 1 rfl ?_
    exact zw_zret rfl rfl (Or.inl rfl) (⟨by first | rw [if_neg c22]; rfl | rw [if_pos c22]; rfl | omega, rfl⟩)
  · -- 10 to 13
    refine zw_n 1 rfl ?_
    refine zw_get (v := .ref 94) rfl (hC.1 0 (by decide) (by decide) (by decide)) rfl ?_
    refine zw_n 1 rfl ?_
    refine zw_aald (j := 1) rfl h94 htk rfl (by decide) (by omega) (hgk 1 (by decide)) ?_
    refine zw_get (v := .int (nI (f 110 0))) rfl (hC.1 110 (by decide) (by decide) (by decide)) rfl ?_
    refine zw_eq0N (a := f 110 0) rfl rfl (by omega) (fun c22 => ?_) (fun c22 => ?_)
    · -- 22 to 29
      refine zw_n 1 rfl ?_
      exact zw_zret rfl rfl (Or.inl rfl) (⟨by first | rw [if_neg c22]; rfl | rw [if_pos c22]; rfl | omega, rfl⟩)
    · -- 22 to 25
      refine zw_n 2 rfl ?_
      exact zw_zret rfl rfl (Or.inr rfl) (⟨by first | rw [if_neg c22]; rfl | rw [if_pos c22]; rfl | omega, rfl⟩)

set_option maxHeartbeats 4000000 in
set_option maxRecDepth 100000 in
theorem c_isKeptNo (Mq : zM) (f : Nat → Nat → Nat) (L : Nat) (hC : CC Mq f) (hI : CInv L f) (x : Int32) (hx : ¬ (0 ≤ x.toInt ∧ x.toInt < 2)) : Zm 0 zm_CG_isKept [.ref 0, .int x] Mq (fun r9 M1 => r9 = some (.int 0) ∧ M1 = Mq) := by
  show Zw 0 zm_CG_isKept 0 [some (.ref 0), some (.int x)] [] Mq _
  obtain ⟨gk, tk, htk, h94, hgk⟩ := hC.2.2
  refine zw_n 1 rfl ?_
  refine zw_lt0Z (a := x.toInt) rfl (rfl) (fun c1 => ?_) (fun c1 => ?_)
  · -- 1 to 29
    refine zw_n 1 rfl ?_
    exact zw_zret rfl rfl (Or.inl rfl) (⟨rfl, rfl⟩)
  · -- 1 to 4
    refine zw_n 2 rfl ?_
    refine zw_get (v := .ref 94) rfl (hC.1 0 (by decide) (by decide) (by decide)) rfl ?_
    refine zw_alen rfl h94 (tk_lt htk) ?_
    refine zw_igeZ (a := x.toInt) (b := ((2 : Nat) : Int)) rfl (rfl) (nI_toInt (by omega)) (fun c10 => ?_) (fun c10 => ?_)
    · -- 10 to 29
      refine zw_n 1 rfl ?_
      exact zw_zret rfl rfl (Or.inl rfl) (⟨rfl, rfl⟩)
    · -- 10 to 13
      exfalso
      omega

set_option maxHeartbeats 4000000 in
set_option maxRecDepth 100000 in
theorem c_again0 (Mq : zM) (f : Nat → Nat → Nat) (L : Nat) (hC : CC Mq f) (hI : CInv L f) (hk : f 95 0 ≠ 0) : Zm 3 zm_CG_again [.ref 0, .int 0] Mq (fun r9 M1 => r9 = some (.int 1) ∧ CC M1 (chg (kAgain 95 f)) ∧ Smc Mq M1 ∧ CInv L (chg (kAgain 95 f))) := by
  show Zw 3 zm_CG_again 0 [some (.ref 0), some (.int 0)] [] Mq _
  obtain ⟨gk, tk, htk, h94, hgk⟩ := hC.2.2
  refine zw_n 2 rfl ?_
  refine zw_callV (as := [.int 0]) (rest := []) rfl rfl rfl (hC.1 0 (by decide) (by decide) (by decide)) rfl rfl rfl (by decide) (c_isKept0 Mq f L hC hI) (fun rz914 Mz915 hz916 => ?_)
  rw [hz916.1, hz916.2]
  show Zw 3 zm_CG_again 5 [some (.ref 0), some (.int 0)] [.int (nI (if f 95 0 = 0 then 0 else 1))] Mq _
  refine zw_ne0N (a := if f 95 0 = 0 then 0 else 1) rfl rfl (by split <;> decide) (fun c5 => ?_) (fun c5 => ?_)
  · -- 5 to 10
    refine zw_n 1 rfl ?_
    refine zw_get (v := .ref 16) rfl (hC.1 0 (by decide) (by decide) (by decide)) rfl ?_
    refine zw_n 1 rfl ?_
    refine zw_get (v := .ref 94) rfl (hC.1 0 (by decide) (by decide) (by decide)) rfl ?_
    refine zw_n 1 rfl ?_
    refine zw_aald (j := 0) rfl h94 htk rfl (by decide) (by omega) (hgk 0 (by decide)) ?_
    refine zw_get (v := .ref 96) rfl (hC.1 95 (by decide) (by decide) (by decide)) rfl ?_
    refine zw_callV (as := [.ref 96]) (rest := []) rfl rfl rfl (hC.1 16 (by decide) (by decide) (by decide)) rfl rfl rfl (by decide) (c_copyRul Mq 16 96 (f 16 0) (f 16 7) (f 17) (f 18) (f 19) (f 20) (f 21) (f 22) (f 23) (f 24) (f 25) (seg10 (hC.1 16 (by decide) (by decide) (by decide)) (hC.1 17 (by decide) (by decide) (by decide)) (hC.1 18 (by decide) (by decide) (by decide)) (hC.1 19 (by decide) (by decide) (by decide)) (hC.1 20 (by decide) (by decide) (by decide)) (hC.1 21 (by decide) (by decide) (by decide)) (hC.1 22 (by decide) (by decide) (by decide)) (hC.1 23 (by decide) (by decide) (by decide)) (hC.1 24 (by decide) (by decide) (by decide)) (hC.1 25 (by decide) (by decide) (by decide))) (f 96 0) (f 96 7) (f 97) (f 98) (f 99) (f 100) (f 101) (f 102) (f 103) (f 104) (f 105) (seg10 (hC.1 96 (by decide) (by decide) (by decide)) (hC.1 97 (by decide) (by decide) (by decide)) (hC.1 98 (by decide) (by decide) (by decide)) (hC.1 99 (by decide) (by decide) (by decide)) (hC.1 100 (by decide) (by decide) (by decide)) (hC.1 101 (by decide) (by decide) (by decide)) (hC.1 102 (by decide) (by decide) (by decide)) (hC.1 103 (by decide) (by decide) (by decide)) (hC.1 104 (by decide) (by decide) (by decide)) (hC.1 105 (by decide) (by decide) (by decide))) (by omega)) (fun rz920 Mz921 hz922 => ?_)
    obtain ⟨hAz917, hBz918, hSz919⟩ := hz922
    rw [hAz917]
    show Zw 3 zm_CG_again 26 [some (.ref 0), some (.int 0)] [] Mz921 _
    refine zw_n 1 rfl ?_
    refine zw_get (v := .ref 26) rfl (Sm.at hSz919 (by decide) (hC.1 0 (by decide) (by decide) (by decide))) rfl ?_
    refine zw_n 1 rfl ?_
    refine zw_get (v := .ref 94) rfl (Sm.at hSz919 (by decide) (hC.1 0 (by decide) (by decide) (by decide))) rfl ?_
    refine zw_n 1 rfl ?_
    refine zw_aald (j := 0) rfl (Sm.at hSz919 (by decide) h94) htk rfl (by decide) (by omega) (hgk 0 (by decide)) ?_
    refine zw_get (v := .ref 106) rfl (Sm.at hSz919 (by decide) (hC.1 95 (by decide) (by decide) (by decide))) rfl ?_
    refine zw_callV (as := [.ref 106]) (rest := []) rfl rfl rfl (Sm.at hSz919 (by decide) (hC.1 26 (by decide) (by decide) (by decide))) rfl rfl rfl (by decide) (c_copyTok Mz921 26 106 (f 26 0) (f 27) (f 28) (f 29) (seg4 (Sm.at hSz919 (by decide) (hC.1 26 (by decide) (by decide) (by decide))) (Sm.at hSz919 (by decide) (hC.1 27 (by decide) (by decide) (by decide))) (Sm.at hSz919 (by decide) (hC.1 28 (by decide) (by decide) (by decide))) (Sm.at hSz919 (by decide) (hC.1 29 (by decide) (by decide) (by decide)))) (f 106 0) (f 107) (f 108) (f 109) (seg4 (Sm.at hSz919 (by decide) (hC.1 106 (by decide) (by decide) (by decide))) (Sm.at hSz919 (by decide) (hC.1 107 (by decide) (by decide) (by decide))) (Sm.at hSz919 (by decide) (hC.1 108 (by decide) (by decide) (by decide))) (Sm.at hSz919 (by decide) (hC.1 109 (by decide) (by decide) (by decide)))) (by omega)) (fun rz926 Mz927 hz928 => ?_)
    obtain ⟨hAz923, hBz924, hSz925⟩ := hz928
    rw [hAz923]
    show Zw 3 zm_CG_again 42 [some (.ref 0), some (.int 0)] [] Mz927 _
    refine zw_n 1 rfl ?_
    refine zw_get (v := .ref 50) rfl (Sm.at hSz925 (by decide) (Sm.at hSz919 (by decide) (hC.1 0 (by decide) (by decide) (by decide)))) rfl ?_
    refine zw_callV (as := []) (rest := []) rfl rfl rfl (Sm.at hSz925 (by decide) (Sm.at hSz919 (by decide) (hC.1 50 (by decide) (by decide) (by decide)))) rfl rfl rfl (by decide) (c_forget Mz927 (fset (fset (fset (fset (fset (fset (fset (fset (fset (fset (fset (fset (fset (fset f 25 (f 105)) 24 (f 104)) 23 (f 103)) 22 (f 102)) 21 (f 101)) 20 (f 100)) 19 (f 99)) 18 (f 98)) 17 (f 97)) 16 (up (up (f 16) 0 (f 96 0)) 7 (f 96 7))) 29 (f 109)) 28 (f 108)) 27 (f 107)) 26 (up (f 26) 0 (f 106 0))) (CC.of (f' := fset (fset (fset (fset (fset (fset (fset (fset (fset (fset (fset (fset (fset (fset f 25 (f 105)) 24 (f 104)) 23 (f 103)) 22 (f 102)) 21 (f 101)) 20 (f 100)) 19 (f 99)) 18 (f 98)) 17 (f 97)) 16 (up (up (f 16) 0 (f 96 0)) 7 (f 96 7))) 29 (f 109)) 28 (f 108)) 27 (f 107)) 26 (up (f 26) 0 (f 106 0))) hC (Sm.tw (Sm.tw Sm.rf hSz919 (by decide)) hSz925 (by decide)) ⟨by decide, by decide⟩ (d1_cons (Sm.at hSz925 (by decide) (Sm.at hSz919 (by decide) (hC.1 134 (by decide) (by decide) (by decide)))) (d1_cons (Sm.at hSz925 (by decide) (Sm.at hSz919 (by decide) (hC.1 34 (by decide) (by decide) (by decide)))) (d1_cons (Sm.at hSz925 (by decide) (Sm.at hSz919 (by decide) (hC.1 0 (by decide) (by decide) (by decide)))) (d1_cons (Sm.at hSz925 (by decide) (Sm.at hSz919 (by decide) (hC.1 50 (by decide) (by decide) (by decide)))) (d1_cons (hBz924.get 0 rfl) (d1_cons (hBz924.get 1 rfl) (d1_cons (hBz924.get 2 rfl) (d1_cons (hBz924.get 3 rfl) (d1_cons (Sm.at hSz925 (by decide) (hBz918.get 0 rfl)) (d1_cons (Sm.at hSz925 (by decide) (hBz918.get 1 rfl)) (d1_cons (Sm.at hSz925 (by decide) (hBz918.get 2 rfl)) (d1_cons (Sm.at hSz925 (by decide) (hBz918.get 3 rfl)) (d1_cons (Sm.at hSz925 (by decide) (hBz918.get 4 rfl)) (d1_cons (Sm.at hSz925 (by decide) (hBz918.get 5 rfl)) (d1_cons (Sm.at hSz925 (by decide) (hBz918.get 6 rfl)) (d1_cons (Sm.at hSz925 (by decide) (hBz918.get 7 rfl)) (d1_cons (Sm.at hSz925 (by decide) (hBz918.get 8 rfl)) (d1_cons (Sm.at hSz925 (by decide) (hBz918.get 9 rfl)) d1_nil)))))))))))))))))) (fs_k (fs_k (fs_k (fs_k (fs_c (fs_c (fs_c (fs_c (fs_c (fs_c (fs_c (fs_c (fs_c (fs_c (fs_c (fs_c (fs_c (fs_c fs_n)))))))))))))))))))) (fun rz932 Mz933 hz934 => ?_)
    obtain ⟨hAz929, hBz930, hSz931⟩ := hz934
    rw [hAz929]
    show Zw 3 zm_CG_again 49 [some (.ref 0), some (.int 0)] [] Mz933 _
    refine zw_n 1 rfl ?_
    refine zw_callV (as := []) (rest := []) rfl rfl rfl (Sm.at hSz931 (by decide) (Sm.at hSz925 (by decide) (Sm.at hSz919 (by decide) (hC.1 0 (by decide) (by decide) (by decide))))) rfl rfl rfl (by decide) (c_changed Mz933 (fset (fset (fset (fset (fset (fset (fset (fset (fset (fset (fset (fset (fset (fset (fset f 25 (f 105)) 24 (f 104)) 23 (f 103)) 22 (f 102)) 21 (f 101)) 20 (f 100)) 19 (f 99)) 18 (f 98)) 17 (f 97)) 16 (up (up (f 16) 0 (f 96 0)) 7 (f 96 7))) 29 (f 109)) 28 (f 108)) 27 (f 107)) 26 (up (f 26) 0 (f 106 0))) 50 (up (f 50) 0 0)) (CC.of (f' := fset (fset (fset (fset (fset (fset (fset (fset (fset (fset (fset (fset (fset (fset (fset f 25 (f 105)) 24 (f 104)) 23 (f 103)) 22 (f 102)) 21 (f 101)) 20 (f 100)) 19 (f 99)) 18 (f 98)) 17 (f 97)) 16 (up (up (f 16) 0 (f 96 0)) 7 (f 96 7))) 29 (f 109)) 28 (f 108)) 27 (f 107)) 26 (up (f 26) 0 (f 106 0))) 50 (up (f 50) 0 0)) hC (Sm.tw (Sm.tw (Sm.tw Sm.rf hSz919 (by decide)) hSz925 (by decide)) hSz931 (by decide)) ⟨by decide, by decide⟩ (d1_cons (Sm.at hSz931 (by decide) (Sm.at hSz925 (by decide) (Sm.at hSz919 (by decide) (hC.1 134 (by decide) (by decide) (by decide))))) (d1_cons (Sm.at hSz931 (by decide) (Sm.at hSz925 (by decide) (Sm.at hSz919 (by decide) (hC.1 34 (by decide) (by decide) (by decide))))) (d1_cons (Sm.at hSz931 (by decide) (Sm.at hSz925 (by decide) (Sm.at hSz919 (by decide) (hC.1 0 (by decide) (by decide) (by decide))))) (d1_cons (hBz930.1 50 (by decide) (by decide) (by decide)) (d1_cons (Sm.at hSz931 (by decide) (hBz924.get 0 rfl)) (d1_cons (Sm.at hSz931 (by decide) (hBz924.get 1 rfl)) (d1_cons (Sm.at hSz931 (by decide) (hBz924.get 2 rfl)) (d1_cons (Sm.at hSz931 (by decide) (hBz924.get 3 rfl)) (d1_cons (Sm.at hSz931 (by decide) (Sm.at hSz925 (by decide) (hBz918.get 0 rfl))) (d1_cons (Sm.at hSz931 (by decide) (Sm.at hSz925 (by decide) (hBz918.get 1 rfl))) (d1_cons (Sm.at hSz931 (by decide) (Sm.at hSz925 (by decide) (hBz918.get 2 rfl))) (d1_cons (Sm.at hSz931 (by decide) (Sm.at hSz925 (by decide) (hBz918.get 3 rfl))) (d1_cons (Sm.at hSz931 (by decide) (Sm.at hSz925 (by decide) (hBz918.get 4 rfl))) (d1_cons (Sm.at hSz931 (by decide) (Sm.at hSz925 (by decide) (hBz918.get 5 rfl))) (d1_cons (Sm.at hSz931 (by decide) (Sm.at hSz925 (by decide) (hBz918.get 6 rfl))) (d1_cons (Sm.at hSz931 (by decide) (Sm.at hSz925 (by decide) (hBz918.get 7 rfl))) (d1_cons (Sm.at hSz931 (by decide) (Sm.at hSz925 (by decide) (hBz918.get 8 rfl))) (d1_cons (Sm.at hSz931 (by decide) (Sm.at hSz925 (by decide) (hBz918.get 9 rfl))) d1_nil)))))))))))))))))) (fs_k (fs_k (fs_k (fs_c (fs_c (fs_c (fs_c (fs_c (fs_c (fs_c (fs_c (fs_c (fs_c (fs_c (fs_c (fs_c (fs_c (fs_c fs_n)))))))))))))))))))) (fun rz938 Mz939 hz940 => ?_)
    obtain ⟨hAz935, hBz936, hSz937⟩ := hz940
    rw [hAz935]
    show Zw 3 zm_CG_again 53 [some (.ref 0), some (.int 0)] [] Mz939 _
    refine zw_n 1 rfl ?_
    exact zw_zret rfl rfl (Or.inr rfl) (⟨rfl, (CC.of (f' := fset (fset (fset (fset (fset (fset (fset (fset (fset (fset (fset (fset (fset (fset (fset (fset (fset (fset f 25 (f 105)) 24 (f 104)) 23 (f 103)) 22 (f 102)) 21 (f 101)) 20 (f 100)) 19 (f 99)) 18 (f 98)) 17 (f 97)) 16 (up (up (f 16) 0 (f 96 0)) 7 (f 96 7))) 29 (f 109)) 28 (f 108)) 27 (f 107)) 26 (up (f 26) 0 (f 106 0))) 50 (up (f 50) 0 0)) 0 (up (up (f 0) 16 0) 17 4294967294)) 34 (up (f 34) 2 0)) 134 (up (f 134) 0 0)) hC (Sm.tw (Sm.tw (Sm.tw (Sm.tw Sm.rf hSz919 (by decide)) hSz925 (by decide)) hSz931 (by decide)) hSz937 (by decide)) ⟨by decide, by decide⟩ (d1_cons (hBz936.1 134 (by decide) (by decide) (by decide)) (d1_cons (hBz936.1 34 (by decide) (by decide) (by decide)) (d1_cons (hBz936.1 0 (by decide) (by decide) (by decide)) (d1_cons (Sm.at hSz937 (by decide) (hBz930.1 50 (by decide) (by decide) (by decide))) (d1_cons (Sm.at hSz937 (by decide) (Sm.at hSz931 (by decide) (hBz924.get 0 rfl))) (d1_cons (Sm.at hSz937 (by decide) (Sm.at hSz931 (by decide) (hBz924.get 1 rfl))) (d1_cons (Sm.at hSz937 (by decide) (Sm.at hSz931 (by decide) (hBz924.get 2 rfl))) (d1_cons (Sm.at hSz937 (by decide) (Sm.at hSz931 (by decide) (hBz924.get 3 rfl))) (d1_cons (Sm.at hSz937 (by decide) (Sm.at hSz931 (by decide) (Sm.at hSz925 (by decide) (hBz918.get 0 rfl)))) (d1_cons (Sm.at hSz937 (by decide) (Sm.at hSz931 (by decide) (Sm.at hSz925 (by decide) (hBz918.get 1 rfl)))) (d1_cons (Sm.at hSz937 (by decide) (Sm.at hSz931 (by decide) (Sm.at hSz925 (by decide) (hBz918.get 2 rfl)))) (d1_cons (Sm.at hSz937 (by decide) (Sm.at hSz931 (by decide) (Sm.at hSz925 (by decide) (hBz918.get 3 rfl)))) (d1_cons (Sm.at hSz937 (by decide) (Sm.at hSz931 (by decide) (Sm.at hSz925 (by decide) (hBz918.get 4 rfl)))) (d1_cons (Sm.at hSz937 (by decide) (Sm.at hSz931 (by decide) (Sm.at hSz925 (by decide) (hBz918.get 5 rfl)))) (d1_cons (Sm.at hSz937 (by decide) (Sm.at hSz931 (by decide) (Sm.at hSz925 (by decide) (hBz918.get 6 rfl)))) (d1_cons (Sm.at hSz937 (by decide) (Sm.at hSz931 (by decide) (Sm.at hSz925 (by decide) (hBz918.get 7 rfl)))) (d1_cons (Sm.at hSz937 (by decide) (Sm.at hSz931 (by decide) (Sm.at hSz925 (by decide) (hBz918.get 8 rfl)))) (d1_cons (Sm.at hSz937 (by decide) (Sm.at hSz931 (by decide) (Sm.at hSz925 (by decide) (hBz918.get 9 rfl)))) d1_nil)))))))))))))))))) (fs_c (fs_c (fs_c (fs_c (fs_c (fs_c (fs_c (fs_c (fs_c (fs_c (fs_c (fs_c (fs_c (fs_c (fs_c (fs_c (fs_c (fs_c fs_n))))))))))))))))))), (Smc.of (S := [134, 34, 0, 50, 26, 27, 28, 29, 16, 17, 18, 19, 20, 21, 22, 23, 24, 25]) (Sm.tw (Sm.tw (Sm.tw (Sm.tw Sm.rf hSz919 (by decide)) hSz925 (by decide)) hSz931 (by decide)) hSz937 (by decide)) (by decide)), CInv.chg (⟨hI.tl, hI.tx, hI.kg.1, hI.kt.1, hI.bef, hI.grn, hI.mvd, Nat.zero_le _, hI.hen, hI.past, hI.lln, hI.kh, hI.kg, hI.kt, hI.cst, hI.csw, hI.csr, hI.ost, hI.osw, hI.osr, hI.tst, hI.rkn, hI.fnd, hI.ofs⟩ : CBase L (kAgain 95 f))⟩)
  · -- 5 to 8
    exfalso
    rw [if_neg hk] at c5; cases c5

set_option maxHeartbeats 4000000 in
set_option maxRecDepth 100000 in
theorem c_againE0 (Mq : zM) (f : Nat → Nat → Nat) (L : Nat) (hC : CC Mq f) (hI : CInv L f) (hk : f 95 0 = 0) : Zm 3 zm_CG_again [.ref 0, .int 0] Mq (fun r9 M1 => r9 = some (.int 0) ∧ M1 = Mq) := by
  show Zw 3 zm_CG_again 0 [some (.ref 0), some (.int 0)] [] Mq _
  obtain ⟨gk, tk, htk, h94, hgk⟩ := hC.2.2
  refine zw_n 2 rfl ?_
  refine zw_callV (as := [.int 0]) (rest := []) rfl rfl rfl (hC.1 0 (by decide) (by decide) (by decide)) rfl rfl rfl (by decide) (c_isKept0 Mq f L hC hI) (fun rz941 Mz942 hz943 => ?_)
  rw [hz943.1, hz943.2]
  show Zw 3 zm_CG_again 5 [some (.ref 0), some (.int 0)] [.int (nI (if f 95 0 = 0 then 0 else 1))] Mq _
  refine zw_ne0N (a := if f 95 0 = 0 then 0 else 1) rfl rfl (by split <;> decide) (fun c5 => ?_) (fun c5 => ?_)
  · -- 5 to 10
    exfalso
    rw [if_pos hk] at c5; exact c5 rfl
  · -- 5 to 8
    refine zw_n 1 rfl ?_
    exact zw_zret rfl rfl (Or.inl rfl) (⟨rfl, rfl⟩)

set_option maxHeartbeats 4000000 in
set_option maxRecDepth 100000 in
theorem c_again1 (Mq : zM) (f : Nat → Nat → Nat) (L : Nat) (hC : CC Mq f) (hI : CInv L f) (hk : f 110 0 ≠ 0) : Zm 3 zm_CG_again [.ref 0, .int 1] Mq (fun r9 M1 => r9 = some (.int 1) ∧ CC M1 (chg (kAgain 110 f)) ∧ Smc Mq M1 ∧ CInv L (chg (kAgain 110 f))) := by
  show Zw 3 zm_CG_again 0 [some (.ref 0), some (.int 1)] [] Mq _
  obtain ⟨gk, tk, htk, h94, hgk⟩ := hC.2.2
  refine zw_n 2 rfl ?_
  refine zw_callV (as := [.int 1]) (rest := []) rfl rfl rfl (hC.1 0 (by decide) (by decide) (by decide)) rfl rfl rfl (by decide) (c_isKept1 Mq f L hC hI) (fun rz944 Mz945 hz946 => ?_)
  rw [hz946.1, hz946.2]
  show Zw 3 zm_CG_again 5 [some (.ref 0), some (.int 1)] [.int (nI (if f 110 0 = 0 then 0 else 1))] Mq _
  refine zw_ne0N (a := if f 110 0 = 0 then 0 else 1) rfl rfl (by split <;> decide) (fun c5 => ?_) (fun c5 => ?_)
  · -- 5 to 10
    refine zw_n 1 rfl ?_
    refine zw_get (v := .ref 16) rfl (hC.1 0 (by decide) (by decide) (by decide)) rfl ?_
    refine zw_n 1 rfl ?_
    refine zw_get (v := .ref 94) rfl (hC.1 0 (by decide) (by decide) (by decide)) rfl ?_
    refine zw_n 1 rfl ?_
    refine zw_aald (j := 1) rfl h94 htk rfl (by decide) (by omega) (hgk 1 (by decide)) ?_
    refine zw_get (v := .ref 111) rfl (hC.1 110 (by decide) (by decide) (by decide)) rfl ?_
    refine zw_callV (as := [.ref 111]) (rest := []) rfl rfl rfl (hC.1 16 (by decide) (by decide) (by decide)) rfl rfl rfl (by decide) (c_copyRul Mq 16 111 (f 16 0) (f 16 7) (f 17) (f 18) (f 19) (f 20) (f 21) (f 22) (f 23) (f 24) (f 25) (seg10 (hC.1 16 (by decide) (by decide) (by decide)) (hC.1 17 (by decide) (by decide) (by decide)) (hC.1 18 (by decide) (by decide) (by decide)) (hC.1 19 (by decide) (by decide) (by decide)) (hC.1 20 (by decide) (by decide) (by decide)) (hC.1 21 (by decide) (by decide) (by decide)) (hC.1 22 (by decide) (by decide) (by decide)) (hC.1 23 (by decide) (by decide) (by decide)) (hC.1 24 (by decide) (by decide) (by decide)) (hC.1 25 (by decide) (by decide) (by decide))) (f 111 0) (f 111 7) (f 112) (f 113) (f 114) (f 115) (f 116) (f 117) (f 118) (f 119) (f 120) (seg10 (hC.1 111 (by decide) (by decide) (by decide)) (hC.1 112 (by decide) (by decide) (by decide)) (hC.1 113 (by decide) (by decide) (by decide)) (hC.1 114 (by decide) (by decide) (by decide)) (hC.1 115 (by decide) (by decide) (by decide)) (hC.1 116 (by decide) (by decide) (by decide)) (hC.1 117 (by decide) (by decide) (by decide)) (hC.1 118 (by decide) (by decide) (by decide)) (hC.1 119 (by decide) (by decide) (by decide)) (hC.1 120 (by decide) (by decide) (by decide))) (by omega)) (fun rz950 Mz951 hz952 => ?_)
    obtain ⟨hAz947, hBz948, hSz949⟩ := hz952
    rw [hAz947]
    show Zw 3 zm_CG_again 26 [some (.ref 0), some (.int 1)] [] Mz951 _
    refine zw_n 1 rfl ?_
    refine zw_get (v := .ref 26) rfl (Sm.at hSz949 (by decide) (hC.1 0 (by decide) (by decide) (by decide))) rfl ?_
    refine zw_n 1 rfl ?_
    refine zw_get (v := .ref 94) rfl (Sm.at hSz949 (by decide) (hC.1 0 (by decide) (by decide) (by decide))) rfl ?_
    refine zw_n 1 rfl ?_
    refine zw_aald (j := 1) rfl (Sm.at hSz949 (by decide) h94) htk rfl (by decide) (by omega) (hgk 1 (by decide)) ?_
    refine zw_get (v := .ref 121) rfl (Sm.at hSz949 (by decide) (hC.1 110 (by decide) (by decide) (by decide))) rfl ?_
    refine zw_callV (as := [.ref 121]) (rest := []) rfl rfl rfl (Sm.at hSz949 (by decide) (hC.1 26 (by decide) (by decide) (by decide))) rfl rfl rfl (by decide) (c_copyTok Mz951 26 121 (f 26 0) (f 27) (f 28) (f 29) (seg4 (Sm.at hSz949 (by decide) (hC.1 26 (by decide) (by decide) (by decide))) (Sm.at hSz949 (by decide) (hC.1 27 (by decide) (by decide) (by decide))) (Sm.at hSz949 (by decide) (hC.1 28 (by decide) (by decide) (by decide))) (Sm.at hSz949 (by decide) (hC.1 29 (by decide) (by decide) (by decide)))) (f 121 0) (f 122) (f 123) (f 124) (seg4 (Sm.at hSz949 (by decide) (hC.1 121 (by decide) (by decide) (by decide))) (Sm.at hSz949 (by decide) (hC.1 122 (by decide) (by decide) (by decide))) (Sm.at hSz949 (by decide) (hC.1 123 (by decide) (by decide) (by decide))) (Sm.at hSz949 (by decide) (hC.1 124 (by decide) (by decide) (by decide)))) (by omega)) (fun rz956 Mz957 hz958 => ?_)
    obtain ⟨hAz953, hBz954, hSz955⟩ := hz958
    rw [hAz953]
    show Zw 3 zm_CG_again 42 [some (.ref 0), some (.int 1)] [] Mz957 _
    refine zw_n 1 rfl ?_
    refine zw_get (v := .ref 50) rfl (Sm.at hSz955 (by decide) (Sm.at hSz949 (by decide) (hC.1 0 (by decide) (by decide) (by decide)))) rfl ?_
    refine zw_callV (as := []) (rest := []) rfl rfl rfl (Sm.at hSz955 (by decide) (Sm.at hSz949 (by decide) (hC.1 50 (by decide) (by decide) (by decide)))) rfl rfl rfl (by decide) (c_forget Mz957 (fset (fset (fset (fset (fset (fset (fset (fset (fset (fset (fset (fset (fset (fset f 25 (f 120)) 24 (f 119)) 23 (f 118)) 22 (f 117)) 21 (f 116)) 20 (f 115)) 19 (f 114)) 18 (f 113)) 17 (f 112)) 16 (up (up (f 16) 0 (f 111 0)) 7 (f 111 7))) 29 (f 124)) 28 (f 123)) 27 (f 122)) 26 (up (f 26) 0 (f 121 0))) (CC.of (f' := fset (fset (fset (fset (fset (fset (fset (fset (fset (fset (fset (fset (fset (fset f 25 (f 120)) 24 (f 119)) 23 (f 118)) 22 (f 117)) 21 (f 116)) 20 (f 115)) 19 (f 114)) 18 (f 113)) 17 (f 112)) 16 (up (up (f 16) 0 (f 111 0)) 7 (f 111 7))) 29 (f 124)) 28 (f 123)) 27 (f 122)) 26 (up (f 26) 0 (f 121 0))) hC (Sm.tw (Sm.tw Sm.rf hSz949 (by decide)) hSz955 (by decide)) ⟨by decide, by decide⟩ (d1_cons (Sm.at hSz955 (by decide) (Sm.at hSz949 (by decide) (hC.1 134 (by decide) (by decide) (by decide)))) (d1_cons (Sm.at hSz955 (by decide) (Sm.at hSz949 (by decide) (hC.1 34 (by decide) (by decide) (by decide)))) (d1_cons (Sm.at hSz955 (by decide) (Sm.at hSz949 (by decide) (hC.1 0 (by decide) (by decide) (by decide)))) (d1_cons (Sm.at hSz955 (by decide) (Sm.at hSz949 (by decide) (hC.1 50 (by decide) (by decide) (by decide)))) (d1_cons (hBz954.get 0 rfl) (d1_cons (hBz954.get 1 rfl) (d1_cons (hBz954.get 2 rfl) (d1_cons (hBz954.get 3 rfl) (d1_cons (Sm.at hSz955 (by decide) (hBz948.get 0 rfl)) (d1_cons (Sm.at hSz955 (by decide) (hBz948.get 1 rfl)) (d1_cons (Sm.at hSz955 (by decide) (hBz948.get 2 rfl)) (d1_cons (Sm.at hSz955 (by decide) (hBz948.get 3 rfl)) (d1_cons (Sm.at hSz955 (by decide) (hBz948.get 4 rfl)) (d1_cons (Sm.at hSz955 (by decide) (hBz948.get 5 rfl)) (d1_cons (Sm.at hSz955 (by decide) (hBz948.get 6 rfl)) (d1_cons (Sm.at hSz955 (by decide) (hBz948.get 7 rfl)) (d1_cons (Sm.at hSz955 (by decide) (hBz948.get 8 rfl)) (d1_cons (Sm.at hSz955 (by decide) (hBz948.get 9 rfl)) d1_nil)))))))))))))))))) (fs_k (fs_k (fs_k (fs_k (fs_c (fs_c (fs_c (fs_c (fs_c (fs_c (fs_c (fs_c (fs_c (fs_c (fs_c (fs_c (fs_c (fs_c fs_n)))))))))))))))))))) (fun rz962 Mz963 hz964 => ?_)
    obtain ⟨hAz959, hBz960, hSz961⟩ := hz964
    rw [hAz959]
    show Zw 3 zm_CG_again 49 [some (.ref 0), some (.int 1)] [] Mz963 _
    refine zw_n 1 rfl ?_
    refine zw_callV (as := []) (rest := []) rfl rfl rfl (Sm.at hSz961 (by decide) (Sm.at hSz955 (by decide) (Sm.at hSz949 (by decide) (hC.1 0 (by decide) (by decide) (by decide))))) rfl rfl rfl (by decide) (c_changed Mz963 (fset (fset (fset (fset (fset (fset (fset (fset (fset (fset (fset (fset (fset (fset (fset f 25 (f 120)) 24 (f 119)) 23 (f 118)) 22 (f 117)) 21 (f 116)) 20 (f 115)) 19 (f 114)) 18 (f 113)) 17 (f 112)) 16 (up (up (f 16) 0 (f 111 0)) 7 (f 111 7))) 29 (f 124)) 28 (f 123)) 27 (f 122)) 26 (up (f 26) 0 (f 121 0))) 50 (up (f 50) 0 0)) (CC.of (f' := fset (fset (fset (fset (fset (fset (fset (fset (fset (fset (fset (fset (fset (fset (fset f 25 (f 120)) 24 (f 119)) 23 (f 118)) 22 (f 117)) 21 (f 116)) 20 (f 115)) 19 (f 114)) 18 (f 113)) 17 (f 112)) 16 (up (up (f 16) 0 (f 111 0)) 7 (f 111 7))) 29 (f 124)) 28 (f 123)) 27 (f 122)) 26 (up (f 26) 0 (f 121 0))) 50 (up (f 50) 0 0)) hC (Sm.tw (Sm.tw (Sm.tw Sm.rf hSz949 (by decide)) hSz955 (by decide)) hSz961 (by decide)) ⟨by decide, by decide⟩ (d1_cons (Sm.at hSz961 (by decide) (Sm.at hSz955 (by decide) (Sm.at hSz949 (by decide) (hC.1 134 (by decide) (by decide) (by decide))))) (d1_cons (Sm.at hSz961 (by decide) (Sm.at hSz955 (by decide) (Sm.at hSz949 (by decide) (hC.1 34 (by decide) (by decide) (by decide))))) (d1_cons (Sm.at hSz961 (by decide) (Sm.at hSz955 (by decide) (Sm.at hSz949 (by decide) (hC.1 0 (by decide) (by decide) (by decide))))) (d1_cons (hBz960.1 50 (by decide) (by decide) (by decide)) (d1_cons (Sm.at hSz961 (by decide) (hBz954.get 0 rfl)) (d1_cons (Sm.at hSz961 (by decide) (hBz954.get 1 rfl)) (d1_cons (Sm.at hSz961 (by decide) (hBz954.get 2 rfl)) (d1_cons (Sm.at hSz961 (by decide) (hBz954.get 3 rfl)) (d1_cons (Sm.at hSz961 (by decide) (Sm.at hSz955 (by decide) (hBz948.get 0 rfl))) (d1_cons (Sm.at hSz961 (by decide) (Sm.at hSz955 (by decide) (hBz948.get 1 rfl))) (d1_cons (Sm.at hSz961 (by decide) (Sm.at hSz955 (by decide) (hBz948.get 2 rfl))) (d1_cons (Sm.at hSz961 (by decide) (Sm.at hSz955 (by decide) (hBz948.get 3 rfl))) (d1_cons (Sm.at hSz961 (by decide) (Sm.at hSz955 (by decide) (hBz948.get 4 rfl))) (d1_cons (Sm.at hSz961 (by decide) (Sm.at hSz955 (by decide) (hBz948.get 5 rfl))) (d1_cons (Sm.at hSz961 (by decide) (Sm.at hSz955 (by decide) (hBz948.get 6 rfl))) (d1_cons (Sm.at hSz961 (by decide) (Sm.at hSz955 (by decide) (hBz948.get 7 rfl))) (d1_cons (Sm.at hSz961 (by decide) (Sm.at hSz955 (by decide) (hBz948.get 8 rfl))) (d1_cons (Sm.at hSz961 (by decide) (Sm.at hSz955 (by decide) (hBz948.get 9 rfl))) d1_nil)))))))))))))))))) (fs_k (fs_k (fs_k (fs_c (fs_c (fs_c (fs_c (fs_c (fs_c (fs_c (fs_c (fs_c (fs_c (fs_c (fs_c (fs_c (fs_c (fs_c fs_n)))))))))))))))))))) (fun rz968 Mz969 hz970 => ?_)
    obtain ⟨hAz965, hBz966, hSz967⟩ := hz970
    rw [hAz965]
    show Zw 3 zm_CG_again 53 [some (.ref 0), some (.int 1)] [] Mz969 _
    refine zw_n 1 rfl ?_
    exact zw_zret rfl rfl (Or.inr rfl) (⟨rfl, (CC.of (f' := fset (fset (fset (fset (fset (fset (fset (fset (fset (fset (fset (fset (fset (fset (fset (fset (fset (fset f 25 (f 120)) 24 (f 119)) 23 (f 118)) 22 (f 117)) 21 (f 116)) 20 (f 115)) 19 (f 114)) 18 (f 113)) 17 (f 112)) 16 (up (up (f 16) 0 (f 111 0)) 7 (f 111 7))) 29 (f 124)) 28 (f 123)) 27 (f 122)) 26 (up (f 26) 0 (f 121 0))) 50 (up (f 50) 0 0)) 0 (up (up (f 0) 16 0) 17 4294967294)) 34 (up (f 34) 2 0)) 134 (up (f 134) 0 0)) hC (Sm.tw (Sm.tw (Sm.tw (Sm.tw Sm.rf hSz949 (by decide)) hSz955 (by decide)) hSz961 (by decide)) hSz967 (by decide)) ⟨by decide, by decide⟩ (d1_cons (hBz966.1 134 (by decide) (by decide) (by decide)) (d1_cons (hBz966.1 34 (by decide) (by decide) (by decide)) (d1_cons (hBz966.1 0 (by decide) (by decide) (by decide)) (d1_cons (Sm.at hSz967 (by decide) (hBz960.1 50 (by decide) (by decide) (by decide))) (d1_cons (Sm.at hSz967 (by decide) (Sm.at hSz961 (by decide) (hBz954.get 0 rfl))) (d1_cons (Sm.at hSz967 (by decide) (Sm.at hSz961 (by decide) (hBz954.get 1 rfl))) (d1_cons (Sm.at hSz967 (by decide) (Sm.at hSz961 (by decide) (hBz954.get 2 rfl))) (d1_cons (Sm.at hSz967 (by decide) (Sm.at hSz961 (by decide) (hBz954.get 3 rfl))) (d1_cons (Sm.at hSz967 (by decide) (Sm.at hSz961 (by decide) (Sm.at hSz955 (by decide) (hBz948.get 0 rfl)))) (d1_cons (Sm.at hSz967 (by decide) (Sm.at hSz961 (by decide) (Sm.at hSz955 (by decide) (hBz948.get 1 rfl)))) (d1_cons (Sm.at hSz967 (by decide) (Sm.at hSz961 (by decide) (Sm.at hSz955 (by decide) (hBz948.get 2 rfl)))) (d1_cons (Sm.at hSz967 (by decide) (Sm.at hSz961 (by decide) (Sm.at hSz955 (by decide) (hBz948.get 3 rfl)))) (d1_cons (Sm.at hSz967 (by decide) (Sm.at hSz961 (by decide) (Sm.at hSz955 (by decide) (hBz948.get 4 rfl)))) (d1_cons (Sm.at hSz967 (by decide) (Sm.at hSz961 (by decide) (Sm.at hSz955 (by decide) (hBz948.get 5 rfl)))) (d1_cons (Sm.at hSz967 (by decide) (Sm.at hSz961 (by decide) (Sm.at hSz955 (by decide) (hBz948.get 6 rfl)))) (d1_cons (Sm.at hSz967 (by decide) (Sm.at hSz961 (by decide) (Sm.at hSz955 (by decide) (hBz948.get 7 rfl)))) (d1_cons (Sm.at hSz967 (by decide) (Sm.at hSz961 (by decide) (Sm.at hSz955 (by decide) (hBz948.get 8 rfl)))) (d1_cons (Sm.at hSz967 (by decide) (Sm.at hSz961 (by decide) (Sm.at hSz955 (by decide) (hBz948.get 9 rfl)))) d1_nil)))))))))))))))))) (fs_c (fs_c (fs_c (fs_c (fs_c (fs_c (fs_c (fs_c (fs_c (fs_c (fs_c (fs_c (fs_c (fs_c (fs_c (fs_c (fs_c (fs_c fs_n))))))))))))))))))), (Smc.of (S := [134, 34, 0, 50, 26, 27, 28, 29, 16, 17, 18, 19, 20, 21, 22, 23, 24, 25]) (Sm.tw (Sm.tw (Sm.tw (Sm.tw Sm.rf hSz949 (by decide)) hSz955 (by decide)) hSz961 (by decide)) hSz967 (by decide)) (by decide)), CInv.chg (⟨hI.tl, hI.tx, hI.kg.2, hI.kt.2, hI.bef, hI.grn, hI.mvd, Nat.zero_le _, hI.hen, hI.past, hI.lln, hI.kh, hI.kg, hI.kt, hI.cst, hI.csw, hI.csr, hI.ost, hI.osw, hI.osr, hI.tst, hI.rkn, hI.fnd, hI.ofs⟩ : CBase L (kAgain 110 f))⟩)
  · -- 5 to 8
    exfalso
    rw [if_neg hk] at c5; cases c5

set_option maxHeartbeats 4000000 in
set_option maxRecDepth 100000 in
theorem c_againE1 (Mq : zM) (f : Nat → Nat → Nat) (L : Nat) (hC : CC Mq f) (hI : CInv L f) (hk : f 110 0 = 0) : Zm 3 zm_CG_again [.ref 0, .int 1] Mq (fun r9 M1 => r9 = some (.int 0) ∧ M1 = Mq) := by
  show Zw 3 zm_CG_again 0 [some (.ref 0), some (.int 1)] [] Mq _
  obtain ⟨gk, tk, htk, h94, hgk⟩ := hC.2.2
  refine zw_n 2 rfl ?_
  refine zw_callV (as := [.int 1]) (rest := []) rfl rfl rfl (hC.1 0 (by decide) (by decide) (by decide)) rfl rfl rfl (by decide) (c_isKept1 Mq f L hC hI) (fun rz971 Mz972 hz973 => ?_)
  rw [hz973.1, hz973.2]
  show Zw 3 zm_CG_again 5 [some (.ref 0), some (.int 1)] [.int (nI (if f 110 0 = 0 then 0 else 1))] Mq _
  refine zw_ne0N (a := if f 110 0 = 0 then 0 else 1) rfl rfl (by split <;> decide) (fun c5 => ?_) (fun c5 => ?_)
  · -- 5 to 10
    exfalso
    rw [if_pos hk] at c5; exact c5 rfl
  · -- 5 to 8
    refine zw_n 1 rfl ?_
    exact zw_zret rfl rfl (Or.inl rfl) (⟨rfl, rfl⟩)

set_option maxHeartbeats 4000000 in
set_option maxRecDepth 100000 in
theorem c_againNo (Mq : zM) (f : Nat → Nat → Nat) (L : Nat) (hC : CC Mq f) (hI : CInv L f) (x : Int32) (hx : ¬ (0 ≤ x.toInt ∧ x.toInt < 2)) : Zm 3 zm_CG_again [.ref 0, .int x] Mq (fun r9 M1 => r9 = some (.int 0) ∧ M1 = Mq) := by
  show Zw 3 zm_CG_again 0 [some (.ref 0), some (.int x)] [] Mq _
  obtain ⟨gk, tk, htk, h94, hgk⟩ := hC.2.2
  refine zw_n 2 rfl ?_
  refine zw_callV (as := [.int x]) (rest := []) rfl rfl rfl (hC.1 0 (by decide) (by decide) (by decide)) rfl rfl rfl (by decide) (c_isKeptNo Mq f L hC hI x hx) (fun rz974 Mz975 hz976 => ?_)
  rw [hz976.1, hz976.2]
  show Zw 3 zm_CG_again 5 [some (.ref 0), some (.int x)] [.int 0] Mq _
  refine zw_if rfl ?_
  show Zw 3 zm_CG_again 8 [some (.ref 0), some (.int x)] [] Mq _
  refine zw_n 1 rfl ?_
  exact zw_zret rfl rfl (Or.inl rfl) (⟨rfl, rfl⟩)
