set_option maxHeartbeats 4000000 in
set_option maxRecDepth 100000 in
theorem c_growNo (Mq : zM) (f : Nat → Nat → Nat) (L : Nat) (hC : CC Mq f) (hI : CInv L f) (x : Int32) (hx : ¬ (0 ≤ x.toInt ∧ x.toInt ≤ 999999)) : Zm 98 zm_CG_grow [.ref 0, .int x] Mq (fun r9 M1 => r9 = some (.int (-1)) ∧ M1 = Mq) := by
  show Zw 98 zm_CG_grow 0 [some (.ref 0), some (.int x)] [] Mq _
  refine zw_n 1 rfl ?_
  refine zw_lt0Z (a := x.toInt) rfl (rfl) (fun c1 => ?_) (fun c1 => ?_)
  · -- 1 to 11
    refine zw_n 1 rfl ?_
    exact zw_iret rfl rfl (⟨rfl, rfl⟩)
  · -- 1 to 4
    refine zw_n 2 rfl ?_
    refine zw_ileZ (a := x.toInt) (b := 999999) rfl (rfl) (by decide) (fun c8 => ?_) (fun c8 => ?_)
    · -- 8 to 13
      exfalso
      omega
    · -- 8 to 11
      refine zw_n 1 rfl ?_
      exact zw_iret rfl rfl (⟨rfl, rfl⟩)

set_option maxHeartbeats 4000000 in
set_option maxRecDepth 100000 in
theorem c_growOk (Mq : zM) (f : Nat → Nat → Nat) (L : Nat) (hC : CC Mq f) (hI : CInv L f) (hL2 : 240 < L) (x : Nat) (hx : x < 1000000) : Zm 98 zm_CG_grow [.ref 0, .int (nI x)] Mq (fun r9 M1 => (∃ t, grR (gE (f 18) (f 19) (f 21) (f 20) (f 22) (f 23) (f 24)) (f 16 0) x = some t ∧ r9 = some (.int (nI t.2.1)) ∧ ∃ f9, CC M1 f9 ∧ Smc Mq M1 ∧ CInv (L + 1) f9 ∧ ActS f f9 ∧ f9 26 0 = t.2.1 ∧ ∀ q, q < t.2.1 → f9 27 q = t.2.2.1 q ∧ f9 28 q = t.2.2.2.1 q ∧ f9 29 q = t.2.2.2.2 q) ∨ (grR (gE (f 18) (f 19) (f 21) (f 20) (f 22) (f 23) (f 24)) (f 16 0) x = none ∧ r9 = some (.int (-3)) ∧ ∃ f9, CC M1 f9 ∧ Smc Mq M1 ∧ CInv (L + 1) f9 ∧ Asame f f9)) := by
  show Zw 98 zm_CG_grow 0 [some (.ref 0), some (.int (nI x))] [] Mq _
  refine zw_n 1 rfl ?_
  refine zw_lt0N (a := x) rfl rfl (by omega) ?_
  refine zw_n 2 rfl ?_
  refine zw_ileN (a := x) (b := 999999) rfl rfl rfl (by omega) (by omega) (fun c8 => ?_) (fun c8 => ?_)
  · -- 8 to 13
    refine zw_n 1 rfl ?_
    refine zw_get (v := .ref 45) rfl (hC.1 0 (by decide) (by decide) (by decide)) rfl ?_
    refine zw_n 1 rfl ?_
    refine zw_callV (as := [.int (nI x)]) (rest := []) rfl rfl rfl (hC.1 45 (by decide) (by decide) (by decide)) rfl rfl rfl (by decide) (c_growFrom Mq L (f 16 0) (f 16 7) (f 17) (f 18) (f 19) (f 20) (f 21) (f 22) (f 23) (f 24) (f 25) (seg10 (hC.1 16 (by decide) (by decide) (by decide)) (hC.1 17 (by decide) (by decide) (by decide)) (hC.1 18 (by decide) (by decide) (by decide)) (hC.1 19 (by decide) (by decide) (by decide)) (hC.1 20 (by decide) (by decide) (by decide)) (hC.1 21 (by decide) (by decide) (by decide)) (hC.1 22 (by decide) (by decide) (by decide)) (hC.1 23 (by decide) (by decide) (by decide)) (hC.1 24 (by decide) (by decide) (by decide)) (hC.1 25 (by decide) (by decide) (by decide))) hI.gram.safe hI.gram.sfr hI.gram.saf (fun x9 h9 => ⟨(hI.gram.prt x9 h9).1, fun q9 => ((hI.gram.prt x9 h9).2 q9).1⟩) hI.gram.al1 hL2 (f 45 2) (f 46 0) (f 47) (f 48) (f 49) (hC.1 45 (by decide) (by decide) (by decide)) (seg4 (hC.1 46 (by decide) (by decide) (by decide)) (hC.1 47 (by decide) (by decide) (by decide)) (hC.1 48 (by decide) (by decide) (by decide)) (hC.1 49 (by decide) (by decide) (by decide))) hI.grn.1 hI.grn.2 x (by omega)) (fun rz5995 Mz5996 hz5997 => ?_)
    rcases hz5997 with hz5997a | hz5997b
    · skip
      obtain ⟨tz5979, sgz5980, liz5981, coz5982, hRz5983, hAz5984, hHz5985, hSz5986⟩ := hz5997a
      rw [hAz5984]
      show Zw 98 zm_CG_grow 21 [some (.ref 0), some (.int (nI x))] [.int 1] Mz5996 _
      refine zw_if rfl ?_
      show Zw 98 zm_CG_grow 27 [some (.ref 0), some (.int (nI x))] [] Mz5996 _
      refine zw_n 1 rfl ?_
      refine zw_get (v := .ref 30) rfl (Sm.at hSz5986 (by decide) (hC.1 0 (by decide) (by decide) (by decide))) rfl ?_
      refine zw_n 1 rfl ?_
      refine zw_get (v := .ref 26) rfl (Sm.at hSz5986 (by decide) (hC.1 0 (by decide) (by decide) (by decide))) rfl ?_
      refine zw_callV (as := [.ref 26]) (rest := []) rfl rfl rfl (Sm.at hSz5986 (by decide) (hC.1 30 (by decide) (by decide) (by decide))) rfl rfl rfl (by decide) (c_copyTok Mz5996 30 26 (f 30 0) (f 31) (f 32) (f 33) (seg4 (Sm.at hSz5986 (by decide) (hC.1 30 (by decide) (by decide) (by decide))) (Sm.at hSz5986 (by decide) (hC.1 31 (by decide) (by decide) (by decide))) (Sm.at hSz5986 (by decide) (hC.1 32 (by decide) (by decide) (by decide))) (Sm.at hSz5986 (by decide) (hC.1 33 (by decide) (by decide) (by decide)))) (f 26 0) (f 27) (f 28) (f 29) (seg4 (Sm.at hSz5986 (by decide) (hC.1 26 (by decide) (by decide) (by decide))) (Sm.at hSz5986 (by decide) (hC.1 27 (by decide) (by decide) (by decide))) (Sm.at hSz5986 (by decide) (hC.1 28 (by decide) (by decide) (by decide))) (Sm.at hSz5986 (by decide) (hC.1 29 (by decide) (by decide) (by decide)))) (by omega)) (fun rz6001 Mz6002 hz6003 => ?_)
      obtain ⟨hAz5998, hBz5999, hSz6000⟩ := hz6003
      rw [hAz5998]
      show Zw 98 zm_CG_grow 38 [some (.ref 0), some (.int (nI x))] [] Mz6002 _
      refine zw_n 1 rfl ?_
      refine zw_get (v := .ref 26) rfl (Sm.at hSz6000 (by decide) (Sm.at hSz5986 (by decide) (hC.1 0 (by decide) (by decide) (by decide)))) rfl ?_
      refine zw_n 1 rfl ?_
      refine zw_get (v := .ref 45) rfl (Sm.at hSz6000 (by decide) (Sm.at hSz5986 (by decide) (hC.1 0 (by decide) (by decide) (by decide)))) rfl ?_
      refine zw_get (v := .ref 46) rfl (Sm.at hSz6000 (by decide) hHz5985.1) rfl ?_
      refine zw_callV (as := [.ref 46]) (rest := []) rfl rfl rfl (Sm.at hSz6000 (by decide) (Sm.at hSz5986 (by decide) (hC.1 26 (by decide) (by decide) (by decide)))) rfl rfl rfl (by decide) (c_copyTok Mz6002 26 46 (f 26 0) (f 27) (f 28) (f 29) (seg4 (Sm.at hSz6000 (by decide) (Sm.at hSz5986 (by decide) (hC.1 26 (by decide) (by decide) (by decide)))) (Sm.at hSz6000 (by decide) (Sm.at hSz5986 (by decide) (hC.1 27 (by decide) (by decide) (by decide)))) (Sm.at hSz6000 (by decide) (Sm.at hSz5986 (by decide) (hC.1 28 (by decide) (by decide) (by decide)))) (Sm.at hSz6000 (by decide) (Sm.at hSz5986 (by decide) (hC.1 29 (by decide) (by decide) (by decide))))) tz5979.2.1 sgz5980 liz5981 coz5982 (seg4 (Sm.at hSz6000 (by decide) (hHz5985.2.1.get 0 rfl)) (Sm.at hSz6000 (by decide) (hHz5985.2.1.get 1 rfl)) (Sm.at hSz6000 (by decide) (hHz5985.2.1.get 2 rfl)) (Sm.at hSz6000 (by decide) (hHz5985.2.1.get 3 rfl))) (by omega)) (fun rz6007 Mz6008 hz6009 => ?_)
      obtain ⟨hAz6004, hBz6005, hSz6006⟩ := hz6009
      rw [hAz6004]
      show Zw 98 zm_CG_grow 52 [some (.ref 0), some (.int (nI x))] [] Mz6008 _
      refine zw_n 2 rfl ?_
      refine zw_get (v := .ref 26) rfl (Sm.at hSz6006 (by decide) (Sm.at hSz6000 (by decide) (Sm.at hSz5986 (by decide) (hC.1 0 (by decide) (by decide) (by decide))))) rfl ?_
      refine zw_get (v := .int (nI tz5979.2.1)) rfl (hBz6005.get 0 rfl) rfl ?_
      refine zw_callV (as := [.int (nI tz5979.2.1)]) (rest := []) rfl rfl rfl (Sm.at hSz6006 (by decide) (Sm.at hSz6000 (by decide) (Sm.at hSz5986 (by decide) (hC.1 0 (by decide) (by decide) (by decide))))) rfl rfl rfl (by decide) (c_acted Mz6008 (fset (fset (fset (fset (fset (fset (fset (fset (fset (fset (fset (fset (fset f 49 coz5982) 48 liz5981) 47 sgz5980) 46 (up (f 46) 0 tz5979.2.1)) 45 (up (f 45) 2 tz5979.1)) 33 (f 29)) 32 (f 28)) 31 (f 27)) 30 (up (f 30) 0 (f 26 0))) 29 coz5982) 28 liz5981) 27 sgz5980) 26 (up (f 26) 0 tz5979.2.1)) (CC.of (f' := fset (fset (fset (fset (fset (fset (fset (fset (fset (fset (fset (fset (fset f 49 coz5982) 48 liz5981) 47 sgz5980) 46 (up (f 46) 0 tz5979.2.1)) 45 (up (f 45) 2 tz5979.1)) 33 (f 29)) 32 (f 28)) 31 (f 27)) 30 (up (f 30) 0 (f 26 0))) 29 coz5982) 28 liz5981) 27 sgz5980) 26 (up (f 26) 0 tz5979.2.1)) hC (Sm.tw (Sm.tw (Sm.tw Sm.rf hSz5986 (by decide)) hSz6000 (by decide)) hSz6006 (by decide)) ⟨by decide, by decide⟩ (d1_cons (hBz6005.get 0 rfl) (d1_cons (hBz6005.get 1 rfl) (d1_cons (hBz6005.get 2 rfl) (d1_cons (hBz6005.get 3 rfl) (d1_cons (Sm.at hSz6006 (by decide) (hBz5999.get 0 rfl)) (d1_cons (Sm.at hSz6006 (by decide) (hBz5999.get 1 rfl)) (d1_cons (Sm.at hSz6006 (by decide) (hBz5999.get 2 rfl)) (d1_cons (Sm.at hSz6006 (by decide) (hBz5999.get 3 rfl)) (d1_cons (Sm.at hSz6006 (by decide) (Sm.at hSz6000 (by decide) hHz5985.1)) (d1_cons (Sm.at hSz6006 (by decide) (Sm.at hSz6000 (by decide) (hHz5985.2.1.get 0 rfl))) (d1_cons (Sm.at hSz6006 (by decide) (Sm.at hSz6000 (by decide) (hHz5985.2.1.get 1 rfl))) (d1_cons (Sm.at hSz6006 (by decide) (Sm.at hSz6000 (by decide) (hHz5985.2.1.get 2 rfl))) (d1_cons (Sm.at hSz6006 (by decide) (Sm.at hSz6000 (by decide) (hHz5985.2.1.get 3 rfl))) d1_nil))))))))))))) (fs_c (fs_c (fs_c (fs_c (fs_c (fs_c (fs_c (fs_c (fs_c (fs_c (fs_c (fs_c (fs_c fs_n)))))))))))))) hI.hsz hI.hen (nI tz5979.2.1)) (fun rz6013 Mz6014 hz6015 => ?_)
      obtain ⟨hAz6010, hPz6011, hNz6012⟩ := hz6015
      rw [hAz6010]
      show Zw 98 zm_CG_grow 63 [some (.ref 0), some (.int (nI x))] [.int (nI tz5979.2.1)] Mz6014 _
      refine zw_iret rfl rfl ?_
      have hc9 := hHz5985.2.2.1.1
      obtain ⟨hcc9, hsm9⟩ := hPz6011 (by rw [nI_toInt (by omega)]; omega)
      have hb9 := act_tok (f1 := fset (fset (fset (fset (fset (fset (fset (fset (fset (fset (fset (fset (fset f 49 coz5982) 48 liz5981) 47 sgz5980) 46 (up (f 46) 0 tz5979.2.1)) 45 (up (f 45) 2 tz5979.1)) 33 (f 29)) 32 (f 28)) 31 (f 27)) 30 (up (f 30) 0 (f 26 0))) 29 coz5982) 28 liz5981) 27 sgz5980) 26 (up (f 26) 0 tz5979.2.1)) hI.hen
      exact Or.inl ⟨tz5979, hRz5983, rfl, chg (hRem (fset (fset (fset (fset (fset (fset (fset (fset (fset (fset (fset (fset (fset f 49 coz5982) 48 liz5981) 47 sgz5980) 46 (up (f 46) 0 tz5979.2.1)) 45 (up (f 45) 2 tz5979.1)) 33 (f 29)) 32 (f 28)) 31 (f 27)) 30 (up (f 30) 0 (f 26 0))) 29 coz5982) 28 liz5981) 27 sgz5980) 26 (up (f 26) 0 tz5979.2.1))), hcc9, Smc.tr (Smc.of (S := [26, 27, 28, 29, 30, 31, 32, 33, 45, 46, 47, 48, 49]) (Sm.tw (Sm.tw (Sm.tw Sm.rf hSz5986 (by decide)) hSz6000 (by decide)) hSz6006 (by decide)) (by decide)) hsm9, CInv.mono (CInv.chg (CBase.hrem (⟨hI.tl, hI.tx, hI.gram, TOK.grown hHz5985.2.2.2.2.2 hHz5985.2.2.1 hHz5985.2.2.2.1 hHz5985.2.2.2.2.1, hI.tok.any, ⟨hHz5985.2.2.1, hHz5985.2.2.2.1⟩, hI.mvd, hI.hsz, hI.hen, hI.past, hI.lln, hI.kh, hI.kg, hI.kt, hI.cst, hI.csw, hI.csr, hI.ost, hI.osw, hI.osr, hI.tst, hI.rkn, hI.fnd, hI.ofs⟩ : CBase L (fset (fset (fset (fset (fset (fset (fset (fset (fset (fset (fset (fset (fset f 49 coz5982) 48 liz5981) 47 sgz5980) 46 (up (f 46) 0 tz5979.2.1)) 45 (up (f 45) 2 tz5979.1)) 33 (f 29)) 32 (f 28)) 31 (f 27)) 30 (up (f 30) 0 (f 26 0))) 29 coz5982) 28 liz5981) 27 sgz5980) 26 (up (f 26) 0 tz5979.2.1))) hI.tok)) (Nat.le_succ _), ActS.bas (ActS.of (f := fset (fset (fset (fset (fset f 49 coz5982) 48 liz5981) 47 sgz5980) 46 (up (f 46) 0 tz5979.2.1)) 45 (up (f 45) 2 tz5979.1)) hI.hen (act_out (S := [26, 27, 28, 29, 30, 31, 32, 33]) (fs_c (fs_c (fs_c (fs_c (fs_c (fs_c (fs_c (fs_c fs_n)))))))) (by decide)) ⟨rfl, rfl, rfl, rfl⟩) (fun a ha => by rw [fset_n (by omega), fset_n (by omega), fset_n (by omega), fset_n (by omega), fset_n (by omega)]), by rw [hb9.1]; rfl, fun q hq => by rw [hb9.2.1, hb9.2.2.1, hb9.2.2.2]; exact hHz5985.2.2.2.2.1 q hq⟩
    · skip
      obtain ⟨tz5987, sgz5988, liz5989, coz5990, hRz5991, hAz5992, hHz5993, hSz5994⟩ := hz5997b
      rw [hAz5992]
      show Zw 98 zm_CG_grow 21 [some (.ref 0), some (.int (nI x))] [.int 0] Mz5996 _
      refine zw_if rfl ?_
      show Zw 98 zm_CG_grow 24 [some (.ref 0), some (.int (nI x))] [] Mz5996 _
      refine zw_n 1 rfl ?_
      exact zw_iret rfl rfl (Or.inr ⟨hRz5991, rfl, fset (fset (fset (fset (fset f 49 coz5990) 48 liz5989) 47 sgz5988) 46 (up (f 46) 0 tz5987.2.1)) 45 (up (f 45) 2 tz5987.1), CC.of (f' := fset (fset (fset (fset (fset f 49 coz5990) 48 liz5989) 47 sgz5988) 46 (up (f 46) 0 tz5987.2.1)) 45 (up (f 45) 2 tz5987.1)) (S := [45, 46, 47, 48, 49]) hC hSz5994 ⟨by decide, by decide⟩ (d1_cons hHz5993.1 (d1_cons (hHz5993.2.1.get 0 rfl) (d1_cons (hHz5993.2.1.get 1 rfl) (d1_cons (hHz5993.2.1.get 2 rfl) (d1_cons (hHz5993.2.1.get 3 rfl) d1_nil))))) (fs_c (fs_c (fs_c (fs_c (fs_c fs_n))))), Smc.of (S := [45, 46, 47, 48, 49]) hSz5994 (by decide), CInv.mono ⟨⟨hI.tl, hI.tx, hI.gram, hI.tok, hI.bef, ⟨hHz5993.2.2.1, hHz5993.2.2.2.1⟩, hI.mvd, hI.hsz, hI.hen, hI.past, hI.lln, hI.kh, hI.kg, hI.kt, hI.cst, hI.csw, hI.csr, hI.ost, hI.osw, hI.osr, hI.tst, hI.rkn, hI.fnd, hI.ofs⟩, hI.cok, hI.blm, hI.tre, hI.rep⟩ (Nat.le_succ _), Asame.of (S := [45, 46, 47, 48, 49]) (fs_c (fs_c (fs_c (fs_c (fs_c fs_n))))) rfl (by decide)⟩)
  · -- 8 to 11
    exfalso
    omega
