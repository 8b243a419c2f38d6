set_option maxHeartbeats 4000000 in
set_option maxRecDepth 100000 in
theorem c_signNo (Mq : zM) (f : Nat → Nat → Nat) (L : Nat) (hC : CC Mq f) (hI : CInv L f) (x : Int32) (hx : 240 < f 0 1 + 4) : Zm 0 zm_CG_sign [.ref 0, .int x] Mq (fun r9 M1 => r9 = some (.int (-1)) ∧ M1 = Mq) := by
  show Zw 0 zm_CG_sign 0 [some (.ref 0), some (.int x), none] [] Mq _
  have htl := hI.tl
  refine zw_n 1 rfl ?_
  refine zw_get (v := .int (nI (f 0 1))) rfl (hC.1 0 (by decide) (by decide) (by decide)) rfl ?_
  refine zw_n 2 rfl ?_
  refine zw_top (na (a := f 0 1) (b := 4) rfl rfl) ?_
  refine zw_n 1 rfl ?_
  refine zw_ileN (a := (f 0 1) + 4) (b := 240) rfl rfl rfl (by omega) (by omega) (fun c9 => ?_) (fun c9 => ?_)
  · -- 9 to 14
    exfalso
    omega
  · -- 9 to 12
    refine zw_n 1 rfl ?_
    exact zw_iret rfl rfl (⟨rfl, rfl⟩)

set_option maxHeartbeats 4000000 in
set_option maxRecDepth 100000 in
theorem c_signOk (Mq : zM) (f : Nat → Nat → Nat) (L : Nat) (hC : CC Mq f) (hI : CInv L f) (x : Int32) (hx : f 0 1 + 4 ≤ 240) : Zm 0 zm_CG_sign [.ref 0, .int x] Mq (fun r9 M1 => r9 = some (.int (nI (f 0 1 + 4))) ∧ CC M1 (fset (fset f 1 (up (up (up (up (f 1) (f 0 1) (byt x 24)) (f 0 1 + 1) (byt x 16)) (f 0 1 + 1 + 1) (byt x 8)) (f 0 1 + 1 + 1 + 1) (byt x 0))) 0 (up (f 0) 1 (f 0 1 + 1 + 1 + 1 + 1))) ∧ Smc Mq M1 ∧ CInv L (fset (fset f 1 (up (up (up (up (f 1) (f 0 1) (byt x 24)) (f 0 1 + 1) (byt x 16)) (f 0 1 + 1 + 1) (byt x 8)) (f 0 1 + 1 + 1 + 1) (byt x 0))) 0 (up (f 0) 1 (f 0 1 + 1 + 1 + 1 + 1)))) := by
  show Zw 0 zm_CG_sign 0 [some (.ref 0), some (.int x), none] [] Mq _
  have htl := hI.tl
  refine zw_n 1 rfl ?_
  refine zw_get (v := .int (nI (f 0 1))) rfl (hC.1 0 (by decide) (by decide) (by decide)) rfl ?_
  refine zw_n 2 rfl ?_
  refine zw_top (na (a := f 0 1) (b := 4) rfl rfl) ?_
  refine zw_n 1 rfl ?_
  refine zw_ileN (a := (f 0 1) + 4) (b := 240) rfl rfl rfl (by omega) (by omega) (fun c9 => ?_) (fun c9 => ?_)
  · -- 9 to 14
    refine zw_n 3 (ls' := [some (.ref 0), some (.int x), some (.int 24)]) rfl ?_
    refine zw_if rfl ?_
    show Zw 0 zm_CG_sign 21 [some (.ref 0), some (.int x), some (.int 24)] [] Mq _
    refine zw_n 1 rfl ?_
    refine zw_get (v := .ref 1) rfl (hC.1 0 (by decide) (by decide) (by decide)) rfl ?_
    refine zw_n 1 rfl ?_
    refine zw_get (v := .int (nI (f 0 1))) rfl (hC.1 0 (by decide) (by decide) (by decide)) rfl ?_
    refine zw_n 5 rfl ?_
    refine zw_top (x' := (nI (byt x 24))) (byte_c _ _) ?_
    refine zw_iastN (g := (f 1)) (j := (f 0 1)) (v := (byt x 24)) rfl (hC.1 1 (by decide) (by decide) (by decide)) rfl (by decide) (by omega) (rfl) ?_
    generalize ez795 : List.set Mq 1 _ = Mz794
    refine zw_n 2 rfl ?_
    refine zw_get (v := .int (nI (f 0 1))) rfl (zat_set ez795 (by decide) (hC.1 0 (by decide) (by decide) (by decide))) rfl ?_
    refine zw_n 2 rfl ?_
    refine zw_top (na (a := f 0 1) (b := 1) rfl rfl) ?_
    refine zw_put rfl (zat_set ez795 (by decide) (hC.1 0 (by decide) (by decide) (by decide))) (rfl) (Nat.le_of_ble_eq_true rfl) ?_
    generalize ez797 : List.set Mz794 0 _ = Mz796
    refine zw_n 3 (ls' := [some (.ref 0), some (.int x), some (.int 16)]) rfl ?_
    refine zw_if rfl ?_
    show Zw 0 zm_CG_sign 21 [some (.ref 0), some (.int x), some (.int 16)] [] Mz796 _
    refine zw_n 1 rfl ?_
    refine zw_get (v := .ref 1) rfl (zat_self ez797 (zat_set ez795 (by decide) (hC.1 0 (by decide) (by decide) (by decide)))) rfl ?_
    refine zw_n 1 rfl ?_
    refine zw_get (v := .int (nI ((f 0 1) + 1))) rfl (zat_self ez797 (zat_set ez795 (by decide) (hC.1 0 (by decide) (by decide) (by decide)))) rfl ?_
    refine zw_n 5 rfl ?_
    refine zw_top (x' := (nI (byt x 16))) (byte_c _ _) ?_
    refine zw_iastN (g := (up (f 1) (f 0 1) (byt x 24))) (j := ((f 0 1) + 1)) (v := (byt x 16)) rfl (zat_set ez797 (by decide) (zat_self ez795 (hC.1 1 (by decide) (by decide) (by decide)))) rfl (by decide) (by omega) (rfl) ?_
    generalize ez799 : List.set Mz796 1 _ = Mz798
    refine zw_n 2 rfl ?_
    refine zw_get (v := .int (nI ((f 0 1) + 1))) rfl (zat_set ez799 (by decide) (zat_self ez797 (zat_set ez795 (by decide) (hC.1 0 (by decide) (by decide) (by decide))))) rfl ?_
    refine zw_n 2 rfl ?_
    refine zw_top (na (a := (f 0 1) + 1) (b := 1) rfl rfl) ?_
    refine zw_put rfl (zat_set ez799 (by decide) (zat_self ez797 (zat_set ez795 (by decide) (hC.1 0 (by decide) (by decide) (by decide))))) (rfl) (Nat.le_of_ble_eq_true rfl) ?_
    generalize ez801 : List.set Mz798 0 _ = Mz800
    refine zw_n 3 (ls' := [some (.ref 0), some (.int x), some (.int 8)]) rfl ?_
    refine zw_if rfl ?_
    show Zw 0 zm_CG_sign 21 [some (.ref 0), some (.int x), some (.int 8)] [] Mz800 _
    refine zw_n 1 rfl ?_
    refine zw_get (v := .ref 1) rfl (zat_self ez801 (zat_set ez799 (by decide) (zat_self ez797 (zat_set ez795 (by decide) (hC.1 0 (by decide) (by decide) (by decide)))))) rfl ?_
    refine zw_n 1 rfl ?_
    refine zw_get (v := .int (nI (((f 0 1) + 1) + 1))) rfl (zat_self ez801 (zat_set ez799 (by decide) (zat_self ez797 (zat_set ez795 (by decide) (hC.1 0 (by decide) (by decide) (by decide)))))) rfl ?_
    refine zw_n 5 rfl ?_
    refine zw_top (x' := (nI (byt x 8))) (byte_c _ _) ?_
    refine zw_iastN (g := (up (up (f 1) (f 0 1) (byt x 24)) ((f 0 1) + 1) (byt x 16))) (j := (((f 0 1) + 1) + 1)) (v := (byt x 8)) rfl (zat_set ez801 (by decide) (zat_self ez799 (zat_set ez797 (by decide) (zat_self ez795 (hC.1 1 (by decide) (by decide) (by decide)))))) rfl (by decide) (by omega) (rfl) ?_
    generalize ez803 : List.set Mz800 1 _ = Mz802
    refine zw_n 2 rfl ?_
    refine zw_get (v := .int (nI (((f 0 1) + 1) + 1))) rfl (zat_set ez803 (by decide) (zat_self ez801 (zat_set ez799 (by decide) (zat_self ez797 (zat_set ez795 (by decide) (hC.1 0 (by decide) (by decide) (by decide))))))) rfl ?_
    refine zw_n 2 rfl ?_
    refine zw_top (na (a := ((f 0 1) + 1) + 1) (b := 1) rfl rfl) ?_
    refine zw_put rfl (zat_set ez803 (by decide) (zat_self ez801 (zat_set ez799 (by decide) (zat_self ez797 (zat_set ez795 (by decide) (hC.1 0 (by decide) (by decide) (by decide))))))) (rfl) (Nat.le_of_ble_eq_true rfl) ?_
    generalize ez805 : List.set Mz802 0 _ = Mz804
    refine zw_n 3 (ls' := [some (.ref 0), some (.int x), some (.int 0)]) rfl ?_
    refine zw_if rfl ?_
    show Zw 0 zm_CG_sign 21 [some (.ref 0), some (.int x), some (.int 0)] [] Mz804 _
    refine zw_n 1 rfl ?_
    refine zw_get (v := .ref 1) rfl (zat_self ez805 (zat_set ez803 (by decide) (zat_self ez801 (zat_set ez799 (by decide) (zat_self ez797 (zat_set ez795 (by decide) (hC.1 0 (by decide) (by decide) (by decide)))))))) rfl ?_
    refine zw_n 1 rfl ?_
    refine zw_get (v := .int (nI ((((f 0 1) + 1) + 1) + 1))) rfl (zat_self ez805 (zat_set ez803 (by decide) (zat_self ez801 (zat_set ez799 (by decide) (zat_self ez797 (zat_set ez795 (by decide) (hC.1 0 (by decide) (by decide) (by decide)))))))) rfl ?_
    refine zw_n 5 rfl ?_
    refine zw_top (x' := (nI (byt x 0))) (byte_c _ _) ?_
    refine zw_iastN (g := (up (up (up (f 1) (f 0 1) (byt x 24)) ((f 0 1) + 1) (byt x 16)) (((f 0 1) + 1) + 1) (byt x 8))) (j := ((((f 0 1) + 1) + 1) + 1)) (v := (byt x 0)) rfl (zat_set ez805 (by decide) (zat_self ez803 (zat_set ez801 (by decide) (zat_self ez799 (zat_set ez797 (by decide) (zat_self ez795 (hC.1 1 (by decide) (by decide) (by decide)))))))) rfl (by decide) (by omega) (rfl) ?_
    generalize ez807 : List.set Mz804 1 _ = Mz806
    refine zw_n 2 rfl ?_
    refine zw_get (v := .int (nI ((((f 0 1) + 1) + 1) + 1))) rfl (zat_set ez807 (by decide) (zat_self ez805 (zat_set ez803 (by decide) (zat_self ez801 (zat_set ez799 (by decide) (zat_self ez797 (zat_set ez795 (by decide) (hC.1 0 (by decide) (by decide) (by decide))))))))) rfl ?_
    refine zw_n 2 rfl ?_
    refine zw_top (na (a := (((f 0 1) + 1) + 1) + 1) (b := 1) rfl rfl) ?_
    refine zw_put rfl (zat_set ez807 (by decide) (zat_self ez805 (zat_set ez803 (by decide) (zat_self ez801 (zat_set ez799 (by decide) (zat_self ez797 (zat_set ez795 (by decide) (hC.1 0 (by decide) (by decide) (by decide))))))))) (rfl) (Nat.le_of_ble_eq_true rfl) ?_
    generalize ez809 : List.set Mz806 0 _ = Mz808
    refine zw_n 3 (ls' := [some (.ref 0), some (.int x), some (.int (-8))]) rfl ?_
    refine zw_if rfl ?_
    show Zw 0 zm_CG_sign 53 [some (.ref 0), some (.int x), some (.int (-8))] [] Mz808 _
    refine zw_n 1 rfl ?_
    refine zw_get (v := .int (nI (((((f 0 1) + 1) + 1) + 1) + 1))) rfl (zat_self ez809 (zat_set ez807 (by decide) (zat_self ez805 (zat_set ez803 (by decide) (zat_self ez801 (zat_set ez799 (by decide) (zat_self ez797 (zat_set ez795 (by decide) (hC.1 0 (by decide) (by decide) (by decide)))))))))) rfl ?_
    exact zw_iret rfl rfl (⟨rfl, (CC.of (f' := fset (fset f 1 (up (up (up (up (f 1) (f 0 1) (byt x 24)) ((f 0 1) + 1) (byt x 16)) (((f 0 1) + 1) + 1) (byt x 8)) ((((f 0 1) + 1) + 1) + 1) (byt x 0))) 0 (up (f 0) 1 (((((f 0 1) + 1) + 1) + 1) + 1))) hC (Sm.tset (Sm.tset (Sm.tset (Sm.tset (Sm.tset (Sm.tset (Sm.tset (Sm.tset Sm.rf ez795 (by decide)) ez797 (by decide)) ez799 (by decide)) ez801 (by decide)) ez803 (by decide)) ez805 (by decide)) ez807 (by decide)) ez809 (by decide)) ⟨by decide, by decide⟩ (d1_cons (zat_self ez809 (zat_set ez807 (by decide) (zat_self ez805 (zat_set ez803 (by decide) (zat_self ez801 (zat_set ez799 (by decide) (zat_self ez797 (zat_set ez795 (by decide) (hC.1 0 (by decide) (by decide) (by decide)))))))))) (d1_cons (zat_set ez809 (by decide) (zat_self ez807 (zat_set ez805 (by decide) (zat_self ez803 (zat_set ez801 (by decide) (zat_self ez799 (zat_set ez797 (by decide) (zat_self ez795 (hC.1 1 (by decide) (by decide) (by decide)))))))))) d1_nil)) (fs_c (fs_c fs_n))), (Smc.of (S := [0, 1]) (Sm.tset (Sm.tset (Sm.tset (Sm.tset (Sm.tset (Sm.tset (Sm.tset (Sm.tset Sm.rf ez795 (by decide)) ez797 (by decide)) ez799 (by decide)) ez801 (by decide)) ez803 (by decide)) ez805 (by decide)) ez807 (by decide)) ez809 (by decide)) (by decide)), ⟨⟨(show f 0 1 + 1 + 1 + 1 + 1 ≤ 240 by omega), up_lt (up_lt (up_lt (up_lt hI.tx (byt_lt _ _)) (byt_lt _ _)) (byt_lt _ _)) (byt_lt _ _), hI.gram, hI.tok, hI.bef, hI.grn, hI.mvd, hI.hsz, hI.hen, hI.past, hI.lln, hI.kh, hI.kg, hI.kt, hI.cst, hI.csw, hI.csr, hI.ost, hI.osw, hI.osr, hI.tst, hI.rkn, hI.fnd, hI.ofs⟩, hI.cok, hI.blm, hI.tre, hI.rep⟩⟩)
  · -- 9 to 12
    exfalso
    omega

set_option maxHeartbeats 4000000 in
set_option maxRecDepth 100000 in
theorem c_endNo (Mq : zM) (f : Nat → Nat → Nat) (L : Nat) (hC : CC Mq f) (hI : CInv L f) (x : Int32) (hx : ¬ (0 ≤ x.toInt ∧ x.toInt ≤ f 0 1)) : Zm 0 zm_CG_end [.ref 0, .int x] Mq (fun r9 M1 => r9 = some (.int 0) ∧ M1 = Mq) := by
  show Zw 0 zm_CG_end 0 [some (.ref 0), some (.int x)] [] Mq _
  have htl := hI.tl
  refine zw_n 1 rfl ?_
  refine zw_lt0Z (a := x.toInt) rfl (rfl) (fun c1 => ?_) (fun c1 => ?_)
  · -- 1 to 12
    refine zw_n 1 rfl ?_
    exact zw_zret rfl rfl (Or.inl rfl) (⟨rfl, rfl⟩)
  · -- 1 to 4
    refine zw_n 2 rfl ?_
    refine zw_get (v := .int (nI (f 0 1))) rfl (hC.1 0 (by decide) (by decide) (by decide)) rfl ?_
    refine zw_ileZ (a := x.toInt) (b := ((f 0 1 : Nat) : Int)) rfl (rfl) (nI_toInt (by omega)) (fun c9 => ?_) (fun c9 => ?_)
    · -- 9 to 14
      exfalso
      omega
    · -- 9 to 12
      refine zw_n 1 rfl ?_
      exact zw_zret rfl rfl (Or.inl rfl) (⟨rfl, rfl⟩)

set_option maxHeartbeats 4000000 in
set_option maxRecDepth 100000 in
theorem c_endOk (Mq : zM) (f : Nat → Nat → Nat) (L : Nat) (hC : CC Mq f) (hI : CInv L f) (x : Nat) (hx : x ≤ f 0 1) : Zm 0 zm_CG_end [.ref 0, .int (nI x)] Mq (fun r9 M1 => r9 = some (.int 1) ∧ CC M1 (fset f 0 (up (f 0) 1 x)) ∧ Smc Mq M1 ∧ CInv L (fset f 0 (up (f 0) 1 x))) := by
  show Zw 0 zm_CG_end 0 [some (.ref 0), some (.int (nI x))] [] Mq _
  have htl := hI.tl
  refine zw_n 1 rfl ?_
  refine zw_lt0N (a := x) rfl rfl (by omega) ?_
  refine zw_n 2 rfl ?_
  refine zw_get (v := .int (nI (f 0 1))) rfl (hC.1 0 (by decide) (by decide) (by decide)) rfl ?_
  refine zw_ileN (a := x) (b := f 0 1) rfl rfl rfl (by omega) (by omega) (fun c9 => ?_) (fun c9 => ?_)
  · -- 9 to 14
    refine zw_n 2 rfl ?_
    refine zw_put rfl (hC.1 0 (by decide) (by decide) (by decide)) (rfl) (Nat.le_of_ble_eq_true rfl) ?_
    generalize ez811 : List.set Mq 0 _ = Mz810
    refine zw_n 1 rfl ?_
    exact zw_zret rfl rfl (Or.inr rfl) (⟨rfl, (CC.of (f' := fset f 0 (up (f 0) 1 x)) hC (Sm.tset Sm.rf ez811 (by decide)) ⟨by decide, by decide⟩ (d1_cons (zat_self ez811 (hC.1 0 (by decide) (by decide) (by decide))) d1_nil) (fs_c fs_n)), (Smc.of (S := [0]) (Sm.tset Sm.rf ez811 (by decide)) (by decide)), ⟨⟨(show x ≤ 240 by omega), hI.tx, hI.gram, hI.tok, hI.bef, hI.grn, hI.mvd, hI.hsz, hI.hen, hI.past, hI.lln, hI.kh, hI.kg, hI.kt, hI.cst, hI.csw, hI.csr, hI.ost, hI.osw, hI.osr, hI.tst, hI.rkn, hI.fnd, hI.ofs⟩, hI.cok, hI.blm, hI.tre, hI.rep⟩⟩)
  · -- 9 to 12
    exfalso
    omega

set_option maxHeartbeats 4000000 in
set_option maxRecDepth 100000 in
theorem c_undoNo (Mq : zM) (f : Nat → Nat → Nat) (L : Nat) (hC : CC Mq f) (hI : CInv L f) (hx : f 50 0 = 0) : Zm 3 zm_CG_undo [.ref 0] Mq (fun r9 M1 => r9 = some (.int (-3)) ∧ M1 = Mq) := by
  show Zw 3 zm_CG_undo 0 [some (.ref 0)] [] Mq _
  have hz := hI.hsz
  refine zw_n 1 rfl ?_
  refine zw_get (v := .ref 50) rfl (hC.1 0 (by decide) (by decide) (by decide)) rfl ?_
  refine zw_get (v := .int (nI (f 50 0))) rfl (hC.1 50 (by decide) (by decide) (by decide)) rfl ?_
  refine zw_ne0N (a := f 50 0) rfl rfl (by omega) (fun c7 => ?_) (fun c7 => ?_)
  · -- 7 to 13
    exfalso
    omega
  · -- 7 to 10
    refine zw_n 1 rfl ?_
    exact zw_iret rfl rfl (⟨rfl, rfl⟩)

set_option maxHeartbeats 4000000 in
set_option maxRecDepth 100000 in
theorem c_undoOk (Mq : zM) (f : Nat → Nat → Nat) (L : Nat) (hC : CC Mq f) (hI : CInv L f) (hx : 0 < f 50 0) : Zm 3 zm_CG_undo [.ref 0] Mq (fun r9 M1 => r9 = some (.int (nI (f 50 0 - 1))) ∧ CC M1 (chg (hBack f)) ∧ Smc Mq M1 ∧ CInv L (chg (hBack f))) := by
  show Zw 3 zm_CG_undo 0 [some (.ref 0)] [] Mq _
  have hz := hI.hsz
  have he := hI.hen
  refine zw_n 1 rfl ?_
  refine zw_get (v := .ref 50) rfl (hC.1 0 (by decide) (by decide) (by decide)) rfl ?_
  refine zw_get (v := .int (nI (f 50 0))) rfl (hC.1 50 (by decide) (by decide) (by decide)) rfl ?_
  refine zw_ne0N (a := f 50 0) rfl rfl (by omega) (fun c7 => ?_) (fun c7 => ?_)
  · -- 7 to 13
    refine zw_n 1 rfl ?_
    refine zw_get (v := .ref 50) rfl (hC.1 0 (by decide) (by decide) (by decide)) rfl ?_
    refine zw_n 1 rfl ?_
    refine zw_get (v := .ref 26) rfl (hC.1 0 (by decide) (by decide) (by decide)) rfl ?_
    refine zw_callV (as := [.ref 26]) (rest := []) rfl rfl rfl (hC.1 50 (by decide) (by decide) (by decide)) rfl rfl rfl (by decide) (c_takeBack Mq f hC hI.hsz hI.hen (by omega)) (fun rz815 Mz816 hz817 => ?_)
    obtain ⟨hAz812, hBz813, hSz814⟩ := hz817
    rw [hAz812]
    show Zw 3 zm_CG_undo 24 [some (.ref 0)] [] Mz816 _
    refine zw_n 1 rfl ?_
    refine zw_callV (as := []) (rest := []) rfl rfl rfl (Sm.at hSz814 (by decide) (hC.1 0 (by decide) (by decide) (by decide))) rfl rfl rfl (by decide) (c_changed Mz816 (fset (fset (fset (fset (fset f 29 (f (52 + 4 * ((f 50 1 + 9) % 10) + 3))) 28 (f (52 + 4 * ((f 50 1 + 9) % 10) + 2))) 27 (f (52 + 4 * ((f 50 1 + 9) % 10) + 1))) 26 (up (f 26) 0 (f (52 + 4 * ((f 50 1 + 9) % 10)) 0))) 50 (up (up (f 50) 0 (f 50 0 - 1)) 1 ((f 50 1 + 9) % 10))) (CC.of (f' := fset (fset (fset (fset (fset f 29 (f (52 + 4 * ((f 50 1 + 9) % 10) + 3))) 28 (f (52 + 4 * ((f 50 1 + 9) % 10) + 2))) 27 (f (52 + 4 * ((f 50 1 + 9) % 10) + 1))) 26 (up (f 26) 0 (f (52 + 4 * ((f 50 1 + 9) % 10)) 0))) 50 (up (up (f 50) 0 (f 50 0 - 1)) 1 ((f 50 1 + 9) % 10))) hC (Sm.tw Sm.rf hSz814 (by decide)) ⟨by decide, by decide⟩ (d1_cons (Sm.at hSz814 (by decide) (hC.1 134 (by decide) (by decide) (by decide))) (d1_cons (Sm.at hSz814 (by decide) (hC.1 34 (by decide) (by decide) (by decide))) (d1_cons (Sm.at hSz814 (by decide) (hC.1 0 (by decide) (by decide) (by decide))) (d1_cons (hBz813.1 50 (by decide) (by decide) (by decide)) (d1_cons (hBz813.1 26 (by decide) (by decide) (by decide)) (d1_cons (hBz813.1 27 (by decide) (by decide) (by decide)) (d1_cons (hBz813.1 28 (by decide) (by decide) (by decide)) (d1_cons (hBz813.1 29 (by decide) (by decide) (by decide)) d1_nil)))))))) (fs_k (fs_k (fs_k (fs_c (fs_c (fs_c (fs_c (fs_c fs_n)))))))))) (fun rz821 Mz822 hz823 => ?_)
    obtain ⟨hAz818, hBz819, hSz820⟩ := hz823
    rw [hAz818]
    show Zw 3 zm_CG_undo 28 [some (.ref 0)] [] Mz822 _
    refine zw_n 1 rfl ?_
    refine zw_get (v := .ref 50) rfl (hBz819.1 0 (by decide) (by decide) (by decide)) rfl ?_
    refine zw_get (v := .int (nI (f 50 0 - 1))) rfl (Sm.at hSz820 (by decide) (hBz813.1 50 (by decide) (by decide) (by decide))) rfl ?_
    exact zw_iret rfl rfl (⟨rfl, (CC.of (f' := fset (fset (fset (fset (fset (fset (fset (fset f 29 (f (52 + 4 * ((f 50 1 + 9) % 10) + 3))) 28 (f (52 + 4 * ((f 50 1 + 9) % 10) + 2))) 27 (f (52 + 4 * ((f 50 1 + 9) % 10) + 1))) 26 (up (f 26) 0 (f (52 + 4 * ((f 50 1 + 9) % 10)) 0))) 50 (up (up (f 50) 0 (f 50 0 - 1)) 1 ((f 50 1 + 9) % 10))) 0 (up (up (f 0) 16 0) 17 4294967294)) 34 (up (f 34) 2 0)) 134 (up (f 134) 0 0)) hC (Sm.tw (Sm.tw Sm.rf hSz814 (by decide)) hSz820 (by decide)) ⟨by decide, by decide⟩ (d1_cons (hBz819.1 134 (by decide) (by decide) (by decide)) (d1_cons (hBz819.1 34 (by decide) (by decide) (by decide)) (d1_cons (hBz819.1 0 (by decide) (by decide) (by decide)) (d1_cons (Sm.at hSz820 (by decide) (hBz813.1 50 (by decide) (by decide) (by decide))) (d1_cons (Sm.at hSz820 (by decide) (hBz813.1 26 (by decide) (by decide) (by decide))) (d1_cons (Sm.at hSz820 (by decide) (hBz813.1 27 (by decide) (by decide) (by decide))) (d1_cons (Sm.at hSz820 (by decide) (hBz813.1 28 (by decide) (by decide) (by decide))) (d1_cons (Sm.at hSz820 (by decide) (hBz813.1 29 (by decide) (by decide) (by decide))) d1_nil)))))))) (fs_c (fs_c (fs_c (fs_c (fs_c (fs_c (fs_c (fs_c fs_n))))))))), (Smc.of (S := [134, 34, 0, 50, 26, 27, 28, 29]) (Sm.tw (Sm.tw Sm.rf hSz814 (by decide)) hSz820 (by decide)) (by decide)), CInv.chg (⟨hI.tl, hI.tx, hI.gram, p10_get hI.past ((f 50 1 + 9) % 10) (by omega), hI.bef, hI.grn, hI.mvd, (show f 50 0 - 1 ≤ 10 by omega), (show (f 50 1 + 9) % 10 < 10 by omega), hI.past, hI.lln, hI.kh, hI.kg, hI.kt, hI.cst, hI.csw, hI.csr, hI.ost, hI.osw, hI.osr, hI.tst, hI.rkn, hI.fnd, hI.ofs⟩ : CBase L (hBack f))⟩)
  · -- 7 to 10
    exfalso
    omega

set_option maxHeartbeats 4000000 in
set_option maxRecDepth 100000 in
theorem c_forget (Mq : zM) (f : Nat → Nat → Nat) (hC : CC Mq f) : Zm 0 zm_History_forget [.ref 50] Mq (fun r9 M1 => r9 = none ∧ CC M1 (fset f 50 (up (f 50) 0 0)) ∧ Sm Mq M1 [50]) := by
  show Zw 0 zm_History_forget 0 [some (.ref 50)] [] Mq _
  refine zw_n 2 rfl ?_
  refine zw_put rfl (hC.1 50 (by decide) (by decide) (by decide)) (rfl) (Nat.le_of_ble_eq_true rfl) ?_
  generalize ez825 : List.set Mq 50 _ = Mz824
  exact zw_vret rfl rfl (⟨rfl, (CC.of (f' := fset f 50 (up (f 50) 0 0)) hC (Sm.tset Sm.rf ez825 (by decide)) ⟨by decide, by decide⟩ (d1_cons (zat_self ez825 (hC.1 50 (by decide) (by decide) (by decide))) d1_nil) (fs_c fs_n)), Sm.tset Sm.rf ez825 (by decide)⟩)

set_option maxHeartbeats 4000000 in
set_option maxRecDepth 100000 in
theorem c_textNo (Mq : zM) (f : Nat → Nat → Nat) (L : Nat) (hC : CC Mq f) (hI : CInv L f) (hL2 : 240 < L) (hx : srch (bdT (f 1)) 0 (f 0 1) ≠ NO) : Zm 4 zm_CG_text [.ref 0] Mq (fun r9 M1 => r9 = some (.int (-1000 - nI (srch (bdT (f 1)) 0 (f 0 1)))) ∧ ∃ f9, CC M1 f9 ∧ Smc Mq M1 ∧ CInv L f9 ∧ f9 0 1 = 0 ∧ (∀ a, coreB a = true → f9 a = f a)) := by
  show Zw 4 zm_CG_text 0 [some (.ref 0), none] [] Mq _
  have htl := hI.tl
  have hsr := srch_lt (p := bdT (f 1)) hx
  refine zw_n 1 rfl ?_
  refine zw_get (v := .ref 30) rfl (hC.1 0 (by decide) (by decide) (by decide)) rfl ?_
  refine zw_n 1 rfl ?_
  refine zw_get (v := .ref 1) rfl (hC.1 0 (by decide) (by decide) (by decide)) rfl ?_
  refine zw_n 1 rfl ?_
  refine zw_get (v := .int (nI (f 0 1))) rfl (hC.1 0 (by decide) (by decide) (by decide)) rfl ?_
  refine zw_callV (as := [.ref 1, .int (nI (f 0 1))]) (rest := []) rfl rfl rfl (hC.1 30 (by decide) (by decide) (by decide)) rfl rfl rfl (by decide) (c_readText Mq 30 (f 30 0) (f 31) (f 32) (f 33) (seg4 (hC.1 30 (by decide) (by decide) (by decide)) (hC.1 31 (by decide) (by decide) (by decide)) (hC.1 32 (by decide) (by decide) (by decide)) (hC.1 33 (by decide) (by decide) (by decide))) hI.bef.1 1 (f 1) (hC.1 1 (by decide) (by decide) (by decide)) hI.tx (f 0 1) hI.tl (by omega)) (fun rz836 Mz837 hz838 => ?_)
  obtain ⟨hAz826, nz827, sgz828, liz829, coz830, hBz831, hSz832, hFz833, hLz834, hEz835⟩ := hz838
  rw [hAz826]
  show Zw 4 zm_CG_text 15 [some (.ref 0), none] [.int (nI (srch (bdT (f 1)) 0 (f 0 1)))] Mz837 _
  refine zw_n 3 (ls' := [some (.ref 0), some (.int (nI (srch (bdT (f 1)) 0 (f 0 1))))]) rfl ?_
  refine zw_put rfl (Sm.at hSz832 (by decide) (hC.1 0 (by decide) (by decide) (by decide))) (rfl) (Nat.le_of_ble_eq_true rfl) ?_
  generalize ez840 : List.set Mz837 0 _ = Mz839
  refine zw_n 2 rfl ?_
  refine zw_ieqM (a := srch (bdT (f 1)) 0 (f 0 1)) rfl rfl (by omega) (fun c23 => ?_) (fun c23 => ?_)
  · -- 23 to 32
    exfalso
    exact hx c23
  · -- 23 to 26
    refine zw_n 3 rfl ?_
    exact zw_iret rfl rfl (⟨rfl, fset (fset (fset (fset (fset f 33 coz830) 32 liz829) 31 sgz828) 30 (up (f 30) 0 nz827)) 0 (up (f 0) 1 0), (CC.of (f' := fset (fset (fset (fset (fset f 33 coz830) 32 liz829) 31 sgz828) 30 (up (f 30) 0 nz827)) 0 (up (f 0) 1 0)) hC (Sm.tset (Sm.tw Sm.rf hSz832 (by decide)) ez840 (by decide)) ⟨by decide, by decide⟩ (d1_cons (zat_self ez840 (Sm.at hSz832 (by decide) (hC.1 0 (by decide) (by decide) (by decide)))) (d1_cons (zat_set ez840 (by decide) (hBz831.get 0 rfl)) (d1_cons (zat_set ez840 (by decide) (hBz831.get 1 rfl)) (d1_cons (zat_set ez840 (by decide) (hBz831.get 2 rfl)) (d1_cons (zat_set ez840 (by decide) (hBz831.get 3 rfl)) d1_nil))))) (fs_c (fs_c (fs_c (fs_c (fs_c fs_n)))))), (Smc.of (S := [0, 30, 31, 32, 33]) (Sm.tset (Sm.tw Sm.rf hSz832 (by decide)) ez840 (by decide)) (by decide)), ⟨⟨Nat.zero_le _, hI.tx, hI.gram, hI.tok, ⟨hFz833, hLz834 L hI.bef.2 hL2⟩, hI.grn, hI.mvd, hI.hsz, hI.hen, hI.past, hI.lln, hI.kh, hI.kg, hI.kt, hI.cst, hI.csw, hI.csr, hI.ost, hI.osw, hI.osr, hI.tst, hI.rkn, hI.fnd, hI.ofs⟩, hI.cok, hI.blm, hI.tre, hI.rep⟩, rfl, act_txt (fs_c (fs_c (fs_c (fs_c (fs_c fs_n))))) (by decide)⟩)

set_option maxHeartbeats 4000000 in
set_option maxRecDepth 100000 in
theorem c_textOk (Mq : zM) (f : Nat → Nat → Nat) (L : Nat) (hC : CC Mq f) (hI : CInv L f) (hL2 : 240 < L) (hx : srch (bdT (f 1)) 0 (f 0 1) = NO) : Zm 4 zm_CG_text [.ref 0] Mq (fun r9 M1 => r9 = some (.int (nI (nT (f 1) (f 0 1)))) ∧ ∃ f9, CC M1 f9 ∧ Smc Mq M1 ∧ CInv L f9 ∧ f9 0 1 = 0 ∧ f9 26 0 = nT (f 1) (f 0 1) ∧ (hT_ (f 1) (f 1) (f9 27) (f 0 1) ∧ hT_ (f 1) (lT (f 1)) (f9 28) (f 0 1) ∧ hT_ (f 1) (cT (f 1)) (f9 29) (f 0 1)) ∧ f9 50 0 = 0 ∧ f9 50 1 = f 50 1 ∧ (∀ a, (a = 1 ∨ (16 ≤ a ∧ a ≤ 25) ∨ (52 ≤ a ∧ a ≤ 124)) → f9 a = f a)) := by
  show Zw 4 zm_CG_text 0 [some (.ref 0), none] [] Mq _
  have htl := hI.tl
  refine zw_n 1 rfl ?_
  refine zw_get (v := .ref 30) rfl (hC.1 0 (by decide) (by decide) (by decide)) rfl ?_
  refine zw_n 1 rfl ?_
  refine zw_get (v := .ref 1) rfl (hC.1 0 (by decide) (by decide) (by decide)) rfl ?_
  refine zw_n 1 rfl ?_
  refine zw_get (v := .int (nI (f 0 1))) rfl (hC.1 0 (by decide) (by decide) (by decide)) rfl ?_
  refine zw_callV (as := [.ref 1, .int (nI (f 0 1))]) (rest := []) rfl rfl rfl (hC.1 30 (by decide) (by decide) (by decide)) rfl rfl rfl (by decide) (c_readText Mq 30 (f 30 0) (f 31) (f 32) (f 33) (seg4 (hC.1 30 (by decide) (by decide) (by decide)) (hC.1 31 (by decide) (by decide) (by decide)) (hC.1 32 (by decide) (by decide) (by decide)) (hC.1 33 (by decide) (by decide) (by decide))) hI.bef.1 1 (f 1) (hC.1 1 (by decide) (by decide) (by decide)) hI.tx (f 0 1) hI.tl (by omega)) (fun rz851 Mz852 hz853 => ?_)
  obtain ⟨hAz841, nz842, sgz843, liz844, coz845, hBz846, hSz847, hFz848, hLz849, hEz850⟩ := hz853
  rw [hAz841]
  show Zw 4 zm_CG_text 15 [some (.ref 0), none] [.int (nI (srch (bdT (f 1)) 0 (f 0 1)))] Mz852 _
  refine zw_n 3 (ls' := [some (.ref 0), some (.int (nI (srch (bdT (f 1)) 0 (f 0 1))))]) rfl ?_
  refine zw_put rfl (Sm.at hSz847 (by decide) (hC.1 0 (by decide) (by decide) (by decide))) (rfl) (Nat.le_of_ble_eq_true rfl) ?_
  generalize ez855 : List.set Mz852 0 _ = Mz854
  refine zw_n 2 rfl ?_
  refine zw_ieqM (a := srch (bdT (f 1)) 0 (f 0 1)) rfl rfl (by rw [hx]; decide) (fun c23 => ?_) (fun c23 => ?_)
  · -- 23 to 32
    refine zw_n 1 rfl ?_
    refine zw_get (v := .ref 26) rfl (zat_self ez855 (Sm.at hSz847 (by decide) (hC.1 0 (by decide) (by decide) (by decide)))) rfl ?_
    refine zw_n 1 rfl ?_
    refine zw_get (v := .ref 30) rfl (zat_self ez855 (Sm.at hSz847 (by decide) (hC.1 0 (by decide) (by decide) (by decide)))) rfl ?_
    refine zw_callV (as := [.ref 30]) (rest := []) rfl rfl rfl (zat_set ez855 (by decide) (Sm.at hSz847 (by decide) (hC.1 26 (by decide) (by decide) (by decide)))) rfl rfl rfl (by decide) (c_copyTok Mz854 26 30 (f 26 0) (f 27) (f 28) (f 29) (seg4 (zat_set ez855 (by decide) (Sm.at hSz847 (by decide) (hC.1 26 (by decide) (by decide) (by decide)))) (zat_set ez855 (by decide) (Sm.at hSz847 (by decide) (hC.1 27 (by decide) (by decide) (by decide)))) (zat_set ez855 (by decide) (Sm.at hSz847 (by decide) (hC.1 28 (by decide) (by decide) (by decide)))) (zat_set ez855 (by decide) (Sm.at hSz847 (by decide) (hC.1 29 (by decide) (by decide) (by decide))))) nz842 sgz843 liz844 coz845 (seg4 (zat_set ez855 (by decide) (hBz846.get 0 rfl)) (zat_set ez855 (by decide) (hBz846.get 1 rfl)) (zat_set ez855 (by decide) (hBz846.get 2 rfl)) (zat_set ez855 (by decide) (hBz846.get 3 rfl))) (by omega)) (fun rz859 Mz860 hz861 => ?_)
    obtain ⟨hAz856, hBz857, hSz858⟩ := hz861
    rw [hAz856]
    show Zw 4 zm_CG_text 43 [some (.ref 0), some (.int (nI (srch (bdT (f 1)) 0 (f 0 1))))] [] Mz860 _
    refine zw_n 1 rfl ?_
    refine zw_get (v := .ref 50) rfl (Sm.at hSz858 (by decide) (zat_self ez855 (Sm.at hSz847 (by decide) (hC.1 0 (by decide) (by decide) (by decide))))) rfl ?_
    refine zw_callV (as := []) (rest := []) rfl rfl rfl (Sm.at hSz858 (by decide) (zat_set ez855 (by decide) (Sm.at hSz847 (by decide) (hC.1 50 (by decide) (by decide) (by decide))))) rfl rfl rfl (by decide) (c_forget Mz860 (fset (fset (fset (fset (fset (fset (fset (fset (fset f 33 coz845) 32 liz844) 31 sgz843) 30 (up (f 30) 0 nz842)) 29 coz845) 28 liz844) 27 sgz843) 26 (up (f 26) 0 nz842)) 0 (up (f 0) 1 0)) (CC.of (f' := fset (fset (fset (fset (fset (fset (fset (fset (fset f 33 coz845) 32 liz844) 31 sgz843) 30 (up (f 30) 0 nz842)) 29 coz845) 28 liz844) 27 sgz843) 26 (up (f 26) 0 nz842)) 0 (up (f 0) 1 0)) hC (Sm.tw (Sm.tset (Sm.tw Sm.rf hSz847 (by decide)) ez855 (by decide)) hSz858 (by decide)) ⟨by decide, by decide⟩ (d1_cons (Sm.at hSz858 (by decide) (zat_set ez855 (by decide) (Sm.at hSz847 (by decide) (hC.1 134 (by decide) (by decide) (by decide))))) (d1_cons (Sm.at hSz858 (by decide) (zat_set ez855 (by decide) (Sm.at hSz847 (by decide) (hC.1 34 (by decide) (by decide) (by decide))))) (d1_cons (Sm.at hSz858 (by decide) (zat_self ez855 (Sm.at hSz847 (by decide) (hC.1 0 (by decide) (by decide) (by decide))))) (d1_cons (Sm.at hSz858 (by decide) (zat_set ez855 (by decide) (Sm.at hSz847 (by decide) (hC.1 50 (by decide) (by decide) (by decide))))) (d1_cons (hBz857.get 0 rfl) (d1_cons (hBz857.get 1 rfl) (d1_cons (hBz857.get 2 rfl) (d1_cons (hBz857.get 3 rfl) (d1_cons (Sm.at hSz858 (by decide) (zat_set ez855 (by decide) (hBz846.get 0 rfl))) (d1_cons (Sm.at hSz858 (by decide) (zat_set ez855 (by decide) (hBz846.get 1 rfl))) (d1_cons (Sm.at hSz858 (by decide) (zat_set ez855 (by decide) (hBz846.get 2 rfl))) (d1_cons (Sm.at hSz858 (by decide) (zat_set ez855 (by decide) (hBz846.get 3 rfl))) d1_nil)))))))))))) (fs_k (fs_k (fs_c (fs_k (fs_c (fs_c (fs_c (fs_c (fs_c (fs_c (fs_c (fs_c fs_n)))))))))))))) (fun rz865 Mz866 hz867 => ?_)
    obtain ⟨hAz862, hBz863, hSz864⟩ := hz867
    rw [hAz862]
    show Zw 4 zm_CG_text 50 [some (.ref 0), some (.int (nI (srch (bdT (f 1)) 0 (f 0 1))))] [] Mz866 _
    refine zw_n 1 rfl ?_
    refine zw_callV (as := []) (rest := []) rfl rfl rfl (Sm.at hSz864 (by decide) (Sm.at hSz858 (by decide) (zat_self ez855 (Sm.at hSz847 (by decide) (hC.1 0 (by decide) (by decide) (by decide)))))) rfl rfl rfl (by decide) (c_changed Mz866 (fset (fset (fset (fset (fset (fset (fset (fset (fset (fset f 33 coz845) 32 liz844) 31 sgz843) 30 (up (f 30) 0 nz842)) 29 coz845) 28 liz844) 27 sgz843) 26 (up (f 26) 0 nz842)) 50 (up (f 50) 0 0)) 0 (up (f 0) 1 0)) (CC.of (f' := fset (fset (fset (fset (fset (fset (fset (fset (fset (fset f 33 coz845) 32 liz844) 31 sgz843) 30 (up (f 30) 0 nz842)) 29 coz845) 28 liz844) 27 sgz843) 26 (up (f 26) 0 nz842)) 50 (up (f 50) 0 0)) 0 (up (f 0) 1 0)) hC (Sm.tw (Sm.tw (Sm.tset (Sm.tw Sm.rf hSz847 (by decide)) ez855 (by decide)) hSz858 (by decide)) hSz864 (by decide)) ⟨by decide, by decide⟩ (d1_cons (Sm.at hSz864 (by decide) (Sm.at hSz858 (by decide) (zat_set ez855 (by decide) (Sm.at hSz847 (by decide) (hC.1 134 (by decide) (by decide) (by decide)))))) (d1_cons (Sm.at hSz864 (by decide) (Sm.at hSz858 (by decide) (zat_set ez855 (by decide) (Sm.at hSz847 (by decide) (hC.1 34 (by decide) (by decide) (by decide)))))) (d1_cons (Sm.at hSz864 (by decide) (Sm.at hSz858 (by decide) (zat_self ez855 (Sm.at hSz847 (by decide) (hC.1 0 (by decide) (by decide) (by decide)))))) (d1_cons (hBz863.1 50 (by decide) (by decide) (by decide)) (d1_cons (Sm.at hSz864 (by decide) (hBz857.get 0 rfl)) (d1_cons (Sm.at hSz864 (by decide) (hBz857.get 1 rfl)) (d1_cons (Sm.at hSz864 (by decide) (hBz857.get 2 rfl)) (d1_cons (Sm.at hSz864 (by decide) (hBz857.get 3 rfl)) (d1_cons (Sm.at hSz864 (by decide) (Sm.at hSz858 (by decide) (zat_set ez855 (by decide) (hBz846.get 0 rfl)))) (d1_cons (Sm.at hSz864 (by decide) (Sm.at hSz858 (by decide) (zat_set ez855 (by decide) (hBz846.get 1 rfl)))) (d1_cons (Sm.at hSz864 (by decide) (Sm.at hSz858 (by decide) (zat_set ez855 (by decide) (hBz846.get 2 rfl)))) (d1_cons (Sm.at hSz864 (by decide) (Sm.at hSz858 (by decide) (zat_set ez855 (by decide) (hBz846.get 3 rfl)))) d1_nil)))))))))))) (fs_k (fs_k (fs_c (fs_c (fs_c (fs_c (fs_c (fs_c (fs_c (fs_c (fs_c (fs_c fs_n)))))))))))))) (fun rz871 Mz872 hz873 => ?_)
    obtain ⟨hAz868, hBz869, hSz870⟩ := hz873
    rw [hAz868]
    show Zw 4 zm_CG_text 54 [some (.ref 0), some (.int (nI (srch (bdT (f 1)) 0 (f 0 1))))] [] Mz872 _
    refine zw_n 1 rfl ?_
    refine zw_get (v := .ref 26) rfl (hBz869.1 0 (by decide) (by decide) (by decide)) rfl ?_
    refine zw_get (v := .int (nI nz842)) rfl (Sm.at hSz870 (by decide) (Sm.at hSz864 (by decide) (hBz857.get 0 rfl))) rfl ?_
    refine zw_iret rfl rfl ?_
    have hq9 : srch (bdT (f 1)) 0 (f 0 1) = NO := by unfold NO; omega
    have ht9 := TOK.read hI.tl hFz848 (hLz849 L hI.bef.2 hL2) hq9 (hEz850 hq9)
    exact ⟨by rw [(hEz850 hq9).1], chg (fset (fset (fset (fset (fset (fset (fset (fset (fset (fset f 33 coz845) 32 liz844) 31 sgz843) 30 (up (f 30) 0 nz842)) 29 coz845) 28 liz844) 27 sgz843) 26 (up (f 26) 0 nz842)) 50 (up (f 50) 0 0)) 0 (up (f 0) 1 0)), (CC.of (f' := chg (fset (fset (fset (fset (fset (fset (fset (fset (fset (fset f 33 coz845) 32 liz844) 31 sgz843) 30 (up (f 30) 0 nz842)) 29 coz845) 28 liz844) 27 sgz843) 26 (up (f 26) 0 nz842)) 50 (up (f 50) 0 0)) 0 (up (f 0) 1 0))) hC (Sm.tw (Sm.tw (Sm.tw (Sm.tset (Sm.tw Sm.rf hSz847 (by decide)) ez855 (by decide)) hSz858 (by decide)) hSz864 (by decide)) hSz870 (by decide)) ⟨by decide, by decide⟩ (d1_cons (hBz869.1 134 (by decide) (by decide) (by decide)) (d1_cons (hBz869.1 34 (by decide) (by decide) (by decide)) (d1_cons (hBz869.1 0 (by decide) (by decide) (by decide)) (d1_cons (Sm.at hSz870 (by decide) (hBz863.1 50 (by decide) (by decide) (by decide))) (d1_cons (Sm.at hSz870 (by decide) (Sm.at hSz864 (by decide) (hBz857.get 0 rfl))) (d1_cons (Sm.at hSz870 (by decide) (Sm.at hSz864 (by decide) (hBz857.get 1 rfl))) (d1_cons (Sm.at hSz870 (by decide) (Sm.at hSz864 (by decide) (hBz857.get 2 rfl))) (d1_cons (Sm.at hSz870 (by decide) (Sm.at hSz864 (by decide) (hBz857.get 3 rfl))) (d1_cons (Sm.at hSz870 (by decide) (Sm.at hSz864 (by decide) (Sm.at hSz858 (by decide) (zat_set ez855 (by decide) (hBz846.get 0 rfl))))) (d1_cons (Sm.at hSz870 (by decide) (Sm.at hSz864 (by decide) (Sm.at hSz858 (by decide) (zat_set ez855 (by decide) (hBz846.get 1 rfl))))) (d1_cons (Sm.at hSz870 (by decide) (Sm.at hSz864 (by decide) (Sm.at hSz858 (by decide) (zat_set ez855 (by decide) (hBz846.get 2 rfl))))) (d1_cons (Sm.at hSz870 (by decide) (Sm.at hSz864 (by decide) (Sm.at hSz858 (by decide) (zat_set ez855 (by decide) (hBz846.get 3 rfl))))) d1_nil)))))))))))) (fs_c (fs_c (fs_d (fs_c (fs_c (fs_c (fs_c (fs_c (fs_c (fs_c (fs_c (fs_c (fs_c fs_n)))))))))))))), (Smc.of (S := [134, 34, 0, 50, 26, 27, 28, 29, 30, 31, 32, 33]) (Sm.tw (Sm.tw (Sm.tw (Sm.tset (Sm.tw Sm.rf hSz847 (by decide)) ez855 (by decide)) hSz858 (by decide)) hSz864 (by decide)) hSz870 (by decide)) (by decide)), CInv.chg (⟨Nat.zero_le _, hI.tx, hI.gram, ht9, ht9.any, hI.grn, hI.mvd, Nat.zero_le _, hI.hen, hI.past, hI.lln, hI.kh, hI.kg, hI.kt, hI.cst, hI.csw, hI.csr, hI.ost, hI.osw, hI.osr, hI.tst, hI.rkn, hI.fnd, hI.ofs⟩ : CBase L (fset (fset (fset (fset (fset (fset (fset (fset (fset (fset f 33 coz845) 32 liz844) 31 sgz843) 30 (up (f 30) 0 nz842)) 29 coz845) 28 liz844) 27 sgz843) 26 (up (f 26) 0 nz842)) 50 (up (f 50) 0 0)) 0 (up (f 0) 1 0))), rfl, (hEz850 hq9).1, ⟨(hEz850 hq9).2.1, (hEz850 hq9).2.2.1, (hEz850 hq9).2.2.2⟩, rfl, rfl, act_rul (fs_c (fs_c (fs_d (fs_c (fs_c (fs_c (fs_c (fs_c (fs_c (fs_c (fs_c (fs_c (fs_c fs_n))))))))))))) (by decide)⟩
  · -- 23 to 26
    exfalso
    exact absurd hx c23
