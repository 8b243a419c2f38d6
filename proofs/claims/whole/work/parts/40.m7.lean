set_option maxHeartbeats 4000000 in
set_option maxRecDepth 100000 in
theorem c_fits (Mq : zM) (f : Nat → Nat → Nat) (L : Nat) (hC : CC Mq f) (hI : CInv L f) : Zm 5 zm_CG_fits [.ref 0] Mq (fun r9 M1 => r9 = some (.int (nI (if f 16 0 = 0 then NO else fitN (eAt f 16 26) (f 16 0) (f 26 0)))) ∧ ∃ f9, CC M1 f9 ∧ CInv L f9 ∧ Smc Mq M1 ∧ Asame f f9) := by
  show Zw 5 zm_CG_fits 0 [some (.ref 0)] [] Mq _
  have hG := hI.gram.safe
  have hS := hI.tok.safe
  have hn8 := hG.1
  have hc20 := hS.1
  obtain ⟨emp, rk, hA⟩ := hI.gram.acy
  refine zw_n 1 rfl ?_
  refine zw_get (v := .ref 16) rfl (hC.1 0 (by decide) (by decide) (by decide)) rfl ?_
  refine zw_get (v := .int (nI (f 16 0))) rfl (hC.1 16 (by decide) (by decide) (by decide)) rfl ?_
  refine zw_ne0N (a := f 16 0) rfl rfl (by omega) (fun c7 => ?_) (fun c7 => ?_)
  · -- 7 to 12
    refine zw_n 1 rfl ?_
    refine zw_get (v := .ref 34) rfl (hC.1 0 (by decide) (by decide) (by decide)) rfl ?_
    refine zw_callV (as := []) (rest := []) rfl rfl rfl (hC.1 34 (by decide) (by decide) (by decide)) rfl rfl rfl (by decide) (c_readOnce Mq 34 16 26 (f 34 2) (f 35) (f 36) (f 16 0) (f 16 7) (f 17) (f 18) (f 19) (f 20) (f 21) (f 22) (f 23) (f 24) (f 25) (f 26 0) (f 27) (f 28) (f 29) (seg3 (hC.1 34 (by decide) (by decide) (by decide)) (hC.1 35 (by decide) (by decide) (by decide)) (hC.1 36 (by decide) (by decide) (by decide))) (seg10 (hC.1 16 (by decide) (by decide) (by decide)) (hC.1 17 (by decide) (by decide) (by decide)) (hC.1 18 (by decide) (by decide) (by decide)) (hC.1 19 (by decide) (by decide) (by decide)) (hC.1 20 (by decide) (by decide) (by decide)) (hC.1 21 (by decide) (by decide) (by decide)) (hC.1 22 (by decide) (by decide) (by decide)) (hC.1 23 (by decide) (by decide) (by decide)) (hC.1 24 (by decide) (by decide) (by decide)) (hC.1 25 (by decide) (by decide) (by decide))) (seg4 (hC.1 26 (by decide) (by decide) (by decide)) (hC.1 27 (by decide) (by decide) (by decide)) (hC.1 28 (by decide) (by decide) (by decide)) (hC.1 29 (by decide) (by decide) (by decide))) hG hS hI.csw hI.csr (by omega) emp rk hA hI.cst hI.cok) (fun rz456 Mz457 hz458 => ?_)
    obtain ⟨hAz448, Wz449, Rz450, hBz451, hSz452, hDz453, hEz454, hFz455⟩ := hz458
    rw [hAz448]
    show Zw 5 zm_CG_fits 19 [some (.ref 0)] [.int (nI (if 0 < (f 16 0) ∧ wh (gE (f 18) (f 19) (f 21) (f 20) (f 22) (f 27) (f 29)) (f 16 0) 0 0 (f 26 0) ≠ 0 then 1 else 0))] Mz457 _
    refine zw_eq0N (a := if 0 < (f 16 0) ∧ wh (gE (f 18) (f 19) (f 21) (f 20) (f 22) (f 27) (f 29)) (f 16 0) 0 0 (f 26 0) ≠ 0 then 1 else 0) rfl rfl (ite_b) (fun c19 => ?_) (fun c19 => ?_)
    · -- 19 to 26
      refine zw_n 1 rfl ?_
      refine zw_top (x' := nI 0) (by decide) ?_
      exact zw_iret rfl rfl (⟨by rw [if_neg c7]; unfold fitN; rw [if_neg (ite_eq0 c19)], fset (fset (fset f 36 Rz450) 35 Wz449) 34 (up (f 34) 2 1), (CC.of (f' := fset (fset (fset f 36 Rz450) 35 Wz449) 34 (up (f 34) 2 1)) hC (Sm.trans Sm.rf hSz452) ⟨by decide, by decide⟩ (d1_cons (hBz451.get 0 rfl) (d1_cons (hBz451.get 1 rfl) (d1_cons (hBz451.get 2 rfl) d1_nil))) (fs_c (fs_c (fs_c fs_n)))), ⟨⟨hI.tl, hI.tx, hI.gram, hI.tok, hI.bef, hI.grn, hI.mvd, hI.hsz, hI.hen, hI.past, hI.lln, hI.kh, hI.kg, hI.kt, Nat.le_refl _, hDz453, hEz454, hI.ost, hI.osw, hI.osr, hI.tst, hI.rkn, hI.fnd, hI.ofs⟩, (fun _ => hFz455), hI.blm, hI.tre, hI.rep⟩, (Smc.of (S := [34, 35, 36]) (Sm.trans Sm.rf hSz452) (by decide)), Asame.of (fs_c (fs_c (fs_c fs_n))) rfl (by decide)⟩)
    · -- 19 to 22
      refine zw_n 2 rfl ?_
      refine zw_top (x' := nI 1) (by decide) ?_
      exact zw_iret rfl rfl (⟨by rw [if_neg c7]; unfold fitN; rw [if_pos (ite_ne c19)], fset (fset (fset f 36 Rz450) 35 Wz449) 34 (up (f 34) 2 1), (CC.of (f' := fset (fset (fset f 36 Rz450) 35 Wz449) 34 (up (f 34) 2 1)) hC (Sm.trans Sm.rf hSz452) ⟨by decide, by decide⟩ (d1_cons (hBz451.get 0 rfl) (d1_cons (hBz451.get 1 rfl) (d1_cons (hBz451.get 2 rfl) d1_nil))) (fs_c (fs_c (fs_c fs_n)))), ⟨⟨hI.tl, hI.tx, hI.gram, hI.tok, hI.bef, hI.grn, hI.mvd, hI.hsz, hI.hen, hI.past, hI.lln, hI.kh, hI.kg, hI.kt, Nat.le_refl _, hDz453, hEz454, hI.ost, hI.osw, hI.osr, hI.tst, hI.rkn, hI.fnd, hI.ofs⟩, (fun _ => hFz455), hI.blm, hI.tre, hI.rep⟩, (Smc.of (S := [34, 35, 36]) (Sm.trans Sm.rf hSz452) (by decide)), Asame.of (fs_c (fs_c (fs_c fs_n))) rfl (by decide)⟩)
  · -- 7 to 10
    refine zw_n 1 rfl ?_
    exact zw_iret rfl rfl (⟨by rw [if_pos c7]; decide, f, hC, hI, Smc.rf, Asame.rf⟩)

set_option maxHeartbeats 4000000 in
set_option maxRecDepth 100000 in
theorem c_isRule (Mq : zM) (f : Nat → Nat → Nat) (hC : CC Mq f) (hn : f 16 0 ≤ 8) (x : Int32) : Zm 0 zm_CG_isRule [.ref 0, .int x] Mq (fun r9 M1 => r9 = some (.int (nI (if 0 ≤ x.toInt ∧ x.toInt < f 16 0 then 1 else 0))) ∧ M1 = Mq) := by
  show Zw 0 zm_CG_isRule 0 [some (.ref 0), some (.int x)] [] Mq _
  refine zw_n 1 rfl ?_
  refine zw_lt0Z (a := x.toInt) rfl (rfl) (fun c1 => ?_) (fun c1 => ?_)
  · -- 1 to 19
    refine zw_n 1 rfl ?_
    exact zw_zret rfl rfl (Or.inl rfl) (⟨by rw [if_neg (by omega)]; rfl, rfl⟩)
  · -- 1 to 4
    refine zw_n 2 rfl ?_
    refine zw_get (v := .ref 16) rfl (hC.1 0 (by decide) (by decide) (by decide)) rfl ?_
    refine zw_get (v := .int (nI (f 16 0))) rfl (hC.1 16 (by decide) (by decide) (by decide)) rfl ?_
    refine zw_igeZ (a := x.toInt) (b := ((f 16 0 : Nat) : Int)) rfl (rfl) (nI_toInt (by omega)) (fun c12 => ?_) (fun c12 => ?_)
    · -- 12 to 19
      refine zw_n 1 rfl ?_
      exact zw_zret rfl rfl (Or.inl rfl) (⟨by rw [if_neg (by omega)]; rfl, rfl⟩)
    · -- 12 to 15
      refine zw_n 2 rfl ?_
      exact zw_zret rfl rfl (Or.inr rfl) (⟨by rw [if_pos (by omega)]; rfl, rfl⟩)

set_option maxHeartbeats 4000000 in
set_option maxRecDepth 100000 in
theorem c_isToken (Mq : zM) (f : Nat → Nat → Nat) (hC : CC Mq f) (hn : f 26 0 ≤ 20) (x : Int32) : Zm 0 zm_CG_isToken [.ref 0, .int x] Mq (fun r9 M1 => r9 = some (.int (nI (if 0 ≤ x.toInt ∧ x.toInt < f 26 0 then 1 else 0))) ∧ M1 = Mq) := by
  show Zw 0 zm_CG_isToken 0 [some (.ref 0), some (.int x)] [] Mq _
  refine zw_n 1 rfl ?_
  refine zw_lt0Z (a := x.toInt) rfl (rfl) (fun c1 => ?_) (fun c1 => ?_)
  · -- 1 to 19
    refine zw_n 1 rfl ?_
    exact zw_zret rfl rfl (Or.inl rfl) (⟨by rw [if_neg (by omega)]; rfl, rfl⟩)
  · -- 1 to 4
    refine zw_n 2 rfl ?_
    refine zw_get (v := .ref 26) rfl (hC.1 0 (by decide) (by decide) (by decide)) rfl ?_
    refine zw_get (v := .int (nI (f 26 0))) rfl (hC.1 26 (by decide) (by decide) (by decide)) rfl ?_
    refine zw_igeZ (a := x.toInt) (b := ((f 26 0 : Nat) : Int)) rfl (rfl) (nI_toInt (by omega)) (fun c12 => ?_) (fun c12 => ?_)
    · -- 12 to 19
      refine zw_n 1 rfl ?_
      exact zw_zret rfl rfl (Or.inl rfl) (⟨by rw [if_neg (by omega)]; rfl, rfl⟩)
    · -- 12 to 15
      refine zw_n 2 rfl ?_
      exact zw_zret rfl rfl (Or.inr rfl) (⟨by rw [if_pos (by omega)]; rfl, rfl⟩)

set_option maxHeartbeats 4000000 in
set_option maxRecDepth 100000 in
theorem c_token (Mq : zM) (f : Nat → Nat → Nat) (L : Nat) (hC : CC Mq f) (hI : CInv L f) (x w : Int32) : Zm 1 zm_CG_token [.ref 0, .int x, .int w] Mq (fun r9 M1 => r9 = some (.int (if 0 ≤ x.toInt ∧ x.toInt < f 26 0 then (if w = nI 0 then nI (f 27 x.toInt.toNat) else if w = nI 1 then nI (f 28 x.toInt.toNat) else if w = nI 2 then nI (f 29 x.toInt.toNat) else -1) else -1)) ∧ M1 = Mq) := by
  show Zw 1 zm_CG_token 0 [some (.ref 0), some (.int x), some (.int w)] [] Mq _
  have hG := hI.gram.safe
  have hS := hI.tok.safe
  have hn8 := hG.1
  have hc20 := hS.1
  refine zw_n 2 rfl ?_
  refine zw_callV (as := [.int x]) (rest := []) rfl rfl rfl (hC.1 0 (by decide) (by decide) (by decide)) rfl rfl rfl (by decide) (c_isToken Mq f hC (by omega) x) (fun rz459 Mz460 hz461 => ?_)
  rw [hz461.1, hz461.2]
  show Zw 1 zm_CG_token 5 [some (.ref 0), some (.int x), some (.int w)] [.int (nI (if 0 ≤ x.toInt ∧ x.toInt < f 26 0 then 1 else 0))] Mq _
  refine zw_ne0N (a := if 0 ≤ x.toInt ∧ x.toInt < f 26 0 then 1 else 0) rfl rfl (ite_b) (fun c5 => ?_) (fun c5 => ?_)
  · -- 5 to 10
    have hx := ite_ne c5
    refine zw_n 1 rfl ?_
    refine zw_sw rfl (fun k11 hk11 c11 => ?_) (fun c11 => ?_)
    · rcases (show k11 = 0 ∨ k11 = 1 ∨ k11 = 2 by simp at hk11; omega) with rfl | rfl | rfl
      · show Zw 1 zm_CG_token 36 [some (.ref 0), some (.int x), some (.int w)] [] Mq _
        refine zw_n 1 rfl ?_
        refine zw_get (v := .ref 26) rfl (hC.1 0 (by decide) (by decide) (by decide)) rfl ?_
        refine zw_get (v := .ref 27) rfl (hC.1 26 (by decide) (by decide) (by decide)) rfl ?_
        refine zw_n 1 rfl ?_
        refine zw_iald (f := ai (f 27)) (j := x.toInt.toNat) rfl (hC.1 27 (by decide) (by decide) (by decide)) (i32_nat (by omega)) (by decide) (by omega) ?_
        exact zw_iret rfl rfl (⟨by rw [if_pos hx, if_pos c11]; rfl, rfl⟩)
      · show Zw 1 zm_CG_token 46 [some (.ref 0), some (.int x), some (.int w)] [] Mq _
        refine zw_n 1 rfl ?_
        refine zw_get (v := .ref 26) rfl (hC.1 0 (by decide) (by decide) (by decide)) rfl ?_
        refine zw_get (v := .ref 28) rfl (hC.1 26 (by decide) (by decide) (by decide)) rfl ?_
        refine zw_n 1 rfl ?_
        refine zw_iald (f := ai (f 28)) (j := x.toInt.toNat) rfl (hC.1 28 (by decide) (by decide) (by decide)) (i32_nat (by omega)) (by decide) (by omega) ?_
        exact zw_iret rfl rfl (⟨by rw [if_pos hx, if_neg (by rw [c11]; decide), if_pos c11]; rfl, rfl⟩)
      · show Zw 1 zm_CG_token 56 [some (.ref 0), some (.int x), some (.int w)] [] Mq _
        refine zw_n 1 rfl ?_
        refine zw_get (v := .ref 26) rfl (hC.1 0 (by decide) (by decide) (by decide)) rfl ?_
        refine zw_get (v := .ref 29) rfl (hC.1 26 (by decide) (by decide) (by decide)) rfl ?_
        refine zw_n 1 rfl ?_
        refine zw_iald (f := ai (f 29)) (j := x.toInt.toNat) rfl (hC.1 29 (by decide) (by decide) (by decide)) (i32_nat (by omega)) (by decide) (by omega) ?_
        exact zw_iret rfl rfl (⟨by rw [if_pos hx, if_neg (by rw [c11]; decide), if_neg (by rw [c11]; decide), if_pos c11]; rfl, rfl⟩)
    · 
      show Zw 1 zm_CG_token 66 [some (.ref 0), some (.int x), some (.int w)] [] Mq _
      refine zw_n 1 rfl ?_
      exact zw_iret rfl rfl (⟨by rw [if_pos hx, if_neg (c11 0 (by decide)), if_neg (c11 1 (by decide)), if_neg (c11 2 (by decide))], rfl⟩)
  · -- 5 to 8
    refine zw_n 1 rfl ?_
    exact zw_iret rfl rfl (⟨by rw [if_neg (ite_eq0 c5)], rfl⟩)

set_option maxHeartbeats 4000000 in
set_option maxRecDepth 100000 in
theorem c_free (Mq : zM) (f : Nat → Nat → Nat) (L : Nat) (hC : CC Mq f) (hI : CInv L f) (x : Int32) : Zm 1 zm_CG_free [.ref 0, .int x] Mq (fun r9 M1 => r9 = some (.long (if 0 ≤ x.toInt ∧ x.toInt < f 16 0 then lN (f 23 x.toInt.toNat) else lN 0)) ∧ M1 = Mq) := by
  show Zw 1 zm_CG_free 0 [some (.ref 0), some (.int x)] [] Mq _
  have hG := hI.gram.safe
  have hS := hI.tok.safe
  have hn8 := hG.1
  have hc20 := hS.1
  refine zw_n 2 rfl ?_
  refine zw_callV (as := [.int x]) (rest := []) rfl rfl rfl (hC.1 0 (by decide) (by decide) (by decide)) rfl rfl rfl (by decide) (c_isRule Mq f hC (by omega) x) (fun rz462 Mz463 hz464 => ?_)
  rw [hz464.1, hz464.2]
  show Zw 1 zm_CG_free 5 [some (.ref 0), some (.int x)] [.int (nI (if 0 ≤ x.toInt ∧ x.toInt < f 16 0 then 1 else 0))] Mq _
  refine zw_eq0N (a := if 0 ≤ x.toInt ∧ x.toInt < f 16 0 then 1 else 0) rfl rfl (ite_b) (fun c5 => ?_) (fun c5 => ?_)
  · -- 5 to 20
    refine zw_n 1 rfl ?_
    refine zw_topl (x' := lN 0) (by decide) ?_
    exact zw_lret rfl rfl (⟨by rw [if_neg (ite_eq0 c5)], rfl⟩)
  · -- 5 to 8
    have hx := ite_ne c5
    refine zw_n 1 rfl ?_
    refine zw_get (v := .ref 16) rfl (hC.1 0 (by decide) (by decide) (by decide)) rfl ?_
    refine zw_get (v := .ref 23) rfl (hC.1 16 (by decide) (by decide) (by decide)) rfl ?_
    refine zw_n 1 rfl ?_
    refine zw_lald (f := al (f 23)) (j := x.toInt.toNat) rfl (hC.1 23 (by decide) (by decide) (by decide)) (i32_nat (by omega)) (by decide) (by omega) ?_
    refine zw_n 1 rfl ?_
    exact zw_lret rfl rfl (⟨by rw [if_pos hx]; rfl, rfl⟩)

set_option maxHeartbeats 4000000 in
set_option maxRecDepth 100000 in
theorem c_letter (Mq : zM) (f : Nat → Nat → Nat) (L : Nat) (hC : CC Mq f) (hI : CInv L f) (x : Int32) : Zm 0 zm_CG_letter [.ref 0, .int x] Mq (fun r9 M1 => r9 = some (.int (if 0 ≤ x.toInt ∧ x.toInt < f 92 0 then nI (f 93 x.toInt.toNat) else -1)) ∧ M1 = Mq) := by
  show Zw 0 zm_CG_letter 0 [some (.ref 0), some (.int x)] [] Mq _
  have h82 := hI.lln
  refine zw_n 1 rfl ?_
  refine zw_lt0Z (a := x.toInt) rfl (rfl) (fun c1 => ?_) (fun c1 => ?_)
  · -- 1 to 15
    refine zw_n 2 rfl ?_
    exact zw_iret rfl rfl (⟨by rw [if_neg (by omega)], rfl⟩)
  · -- 1 to 4
    refine zw_n 2 rfl ?_
    refine zw_get (v := .ref 92) rfl (hC.1 0 (by decide) (by decide) (by decide)) rfl ?_
    refine zw_get (v := .int (nI (f 92 0))) rfl (hC.1 92 (by decide) (by decide) (by decide)) rfl ?_
    refine zw_iltZ (a := x.toInt) (b := ((f 92 0 : Nat) : Int)) rfl (rfl) (nI_toInt (by omega)) (fun c12 => ?_) (fun c12 => ?_)
    · -- 12 to 19
      refine zw_n 1 rfl ?_
      refine zw_get (v := .ref 92) rfl (hC.1 0 (by decide) (by decide) (by decide)) rfl ?_
      refine zw_get (v := .ref 93) rfl (hC.1 92 (by decide) (by decide) (by decide)) rfl ?_
      refine zw_n 1 rfl ?_
      refine zw_iald (f := ai (f 93)) (j := x.toInt.toNat) rfl (hC.1 93 (by decide) (by decide) (by decide)) (i32_nat (by omega)) (by decide) (by omega) ?_
      exact zw_iret rfl rfl (⟨by rw [if_pos (by omega)]; rfl, rfl⟩)
    · -- 12 to 15
      refine zw_n 2 rfl ?_
      exact zw_iret rfl rfl (⟨by rw [if_neg (by omega)], rfl⟩)
