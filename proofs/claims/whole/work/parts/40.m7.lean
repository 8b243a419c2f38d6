set_option maxHeartbeats 4000000 in
set_option maxRecDepth 100000 in
theorem c_fits (Mq : zM) (f : Nat → Nat → Nat) (L : Nat) (hC : CC Mq f) (hI : CInv L f) : Zm 5 zm_CG_fits [.ref 0] Mq (fun r9 M1 => r9 = some (.int (nI (if f 16 0 = 0 then NO else fitN (eAt f 16 26) (f 16 0) (f 26 0)))) ∧ ∃ f9, CC M1 f9 ∧ CInv L f9 ∧ Sm Mq M1 [34, 35, 36] ∧ Asame f f9) := by
  show Zw 5 zm_CG_fits 0 [some (.ref 0)] [] Mq _
  have hG := hI.gram.safe
  have hS := hI.tok.safe
  have hn8 := hG.1
  have hc20 := hS.1
  obtain ⟨emp, rk, hA⟩ := hI.gram.acy
  refine zw_n 1 rfl ?_
  refine zw_get (v := .ref 16) rfl (hC.1 0 (by decide) (by decide) (by decide)) rfl ?_
  refine zw_get (v := .int (nI (f 16 0))) rfl (hC.1 16 (by decide) (by decide) (by decide)) rfl ?_
  refine zw_ne0N (a := f 16 0) rfl rfl (by omega) (fun c7 => ?_) (fun c7 => ?_)
  · -- 7 to 12
    refine zw_n 1 rfl ?_
    refine zw_get (v := .ref 34) rfl (hC.1 0 (by decide) (by decide) (by decide)) rfl ?_
    refine zw_callV (as := []) (rest := []) rfl rfl rfl (hC.1 34 (by decide) (by decide) (by decide)) rfl rfl rfl (by decide) (c_readOnce Mq 34 16 26 (f 34 2) (f 35) (f 36) (f 16 0) (f 16 7) (f 17) (f 18) (f 19) (f 20) (f 21) (f 22) (f 23) (f 24) (f 25) (f 26 0) (f 27) (f 28) (f 29) (seg3 (hC.1 34 (by decide) (by decide) (by decide)) (hC.1 35 (by decide) (by decide) (by decide)) (hC.1 36 (by decide) (by decide) (by decide))) (seg10 (hC.1 16 (by decide) (by decide) (by decide)) (hC.1 17 (by decide) (by decide) (by decide)) (hC.1 18 (by decide) (by decide) (by decide)) (hC.1 19 (by decide) (by decide) (by decide)) (hC.1 20 (by decide) (by decide) (by decide)) (hC.1 21 (by decide) (by decide) (by decide)) (hC.1 22 (by decide) (by decide) (by decide)) (hC.1 23 (by decide) (by decide) (by decide)) (hC.1 24 (by decide) (by decide) (by decide)) (hC.1 25 (by decide) (by decide) (by decide))) (seg4 (hC.1 26 (by decide) (by decide) (by decide)) (hC.1 27 (by decide) (by decide) (by decide)) (hC.1 28 (by decide) (by decide) (by decide)) (hC.1 29 (by decide) (by decide) (by decide))) hG hS hI.csw hI.csr (by omega) emp rk hA hI.cst hI.cok) (fun rz456 Mz457 hz458 => ?_)
    obtain ⟨hAz448, Wz449, Rz450, hBz451, hSz452, hDz453, hEz454, hFz455⟩ := hz458
    rw [hAz448]
    show Zw 5 zm_CG_fits 19 [some (.ref 0)] [.int (nI (if 0 < (f 16 0) ∧ wh (gE (f 18) (f 19) (f 21) (f 20) (f 22) (f 27) (f 29)) (f 16 0) 0 0 (f 26 0) ≠ 0 then 1 else 0))] Mz457 _
    refine zw_eq0N (a := if 0 < (f 16 0) ∧ wh (gE (f 18) (f 19) (f 21) (f 20) (f 22) (f 27) (f 29)) (f 16 0) 0 0 (f 26 0) ≠ 0 then 1 else 0) rfl rfl (ite_b) (fun c19 => ?_) (fun c19 => ?_)
    · -- 19 to 26
      refine zw_n 1 rfl ?_
      refine zw_top (x' := nI 0) (by decide) ?_
      exact zw_iret rfl rfl (⟨by rw [if_neg c7]; unfold fitN; rw [if_neg (ite_eq0 c19)], fset (fset (fset f 36 Rz450) 35 Wz449) 34 (up (f 34) 2 1), (CC.of (f' := fset (fset (fset f 36 Rz450) 35 Wz449) 34 (up (f 34) 2 1)) hC (Sm.trans Sm.rf hSz452) ⟨by decide, by decide⟩ (d1_cons (hBz451.get 0 rfl) (d1_cons (hBz451.get 1 rfl) (d1_cons (hBz451.get 2 rfl) d1_nil))) (fs_c (fs_c (fs_c fs_n)))), ⟨hI.tl, hI.tx, hI.gram, hI.tok, hI.bef, hI.grn, hI.mvd, hI.hsz, hI.hen, hI.past, hI.lln, hI.llt, hI.kh, hI.kg, hI.kt, Nat.le_refl _, hDz453, hEz454, (fun _ => hFz455), hI.ost, hI.osw, hI.osr⟩, Sm.trans Sm.rf hSz452, Asame.of (fs_c (fs_c (fs_c fs_n))) rfl (by decide)⟩)
    · -- 19 to 22
      refine zw_n 2 rfl ?_
      refine zw_top (x' := nI 1) (by decide) ?_
      exact zw_iret rfl rfl (⟨by rw [if_neg c7]; unfold fitN; rw [if_pos (ite_ne c19)], fset (fset (fset f 36 Rz450) 35 Wz449) 34 (up (f 34) 2 1), (CC.of (f' := fset (fset (fset f 36 Rz450) 35 Wz449) 34 (up (f 34) 2 1)) hC (Sm.trans Sm.rf hSz452) ⟨by decide, by decide⟩ (d1_cons (hBz451.get 0 rfl) (d1_cons (hBz451.get 1 rfl) (d1_cons (hBz451.get 2 rfl) d1_nil))) (fs_c (fs_c (fs_c fs_n)))), ⟨hI.tl, hI.tx, hI.gram, hI.tok, hI.bef, hI.grn, hI.mvd, hI.hsz, hI.hen, hI.past, hI.lln, hI.llt, hI.kh, hI.kg, hI.kt, Nat.le_refl _, hDz453, hEz454, (fun _ => hFz455), hI.ost, hI.osw, hI.osr⟩, Sm.trans Sm.rf hSz452, Asame.of (fs_c (fs_c (fs_c fs_n))) rfl (by decide)⟩)
  · -- 7 to 10
    refine zw_n 1 rfl ?_
    exact zw_iret rfl rfl (⟨by rw [if_pos c7]; decide, f, hC, hI, Sm.rf, Asame.rf⟩)
