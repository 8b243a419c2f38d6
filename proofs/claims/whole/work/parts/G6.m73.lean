set_option maxHeartbeats 4000000 in
set_option maxRecDepth 100000 in
theorem c_repairNo (Mq : zM) (f : Nat → Nat → Nat) (L : Nat) (hC : CC Mq f) (hI : CInv L f) (x : Int32) (hx : ¬ (0 ≤ x.toInt ∧ x.toInt ≤ 1)) : Zm 7 zm_CG_repair [.ref 0, .int x] Mq (fun r9 M1 => r9 = some (.int (-1)) ∧ M1 = Mq) := by
  show Zw 7 zm_CG_repair 0 [some (.ref 0), some (.int x)] [] Mq _
  refine zw_n 1 rfl ?_
  refine zw_lt0Z (a := x.toInt) rfl (rfl) (fun c1 => ?_) (fun c1 => ?_)
  · -- 1 to 29
    refine zw_n 1 rfl ?_
    exact zw_iret rfl rfl (⟨rfl, rfl⟩)
  · -- 1 to 4
    refine zw_n 2 rfl ?_
    refine zw_igtZ (a := x.toInt) (b := 1) rfl (rfl) (by decide) (fun c6 => ?_) (fun c6 => ?_)
    · -- 6 to 29
      refine zw_n 1 rfl ?_
      exact zw_iret rfl rfl (⟨rfl, rfl⟩)
    · -- 6 to 9
      exfalso
      omega

set_option maxHeartbeats 4000000 in
set_option maxRecDepth 100000 in
theorem c_repairOk (Mq : zM) (f : Nat → Nat → Nat) (L : Nat) (hC : CC Mq f) (hI : CInv L f) (x : Nat) (hx : x ≤ 1) : Zm 7 zm_CG_repair [.ref 0, .int (nI x)] Mq (fun r9 M1 => ((f 16 0 = 0 ∨ wh (eAt f 16 26) (f 16 0) 0 0 (f 26 0) ≠ 0) → r9 = some (.int (-1))) ∧ (¬ (f 16 0 = 0 ∨ wh (eAt f 16 26) (f 16 0) 0 0 (f 26 0) ≠ 0) → ∃ l b, RepQ (f 26 0) (f 28) (rOk (f 18) (f 19) (f 21) (f 20) (f 22) (f 16 0) (f 26 0) (f 27) (f 28) (f 29)) l b ∧ r9 = some (.int (repA x l b))) ∧ ∃ f9, CC M1 f9 ∧ CInv L f9 ∧ Smc Mq M1 ∧ Asame f f9) := by
  show Zw 7 zm_CG_repair 0 [some (.ref 0), some (.int (nI x))] [] Mq _
  have hG : SafeG (f 16 0) (f 17) (f 18) (f 19) (f 20) (f 21) (f 22) := hI.gram.safe
  have hS : SafeT (f 26 0) (f 27) (f 28) (f 29) := hI.tok.safe
  have hn8 := hG.1
  have hc20 := hS.1
  obtain ⟨emp, rk, hA⟩ := hI.gram.acy
  refine zw_n 1 rfl ?_
  refine zw_lt0N (a := x) rfl rfl (by omega) ?_
  refine zw_n 2 rfl ?_
  refine zw_igtN (a := x) (b := 1) rfl rfl rfl (by omega) (by omega) (fun c6 => ?_) (fun c6 => ?_)
  · -- 6 to 29
    refine zw_n 1 rfl ?_
    exact zw_iret rfl rfl (⟨fun _ => rfl, fun q9 => absurd (by first | exact Or.inl c16 | exact Or.inr (ite_ne c26).2 | (exfalso; omega)) q9, f, hC, hI, Smc.rf, Asame.rf⟩)
  · -- 6 to 9
    refine zw_n 1 rfl ?_
    refine zw_get (v := .ref 16) rfl (hC.1 0 (by decide) (by decide) (by decide)) rfl ?_
    refine zw_get (v := .int (nI (f 16 0))) rfl (hC.1 16 (by decide) (by decide) (by decide)) rfl ?_
    refine zw_eq0N (a := f 16 0) rfl rfl (by omega) (fun c16 => ?_) (fun c16 => ?_)
    · -- 16 to 29
      refine zw_n 1 rfl ?_
      exact zw_iret rfl rfl (⟨fun _ => rfl, fun q9 => absurd (by first | exact Or.inl c16 | exact Or.inr (ite_ne c26).2 | (exfalso; omega)) q9, f, hC, hI, Smc.rf, Asame.rf⟩)
    · -- 16 to 19
      refine zw_n 1 rfl ?_
      refine zw_get (v := .ref 34) rfl (hC.1 0 (by decide) (by decide) (by decide)) rfl ?_
      refine zw_callV (as := []) (rest := []) rfl rfl rfl (hC.1 34 (by decide) (by decide) (by decide)) rfl rfl rfl (by decide) (c_readOnce Mq 34 16 26 (f 34 2) (f 35) (f 36) (f 16 0) (f 16 7) (f 17) (f 18) (f 19) (f 20) (f 21) (f 22) (f 23) (f 24) (f 25) (f 26 0) (f 27) (f 28) (f 29) (seg3 (hC.1 34 (by decide) (by decide) (by decide)) (hC.1 35 (by decide) (by decide) (by decide)) (hC.1 36 (by decide) (by decide) (by decide))) (seg10 (hC.1 16 (by decide) (by decide) (by decide)) (hC.1 17 (by decide) (by decide) (by decide)) (hC.1 18 (by decide) (by decide) (by decide)) (hC.1 19 (by decide) (by decide) (by decide)) (hC.1 20 (by decide) (by decide) (by decide)) (hC.1 21 (by decide) (by decide) (by decide)) (hC.1 22 (by decide) (by decide) (by decide)) (hC.1 23 (by decide) (by decide) (by decide)) (hC.1 24 (by decide) (by decide) (by decide)) (hC.1 25 (by decide) (by decide) (by decide))) (seg4 (hC.1 26 (by decide) (by decide) (by decide)) (hC.1 27 (by decide) (by decide) (by decide)) (hC.1 28 (by decide) (by decide) (by decide)) (hC.1 29 (by decide) (by decide) (by decide))) hG hS hI.csw hI.csr (by omega) emp rk hA hI.cst hI.cok) (fun rz6332 Mz6333 hz6334 => ?_)
      obtain ⟨hAz6324, Wz6325, Rz6326, hBz6327, hSz6328, hDz6329, hEz6330, hFz6331⟩ := hz6334
      rw [hAz6324]
      show Zw 7 zm_CG_repair 26 [some (.ref 0), some (.int (nI x))] [.int (nI (if 0 < (f 16 0) ∧ wh (gE (f 18) (f 19) (f 21) (f 20) (f 22) (f 27) (f 29)) (f 16 0) 0 0 (f 26 0) ≠ 0 then 1 else 0))] Mz6333 _
      refine zw_eq0N (a := if 0 < (f 16 0) ∧ wh (gE (f 18) (f 19) (f 21) (f 20) (f 22) (f 27) (f 29)) (f 16 0) 0 0 (f 26 0) ≠ 0 then 1 else 0) rfl rfl (ite_b) (fun c26 => ?_) (fun c26 => ?_)
      · -- 26 to 31
        refine zw_n 1 rfl ?_
        refine zw_get (v := .ref 134) rfl (Sm.at hSz6328 (by decide) (hC.1 0 (by decide) (by decide) (by decide))) rfl ?_
        refine zw_get (v := .int (nI (f 134 0))) rfl (Sm.at hSz6328 (by decide) (hC.1 134 (by decide) (by decide) (by decide))) rfl ?_
        refine zw_ne0N (a := f 134 0) rfl rfl (by have := hI.rkn; omega) (fun c38 => ?_) (fun c38 => ?_)
        · -- 38 to 60
          refine zw_n 1 rfl ?_
          refine zw_get (v := .ref 134) rfl (Sm.at hSz6328 (by decide) (hC.1 0 (by decide) (by decide) (by decide))) rfl ?_
          refine zw_get (v := .int (nI (f 134 2))) rfl (Sm.at hSz6328 (by decide) (hC.1 134 (by decide) (by decide) (by decide))) rfl ?_
          refine zw_ne0 rfl (fun c67 => ?_) (fun c67 => ?_)
          · -- 67 to 72
            refine zw_n 1 rfl ?_
            refine zw_ne0N (a := x) rfl rfl (by omega) (fun c73 => ?_) (fun c73 => ?_)
            · -- 73 to 86
              refine zw_n 1 rfl ?_
              refine zw_get (v := .ref 134) rfl (Sm.at hSz6328 (by decide) (hC.1 0 (by decide) (by decide) (by decide))) rfl ?_
              refine zw_get (v := .int (nI (f 134 2))) rfl (Sm.at hSz6328 (by decide) (hC.1 134 (by decide) (by decide) (by decide))) rfl ?_
              refine zw_n 2 rfl ?_
              refine zw_top (na (a := f 134 2) (b := 100) rfl rfl) ?_
              exact zw_iret rfl rfl (⟨fun q9 => absurd q9 (fun q9 => q9.elim (fun q8 => c16 q8) (fun q8 => ite_eq0 c26 ⟨by omega, q8⟩)), fun _ => ⟨(f 134 1), (f 134 2), (RepS.q.mp (hI.rep c38)), by unfold repA; rw [if_neg (fun q9 => c67 (by rw [q9]; rfl)), if_neg c73]⟩, fset (fset (fset f 36 Rz6326) 35 Wz6325) 34 (up (f 34) 2 1), (CC.of (f' := fset (fset (fset f 36 Rz6326) 35 Wz6325) 34 (up (f 34) 2 1)) hC (Sm.tw Sm.rf hSz6328 (by decide)) ⟨by decide, by decide⟩ (d1_cons (hBz6327.get 0 rfl) (d1_cons (hBz6327.get 1 rfl) (d1_cons (hBz6327.get 2 rfl) (d1_cons (Sm.at hSz6328 (by decide) (hC.1 125 (by decide) (by decide) (by decide))) (d1_cons (Sm.at hSz6328 (by decide) (hC.1 126 (by decide) (by decide) (by decide))) (d1_cons (Sm.at hSz6328 (by decide) (hC.1 127 (by decide) (by decide) (by decide))) (d1_cons (Sm.at hSz6328 (by decide) (hC.1 134 (by decide) (by decide) (by decide))) (d1_cons (Sm.at hSz6328 (by decide) (hC.1 135 (by decide) (by decide) (by decide))) (d1_cons (Sm.at hSz6328 (by decide) (hC.1 136 (by decide) (by decide) (by decide))) (d1_cons (Sm.at hSz6328 (by decide) (hC.1 137 (by decide) (by decide) (by decide))) (d1_cons (Sm.at hSz6328 (by decide) (hC.1 138 (by decide) (by decide) (by decide))) d1_nil))))))))))) (fs_c (fs_c (fs_c (fs_k (fs_k (fs_k (fs_k (fs_k (fs_k (fs_k (fs_k fs_n)))))))))))), ⟨⟨hI.tl, hI.tx, hI.gram, hI.tok, hI.bef, hI.grn, hI.mvd, hI.hsz, hI.hen, hI.past, hI.lln, hI.kh, hI.kg, hI.kt, Nat.le_refl _, hDz6329, hEz6330, hI.ost, hI.osw, hI.osr, hI.tst, hI.rkn, hI.fnd, hI.ofs⟩, (fun _ => hFz6331), hI.blm, hI.tre, hI.rep⟩, (Smc.of (S := [34, 35, 36, 125, 126, 127, 134, 135, 136, 137, 138]) (Sm.tw Sm.rf hSz6328 (by decide)) (by decide)), Asame.of (S := [34, 35, 36, 125, 126, 127, 134, 135, 136, 137, 138]) (fs_c (fs_c (fs_c (fs_k (fs_k (fs_k (fs_k (fs_k (fs_k (fs_k (fs_k fs_n))))))))))) rfl (by decide)⟩)
            · -- 73 to 76
              refine zw_n 1 rfl ?_
              refine zw_get (v := .ref 134) rfl (Sm.at hSz6328 (by decide) (hC.1 0 (by decide) (by decide) (by decide))) rfl ?_
              refine zw_get (v := .int (nI (f 134 1))) rfl (Sm.at hSz6328 (by decide) (hC.1 134 (by decide) (by decide) (by decide))) rfl ?_
              refine zw_n 1 rfl ?_
              exact zw_iret rfl rfl (⟨fun q9 => absurd q9 (fun q9 => q9.elim (fun q8 => c16 q8) (fun q8 => ite_eq0 c26 ⟨by omega, q8⟩)), fun _ => ⟨(f 134 1), (f 134 2), (RepS.q.mp (hI.rep c38)), by unfold repA; rw [if_neg (fun q9 => c67 (by rw [q9]; rfl)), if_pos c73]⟩, fset (fset (fset f 36 Rz6326) 35 Wz6325) 34 (up (f 34) 2 1), (CC.of (f' := fset (fset (fset f 36 Rz6326) 35 Wz6325) 34 (up (f 34) 2 1)) hC (Sm.tw Sm.rf hSz6328 (by decide)) ⟨by decide, by decide⟩ (d1_cons (hBz6327.get 0 rfl) (d1_cons (hBz6327.get 1 rfl) (d1_cons (hBz6327.get 2 rfl) (d1_cons (Sm.at hSz6328 (by decide) (hC.1 125 (by decide) (by decide) (by decide))) (d1_cons (Sm.at hSz6328 (by decide) (hC.1 126 (by decide) (by decide) (by decide))) (d1_cons (Sm.at hSz6328 (by decide) (hC.1 127 (by decide) (by decide) (by decide))) (d1_cons (Sm.at hSz6328 (by decide) (hC.1 134 (by decide) (by decide) (by decide))) (d1_cons (Sm.at hSz6328 (by decide) (hC.1 135 (by decide) (by decide) (by decide))) (d1_cons (Sm.at hSz6328 (by decide) (hC.1 136 (by decide) (by decide) (by decide))) (d1_cons (Sm.at hSz6328 (by decide) (hC.1 137 (by decide) (by decide) (by decide))) (d1_cons (Sm.at hSz6328 (by decide) (hC.1 138 (by decide) (by decide) (by decide))) d1_nil))))))))))) (fs_c (fs_c (fs_c (fs_k (fs_k (fs_k (fs_k (fs_k (fs_k (fs_k (fs_k fs_n)))))))))))), ⟨⟨hI.tl, hI.tx, hI.gram, hI.tok, hI.bef, hI.grn, hI.mvd, hI.hsz, hI.hen, hI.past, hI.lln, hI.kh, hI.kg, hI.kt, Nat.le_refl _, hDz6329, hEz6330, hI.ost, hI.osw, hI.osr, hI.tst, hI.rkn, hI.fnd, hI.ofs⟩, (fun _ => hFz6331), hI.blm, hI.tre, hI.rep⟩, (Smc.of (S := [34, 35, 36, 125, 126, 127, 134, 135, 136, 137, 138]) (Sm.tw Sm.rf hSz6328 (by decide)) (by decide)), Asame.of (S := [34, 35, 36, 125, 126, 127, 134, 135, 136, 137, 138]) (fs_c (fs_c (fs_c (fs_k (fs_k (fs_k (fs_k (fs_k (fs_k (fs_k (fs_k fs_n))))))))))) rfl (by decide)⟩)
          · -- 67 to 70
            refine zw_n 1 rfl ?_
            exact zw_iret rfl rfl (⟨fun q9 => absurd q9 (fun q9 => q9.elim (fun q8 => c16 q8) (fun q8 => ite_eq0 c26 ⟨by omega, q8⟩)), fun _ => ⟨(f 134 1), (f 134 2), (RepS.q.mp (hI.rep c38)), by unfold repA; rw [if_pos (nI_eq0 (RepS.q.mp (hI.rep c38)).lt c67)]⟩, fset (fset (fset f 36 Rz6326) 35 Wz6325) 34 (up (f 34) 2 1), (CC.of (f' := fset (fset (fset f 36 Rz6326) 35 Wz6325) 34 (up (f 34) 2 1)) hC (Sm.tw Sm.rf hSz6328 (by decide)) ⟨by decide, by decide⟩ (d1_cons (hBz6327.get 0 rfl) (d1_cons (hBz6327.get 1 rfl) (d1_cons (hBz6327.get 2 rfl) (d1_cons (Sm.at hSz6328 (by decide) (hC.1 125 (by decide) (by decide) (by decide))) (d1_cons (Sm.at hSz6328 (by decide) (hC.1 126 (by decide) (by decide) (by decide))) (d1_cons (Sm.at hSz6328 (by decide) (hC.1 127 (by decide) (by decide) (by decide))) (d1_cons (Sm.at hSz6328 (by decide) (hC.1 134 (by decide) (by decide) (by decide))) (d1_cons (Sm.at hSz6328 (by decide) (hC.1 135 (by decide) (by decide) (by decide))) (d1_cons (Sm.at hSz6328 (by decide) (hC.1 136 (by decide) (by decide) (by decide))) (d1_cons (Sm.at hSz6328 (by decide) (hC.1 137 (by decide) (by decide) (by decide))) (d1_cons (Sm.at hSz6328 (by decide) (hC.1 138 (by decide) (by decide) (by decide))) d1_nil))))))))))) (fs_c (fs_c (fs_c (fs_k (fs_k (fs_k (fs_k (fs_k (fs_k (fs_k (fs_k fs_n)))))))))))), ⟨⟨hI.tl, hI.tx, hI.gram, hI.tok, hI.bef, hI.grn, hI.mvd, hI.hsz, hI.hen, hI.past, hI.lln, hI.kh, hI.kg, hI.kt, Nat.le_refl _, hDz6329, hEz6330, hI.ost, hI.osw, hI.osr, hI.tst, hI.rkn, hI.fnd, hI.ofs⟩, (fun _ => hFz6331), hI.blm, hI.tre, hI.rep⟩, (Smc.of (S := [34, 35, 36, 125, 126, 127, 134, 135, 136, 137, 138]) (Sm.tw Sm.rf hSz6328 (by decide)) (by decide)), Asame.of (S := [34, 35, 36, 125, 126, 127, 134, 135, 136, 137, 138]) (fs_c (fs_c (fs_c (fs_k (fs_k (fs_k (fs_k (fs_k (fs_k (fs_k (fs_k fs_n))))))))))) rfl (by decide)⟩)
        · -- 38 to 41
          refine zw_n 1 rfl ?_
          refine zw_get (v := .ref 134) rfl (Sm.at hSz6328 (by decide) (hC.1 0 (by decide) (by decide) (by decide))) rfl ?_
          refine zw_n 1 rfl ?_
          refine zw_get (v := .ref 125) rfl (Sm.at hSz6328 (by decide) (hC.1 0 (by decide) (by decide) (by decide))) rfl ?_
          refine zw_n 1 rfl ?_
          refine zw_get (v := .ref 16) rfl (Sm.at hSz6328 (by decide) (hC.1 0 (by decide) (by decide) (by decide))) rfl ?_
          refine zw_n 1 rfl ?_
          refine zw_get (v := .ref 26) rfl (Sm.at hSz6328 (by decide) (hC.1 0 (by decide) (by decide) (by decide))) rfl ?_
          refine zw_callV (as := [.ref 125, .ref 16, .ref 26]) (rest := []) rfl rfl rfl (Sm.at hSz6328 (by decide) (hC.1 134 (by decide) (by decide) (by decide))) rfl rfl rfl (by decide) (c_search Mz6333 (f 16 0) (f 16 7) (f 17) (f 18) (f 19) (f 20) (f 21) (f 22) (f 23) (f 24) (f 25) (seg10 (Sm.at hSz6328 (by decide) (hC.1 16 (by decide) (by decide) (by decide))) (Sm.at hSz6328 (by decide) (hC.1 17 (by decide) (by decide) (by decide))) (Sm.at hSz6328 (by decide) (hC.1 18 (by decide) (by decide) (by decide))) (Sm.at hSz6328 (by decide) (hC.1 19 (by decide) (by decide) (by decide))) (Sm.at hSz6328 (by decide) (hC.1 20 (by decide) (by decide) (by decide))) (Sm.at hSz6328 (by decide) (hC.1 21 (by decide) (by decide) (by decide))) (Sm.at hSz6328 (by decide) (hC.1 22 (by decide) (by decide) (by decide))) (Sm.at hSz6328 (by decide) (hC.1 23 (by decide) (by decide) (by decide))) (Sm.at hSz6328 (by decide) (hC.1 24 (by decide) (by decide) (by decide))) (Sm.at hSz6328 (by decide) (hC.1 25 (by decide) (by decide) (by decide)))) hG (f 26 0) (f 27) (f 28) (f 29) (seg4 (Sm.at hSz6328 (by decide) (hC.1 26 (by decide) (by decide) (by decide))) (Sm.at hSz6328 (by decide) (hC.1 27 (by decide) (by decide) (by decide))) (Sm.at hSz6328 (by decide) (hC.1 28 (by decide) (by decide) (by decide))) (Sm.at hSz6328 (by decide) (hC.1 29 (by decide) (by decide) (by decide)))) hS (by omega) emp rk hA (f 125 0) (f 125 1) (f 125 2) (f 126) (f 127) (seg3 (Sm.at hSz6328 (by decide) (hC.1 125 (by decide) (by decide) (by decide))) (Sm.at hSz6328 (by decide) (hC.1 126 (by decide) (by decide) (by decide))) (Sm.at hSz6328 (by decide) (hC.1 127 (by decide) (by decide) (by decide)))) hI.osw hI.osr (f 135 0) (f 136) (f 137) (f 138) (seg4 (Sm.at hSz6328 (by decide) (hC.1 135 (by decide) (by decide) (by decide))) (Sm.at hSz6328 (by decide) (hC.1 136 (by decide) (by decide) (by decide))) (Sm.at hSz6328 (by decide) (hC.1 137 (by decide) (by decide) (by decide))) (Sm.at hSz6328 (by decide) (hC.1 138 (by decide) (by decide) (by decide)))) hI.mvd.1 L hI.mvd.2 hI.tok.lin (f 134 0) (f 134 1) (f 134 2) (Sm.at hSz6328 (by decide) (hC.1 134 (by decide) (by decide) (by decide)))) (fun rz6355 Mz6356 hz6357 => ?_)
          obtain ⟨hAz6335, lz6336, bz6337, stz6338, Wz6339, Rz6340, cz6341, sgz6342, liz6343, coz6344, h134z6345, hCz6346, hVz6347, hstz6348, hWz6349, hRz6350, hTz6351, hlz6352, hQz6353, hSz6354⟩ := hz6357
          rw [hAz6335]
          show Zw 7 zm_CG_repair 60 [some (.ref 0), some (.int (nI x))] [] Mz6356 _
          refine zw_n 1 rfl ?_
          refine zw_get (v := .ref 134) rfl (Sm.at hSz6354 (by decide) (Sm.at hSz6328 (by decide) (hC.1 0 (by decide) (by decide) (by decide)))) rfl ?_
          refine zw_get (v := .int (nI bz6337)) rfl h134z6345 rfl ?_
          refine zw_ne0 rfl (fun c67 => ?_) (fun c67 => ?_)
          · -- 67 to 72
            refine zw_n 1 rfl ?_
            refine zw_ne0N (a := x) rfl rfl (by omega) (fun c73 => ?_) (fun c73 => ?_)
            · -- 73 to 86
              refine zw_n 1 rfl ?_
              refine zw_get (v := .ref 134) rfl (Sm.at hSz6354 (by decide) (Sm.at hSz6328 (by decide) (hC.1 0 (by decide) (by decide) (by decide)))) rfl ?_
              refine zw_get (v := .int (nI bz6337)) rfl h134z6345 rfl ?_
              refine zw_n 2 rfl ?_
              refine zw_top (na (a := bz6337) (b := 100) rfl rfl) ?_
              exact zw_iret rfl rfl (⟨fun q9 => absurd q9 (fun q9 => q9.elim (fun q8 => c16 q8) (fun q8 => ite_eq0 c26 ⟨by omega, q8⟩)), fun _ => ⟨lz6336, bz6337, hQz6353, by unfold repA; rw [if_neg (fun q9 => c67 (by rw [q9]; rfl)), if_neg c73]⟩, fset (fset (fset (fset (fset (fset (fset (fset (fset (fset (fset f 138 coz6344) 137 liz6343) 136 sgz6342) 135 (up (f 135) 0 cz6341)) 134 (up (up (up (f 134) 0 1) 1 lz6336) 2 bz6337)) 127 Rz6340) 126 Wz6339) 125 (up (up (up (f 125) 0 16) 1 135) 2 stz6338)) 36 Rz6326) 35 Wz6325) 34 (up (f 34) 2 1), (CC.of (f' := fset (fset (fset (fset (fset (fset (fset (fset (fset (fset (fset f 138 coz6344) 137 liz6343) 136 sgz6342) 135 (up (f 135) 0 cz6341)) 134 (up (up (up (f 134) 0 1) 1 lz6336) 2 bz6337)) 127 Rz6340) 126 Wz6339) 125 (up (up (up (f 125) 0 16) 1 135) 2 stz6338)) 36 Rz6326) 35 Wz6325) 34 (up (f 34) 2 1)) hC (Sm.tw (Sm.tw Sm.rf hSz6328 (by decide)) hSz6354 (by decide)) ⟨by decide, by decide⟩ (d1_cons (Sm.at hSz6354 (by decide) (hBz6327.get 0 rfl)) (d1_cons (Sm.at hSz6354 (by decide) (hBz6327.get 1 rfl)) (d1_cons (Sm.at hSz6354 (by decide) (hBz6327.get 2 rfl)) (d1_cons (hCz6346.get 0 rfl) (d1_cons (hCz6346.get 1 rfl) (d1_cons (hCz6346.get 2 rfl) (d1_cons h134z6345 (d1_cons (hVz6347.get 0 rfl) (d1_cons (hVz6347.get 1 rfl) (d1_cons (hVz6347.get 2 rfl) (d1_cons (hVz6347.get 3 rfl) d1_nil))))))))))) (fs_c (fs_c (fs_c (fs_c (fs_c (fs_c (fs_c (fs_c (fs_c (fs_c (fs_c fs_n)))))))))))), ⟨⟨hI.tl, hI.tx, hI.gram, hI.tok, hI.bef, hI.grn, ⟨hTz6351, hlz6352⟩, hI.hsz, hI.hen, hI.past, hI.lln, hI.kh, hI.kg, hI.kt, Nat.le_refl _, hDz6329, hEz6330, hstz6348, hWz6349, hRz6350, hI.tst, Nat.le_refl _, hI.fnd, hI.ofs⟩, (fun _ => hFz6331), hI.blm, hI.tre, (fun _ => hQz6353)⟩, (Smc.of (S := [34, 35, 36, 125, 126, 127, 134, 135, 136, 137, 138]) (Sm.tw (Sm.tw Sm.rf hSz6328 (by decide)) hSz6354 (by decide)) (by decide)), Asame.of (S := [34, 35, 36, 125, 126, 127, 134, 135, 136, 137, 138]) (fs_c (fs_c (fs_c (fs_c (fs_c (fs_c (fs_c (fs_c (fs_c (fs_c (fs_c fs_n))))))))))) rfl (by decide)⟩)
            · -- 73 to 76
              refine zw_n 1 rfl ?_
              refine zw_get (v := .ref 134) rfl (Sm.at hSz6354 (by decide) (Sm.at hSz6328 (by decide) (hC.1 0 (by decide) (by decide) (by decide)))) rfl ?_
              refine zw_get (v := .int (nI lz6336)) rfl h134z6345 rfl ?_
              refine zw_n 1 rfl ?_
              exact zw_iret rfl rfl (⟨fun q9 => absurd q9 (fun q9 => q9.elim (fun q8 => c16 q8) (fun q8 => ite_eq0 c26 ⟨by omega, q8⟩)), fun _ => ⟨lz6336, bz6337, hQz6353, by unfold repA; rw [if_neg (fun q9 => c67 (by rw [q9]; rfl)), if_pos c73]⟩, fset (fset (fset (fset (fset (fset (fset (fset (fset (fset (fset f 138 coz6344) 137 liz6343) 136 sgz6342) 135 (up (f 135) 0 cz6341)) 134 (up (up (up (f 134) 0 1) 1 lz6336) 2 bz6337)) 127 Rz6340) 126 Wz6339) 125 (up (up (up (f 125) 0 16) 1 135) 2 stz6338)) 36 Rz6326) 35 Wz6325) 34 (up (f 34) 2 1), (CC.of (f' := fset (fset (fset (fset (fset (fset (fset (fset (fset (fset (fset f 138 coz6344) 137 liz6343) 136 sgz6342) 135 (up (f 135) 0 cz6341)) 134 (up (up (up (f 134) 0 1) 1 lz6336) 2 bz6337)) 127 Rz6340) 126 Wz6339) 125 (up (up (up (f 125) 0 16) 1 135) 2 stz6338)) 36 Rz6326) 35 Wz6325) 34 (up (f 34) 2 1)) hC (Sm.tw (Sm.tw Sm.rf hSz6328 (by decide)) hSz6354 (by decide)) ⟨by decide, by decide⟩ (d1_cons (Sm.at hSz6354 (by decide) (hBz6327.get 0 rfl)) (d1_cons (Sm.at hSz6354 (by decide) (hBz6327.get 1 rfl)) (d1_cons (Sm.at hSz6354 (by decide) (hBz6327.get 2 rfl)) (d1_cons (hCz6346.get 0 rfl) (d1_cons (hCz6346.get 1 rfl) (d1_cons (hCz6346.get 2 rfl) (d1_cons h134z6345 (d1_cons (hVz6347.get 0 rfl) (d1_cons (hVz6347.get 1 rfl) (d1_cons (hVz6347.get 2 rfl) (d1_cons (hVz6347.get 3 rfl) d1_nil))))))))))) (fs_c (fs_c (fs_c (fs_c (fs_c (fs_c (fs_c (fs_c (fs_c (fs_c (fs_c fs_n)))))))))))), ⟨⟨hI.tl, hI.tx, hI.gram, hI.tok, hI.bef, hI.grn, ⟨hTz6351, hlz6352⟩, hI.hsz, hI.hen, hI.past, hI.lln, hI.kh, hI.kg, hI.kt, Nat.le_refl _, hDz6329, hEz6330, hstz6348, hWz6349, hRz6350, hI.tst, Nat.le_refl _, hI.fnd, hI.ofs⟩, (fun _ => hFz6331), hI.blm, hI.tre, (fun _ => hQz6353)⟩, (Smc.of (S := [34, 35, 36, 125, 126, 127, 134, 135, 136, 137, 138]) (Sm.tw (Sm.tw Sm.rf hSz6328 (by decide)) hSz6354 (by decide)) (by decide)), Asame.of (S := [34, 35, 36, 125, 126, 127, 134, 135, 136, 137, 138]) (fs_c (fs_c (fs_c (fs_c (fs_c (fs_c (fs_c (fs_c (fs_c (fs_c (fs_c fs_n))))))))))) rfl (by decide)⟩)
          · -- 67 to 70
            refine zw_n 1 rfl ?_
            exact zw_iret rfl rfl (⟨fun q9 => absurd q9 (fun q9 => q9.elim (fun q8 => c16 q8) (fun q8 => ite_eq0 c26 ⟨by omega, q8⟩)), fun _ => ⟨lz6336, bz6337, hQz6353, by unfold repA; rw [if_pos (nI_eq0 hQz6353.lt c67)]⟩, fset (fset (fset (fset (fset (fset (fset (fset (fset (fset (fset f 138 coz6344) 137 liz6343) 136 sgz6342) 135 (up (f 135) 0 cz6341)) 134 (up (up (up (f 134) 0 1) 1 lz6336) 2 bz6337)) 127 Rz6340) 126 Wz6339) 125 (up (up (up (f 125) 0 16) 1 135) 2 stz6338)) 36 Rz6326) 35 Wz6325) 34 (up (f 34) 2 1), (CC.of (f' := fset (fset (fset (fset (fset (fset (fset (fset (fset (fset (fset f 138 coz6344) 137 liz6343) 136 sgz6342) 135 (up (f 135) 0 cz6341)) 134 (up (up (up (f 134) 0 1) 1 lz6336) 2 bz6337)) 127 Rz6340) 126 Wz6339) 125 (up (up (up (f 125) 0 16) 1 135) 2 stz6338)) 36 Rz6326) 35 Wz6325) 34 (up (f 34) 2 1)) hC (Sm.tw (Sm.tw Sm.rf hSz6328 (by decide)) hSz6354 (by decide)) ⟨by decide, by decide⟩ (d1_cons (Sm.at hSz6354 (by decide) (hBz6327.get 0 rfl)) (d1_cons (Sm.at hSz6354 (by decide) (hBz6327.get 1 rfl)) (d1_cons (Sm.at hSz6354 (by decide) (hBz6327.get 2 rfl)) (d1_cons (hCz6346.get 0 rfl) (d1_cons (hCz6346.get 1 rfl) (d1_cons (hCz6346.get 2 rfl) (d1_cons h134z6345 (d1_cons (hVz6347.get 0 rfl) (d1_cons (hVz6347.get 1 rfl) (d1_cons (hVz6347.get 2 rfl) (d1_cons (hVz6347.get 3 rfl) d1_nil))))))))))) (fs_c (fs_c (fs_c (fs_c (fs_c (fs_c (fs_c (fs_c (fs_c (fs_c (fs_c fs_n)))))))))))), ⟨⟨hI.tl, hI.tx, hI.gram, hI.tok, hI.bef, hI.grn, ⟨hTz6351, hlz6352⟩, hI.hsz, hI.hen, hI.past, hI.lln, hI.kh, hI.kg, hI.kt, Nat.le_refl _, hDz6329, hEz6330, hstz6348, hWz6349, hRz6350, hI.tst, Nat.le_refl _, hI.fnd, hI.ofs⟩, (fun _ => hFz6331), hI.blm, hI.tre, (fun _ => hQz6353)⟩, (Smc.of (S := [34, 35, 36, 125, 126, 127, 134, 135, 136, 137, 138]) (Sm.tw (Sm.tw Sm.rf hSz6328 (by decide)) hSz6354 (by decide)) (by decide)), Asame.of (S := [34, 35, 36, 125, 126, 127, 134, 135, 136, 137, 138]) (fs_c (fs_c (fs_c (fs_c (fs_c (fs_c (fs_c (fs_c (fs_c (fs_c (fs_c fs_n))))))))))) rfl (by decide)⟩)
      · -- 26 to 29
        refine zw_n 1 rfl ?_
        exact zw_iret rfl rfl (⟨fun _ => rfl, fun q9 => absurd (by first | exact Or.inl c16 | exact Or.inr (ite_ne c26).2 | (exfalso; omega)) q9, fset (fset (fset f 36 Rz6326) 35 Wz6325) 34 (up (f 34) 2 1), (CC.of (f' := fset (fset (fset f 36 Rz6326) 35 Wz6325) 34 (up (f 34) 2 1)) hC (Sm.tw Sm.rf hSz6328 (by decide)) ⟨by decide, by decide⟩ (d1_cons (hBz6327.get 0 rfl) (d1_cons (hBz6327.get 1 rfl) (d1_cons (hBz6327.get 2 rfl) (d1_cons (Sm.at hSz6328 (by decide) (hC.1 125 (by decide) (by decide) (by decide))) (d1_cons (Sm.at hSz6328 (by decide) (hC.1 126 (by decide) (by decide) (by decide))) (d1_cons (Sm.at hSz6328 (by decide) (hC.1 127 (by decide) (by decide) (by decide))) (d1_cons (Sm.at hSz6328 (by decide) (hC.1 134 (by decide) (by decide) (by decide))) (d1_cons (Sm.at hSz6328 (by decide) (hC.1 135 (by decide) (by decide) (by decide))) (d1_cons (Sm.at hSz6328 (by decide) (hC.1 136 (by decide) (by decide) (by decide))) (d1_cons (Sm.at hSz6328 (by decide) (hC.1 137 (by decide) (by decide) (by decide))) (d1_cons (Sm.at hSz6328 (by decide) (hC.1 138 (by decide) (by decide) (by decide))) d1_nil))))))))))) (fs_c (fs_c (fs_c (fs_k (fs_k (fs_k (fs_k (fs_k (fs_k (fs_k (fs_k fs_n)))))))))))), ⟨⟨hI.tl, hI.tx, hI.gram, hI.tok, hI.bef, hI.grn, hI.mvd, hI.hsz, hI.hen, hI.past, hI.lln, hI.kh, hI.kg, hI.kt, Nat.le_refl _, hDz6329, hEz6330, hI.ost, hI.osw, hI.osr, hI.tst, hI.rkn, hI.fnd, hI.ofs⟩, (fun _ => hFz6331), hI.blm, hI.tre, hI.rep⟩, (Smc.of (S := [34, 35, 36, 125, 126, 127, 134, 135, 136, 137, 138]) (Sm.tw Sm.rf hSz6328 (by decide)) (by decide)), Asame.of (S := [34, 35, 36, 125, 126, 127, 134, 135, 136, 137, 138]) (fs_c (fs_c (fs_c (fs_k (fs_k (fs_k (fs_k (fs_k (fs_k (fs_k (fs_k fs_n))))))))))) rfl (by decide)⟩)

set_option maxHeartbeats 4000000 in
set_option maxRecDepth 100000 in
theorem m_fitsMoved (Mq : zM) (o : Nat → Nat) (f : Nat → Nat → Nat) (hM : MM Mq o f)(n : Nat) (gn al_ it pt tg bd : Nat → Nat) (hg : RelG f n gn al_ it pt tg bd) (hG : SafeG n gn al_ it pt tg bd) (hF : SafeF f) (c : Nat) (sg li co : Nat → Nat) (ht : RelT f c sg li co) (hS : SafeT c sg li co) (emp : Nat → Prop) (rk : Nat → Nat) (hA : Acyc (gE al_ it tg pt bd sg co) n emp rk) (hn : 0 < n) (l : Nat) (hl : l < 1000000) (z : Int32) (hz : -40 < z.toInt ∧ z.toInt < 40) (hst : stB li co (l : Int) z.toInt c = true) : Zm 6 zm_MO_fitsMoved [.ref 139, .int (nI l), .int z] Mq (fun r9 M1 => ∃ b9, r9 = some (.int (nI b9)) ∧ b9 ≤ 1 ∧ (b9 = 1 ↔ wh (gE al_ it tg pt bd sg (mvC li co (l : Int) z.toInt)) n 0 0 c ≠ 0) ∧ ∃ f9, MM M1 o f9 ∧ Sm Mq M1 [156, 157, 158, 159, 160] ∧ Fsame f f9 [156, 157, 158, 159, 160] ∧ SafeF f9) := by
  show Zw 6 zm_MO_fitsMoved 0 [some (.ref 139), some (.int (nI l)), some (.int z), none] [] Mq _
  have hc20 := hS.1
  have hco := hS.2.2.2
  have hli := hS.2.2.1
  refine zw_n 1 rfl ?_
  refine zw_callV (as := []) (rest := []) rfl rfl rfl hM.1 rfl rfl rfl (by decide) (m_takeTokens Mq o f hM c sg li co ht hS hF) (fun rz6366 Mz6367 hz6368 => ?_)
  obtain ⟨hAz6360, Az6358, Az6359, hMMz6361, hSz6362, hz6363, hz6364, hz6365⟩ := hz6368
  rw [hAz6360]
  show Zw 6 zm_MO_fitsMoved 4 [some (.ref 139), some (.int (nI l)), some (.int z), none] [] Mz6367 _
  refine zw_n 2 (ls' := [some (.ref 139), some (.int (nI l)), some (.int z), some (.int 0)]) rfl ?_
  have lp6 : ∀ (n6 : Nat) (k : Nat) (b7 : Nat → Nat) (M_6 : zM), Sm Mq M_6 [156, 157, 158, 159, 160] → M_6[157]? = some (.inl (0, 21, .inl (ai b7))) → M_6[156]? = some (.inl (0, 21, .inl (ai Az6358))) → M_6[158]? = some (.inl (1, 3872, .inr (.inl (al (f 158))))) → M_6[159]? = some (.inl (1, 22, .inr (.inl (al (f 159))))) → M_6[160]? = some (.inl (1, 22, .inr (.inl (al (f 160))))) → (k ≤ c ∧ (∀ q, b7 q < 40) ∧ (∀ q, q < k → b7 q = (mvC li co (l : Int) z.toInt) q) ∧ (∀ q, k ≤ q → q < c → b7 q = co q)) → c - k < n6 → Zw 6 zm_MO_fitsMoved 6 [some (.ref 139), some (.int (nI l)), some (.int z), some (.int (nI k))] [] M_6 (fun r9 M1 => ∃ b9, r9 = some (.int (nI b9)) ∧ b9 ≤ 1 ∧ (b9 = 1 ↔ wh (gE al_ it tg pt bd sg (mvC li co (l : Int) z.toInt)) n 0 0 c ≠ 0) ∧ ∃ f9, MM M1 o f9 ∧ Sm Mq M1 [156, 157, 158, 159, 160] ∧ Fsame f f9 [156, 157, 158, 159, 160] ∧ SafeF f9) := by
    intro n6
    induction n6 with
    | zero => intro k b7 M_6 _ _ _ _ _ _ _ h; exact absurd h (Nat.not_lt_zero _)
    | succ n6 ih6 =>
      intro k b7 M_6 s_6 f6_0 f6_1 f6_2 f6_3 f6_4 hi6 hm6
      refine zw_n 2 rfl ?_
      refine zw_callV (as := []) (rest := [.int (nI k)]) rfl rfl rfl (Sm.at s_6 (by decide) hM.1) rfl rfl rfl (by decide) (m_tok1 M_6 o (fset (fset f 157 b7) 156 Az6358) (MM.of (o' := o) (f' := fset (fset f 157 b7) 156 Az6358) hM s_6 (Sm.at s_6 (by decide) hM.1) (c1_cons f6_1 (c1_cons f6_0 (c1_cons f6_2 (c1_cons f6_3 (c1_cons f6_4 c1_nil))))) (fs_c (fs_c (fs_k (fs_k (fs_k fs_n)))))) c ht.1) (fun rz6369 Mz6370 hz6371 => ?_)
      rw [hz6371.1, hz6371.2]
      show Zw 6 zm_MO_fitsMoved 11 [some (.ref 139), some (.int (nI l)), some (.int z), some (.int (nI k))] [.int (nI c), .int (nI k)] M_6 _
      refine zw_igeN (a := k) (b := c) rfl rfl rfl (by omega) (by omega) (fun c11 => ?_) (fun c11 => ?_)
      · -- 11 to 48
        refine zw_n 2 rfl ?_
        refine zw_callV (as := []) (rest := [.ref 139]) rfl rfl rfl (Sm.at s_6 (by decide) hM.1) rfl rfl rfl (by decide) (m_tok1 M_6 o (fset (fset f 157 b7) 156 Az6358) (MM.of (o' := o) (f' := fset (fset f 157 b7) 156 Az6358) hM s_6 (Sm.at s_6 (by decide) hM.1) (c1_cons f6_1 (c1_cons f6_0 (c1_cons f6_2 (c1_cons f6_3 (c1_cons f6_4 c1_nil))))) (fs_c (fs_c (fs_k (fs_k (fs_k fs_n)))))) c ht.1) (fun rz6372 Mz6373 hz6374 => ?_)
        rw [hz6374.1, hz6374.2]
        show Zw 6 zm_MO_fitsMoved 53 [some (.ref 139), some (.int (nI l)), some (.int z), some (.int (nI k))] [.int (nI c), .ref 139] M_6 _
        refine zw_callV (as := [.int (nI c)]) (rest := []) rfl rfl rfl (Sm.at s_6 (by decide) hM.1) rfl rfl rfl (by decide) (m_layWhere M_6 o (fset (fset f 157 b7) 156 Az6358) (MM.of (o' := o) (f' := fset (fset f 157 b7) 156 Az6358) hM s_6 (Sm.at s_6 (by decide) hM.1) (c1_cons f6_1 (c1_cons f6_0 (c1_cons f6_2 (c1_cons f6_3 (c1_cons f6_4 c1_nil))))) (fs_c (fs_c (fs_k (fs_k (fs_k fs_n)))))) n gn al_ it pt tg bd hg hG (⟨hF.1, hz6363, hi6.2.1, hF.2.2.2.1, hF.2.2.2.2.1, hF.2.2.2.2.2⟩) emp rk hA c (by omega)) (fun rz6385 Mz6386 hz6387 => ?_)
        obtain ⟨hAz6378, Az6375, Az6376, Az6377, hMMz6379, hSz6380, hz6381, hz6382, hz6383, hz6384⟩ := hz6387
        rw [hAz6378]
        show Zw 6 zm_MO_fitsMoved 56 [some (.ref 139), some (.int (nI l)), some (.int z), some (.int (nI k))] [] Mz6386 _
        refine zw_n 1 rfl ?_
        refine zw_get (v := .ref 158) rfl (Sm.at hSz6380 (by decide) (Sm.at s_6 (by decide) hM.1)) rfl ?_
        refine zw_n 3 rfl ?_
        refine zw_callV (as := []) (rest := [.int 0, .int 0, .ref 158]) rfl rfl rfl (Sm.at hSz6380 (by decide) (Sm.at s_6 (by decide) hM.1)) rfl rfl rfl (by decide) (m_tok1 Mz6386 o (fset (fset (fset (fset (fset f 160 Az6377) 159 Az6376) 158 Az6375) 157 b7) 156 Az6358) (MM.of (o' := o) (f' := fset (fset (fset (fset (fset f 160 Az6377) 159 Az6376) 158 Az6375) 157 b7) 156 Az6358) hM (Sm.tw s_6 hSz6380 (by decide)) (Sm.at hSz6380 (by decide) (Sm.at s_6 (by decide) hM.1)) (c1_cons (Sm.at hSz6380 (by decide) f6_1) (c1_cons (Sm.at hSz6380 (by decide) f6_0) (c1_cons (hMMz6379.2 158 (by decide) (by decide)) (c1_cons (hMMz6379.2 159 (by decide) (by decide)) (c1_cons (hMMz6379.2 160 (by decide) (by decide)) c1_nil))))) (fs_c (fs_c (fs_c (fs_c (fs_c fs_n)))))) c ht.1) (fun rz6388 Mz6389 hz6390 => ?_)
        rw [hz6390.1, hz6390.2]
        show Zw 6 zm_MO_fitsMoved 66 [some (.ref 139), some (.int (nI l)), some (.int z), some (.int (nI k))] [.int (nI c), .int 0, .int 0, .ref 158] Mz6386 _
        refine zw_callS (as := [.int 0, .int 0, .int (nI c)]) (rest := [.ref 158]) rfl rfl rfl rfl rfl rfl (by decide) (m_at _ 0 0 c) (fun rz6391 Mz6392 hz6393 => ?_)
        rw [hz6393.1, hz6393.2]
        show Zw 6 zm_MO_fitsMoved 69 [some (.ref 139), some (.int (nI l)), some (.int z), some (.int (nI k))] [.int (nI (22 * (22 * 0 + 0) + c)), .ref 158] Mz6386 _
        refine zw_lald (f := al Az6375) (j := (22 * (22 * 0 + 0) + c)) rfl (hMMz6379.2 158 (by decide) (by decide)) rfl (by decide) (by omega) ?_
        refine zw_topl (x' := (lN (wh (gE al_ it tg pt bd sg (mvC li co (l : Int) z.toInt)) n 0 0 c))) (congrArg lN ((hz6384.congE (fun p9 h9 => ⟨(hz6365 p9 h9).1, hi6.2.2.1 p9 (by omega)⟩)) 0 0 c hn (Nat.zero_le _) (by omega))) ?_
        refine zw_n 2 rfl ?_
        refine zw_leqN (a := wh (gE al_ it tg pt bd sg (mvC li co (l : Int) z.toInt)) n 0 0 c) (b := 0) rfl rfl rfl (by first | exact Nat.lt_trans wh_lt (by decide) | decide) (by first | exact Nat.lt_trans wh_lt (by decide) | decide) (fun c72 => ?_) (fun c72 => ?_)
        · -- 72 to 79
          refine zw_n 1 rfl ?_
          exact zw_zret rfl rfl (Or.inl rfl) (⟨0, rfl, by decide, iff_of_false (by decide) (fun q9 => q9 c72), fset (fset (fset (fset (fset f 160 Az6377) 159 Az6376) 158 Az6375) 157 b7) 156 Az6358, (MM.of (o' := o) (f' := fset (fset (fset (fset (fset f 160 Az6377) 159 Az6376) 158 Az6375) 157 b7) 156 Az6358) hM (Sm.tw s_6 hSz6380 (by decide)) (Sm.at hSz6380 (by decide) (Sm.at s_6 (by decide) hM.1)) (c1_cons (Sm.at hSz6380 (by decide) f6_1) (c1_cons (Sm.at hSz6380 (by decide) f6_0) (c1_cons (hMMz6379.2 158 (by decide) (by decide)) (c1_cons (hMMz6379.2 159 (by decide) (by decide)) (c1_cons (hMMz6379.2 160 (by decide) (by decide)) c1_nil))))) (fs_c (fs_c (fs_c (fs_c (fs_c fs_n)))))), Sm.tw s_6 hSz6380 (by decide), fs_c (fs_c (fs_c (fs_c (fs_c fs_n)))), ⟨hF.1, hz6363, hi6.2.1, hz6381, hz6382, hz6383⟩⟩)
        · -- 72 to 75
          refine zw_n 2 rfl ?_
          exact zw_zret rfl rfl (Or.inr rfl) (⟨1, rfl, by decide, iff_of_true rfl c72, fset (fset (fset (fset (fset f 160 Az6377) 159 Az6376) 158 Az6375) 157 b7) 156 Az6358, (MM.of (o' := o) (f' := fset (fset (fset (fset (fset f 160 Az6377) 159 Az6376) 158 Az6375) 157 b7) 156 Az6358) hM (Sm.tw s_6 hSz6380 (by decide)) (Sm.at hSz6380 (by decide) (Sm.at s_6 (by decide) hM.1)) (c1_cons (Sm.at hSz6380 (by decide) f6_1) (c1_cons (Sm.at hSz6380 (by decide) f6_0) (c1_cons (hMMz6379.2 158 (by decide) (by decide)) (c1_cons (hMMz6379.2 159 (by decide) (by decide)) (c1_cons (hMMz6379.2 160 (by decide) (by decide)) c1_nil))))) (fs_c (fs_c (fs_c (fs_c (fs_c fs_n)))))), Sm.tw s_6 hSz6380 (by decide), fs_c (fs_c (fs_c (fs_c (fs_c fs_n)))), ⟨hF.1, hz6363, hi6.2.1, hz6381, hz6382, hz6383⟩⟩)
      · -- 11 to 14
        refine zw_n 1 rfl ?_
        refine zw_get (v := .ref 157) rfl (Sm.at s_6 (by decide) hM.1) rfl ?_
        refine zw_n 2 rfl ?_
        refine zw_iald (f := ai b7) (j := k) rfl f6_0 rfl (by decide) (by omega) ?_
        refine zw_top (x' := (nI (co k))) (congrArg nI (hi6.2.2.2 k (Nat.le_refl _) (by omega))) ?_
        have hlk := hli k
        have j21 : Zw 6 zm_MO_fitsMoved 40 [some (.ref 139), some (.int (nI l)), some (.int z), some (.int (nI k))] [.int (if li k = l then z else 0), .int (nI (co k)), .int (nI k), .ref 157] M_6 (fun r9 M1 => ∃ b9, r9 = some (.int (nI b9)) ∧ b9 ≤ 1 ∧ (b9 = 1 ↔ wh (gE al_ it tg pt bd sg (mvC li co (l : Int) z.toInt)) n 0 0 c ≠ 0) ∧ ∃ f9, MM M1 o f9 ∧ Sm Mq M1 [156, 157, 158, 159, 160] ∧ Fsame f f9 [156, 157, 158, 159, 160] ∧ SafeF f9) := by
          refine zw_n 1 rfl ?_
          refine zw_iastN (g := b7) (j := k) (v := (mvC li co (l : Int) z.toInt k)) rfl f6_0 rfl (by decide) (by omega) (mv_st2 (by omega) hst (by omega) hco hz) ?_
          generalize ez6395 : List.set M_6 157 _ = Mz6394
          refine zw_inc rfl (x' := (nI (k + 1))) (ls' := [some (.ref 139), some (.int (nI l)), some (.int z), some (.int (nI (k + 1)))]) rfl (na (a := k) (b := 1) rfl rfl) rfl ?_
          refine zw_n 1 rfl ?_
          exact ih6 (k + 1) (up b7 k (mvC li co (l : Int) z.toInt k)) Mz6394 (Sm.tset s_6 ez6395 (by decide)) (zat_self ez6395 f6_0) (zat_set ez6395 (by decide) f6_1) (zat_set ez6395 (by decide) f6_2) (zat_set ez6395 (by decide) f6_3) (zat_set ez6395 (by decide) f6_4) (⟨by omega, up_lt hi6.2.1 (mvC_lt hst hco (by omega)), fun q hq => by
            by_cases e9 : q = k
            · rw [e9, up_s]
            · rw [up_n e9]; exact hi6.2.2.1 q (by omega), fun q h8 h9 => by rw [up_n (by omega)]; exact hi6.2.2.2 q (by omega) h9⟩) (by omega)
        have hlk := hli k
        refine zw_n 1 rfl ?_
        refine zw_get (v := .ref 140) rfl (Sm.at s_6 (by decide) hM.1) rfl ?_
        refine zw_n 3 rfl ?_
        refine zw_top (na (a := 550) (b := k) rfl rfl) ?_
        refine zw_iald (f := ai (f 140)) (j := (550 + k)) rfl (Sm.at s_6 (by decide) (hM.2 140 (by decide) (by decide))) rfl (by decide) (by omega) ?_
        refine zw_top (x' := (nI (li k))) (congrArg nI (ht.2 k (by omega)).2.1) ?_
        refine zw_n 1 rfl ?_
        refine zw_ineN (a := li k) (b := l) rfl rfl rfl (by omega) (by omega) (fun c32 => ?_) (fun c32 => ?_)
        · -- 32 to 39
          refine zw_n 1 rfl ?_
          refine zw_top (x' := (if li k = l then z else 0)) (show (0 : Int32) = (if li k = l then z else 0) by rw [if_neg (by omega)]) ?_
          exact j21
        · -- 32 to 35
          refine zw_n 2 rfl ?_
          refine zw_top (x' := (if li k = l then z else 0)) (show (z : Int32) = (if li k = l then z else 0) by rw [if_pos (by omega)]) ?_
          exact j21
  exact lp6 _ 0 Az6359 Mz6367 (Sm.tw Sm.rf hSz6362 (by decide)) (hMMz6361.2 157 (by decide) (by decide)) (hMMz6361.2 156 (by decide) (by decide)) (Sm.at hSz6362 (by decide) (hM.2 158 (by decide) (by decide))) (Sm.at hSz6362 (by decide) (hM.2 159 (by decide) (by decide))) (Sm.at hSz6362 (by decide) (hM.2 160 (by decide) (by decide))) (⟨Nat.zero_le _, hz6364, fun q hq => by omega, fun q _ hq => (hz6365 q hq).2⟩) (Nat.lt_succ_self _)

set_option maxHeartbeats 4000000 in
set_option maxRecDepth 100000 in
theorem m_repairNo (Mq : zM) (o : Nat → Nat) (f : Nat → Nat → Nat) (hM : MM Mq o f) (x : Int32) (hx : ¬ (0 ≤ x.toInt ∧ x.toInt ≤ 1)) : Zm 8 zm_MO_repair [.ref 139, .int x] Mq (fun r9 M1 => r9 = some (.int (-1)) ∧ MM M1 (up o 0 0) f ∧ Sm Mq M1 [139]) := by
  show Zw 8 zm_MO_repair 0 [some (.ref 139), some (.int x), none, none, none, none] [] Mq _
  refine zw_n 2 rfl ?_
  refine zw_put rfl hM.1 (rfl) (Nat.le_of_ble_eq_true rfl) ?_
  generalize ez6397 : List.set Mq 139 _ = Mz6396
  refine zw_n 4 rfl ?_
  refine zw_callS (as := [.long (Int32.toInt64 x), .long 0, .long 1]) (rest := []) rfl rfl rfl rfl rfl rfl (by decide) (m_in Mz6396 (Int32.toInt64 x) 0 1 x.toInt 0 1 (Int32.toInt_toInt64 _) (by decide) (by decide)) (fun rz6398 Mz6399 hz6400 => ?_)
  rw [hz6400.1, hz6400.2]
  show Zw 8 zm_MO_repair 12 [some (.ref 139), some (.int x), none, none, none, none] [.int (nI (if 0 ≤ x.toInt ∧ x.toInt ≤ 1 then 1 else 0))] Mz6396 _
  refine zw_eq0N (a := if 0 ≤ x.toInt ∧ x.toInt ≤ 1 then 1 else 0) rfl rfl (ite_b) (fun c12 => ?_) (fun c12 => ?_)
  · -- 12 to 29
    refine zw_n 1 rfl ?_
    exact zw_iret rfl rfl (⟨rfl, (MM.of (o' := up o 0 0) (f' := f) hM (Sm.tset Sm.rf ez6397 (by decide)) (zat_self ez6397 hM.1) (c1_skip c1_nil) (fs_k fs_n)), Sm.tset Sm.rf ez6397 (by decide)⟩)
  · -- 12 to 15
    exfalso
    exact hx (ite_ne c12)

set_option maxHeartbeats 4000000 in
set_option maxRecDepth 100000 in
theorem m_repairOk (Mq : zM) (o : Nat → Nat) (f : Nat → Nat → Nat) (hM : MM Mq o f)(n : Nat) (gn al_ it pt tg bd : Nat → Nat) (hg : RelG f n gn al_ it pt tg bd) (hG : SafeG n gn al_ it pt tg bd) (hF : SafeF f) (c : Nat) (sg li co : Nat → Nat) (ht : RelT f c sg li co) (hS : SafeT c sg li co) (emp : Nat → Prop) (rk : Nat → Nat) (hA : Acyc (gE al_ it tg pt bd sg co) n emp rk) (x : Nat) (hx : x ≤ 1) : Zm 8 zm_MO_repair [.ref 139, .int (nI x)] Mq (fun r9 M1 => ((n = 0 ∨ wh (gE al_ it tg pt bd sg co) n 0 0 c ≠ 0) → r9 = some (.int (-1))) ∧ (¬ (n = 0 ∨ wh (gE al_ it tg pt bd sg co) n 0 0 c ≠ 0) → ∃ l b, RepQ c li (rOk al_ it tg pt bd n c sg li co) l b ∧ r9 = some (.int (repA x l b))) ∧ ∃ f9, MM M1 (up o 0 0) f9 ∧ Sm Mq M1 [139, 156, 157, 158, 159, 160] ∧ Fsame f f9 [139, 156, 157, 158, 159, 160] ∧ SafeF f9) := by
  show Zw 8 zm_MO_repair 0 [some (.ref 139), some (.int (nI x)), none, none, none, none] [] Mq _
  have hc20 := hS.1
  have hli := hS.2.2.1
  have hn8 := hG.1
  refine zw_n 2 rfl ?_
  refine zw_put rfl hM.1 (rfl) (Nat.le_of_ble_eq_true rfl) ?_
  generalize ez6402 : List.set Mq 139 _ = Mz6401
  refine zw_n 4 rfl ?_
  refine zw_callS (as := [.long (Int32.toInt64 (nI x)), .long 0, .long 1]) (rest := []) rfl rfl rfl rfl rfl rfl (by decide) (m_in Mz6401 (Int32.toInt64 (nI x)) 0 1 ((x : Nat) : Int) 0 1 (l_nI (by omega)) (by decide) (by decide)) (fun rz6403 Mz6404 hz6405 => ?_)
  rw [hz6405.1, hz6405.2]
  show Zw 8 zm_MO_repair 12 [some (.ref 139), some (.int (nI x)), none, none, none, none] [.int (nI (if 0 ≤ ((x : Nat) : Int) ∧ ((x : Nat) : Int) ≤ 1 then 1 else 0))] Mz6401 _
  refine zw_eq0N (a := if 0 ≤ ((x : Nat) : Int) ∧ ((x : Nat) : Int) ≤ 1 then 1 else 0) rfl rfl (ite_b) (fun c12 => ?_) (fun c12 => ?_)
  · -- 12 to 29
    refine zw_n 1 rfl ?_
    exact zw_iret rfl rfl (⟨fun _ => rfl, fun q9 => absurd (by first | exact Or.inl (by have h9 := ite_eq0 c19; omega) | exact Or.inr (ite_ne c26) | exact absurd (by omega) (ite_eq0 c12)) q9, f, (MM.of (o' := up o 0 0) (f' := f) hM (Sm.tset Sm.rf ez6402 (by decide)) (zat_self ez6402 hM.1) (c1_skip (c1_cons (zat_set ez6402 (by decide) (hM.2 156 (by decide) (by decide))) (c1_cons (zat_set ez6402 (by decide) (hM.2 157 (by decide) (by decide))) (c1_cons (zat_set ez6402 (by decide) (hM.2 158 (by decide) (by decide))) (c1_cons (zat_set ez6402 (by decide) (hM.2 159 (by decide) (by decide))) (c1_cons (zat_set ez6402 (by decide) (hM.2 160 (by decide) (by decide))) c1_nil)))))) (fs_k (fs_k (fs_k (fs_k (fs_k (fs_k fs_n))))))), Sm.tset Sm.rf ez6402 (by decide), fs_k (fs_k (fs_k (fs_k (fs_k (fs_k fs_n))))), hF⟩)
  · -- 12 to 15
    refine zw_n 1 rfl ?_
    refine zw_callV (as := []) (rest := []) rfl rfl rfl (zat_self ez6402 hM.1) rfl rfl rfl (by decide) (m_isGrammar Mz6401 (up o 0 0) f (MM.of (o' := up o 0 0) (f' := f) hM (Sm.tset Sm.rf ez6402 (by decide)) (zat_self ez6402 hM.1) (c1_skip (c1_cons (zat_set ez6402 (by decide) (hM.2 156 (by decide) (by decide))) (c1_cons (zat_set ez6402 (by decide) (hM.2 157 (by decide) (by decide))) (c1_cons (zat_set ez6402 (by decide) (hM.2 158 (by decide) (by decide))) (c1_cons (zat_set ez6402 (by decide) (hM.2 159 (by decide) (by decide))) (c1_cons (zat_set ez6402 (by decide) (hM.2 160 (by decide) (by decide))) c1_nil)))))) (fs_k (fs_k (fs_k (fs_k (fs_k (fs_k fs_n))))))) n gn al_ it pt tg bd hg hG hF) (fun rz6406 Mz6407 hz6408 => ?_)
    rw [hz6408.1, hz6408.2]
    show Zw 8 zm_MO_repair 19 [some (.ref 139), some (.int (nI x)), none, none, none, none] [.int (nI (if 0 < n then 1 else 0))] Mz6401 _
    refine zw_eq0N (a := if 0 < n then 1 else 0) rfl rfl (ite_b) (fun c19 => ?_) (fun c19 => ?_)
    · -- 19 to 29
      refine zw_n 1 rfl ?_
      exact zw_iret rfl rfl (⟨fun _ => rfl, fun q9 => absurd (by first | exact Or.inl (by have h9 := ite_eq0 c19; omega) | exact Or.inr (ite_ne c26) | exact absurd (by omega) (ite_eq0 c12)) q9, f, (MM.of (o' := up o 0 0) (f' := f) hM (Sm.tset Sm.rf ez6402 (by decide)) (zat_self ez6402 hM.1) (c1_skip (c1_cons (zat_set ez6402 (by decide) (hM.2 156 (by decide) (by decide))) (c1_cons (zat_set ez6402 (by decide) (hM.2 157 (by decide) (by decide))) (c1_cons (zat_set ez6402 (by decide) (hM.2 158 (by decide) (by decide))) (c1_cons (zat_set ez6402 (by decide) (hM.2 159 (by decide) (by decide))) (c1_cons (zat_set ez6402 (by decide) (hM.2 160 (by decide) (by decide))) c1_nil)))))) (fs_k (fs_k (fs_k (fs_k (fs_k (fs_k fs_n))))))), Sm.tset Sm.rf ez6402 (by decide), fs_k (fs_k (fs_k (fs_k (fs_k (fs_k fs_n))))), hF⟩)
    · -- 19 to 22
      refine zw_n 1 rfl ?_
      refine zw_callV (as := []) (rest := []) rfl rfl rfl (zat_self ez6402 hM.1) rfl rfl rfl (by decide) (m_isFitting Mz6401 (up o 0 0) f (MM.of (o' := up o 0 0) (f' := f) hM (Sm.tset Sm.rf ez6402 (by decide)) (zat_self ez6402 hM.1) (c1_skip (c1_cons (zat_set ez6402 (by decide) (hM.2 156 (by decide) (by decide))) (c1_cons (zat_set ez6402 (by decide) (hM.2 157 (by decide) (by decide))) (c1_cons (zat_set ez6402 (by decide) (hM.2 158 (by decide) (by decide))) (c1_cons (zat_set ez6402 (by decide) (hM.2 159 (by decide) (by decide))) (c1_cons (zat_set ez6402 (by decide) (hM.2 160 (by decide) (by decide))) c1_nil)))))) (fs_k (fs_k (fs_k (fs_k (fs_k (fs_k fs_n))))))) n gn al_ it pt tg bd hg hG hF c sg li co ht hS emp rk hA (by have := ite_ne c19; omega)) (fun rz6417 Mz6418 hz6419 => ?_)
      obtain ⟨hAz6410, fz6409, hMMz6411, hSz6412, hFsz6413, hSFz6414, hz6415, hz6416⟩ := hz6419
      rw [hAz6410]
      show Zw 8 zm_MO_repair 26 [some (.ref 139), some (.int (nI x)), none, none, none, none] [.int (nI (if wh (gE al_ it tg pt bd sg co) n 0 0 c ≠ 0 then 1 else 0))] Mz6418 _
      refine zw_eq0N (a := if wh (gE al_ it tg pt bd sg co) n 0 0 c ≠ 0 then 1 else 0) rfl rfl (ite_b) (fun c26 => ?_) (fun c26 => ?_)
      · -- 26 to 31
        have hn0 : 0 < n := ite_ne c19
        have hnof : ¬ (n = 0 ∨ wh (gE al_ it tg pt bd sg co) n 0 0 c ≠ 0) := fun q9 => q9.elim (fun q8 => by omega) (fun q8 => ite_eq0 c26 q8)
        refine zw_n 2 (ls' := [some (.ref 139), some (.int (nI x)), some (.int 1), none, none, none]) rfl ?_
        have mz6420 : Mz6418[140]? = some (.inl (0, 590, .inl (ai (f 140)))) := Sm.at hSz6412 (by decide) (zat_set ez6402 (by decide) (hM.2 140 (by decide) (by decide)))
        have mz6421 : Mz6418[153]? = some (.inl (0, 160, .inl (ai (f 153)))) := Sm.at hSz6412 (by decide) (zat_set ez6402 (by decide) (hM.2 153 (by decide) (by decide)))
        have lp33 : ∀ (n33 : Nat) (size : Nat) (a6 : Nat → Nat) (a7 : Nat → Nat) (a8 : Nat → Nat) (a9 : Nat → Nat) (a0 : Nat → Nat) (M_33 : zM), Sm Mq M_33 [139, 156, 157, 158, 159, 160] → M_33[156]? = some (.inl (0, 21, .inl (ai a6))) → M_33[157]? = some (.inl (0, 21, .inl (ai a7))) → M_33[158]? = some (.inl (1, 3872, .inr (.inl (al a8)))) → M_33[159]? = some (.inl (1, 22, .inr (.inl (al a9)))) → M_33[160]? = some (.inl (1, 22, .inr (.inl (al a0)))) → M_33[139]? = some (.inr (12, [.int 0, .ref 140, .ref 141, .ref 142, .ref 143, .int (nI (o 5)), .ref 144, .int (nI (o 7)), .int (nI (o 8)), .int (nI (o 9)), .int (nI (o 10)), .ref 145, .ref 146, .ref 147, .ref 148, .ref 149, .ref 150, .ref 151, .ref 152, .ref 153, .ref 154, .ref 155, .ref 156, .ref 157, .ref 158, .ref 159, .ref 160, .ref 161, .ref 162, .ref 163, .ref 164, .int (nI (o 31)), .ref 165, .int (nI (o 33)), .ref 166, .ref 167, .ref 168, .ref 169, .int (nI (o 38)), .ref 170, .ref 171, .ref 172, .ref 173, .ref 174, .ref 175, .int (nI (o 45)), .int (nI (o 46)), .int (nI (o 47)), .long (lN (o 48)), .ref 176])) → (1 ≤ size ∧ size ≤ 7 ∧ ((∀ q, a6 q < 2147483648) ∧ (∀ q, a7 q < 40) ∧ SafeM a8 ∧ SafeM a9 ∧ SafeM a0) ∧ RepJ c li (rOk al_ it tg pt bd n c sg li co) size 0) → 7 - size < n33 → Zw 8 zm_MO_repair 33 [some (.ref 139), some (.int (nI x)), some (.int (nI size)), none, none, none] [] M_33 (fun r9 M1 => ((n = 0 ∨ wh (gE al_ it tg pt bd sg co) n 0 0 c ≠ 0) → r9 = some (.int (-1))) ∧ (¬ (n = 0 ∨ wh (gE al_ it tg pt bd sg co) n 0 0 c ≠ 0) → ∃ l b, RepQ c li (rOk al_ it tg pt bd n c sg li co) l b ∧ r9 = some (.int (repA x l b))) ∧ ∃ f9, MM M1 (up o 0 0) f9 ∧ Sm Mq M1 [139, 156, 157, 158, 159, 160] ∧ Fsame f f9 [139, 156, 157, 158, 159, 160] ∧ SafeF f9) := by
          intro n33
          induction n33 with
          | zero => intro size a6 a7 a8 a9 a0 M_33 _ _ _ _ _ _ _ _ h; exact absurd h (Nat.not_lt_zero _)
          | succ n33 ih33 =>
            intro size a6 a7 a8 a9 a0 M_33 s_33 f33_0 f33_1 f33_2 f33_3 f33_4 f33_5 hi33 hm33
            have as := hi33.2.2.1
            refine zw_n 2 rfl ?_
            refine zw_igtN (a := size) (b := 6) rfl rfl rfl (by omega) (by omega) (fun c36 => ?_) (fun c36 => ?_)
            · -- 36 to 140
              refine zw_n 1 rfl ?_
              exact zw_iret rfl rfl (⟨fun q9 => absurd q9 hnof, fun _ => ⟨0, 0, hi33.2.2.2.fin (by omega), by unfold repA; rw [if_pos rfl]⟩, fset (fset (fset (fset (fset f 160 a0) 159 a9) 158 a8) 157 a7) 156 a6, (MM.of (o' := up o 0 0) (f' := fset (fset (fset (fset (fset f 160 a0) 159 a9) 158 a8) 157 a7) 156 a6) hM s_33 f33_5 (c1_skip (c1_cons f33_0 (c1_cons f33_1 (c1_cons f33_2 (c1_cons f33_3 (c1_cons f33_4 c1_nil)))))) (fs_k (fs_c (fs_c (fs_c (fs_c (fs_c fs_n))))))), s_33, fs_k (fs_c (fs_c (fs_c (fs_c (fs_c fs_n))))), ⟨hF.1, as.1, as.2.1, as.2.2.1, as.2.2.2.1, as.2.2.2.2⟩⟩)
            · -- 36 to 39
              refine zw_n 2 (ls' := [some (.ref 139), some (.int (nI x)), some (.int (nI size)), some (.int 0), none, none]) rfl ?_
              have lp41 : ∀ (n41 : Nat) (t : Nat) (b6 : Nat → Nat) (b7 : Nat → Nat) (b8 : Nat → Nat) (b9 : Nat → Nat) (b0 : Nat → Nat) (M_41 : zM), Sm Mq M_41 [139, 156, 157, 158, 159, 160] → M_41[156]? = some (.inl (0, 21, .inl (ai b6))) → M_41[157]? = some (.inl (0, 21, .inl (ai b7))) → M_41[158]? = some (.inl (1, 3872, .inr (.inl (al b8)))) → M_41[159]? = some (.inl (1, 22, .inr (.inl (al b9)))) → M_41[160]? = some (.inl (1, 22, .inr (.inl (al b0)))) → M_41[139]? = some (.inr (12, [.int 0, .ref 140, .ref 141, .ref 142, .ref 143, .int (nI (o 5)), .ref 144, .int (nI (o 7)), .int (nI (o 8)), .int (nI (o 9)), .int (nI (o 10)), .ref 145, .ref 146, .ref 147, .ref 148, .ref 149, .ref 150, .ref 151, .ref 152, .ref 153, .ref 154, .ref 155, .ref 156, .ref 157, .ref 158, .ref 159, .ref 160, .ref 161, .ref 162, .ref 163, .ref 164, .int (nI (o 31)), .ref 165, .int (nI (o 33)), .ref 166, .ref 167, .ref 168, .ref 169, .int (nI (o 38)), .ref 170, .ref 171, .ref 172, .ref 173, .ref 174, .ref 175, .int (nI (o 45)), .int (nI (o 46)), .int (nI (o 47)), .long (lN (o 48)), .ref 176])) → (t ≤ c ∧ ((∀ q, b6 q < 2147483648) ∧ (∀ q, b7 q < 40) ∧ SafeM b8 ∧ SafeM b9 ∧ SafeM b0) ∧ RepJ c li (rOk al_ it tg pt bd n c sg li co) size t) → c - t < n41 → Zw 8 zm_MO_repair 41 [some (.ref 139), some (.int (nI x)), some (.int (nI size)), some (.int (nI t)), none, none] [] M_41 (fun r9 M1 => ((n = 0 ∨ wh (gE al_ it tg pt bd sg co) n 0 0 c ≠ 0) → r9 = some (.int (-1))) ∧ (¬ (n = 0 ∨ wh (gE al_ it tg pt bd sg co) n 0 0 c ≠ 0) → ∃ l b, RepQ c li (rOk al_ it tg pt bd n c sg li co) l b ∧ r9 = some (.int (repA x l b))) ∧ ∃ f9, MM M1 (up o 0 0) f9 ∧ Sm Mq M1 [139, 156, 157, 158, 159, 160] ∧ Fsame f f9 [139, 156, 157, 158, 159, 160] ∧ SafeF f9) := by
                intro n41
                induction n41 with
                | zero => intro t b6 b7 b8 b9 b0 M_41 _ _ _ _ _ _ _ _ h; exact absurd h (Nat.not_lt_zero _)
                | succ n41 ih41 =>
                  intro t b6 b7 b8 b9 b0 M_41 s_41 f41_0 f41_1 f41_2 f41_3 f41_4 f41_5 hi41 hm41
                  have bs := hi41.2.1
                  have hJ := hi41.2.2
                  obtain ⟨hng, hnq, hnz⟩ := nI_neg (far := size) (by omega) (by omega)
                  have hps : (nI size).toInt = (size : Int) := nI_toInt (by omega)
                  have hlt : (nI (li t)).toInt = (li t : Int) := nI_toInt (by have := hli t; omega)
                  refine zw_n 2 rfl ?_
                  refine zw_callV (as := []) (rest := [.int (nI t)]) rfl rfl rfl f41_5 rfl rfl rfl (by decide) (m_tok1 M_41 (up o 0 0) (fset (fset (fset (fset (fset f 160 b0) 159 b9) 158 b8) 157 b7) 156 b6) (MM.of (o' := up o 0 0) (f' := fset (fset (fset (fset (fset f 160 b0) 159 b9) 158 b8) 157 b7) 156 b6) hM s_41 f41_5 (c1_skip (c1_cons f41_0 (c1_cons f41_1 (c1_cons f41_2 (c1_cons f41_3 (c1_cons f41_4 c1_nil)))))) (fs_k (fs_c (fs_c (fs_c (fs_c (fs_c fs_n))))))) c ht.1) (fun rz6422 Mz6423 hz6424 => ?_)
                  rw [hz6424.1, hz6424.2]
                  show Zw 8 zm_MO_repair 46 [some (.ref 139), some (.int (nI x)), some (.int (nI size)), some (.int (nI t)), none, none] [.int (nI c), .int (nI t)] M_41 _
                  refine zw_igeN (a := t) (b := c) rfl rfl rfl (by omega) (by omega) (fun c46 => ?_) (fun c46 => ?_)
                  · -- 46 to 134
                    refine zw_inc rfl (x' := (nI (size + 1))) (ls' := [some (.ref 139), some (.int (nI x)), some (.int (nI (size + 1))), some (.int (nI t)), none, none]) rfl (na (a := size) (b := 1) rfl rfl) rfl ?_
                    refine zw_n 1 rfl ?_
                    refine zw_ls (ls' := [some (.ref 139), some (.int (nI x)), some (.int (nI (size + 1))), none, none, none]) ⟨Or.inr rfl, Or.inr rfl, Or.inr rfl, Or.inl rfl, Or.inl rfl, Or.inl rfl, trivial⟩ ?_
                    exact ih33 (size + 1) b6 b7 b8 b9 b0 M_41 s_41 f41_0 f41_1 f41_2 f41_3 f41_4 f41_5 (⟨by omega, by omega, ⟨bs.1, bs.2.1, bs.2.2.1, bs.2.2.2.1, bs.2.2.2.2⟩, hi41.2.2.next (by omega)⟩) (by omega)
                  · -- 46 to 49
                    refine zw_n 1 rfl ?_
                    refine zw_get (v := .ref 140) rfl f41_5 rfl ?_
                    refine zw_n 3 rfl ?_
                    refine zw_top (na (a := 550) (b := t) rfl rfl) ?_
                    refine zw_iald (f := ai (f 140)) (j := (550 + t)) rfl (Sm.at s_41 (by decide) (hM.2 140 (by decide) (by decide))) rfl (by decide) (by omega) ?_
                    refine zw_top (x' := (nI (li t))) (congrArg nI (ht.2 t (by omega)).2.1) ?_
                    refine zw_n 4 (ls' := [some (.ref 139), some (.int (nI x)), some (.int (nI size)), some (.int (nI t)), some (.int (nI (li t))), some (.int (-(nI size)))]) rfl ?_
                    refine zw_n 2 rfl ?_
                    refine zw_callV (as := [.int (nI t)]) (rest := []) rfl rfl rfl f41_5 rfl rfl rfl (by decide) (m_isFirst M_41 (up o 0 0) (fset (fset (fset (fset (fset f 160 b0) 159 b9) 158 b8) 157 b7) 156 b6) (MM.of (o' := up o 0 0) (f' := fset (fset (fset (fset (fset f 160 b0) 159 b9) 158 b8) 157 b7) 156 b6) hM s_41 f41_5 (c1_skip (c1_cons f41_0 (c1_cons f41_1 (c1_cons f41_2 (c1_cons f41_3 (c1_cons f41_4 c1_nil)))))) (fs_k (fs_c (fs_c (fs_c (fs_c (fs_c fs_n))))))) c sg li co ht hS t (by omega)) (fun rz6425 Mz6426 hz6427 => ?_)
                    rw [hz6427.1, hz6427.2]
                    show Zw 8 zm_MO_repair 70 [some (.ref 139), some (.int (nI x)), some (.int (nI size)), some (.int (nI t)), some (.int (nI (li t))), some (.int (-(nI size)))] [.int (nI (if t = 0 ∨ li (t - 1) ≠ li t then 1 else 0))] M_41 _
                    refine zw_eq0N (a := if t = 0 ∨ li (t - 1) ≠ li t then 1 else 0) rfl rfl (ite_b) (fun c70 => ?_) (fun c70 => ?_)
                    · -- 70 to 128
                      refine zw_inc rfl (x' := (nI (t + 1))) (ls' := [some (.ref 139), some (.int (nI x)), some (.int (nI size)), some (.int (nI (t + 1))), some (.int (nI (li t))), some (.int (-(nI size)))]) rfl (na (a := t) (b := 1) rfl rfl) rfl ?_
                      refine zw_n 1 rfl ?_
                      refine zw_ls (ls' := [some (.ref 139), some (.int (nI x)), some (.int (nI size)), some (.int (nI (t + 1))), none, none]) ⟨Or.inr rfl, Or.inr rfl, Or.inr rfl, Or.inr rfl, Or.inl rfl, Or.inl rfl, trivial⟩ ?_
                      exact ih41 (t + 1) b6 b7 b8 b9 b0 M_41 s_41 f41_0 f41_1 f41_2 f41_3 f41_4 f41_5 (⟨by omega, ⟨bs.1, bs.2.1, bs.2.2.1, bs.2.2.2.1, bs.2.2.2.2⟩, by first | exact hJ.skip (ite_eq0 c70) | (exfalso; omega)⟩) (by omega)
                    · -- 70 to 73
                      have hbeg := ite_ne c70
                      refine zw_n 2 rfl ?_
                      refine zw_igtZ (a := (-(nI size)).toInt) (b := ((size : Nat) : Int)) rfl (rfl) (nI_toInt (by omega)) (fun c76 => ?_) (fun c76 => ?_)
                      · -- 76 to 128
                        refine zw_inc rfl (x' := (nI (t + 1))) (ls' := [some (.ref 139), some (.int (nI x)), some (.int (nI size)), some (.int (nI (t + 1))), some (.int (nI (li t))), some (.int (-(nI size)))]) rfl (na (a := t) (b := 1) rfl rfl) rfl ?_
                        refine zw_n 1 rfl ?_
                        refine zw_ls (ls' := [some (.ref 139), some (.int (nI x)), some (.int (nI size)), some (.int (nI (t + 1))), none, none]) ⟨Or.inr rfl, Or.inr rfl, Or.inr rfl, Or.inr rfl, Or.inl rfl, Or.inl rfl, trivial⟩ ?_
                        exact ih41 (t + 1) b6 b7 b8 b9 b0 M_41 s_41 f41_0 f41_1 f41_2 f41_3 f41_4 f41_5 (⟨by omega, ⟨bs.1, bs.2.1, bs.2.2.1, bs.2.2.2.1, bs.2.2.2.2⟩, by first | exact hJ.skip (ite_eq0 c70) | (exfalso; omega)⟩) (by omega)
                      · -- 76 to 79
                        refine zw_n 4 rfl ?_
                        refine zw_callV (as := [.int (nI (li t)), .int 0, .int (-(nI size))]) (rest := []) rfl rfl rfl f41_5 rfl rfl rfl (by decide) (m_canMove M_41 (up o 0 0) (fset (fset (fset (fset (fset f 160 b0) 159 b9) 158 b8) 157 b7) 156 b6) (MM.of (o' := up o 0 0) (f' := fset (fset (fset (fset (fset f 160 b0) 159 b9) 158 b8) 157 b7) 156 b6) hM s_41 f41_5 (c1_skip (c1_cons f41_0 (c1_cons f41_1 (c1_cons f41_2 (c1_cons f41_3 (c1_cons f41_4 c1_nil)))))) (fs_k (fs_c (fs_c (fs_c (fs_c (fs_c fs_n))))))) c sg li co ht hS (nI (li t)) (-(nI size)) 0 (by omega) (by omega)) (fun rz6428 Mz6429 hz6430 => ?_)
                        rw [hz6430.1, hz6430.2]
                        show Zw 8 zm_MO_repair 88 [some (.ref 139), some (.int (nI x)), some (.int (nI size)), some (.int (nI t)), some (.int (nI (li t))), some (.int (-(nI size)))] [.int (nI (if stA li co (nI (li t)).toInt (-(nI size)).toInt 0 c = true then 1 else 0))] M_41 _
                        refine zw_eq0N (a := if stA li co (nI (li t)).toInt (-(nI size)).toInt 0 c = true then 1 else 0) rfl rfl (ite_b) (fun c88 => ?_) (fun c88 => ?_)
                        · -- 88 to 117
                          have hn0_ : ¬ rOk al_ it tg pt bd n c sg li co (li t) (rZ size 0) := fun q9 => ite_eq0 c88 (by rw [stA_0, hlt, hng]; exact q9.1)
                          refine zw_n 4 rfl ?_
                          refine zw_top (nm (a := 2) (b := size) rfl rfl) ?_
                          refine zw_n 1 rfl ?_
                          refine zw_top (x' := (nI size)) ((nI_negp (by omega) (by omega)).1) ?_
                          refine zw_n 2 (ls' := [some (.ref 139), some (.int (nI x)), some (.int (nI size)), some (.int (nI t)), some (.int (nI (li t))), some (.int (nI size))]) rfl ?_
                          refine zw_n 2 rfl ?_
                          refine zw_callV (as := [.int (nI t)]) (rest := []) rfl rfl rfl f41_5 rfl rfl rfl (by decide) (m_isFirst M_41 (up o 0 0) (fset (fset (fset (fset (fset f 160 b0) 159 b9) 158 b8) 157 b7) 156 b6) (MM.of (o' := up o 0 0) (f' := fset (fset (fset (fset (fset f 160 b0) 159 b9) 158 b8) 157 b7) 156 b6) hM s_41 f41_5 (c1_skip (c1_cons f41_0 (c1_cons f41_1 (c1_cons f41_2 (c1_cons f41_3 (c1_cons f41_4 c1_nil)))))) (fs_k (fs_c (fs_c (fs_c (fs_c (fs_c fs_n))))))) c sg li co ht hS t (by omega)) (fun rz6431 Mz6432 hz6433 => ?_)
                          rw [hz6433.1, hz6433.2]
                          show Zw 8 zm_MO_repair 70 [some (.ref 139), some (.int (nI x)), some (.int (nI size)), some (.int (nI t)), some (.int (nI (li t))), some (.int (nI size))] [.int (nI (if t = 0 ∨ li (t - 1) ≠ li t then 1 else 0))] M_41 _
                          refine zw_eq0N (a := if t = 0 ∨ li (t - 1) ≠ li t then 1 else 0) rfl rfl (ite_b) (fun c70 => ?_) (fun c70 => ?_)
                          · -- 70 to 128
                            refine zw_inc rfl (x' := (nI (t + 1))) (ls' := [some (.ref 139), some (.int (nI x)), some (.int (nI size)), some (.int (nI (t + 1))), some (.int (nI (li t))), some (.int (nI size))]) rfl (na (a := t) (b := 1) rfl rfl) rfl ?_
                            refine zw_n 1 rfl ?_
                            refine zw_ls (ls' := [some (.ref 139), some (.int (nI x)), some (.int (nI size)), some (.int (nI (t + 1))), none, none]) ⟨Or.inr rfl, Or.inr rfl, Or.inr rfl, Or.inr rfl, Or.inl rfl, Or.inl rfl, trivial⟩ ?_
                            exact ih41 (t + 1) b6 b7 b8 b9 b0 M_41 s_41 f41_0 f41_1 f41_2 f41_3 f41_4 f41_5 (⟨by omega, ⟨bs.1, bs.2.1, bs.2.2.1, bs.2.2.2.1, bs.2.2.2.2⟩, by first | exact absurd hbeg (ite_eq0 c70) | (exfalso; omega)⟩) (by omega)
                          · -- 70 to 73
                            refine zw_n 2 rfl ?_
                            refine zw_igtN (a := size) (b := size) rfl rfl rfl (by omega) (by omega) (fun c76 => ?_) (fun c76 => ?_)
                            · -- 76 to 128
                              refine zw_inc rfl (x' := (nI (t + 1))) (ls' := [some (.ref 139), some (.int (nI x)), some (.int (nI size)), some (.int (nI (t + 1))), some (.int (nI (li t))), some (.int (nI size))]) rfl (na (a := t) (b := 1) rfl rfl) rfl ?_
                              refine zw_n 1 rfl ?_
                              refine zw_ls (ls' := [some (.ref 139), some (.int (nI x)), some (.int (nI size)), some (.int (nI (t + 1))), none, none]) ⟨Or.inr rfl, Or.inr rfl, Or.inr rfl, Or.inr rfl, Or.inl rfl, Or.inl rfl, trivial⟩ ?_
                              exact ih41 (t + 1) b6 b7 b8 b9 b0 M_41 s_41 f41_0 f41_1 f41_2 f41_3 f41_4 f41_5 (⟨by omega, ⟨bs.1, bs.2.1, bs.2.2.1, bs.2.2.2.1, bs.2.2.2.2⟩, by first | exact absurd hbeg (ite_eq0 c70) | (exfalso; omega)⟩) (by omega)
                            · -- 76 to 79
                              refine zw_n 4 rfl ?_
                              refine zw_callV (as := [.int (nI (li t)), .int 0, .int (nI size)]) (rest := []) rfl rfl rfl f41_5 rfl rfl rfl (by decide) (m_canMove M_41 (up o 0 0) (fset (fset (fset (fset (fset f 160 b0) 159 b9) 158 b8) 157 b7) 156 b6) (MM.of (o' := up o 0 0) (f' := fset (fset (fset (fset (fset f 160 b0) 159 b9) 158 b8) 157 b7) 156 b6) hM s_41 f41_5 (c1_skip (c1_cons f41_0 (c1_cons f41_1 (c1_cons f41_2 (c1_cons f41_3 (c1_cons f41_4 c1_nil)))))) (fs_k (fs_c (fs_c (fs_c (fs_c (fs_c fs_n))))))) c sg li co ht hS (nI (li t)) (nI size) 0 (by omega) (by omega)) (fun rz6434 Mz6435 hz6436 => ?_)
                              rw [hz6436.1, hz6436.2]
                              show Zw 8 zm_MO_repair 88 [some (.ref 139), some (.int (nI x)), some (.int (nI size)), some (.int (nI t)), some (.int (nI (li t))), some (.int (nI size))] [.int (nI (if stA li co (nI (li t)).toInt (nI size).toInt 0 c = true then 1 else 0))] M_41 _
                              refine zw_eq0N (a := if stA li co (nI (li t)).toInt (nI size).toInt 0 c = true then 1 else 0) rfl rfl (ite_b) (fun c88 => ?_) (fun c88 => ?_)
                              · -- 88 to 117
                                have hn1_ : ¬ rOk al_ it tg pt bd n c sg li co (li t) (rZ size 1) := fun q9 => ite_eq0 c88 (by rw [stA_0, hlt, hps]; exact q9.1)
                                refine zw_n 4 rfl ?_
                                refine zw_top (nm (a := 2) (b := size) rfl rfl) ?_
                                refine zw_n 1 rfl ?_
                                refine zw_top (na (a := size) (b := 2 * size) rfl rfl) ?_
                                refine zw_top (x' := (nI (size + (2 * size)))) (rfl) ?_
                                refine zw_n 2 (ls' := [some (.ref 139), some (.int (nI x)), some (.int (nI size)), some (.int (nI t)), some (.int (nI (li t))), some (.int (nI (size + (2 * size))))]) rfl ?_
                                refine zw_n 2 rfl ?_
                                refine zw_callV (as := [.int (nI t)]) (rest := []) rfl rfl rfl f41_5 rfl rfl rfl (by decide) (m_isFirst M_41 (up o 0 0) (fset (fset (fset (fset (fset f 160 b0) 159 b9) 158 b8) 157 b7) 156 b6) (MM.of (o' := up o 0 0) (f' := fset (fset (fset (fset (fset f 160 b0) 159 b9) 158 b8) 157 b7) 156 b6) hM s_41 f41_5 (c1_skip (c1_cons f41_0 (c1_cons f41_1 (c1_cons f41_2 (c1_cons f41_3 (c1_cons f41_4 c1_nil)))))) (fs_k (fs_c (fs_c (fs_c (fs_c (fs_c fs_n))))))) c sg li co ht hS t (by omega)) (fun rz6437 Mz6438 hz6439 => ?_)
                                rw [hz6439.1, hz6439.2]
                                show Zw 8 zm_MO_repair 70 [some (.ref 139), some (.int (nI x)), some (.int (nI size)), some (.int (nI t)), some (.int (nI (li t))), some (.int (nI (size + (2 * size))))] [.int (nI (if t = 0 ∨ li (t - 1) ≠ li t then 1 else 0))] M_41 _
                                refine zw_eq0N (a := if t = 0 ∨ li (t - 1) ≠ li t then 1 else 0) rfl rfl (ite_b) (fun c70 => ?_) (fun c70 => ?_)
                                · -- 70 to 128
                                  refine zw_inc rfl (x' := (nI (t + 1))) (ls' := [some (.ref 139), some (.int (nI x)), some (.int (nI size)), some (.int (nI (t + 1))), some (.int (nI (li t))), some (.int (nI (size + (2 * size))))]) rfl (na (a := t) (b := 1) rfl rfl) rfl ?_
                                  refine zw_n 1 rfl ?_
                                  refine zw_ls (ls' := [some (.ref 139), some (.int (nI x)), some (.int (nI size)), some (.int (nI (t + 1))), none, none]) ⟨Or.inr rfl, Or.inr rfl, Or.inr rfl, Or.inr rfl, Or.inl rfl, Or.inl rfl, trivial⟩ ?_
                                  exact ih41 (t + 1) b6 b7 b8 b9 b0 M_41 s_41 f41_0 f41_1 f41_2 f41_3 f41_4 f41_5 (⟨by omega, ⟨bs.1, bs.2.1, bs.2.2.1, bs.2.2.2.1, bs.2.2.2.2⟩, by first | exact absurd hbeg (ite_eq0 c70) | exact hJ.two hn0_ hn1_⟩) (by omega)
                                · -- 70 to 73
                                  refine zw_n 2 rfl ?_
                                  refine zw_igtN (a := size + (2 * size)) (b := size) rfl rfl rfl (by omega) (by omega) (fun c76 => ?_) (fun c76 => ?_)
                                  · -- 76 to 128
                                    refine zw_inc rfl (x' := (nI (t + 1))) (ls' := [some (.ref 139), some (.int (nI x)), some (.int (nI size)), some (.int (nI (t + 1))), some (.int (nI (li t))), some (.int (nI (size + (2 * size))))]) rfl (na (a := t) (b := 1) rfl rfl) rfl ?_
                                    refine zw_n 1 rfl ?_
                                    refine zw_ls (ls' := [some (.ref 139), some (.int (nI x)), some (.int (nI size)), some (.int (nI (t + 1))), none, none]) ⟨Or.inr rfl, Or.inr rfl, Or.inr rfl, Or.inr rfl, Or.inl rfl, Or.inl rfl, trivial⟩ ?_
                                    exact ih41 (t + 1) b6 b7 b8 b9 b0 M_41 s_41 f41_0 f41_1 f41_2 f41_3 f41_4 f41_5 (⟨by omega, ⟨bs.1, bs.2.1, bs.2.2.1, bs.2.2.2.1, bs.2.2.2.2⟩, by first | exact absurd hbeg (ite_eq0 c70) | exact hJ.two hn0_ hn1_⟩) (by omega)
                                  · -- 76 to 79
                                    exfalso
                                    omega
                              · -- 88 to 91
                                refine zw_n 3 rfl ?_
                                refine zw_callV (as := [.int (nI (li t)), .int (nI size)]) (rest := []) rfl rfl rfl f41_5 rfl rfl rfl (by decide) (m_fitsMoved M_41 (up o 0 0) (fset (fset (fset (fset (fset f 160 b0) 159 b9) 158 b8) 157 b7) 156 b6) (MM.of (o' := up o 0 0) (f' := fset (fset (fset (fset (fset f 160 b0) 159 b9) 158 b8) 157 b7) 156 b6) hM s_41 f41_5 (c1_skip (c1_cons f41_0 (c1_cons f41_1 (c1_cons f41_2 (c1_cons f41_3 (c1_cons f41_4 c1_nil)))))) (fs_k (fs_c (fs_c (fs_c (fs_c (fs_c fs_n))))))) n gn al_ it pt tg bd hg hG (⟨hF.1, bs.1, bs.2.1, bs.2.2.1, bs.2.2.2.1, bs.2.2.2.2⟩) c sg li co ht hS emp rk hA hn0 (li t) (by have := hli t; omega) (nI size) (by rw [hps]; omega) (by have h9 := ite_ne c88; rw [stA_0, hlt] at h9; exact h9)) (fun rz6449 Mz6450 hz6451 => ?_)
                                obtain ⟨bz6440, hAz6441, hb1z6442, hbz6443, fz6444, hMMz6445, hSz6446, hFsz6447, hSFz6448⟩ := hz6451
                                rw [hAz6441]
                                show Zw 8 zm_MO_repair 99 [some (.ref 139), some (.int (nI x)), some (.int (nI size)), some (.int (nI t)), some (.int (nI (li t))), some (.int (nI size))] [.int (nI bz6440)] Mz6450 _
                                refine zw_eq0N (a := bz6440) rfl rfl (by omega) (fun c99 => ?_) (fun c99 => ?_)
                                · -- 99 to 117
                                  have hn1_ : ¬ rOk al_ it tg pt bd n c sg li co (li t) (rZ size 1) := fun q9 => by have h9 := hbz6443.mpr (by rw [hps]; exact q9.2); omega
                                  refine zw_n 4 rfl ?_
                                  refine zw_top (nm (a := 2) (b := size) rfl rfl) ?_
                                  refine zw_n 1 rfl ?_
                                  refine zw_top (na (a := size) (b := 2 * size) rfl rfl) ?_
                                  refine zw_top (x' := (nI (size + (2 * size)))) (rfl) ?_
                                  refine zw_n 2 (ls' := [some (.ref 139), some (.int (nI x)), some (.int (nI size)), some (.int (nI t)), some (.int (nI (li t))), some (.int (nI (size + (2 * size))))]) rfl ?_
                                  refine zw_n 2 rfl ?_
                                  refine zw_callV (as := [.int (nI t)]) (rest := []) rfl rfl rfl (Sm.at hSz6446 (by decide) f41_5) rfl rfl rfl (by decide) (m_isFirst Mz6450 (up o 0 0) (fset (fset (fset (fset (fset f 160 (fz6444 160)) 159 (fz6444 159)) 158 (fz6444 158)) 157 (fz6444 157)) 156 (fz6444 156)) (MM.of (o' := up o 0 0) (f' := fset (fset (fset (fset (fset f 160 (fz6444 160)) 159 (fz6444 159)) 158 (fz6444 158)) 157 (fz6444 157)) 156 (fz6444 156)) hM (Sm.tw s_41 hSz6446 (by decide)) (Sm.at hSz6446 (by decide) f41_5) (c1_skip (c1_cons (hMMz6445.2 156 (by decide) (by decide)) (c1_cons (hMMz6445.2 157 (by decide) (by decide)) (c1_cons (hMMz6445.2 158 (by decide) (by decide)) (c1_cons (hMMz6445.2 159 (by decide) (by decide)) (c1_cons (hMMz6445.2 160 (by decide) (by decide)) c1_nil)))))) (fs_k (fs_c (fs_c (fs_c (fs_c (fs_c fs_n))))))) c sg li co ht hS t (by omega)) (fun rz6452 Mz6453 hz6454 => ?_)
                                  rw [hz6454.1, hz6454.2]
                                  show Zw 8 zm_MO_repair 70 [some (.ref 139), some (.int (nI x)), some (.int (nI size)), some (.int (nI t)), some (.int (nI (li t))), some (.int (nI (size + (2 * size))))] [.int (nI (if t = 0 ∨ li (t - 1) ≠ li t then 1 else 0))] Mz6450 _
                                  refine zw_eq0N (a := if t = 0 ∨ li (t - 1) ≠ li t then 1 else 0) rfl rfl (ite_b) (fun c70 => ?_) (fun c70 => ?_)
                                  · -- 70 to 128
                                    refine zw_inc rfl (x' := (nI (t + 1))) (ls' := [some (.ref 139), some (.int (nI x)), some (.int (nI size)), some (.int (nI (t + 1))), some (.int (nI (li t))), some (.int (nI (size + (2 * size))))]) rfl (na (a := t) (b := 1) rfl rfl) rfl ?_
                                    refine zw_n 1 rfl ?_
                                    refine zw_ls (ls' := [some (.ref 139), some (.int (nI x)), some (.int (nI size)), some (.int (nI (t + 1))), none, none]) ⟨Or.inr rfl, Or.inr rfl, Or.inr rfl, Or.inr rfl, Or.inl rfl, Or.inl rfl, trivial⟩ ?_
                                    exact ih41 (t + 1) (fz6444 156) (fz6444 157) (fz6444 158) (fz6444 159) (fz6444 160) Mz6450 (Sm.tw s_41 hSz6446 (by decide)) (hMMz6445.2 156 (by decide) (by decide)) (hMMz6445.2 157 (by decide) (by decide)) (hMMz6445.2 158 (by decide) (by decide)) (hMMz6445.2 159 (by decide) (by decide)) (hMMz6445.2 160 (by decide) (by decide)) (Sm.at hSz6446 (by decide) f41_5) (⟨by omega, ⟨hSFz6448.2.1, hSFz6448.2.2.1, hSFz6448.2.2.2.1, hSFz6448.2.2.2.2.1, hSFz6448.2.2.2.2.2⟩, by first | exact absurd hbeg (ite_eq0 c70) | exact hJ.two hn0_ hn1_⟩) (by omega)
                                  · -- 70 to 73
                                    refine zw_n 2 rfl ?_
                                    refine zw_igtN (a := size + (2 * size)) (b := size) rfl rfl rfl (by omega) (by omega) (fun c76 => ?_) (fun c76 => ?_)
                                    · -- 76 to 128
                                      refine zw_inc rfl (x' := (nI (t + 1))) (ls' := [some (.ref 139), some (.int (nI x)), some (.int (nI size)), some (.int (nI (t + 1))), some (.int (nI (li t))), some (.int (nI (size + (2 * size))))]) rfl (na (a := t) (b := 1) rfl rfl) rfl ?_
                                      refine zw_n 1 rfl ?_
                                      refine zw_ls (ls' := [some (.ref 139), some (.int (nI x)), some (.int (nI size)), some (.int (nI (t + 1))), none, none]) ⟨Or.inr rfl, Or.inr rfl, Or.inr rfl, Or.inr rfl, Or.inl rfl, Or.inl rfl, trivial⟩ ?_
                                      exact ih41 (t + 1) (fz6444 156) (fz6444 157) (fz6444 158) (fz6444 159) (fz6444 160) Mz6450 (Sm.tw s_41 hSz6446 (by decide)) (hMMz6445.2 156 (by decide) (by decide)) (hMMz6445.2 157 (by decide) (by decide)) (hMMz6445.2 158 (by decide) (by decide)) (hMMz6445.2 159 (by decide) (by decide)) (hMMz6445.2 160 (by decide) (by decide)) (Sm.at hSz6446 (by decide) f41_5) (⟨by omega, ⟨hSFz6448.2.1, hSFz6448.2.2.1, hSFz6448.2.2.2.1, hSFz6448.2.2.2.2.1, hSFz6448.2.2.2.2.2⟩, by first | exact absurd hbeg (ite_eq0 c70) | exact hJ.two hn0_ hn1_⟩) (by omega)
                                    · -- 76 to 79
                                      exfalso
                                      omega
                                · -- 99 to 102
                                  refine zw_n 1 rfl ?_
                                  refine zw_ne0N (a := x) rfl rfl (by omega) (fun c103 => ?_) (fun c103 => ?_)
                                  · -- 103 to 111
                                    refine zw_n 3 rfl ?_
                                    refine zw_top (na (a := size) (b := 100) rfl rfl) ?_
                                    refine zw_top (x' := (nI (size + 100))) (rfl) ?_
                                    exact zw_iret rfl rfl (⟨fun q9 => absurd q9 hnof, fun _ => ⟨li t, size, hJ.hit1 (by omega) (by omega) (by omega) hbeg hn0_ (show rOk al_ it tg pt bd n c sg li co (li t) (rZ size 1) from ⟨by have h9 := ite_ne c88; rw [stA_0, hlt, hps] at h9; exact h9, by have h9 := hbz6443.mp (by omega); rw [hps] at h9; exact h9⟩), by unfold repA; rw [if_neg (by omega), if_neg c103]⟩, fset (fset (fset (fset (fset f 160 (fz6444 160)) 159 (fz6444 159)) 158 (fz6444 158)) 157 (fz6444 157)) 156 (fz6444 156), (MM.of (o' := up o 0 0) (f' := fset (fset (fset (fset (fset f 160 (fz6444 160)) 159 (fz6444 159)) 158 (fz6444 158)) 157 (fz6444 157)) 156 (fz6444 156)) hM (Sm.tw s_41 hSz6446 (by decide)) (Sm.at hSz6446 (by decide) f41_5) (c1_skip (c1_cons (hMMz6445.2 156 (by decide) (by decide)) (c1_cons (hMMz6445.2 157 (by decide) (by decide)) (c1_cons (hMMz6445.2 158 (by decide) (by decide)) (c1_cons (hMMz6445.2 159 (by decide) (by decide)) (c1_cons (hMMz6445.2 160 (by decide) (by decide)) c1_nil)))))) (fs_k (fs_c (fs_c (fs_c (fs_c (fs_c fs_n))))))), Sm.tw s_41 hSz6446 (by decide), fs_k (fs_c (fs_c (fs_c (fs_c (fs_c fs_n))))), ⟨hF.1, hSFz6448.2.1, hSFz6448.2.2.1, hSFz6448.2.2.2.1, hSFz6448.2.2.2.2.1, hSFz6448.2.2.2.2.2⟩⟩)
                                  · -- 103 to 106
                                    refine zw_n 2 rfl ?_
                                    exact zw_iret rfl rfl (⟨fun q9 => absurd q9 hnof, fun _ => ⟨li t, size, hJ.hit1 (by omega) (by omega) (by omega) hbeg hn0_ (show rOk al_ it tg pt bd n c sg li co (li t) (rZ size 1) from ⟨by have h9 := ite_ne c88; rw [stA_0, hlt, hps] at h9; exact h9, by have h9 := hbz6443.mp (by omega); rw [hps] at h9; exact h9⟩), by unfold repA; rw [if_neg (by omega), if_pos c103]⟩, fset (fset (fset (fset (fset f 160 (fz6444 160)) 159 (fz6444 159)) 158 (fz6444 158)) 157 (fz6444 157)) 156 (fz6444 156), (MM.of (o' := up o 0 0) (f' := fset (fset (fset (fset (fset f 160 (fz6444 160)) 159 (fz6444 159)) 158 (fz6444 158)) 157 (fz6444 157)) 156 (fz6444 156)) hM (Sm.tw s_41 hSz6446 (by decide)) (Sm.at hSz6446 (by decide) f41_5) (c1_skip (c1_cons (hMMz6445.2 156 (by decide) (by decide)) (c1_cons (hMMz6445.2 157 (by decide) (by decide)) (c1_cons (hMMz6445.2 158 (by decide) (by decide)) (c1_cons (hMMz6445.2 159 (by decide) (by decide)) (c1_cons (hMMz6445.2 160 (by decide) (by decide)) c1_nil)))))) (fs_k (fs_c (fs_c (fs_c (fs_c (fs_c fs_n))))))), Sm.tw s_41 hSz6446 (by decide), fs_k (fs_c (fs_c (fs_c (fs_c (fs_c fs_n))))), ⟨hF.1, hSFz6448.2.1, hSFz6448.2.2.1, hSFz6448.2.2.2.1, hSFz6448.2.2.2.2.1, hSFz6448.2.2.2.2.2⟩⟩)
                        · -- 88 to 91
                          refine zw_n 3 rfl ?_
                          refine zw_callV (as := [.int (nI (li t)), .int (-(nI size))]) (rest := []) rfl rfl rfl f41_5 rfl rfl rfl (by decide) (m_fitsMoved M_41 (up o 0 0) (fset (fset (fset (fset (fset f 160 b0) 159 b9) 158 b8) 157 b7) 156 b6) (MM.of (o' := up o 0 0) (f' := fset (fset (fset (fset (fset f 160 b0) 159 b9) 158 b8) 157 b7) 156 b6) hM s_41 f41_5 (c1_skip (c1_cons f41_0 (c1_cons f41_1 (c1_cons f41_2 (c1_cons f41_3 (c1_cons f41_4 c1_nil)))))) (fs_k (fs_c (fs_c (fs_c (fs_c (fs_c fs_n))))))) n gn al_ it pt tg bd hg hG (⟨hF.1, bs.1, bs.2.1, bs.2.2.1, bs.2.2.2.1, bs.2.2.2.2⟩) c sg li co ht hS emp rk hA hn0 (li t) (by have := hli t; omega) (-(nI size)) (by rw [hng]; omega) (by have h9 := ite_ne c88; rw [stA_0, hlt] at h9; exact h9)) (fun rz6464 Mz6465 hz6466 => ?_)
                          obtain ⟨bz6455, hAz6456, hb1z6457, hbz6458, fz6459, hMMz6460, hSz6461, hFsz6462, hSFz6463⟩ := hz6466
                          rw [hAz6456]
                          show Zw 8 zm_MO_repair 99 [some (.ref 139), some (.int (nI x)), some (.int (nI size)), some (.int (nI t)), some (.int (nI (li t))), some (.int (-(nI size)))] [.int (nI bz6455)] Mz6465 _
                          refine zw_eq0N (a := bz6455) rfl rfl (by omega) (fun c99 => ?_) (fun c99 => ?_)
                          · -- 99 to 117
                            have hn0_ : ¬ rOk al_ it tg pt bd n c sg li co (li t) (rZ size 0) := fun q9 => by have h9 := hbz6458.mpr (by rw [hng]; exact q9.2); omega
                            refine zw_n 4 rfl ?_
                            refine zw_top (nm (a := 2) (b := size) rfl rfl) ?_
                            refine zw_n 1 rfl ?_
                            refine zw_top (x' := (nI size)) ((nI_negp (by omega) (by omega)).1) ?_
                            refine zw_n 2 (ls' := [some (.ref 139), some (.int (nI x)), some (.int (nI size)), some (.int (nI t)), some (.int (nI (li t))), some (.int (nI size))]) rfl ?_
                            refine zw_n 2 rfl ?_
                            refine zw_callV (as := [.int (nI t)]) (rest := []) rfl rfl rfl (Sm.at hSz6461 (by decide) f41_5) rfl rfl rfl (by decide) (m_isFirst Mz6465 (up o 0 0) (fset (fset (fset (fset (fset f 160 (fz6459 160)) 159 (fz6459 159)) 158 (fz6459 158)) 157 (fz6459 157)) 156 (fz6459 156)) (MM.of (o' := up o 0 0) (f' := fset (fset (fset (fset (fset f 160 (fz6459 160)) 159 (fz6459 159)) 158 (fz6459 158)) 157 (fz6459 157)) 156 (fz6459 156)) hM (Sm.tw s_41 hSz6461 (by decide)) (Sm.at hSz6461 (by decide) f41_5) (c1_skip (c1_cons (hMMz6460.2 156 (by decide) (by decide)) (c1_cons (hMMz6460.2 157 (by decide) (by decide)) (c1_cons (hMMz6460.2 158 (by decide) (by decide)) (c1_cons (hMMz6460.2 159 (by decide) (by decide)) (c1_cons (hMMz6460.2 160 (by decide) (by decide)) c1_nil)))))) (fs_k (fs_c (fs_c (fs_c (fs_c (fs_c fs_n))))))) c sg li co ht hS t (by omega)) (fun rz6467 Mz6468 hz6469 => ?_)
                            rw [hz6469.1, hz6469.2]
                            show Zw 8 zm_MO_repair 70 [some (.ref 139), some (.int (nI x)), some (.int (nI size)), some (.int (nI t)), some (.int (nI (li t))), some (.int (nI size))] [.int (nI (if t = 0 ∨ li (t - 1) ≠ li t then 1 else 0))] Mz6465 _
                            refine zw_eq0N (a := if t = 0 ∨ li (t - 1) ≠ li t then 1 else 0) rfl rfl (ite_b) (fun c70 => ?_) (fun c70 => ?_)
                            · -- 70 to 128
                              refine zw_inc rfl (x' := (nI (t + 1))) (ls' := [some (.ref 139), some (.int (nI x)), some (.int (nI size)), some (.int (nI (t + 1))), some (.int (nI (li t))), some (.int (nI size))]) rfl (na (a := t) (b := 1) rfl rfl) rfl ?_
                              refine zw_n 1 rfl ?_
                              refine zw_ls (ls' := [some (.ref 139), some (.int (nI x)), some (.int (nI size)), some (.int (nI (t + 1))), none, none]) ⟨Or.inr rfl, Or.inr rfl, Or.inr rfl, Or.inr rfl, Or.inl rfl, Or.inl rfl, trivial⟩ ?_
                              exact ih41 (t + 1) (fz6459 156) (fz6459 157) (fz6459 158) (fz6459 159) (fz6459 160) Mz6465 (Sm.tw s_41 hSz6461 (by decide)) (hMMz6460.2 156 (by decide) (by decide)) (hMMz6460.2 157 (by decide) (by decide)) (hMMz6460.2 158 (by decide) (by decide)) (hMMz6460.2 159 (by decide) (by decide)) (hMMz6460.2 160 (by decide) (by decide)) (Sm.at hSz6461 (by decide) f41_5) (⟨by omega, ⟨hSFz6463.2.1, hSFz6463.2.2.1, hSFz6463.2.2.2.1, hSFz6463.2.2.2.2.1, hSFz6463.2.2.2.2.2⟩, by first | exact absurd hbeg (ite_eq0 c70) | (exfalso; omega)⟩) (by omega)
                            · -- 70 to 73
                              refine zw_n 2 rfl ?_
                              refine zw_igtN (a := size) (b := size) rfl rfl rfl (by omega) (by omega) (fun c76 => ?_) (fun c76 => ?_)
                              · -- 76 to 128
                                refine zw_inc rfl (x' := (nI (t + 1))) (ls' := [some (.ref 139), some (.int (nI x)), some (.int (nI size)), some (.int (nI (t + 1))), some (.int (nI (li t))), some (.int (nI size))]) rfl (na (a := t) (b := 1) rfl rfl) rfl ?_
                                refine zw_n 1 rfl ?_
                                refine zw_ls (ls' := [some (.ref 139), some (.int (nI x)), some (.int (nI size)), some (.int (nI (t + 1))), none, none]) ⟨Or.inr rfl, Or.inr rfl, Or.inr rfl, Or.inr rfl, Or.inl rfl, Or.inl rfl, trivial⟩ ?_
                                exact ih41 (t + 1) (fz6459 156) (fz6459 157) (fz6459 158) (fz6459 159) (fz6459 160) Mz6465 (Sm.tw s_41 hSz6461 (by decide)) (hMMz6460.2 156 (by decide) (by decide)) (hMMz6460.2 157 (by decide) (by decide)) (hMMz6460.2 158 (by decide) (by decide)) (hMMz6460.2 159 (by decide) (by decide)) (hMMz6460.2 160 (by decide) (by decide)) (Sm.at hSz6461 (by decide) f41_5) (⟨by omega, ⟨hSFz6463.2.1, hSFz6463.2.2.1, hSFz6463.2.2.2.1, hSFz6463.2.2.2.2.1, hSFz6463.2.2.2.2.2⟩, by first | exact absurd hbeg (ite_eq0 c70) | (exfalso; omega)⟩) (by omega)
                              · -- 76 to 79
                                refine zw_n 4 rfl ?_
                                refine zw_callV (as := [.int (nI (li t)), .int 0, .int (nI size)]) (rest := []) rfl rfl rfl (Sm.at hSz6461 (by decide) f41_5) rfl rfl rfl (by decide) (m_canMove Mz6465 (up o 0 0) (fset (fset (fset (fset (fset f 160 (fz6459 160)) 159 (fz6459 159)) 158 (fz6459 158)) 157 (fz6459 157)) 156 (fz6459 156)) (MM.of (o' := up o 0 0) (f' := fset (fset (fset (fset (fset f 160 (fz6459 160)) 159 (fz6459 159)) 158 (fz6459 158)) 157 (fz6459 157)) 156 (fz6459 156)) hM (Sm.tw s_41 hSz6461 (by decide)) (Sm.at hSz6461 (by decide) f41_5) (c1_skip (c1_cons (hMMz6460.2 156 (by decide) (by decide)) (c1_cons (hMMz6460.2 157 (by decide) (by decide)) (c1_cons (hMMz6460.2 158 (by decide) (by decide)) (c1_cons (hMMz6460.2 159 (by decide) (by decide)) (c1_cons (hMMz6460.2 160 (by decide) (by decide)) c1_nil)))))) (fs_k (fs_c (fs_c (fs_c (fs_c (fs_c fs_n))))))) c sg li co ht hS (nI (li t)) (nI size) 0 (by omega) (by omega)) (fun rz6470 Mz6471 hz6472 => ?_)
                                rw [hz6472.1, hz6472.2]
                                show Zw 8 zm_MO_repair 88 [some (.ref 139), some (.int (nI x)), some (.int (nI size)), some (.int (nI t)), some (.int (nI (li t))), some (.int (nI size))] [.int (nI (if stA li co (nI (li t)).toInt (nI size).toInt 0 c = true then 1 else 0))] Mz6465 _
                                refine zw_eq0N (a := if stA li co (nI (li t)).toInt (nI size).toInt 0 c = true then 1 else 0) rfl rfl (ite_b) (fun c88 => ?_) (fun c88 => ?_)
                                · -- 88 to 117
                                  have hn1_ : ¬ rOk al_ it tg pt bd n c sg li co (li t) (rZ size 1) := fun q9 => ite_eq0 c88 (by rw [stA_0, hlt, hps]; exact q9.1)
                                  refine zw_n 4 rfl ?_
                                  refine zw_top (nm (a := 2) (b := size) rfl rfl) ?_
                                  refine zw_n 1 rfl ?_
                                  refine zw_top (na (a := size) (b := 2 * size) rfl rfl) ?_
                                  refine zw_top (x' := (nI (size + (2 * size)))) (rfl) ?_
                                  refine zw_n 2 (ls' := [some (.ref 139), some (.int (nI x)), some (.int (nI size)), some (.int (nI t)), some (.int (nI (li t))), some (.int (nI (size + (2 * size))))]) rfl ?_
                                  refine zw_n 2 rfl ?_
                                  refine zw_callV (as := [.int (nI t)]) (rest := []) rfl rfl rfl (Sm.at hSz6461 (by decide) f41_5) rfl rfl rfl (by decide) (m_isFirst Mz6465 (up o 0 0) (fset (fset (fset (fset (fset f 160 (fz6459 160)) 159 (fz6459 159)) 158 (fz6459 158)) 157 (fz6459 157)) 156 (fz6459 156)) (MM.of (o' := up o 0 0) (f' := fset (fset (fset (fset (fset f 160 (fz6459 160)) 159 (fz6459 159)) 158 (fz6459 158)) 157 (fz6459 157)) 156 (fz6459 156)) hM (Sm.tw s_41 hSz6461 (by decide)) (Sm.at hSz6461 (by decide) f41_5) (c1_skip (c1_cons (hMMz6460.2 156 (by decide) (by decide)) (c1_cons (hMMz6460.2 157 (by decide) (by decide)) (c1_cons (hMMz6460.2 158 (by decide) (by decide)) (c1_cons (hMMz6460.2 159 (by decide) (by decide)) (c1_cons (hMMz6460.2 160 (by decide) (by decide)) c1_nil)))))) (fs_k (fs_c (fs_c (fs_c (fs_c (fs_c fs_n))))))) c sg li co ht hS t (by omega)) (fun rz6473 Mz6474 hz6475 => ?_)
                                  rw [hz6475.1, hz6475.2]
                                  show Zw 8 zm_MO_repair 70 [some (.ref 139), some (.int (nI x)), some (.int (nI size)), some (.int (nI t)), some (.int (nI (li t))), some (.int (nI (size + (2 * size))))] [.int (nI (if t = 0 ∨ li (t - 1) ≠ li t then 1 else 0))] Mz6465 _
                                  refine zw_eq0N (a := if t = 0 ∨ li (t - 1) ≠ li t then 1 else 0) rfl rfl (ite_b) (fun c70 => ?_) (fun c70 => ?_)
                                  · -- 70 to 128
                                    refine zw_inc rfl (x' := (nI (t + 1))) (ls' := [some (.ref 139), some (.int (nI x)), some (.int (nI size)), some (.int (nI (t + 1))), some (.int (nI (li t))), some (.int (nI (size + (2 * size))))]) rfl (na (a := t) (b := 1) rfl rfl) rfl ?_
                                    refine zw_n 1 rfl ?_
                                    refine zw_ls (ls' := [some (.ref 139), some (.int (nI x)), some (.int (nI size)), some (.int (nI (t + 1))), none, none]) ⟨Or.inr rfl, Or.inr rfl, Or.inr rfl, Or.inr rfl, Or.inl rfl, Or.inl rfl, trivial⟩ ?_
                                    exact ih41 (t + 1) (fz6459 156) (fz6459 157) (fz6459 158) (fz6459 159) (fz6459 160) Mz6465 (Sm.tw s_41 hSz6461 (by decide)) (hMMz6460.2 156 (by decide) (by decide)) (hMMz6460.2 157 (by decide) (by decide)) (hMMz6460.2 158 (by decide) (by decide)) (hMMz6460.2 159 (by decide) (by decide)) (hMMz6460.2 160 (by decide) (by decide)) (Sm.at hSz6461 (by decide) f41_5) (⟨by omega, ⟨hSFz6463.2.1, hSFz6463.2.2.1, hSFz6463.2.2.2.1, hSFz6463.2.2.2.2.1, hSFz6463.2.2.2.2.2⟩, by first | exact absurd hbeg (ite_eq0 c70) | exact hJ.two hn0_ hn1_⟩) (by omega)
                                  · -- 70 to 73
                                    refine zw_n 2 rfl ?_
                                    refine zw_igtN (a := size + (2 * size)) (b := size) rfl rfl rfl (by omega) (by omega) (fun c76 => ?_) (fun c76 => ?_)
                                    · -- 76 to 128
                                      refine zw_inc rfl (x' := (nI (t + 1))) (ls' := [some (.ref 139), some (.int (nI x)), some (.int (nI size)), some (.int (nI (t + 1))), some (.int (nI (li t))), some (.int (nI (size + (2 * size))))]) rfl (na (a := t) (b := 1) rfl rfl) rfl ?_
                                      refine zw_n 1 rfl ?_
                                      refine zw_ls (ls' := [some (.ref 139), some (.int (nI x)), some (.int (nI size)), some (.int (nI (t + 1))), none, none]) ⟨Or.inr rfl, Or.inr rfl, Or.inr rfl, Or.inr rfl, Or.inl rfl, Or.inl rfl, trivial⟩ ?_
                                      exact ih41 (t + 1) (fz6459 156) (fz6459 157) (fz6459 158) (fz6459 159) (fz6459 160) Mz6465 (Sm.tw s_41 hSz6461 (by decide)) (hMMz6460.2 156 (by decide) (by decide)) (hMMz6460.2 157 (by decide) (by decide)) (hMMz6460.2 158 (by decide) (by decide)) (hMMz6460.2 159 (by decide) (by decide)) (hMMz6460.2 160 (by decide) (by decide)) (Sm.at hSz6461 (by decide) f41_5) (⟨by omega, ⟨hSFz6463.2.1, hSFz6463.2.2.1, hSFz6463.2.2.2.1, hSFz6463.2.2.2.2.1, hSFz6463.2.2.2.2.2⟩, by first | exact absurd hbeg (ite_eq0 c70) | exact hJ.two hn0_ hn1_⟩) (by omega)
                                    · -- 76 to 79
                                      exfalso
                                      omega
                                · -- 88 to 91
                                  refine zw_n 3 rfl ?_
                                  refine zw_callV (as := [.int (nI (li t)), .int (nI size)]) (rest := []) rfl rfl rfl (Sm.at hSz6461 (by decide) f41_5) rfl rfl rfl (by decide) (m_fitsMoved Mz6465 (up o 0 0) (fset (fset (fset (fset (fset f 160 (fz6459 160)) 159 (fz6459 159)) 158 (fz6459 158)) 157 (fz6459 157)) 156 (fz6459 156)) (MM.of (o' := up o 0 0) (f' := fset (fset (fset (fset (fset f 160 (fz6459 160)) 159 (fz6459 159)) 158 (fz6459 158)) 157 (fz6459 157)) 156 (fz6459 156)) hM (Sm.tw s_41 hSz6461 (by decide)) (Sm.at hSz6461 (by decide) f41_5) (c1_skip (c1_cons (hMMz6460.2 156 (by decide) (by decide)) (c1_cons (hMMz6460.2 157 (by decide) (by decide)) (c1_cons (hMMz6460.2 158 (by decide) (by decide)) (c1_cons (hMMz6460.2 159 (by decide) (by decide)) (c1_cons (hMMz6460.2 160 (by decide) (by decide)) c1_nil)))))) (fs_k (fs_c (fs_c (fs_c (fs_c (fs_c fs_n))))))) n gn al_ it pt tg bd hg hG (⟨hF.1, hSFz6463.2.1, hSFz6463.2.2.1, hSFz6463.2.2.2.1, hSFz6463.2.2.2.2.1, hSFz6463.2.2.2.2.2⟩) c sg li co ht hS emp rk hA hn0 (li t) (by have := hli t; omega) (nI size) (by rw [hps]; omega) (by have h9 := ite_ne c88; rw [stA_0, hlt] at h9; exact h9)) (fun rz6485 Mz6486 hz6487 => ?_)
                                  obtain ⟨bz6476, hAz6477, hb1z6478, hbz6479, fz6480, hMMz6481, hSz6482, hFsz6483, hSFz6484⟩ := hz6487
                                  rw [hAz6477]
                                  show Zw 8 zm_MO_repair 99 [some (.ref 139), some (.int (nI x)), some (.int (nI size)), some (.int (nI t)), some (.int (nI (li t))), some (.int (nI size))] [.int (nI bz6476)] Mz6486 _
                                  refine zw_eq0N (a := bz6476) rfl rfl (by omega) (fun c99 => ?_) (fun c99 => ?_)
                                  · -- 99 to 117
                                    have hn1_ : ¬ rOk al_ it tg pt bd n c sg li co (li t) (rZ size 1) := fun q9 => by have h9 := hbz6479.mpr (by rw [hps]; exact q9.2); omega
                                    refine zw_n 4 rfl ?_
                                    refine zw_top (nm (a := 2) (b := size) rfl rfl) ?_
                                    refine zw_n 1 rfl ?_
                                    refine zw_top (na (a := size) (b := 2 * size) rfl rfl) ?_
                                    refine zw_top (x' := (nI (size + (2 * size)))) (rfl) ?_
                                    refine zw_n 2 (ls' := [some (.ref 139), some (.int (nI x)), some (.int (nI size)), some (.int (nI t)), some (.int (nI (li t))), some (.int (nI (size + (2 * size))))]) rfl ?_
                                    refine zw_n 2 rfl ?_
                                    refine zw_callV (as := [.int (nI t)]) (rest := []) rfl rfl rfl (Sm.at hSz6482 (by decide) (Sm.at hSz6461 (by decide) f41_5)) rfl rfl rfl (by decide) (m_isFirst Mz6486 (up o 0 0) (fset (fset (fset (fset (fset f 160 (fz6480 160)) 159 (fz6480 159)) 158 (fz6480 158)) 157 (fz6480 157)) 156 (fz6480 156)) (MM.of (o' := up o 0 0) (f' := fset (fset (fset (fset (fset f 160 (fz6480 160)) 159 (fz6480 159)) 158 (fz6480 158)) 157 (fz6480 157)) 156 (fz6480 156)) hM (Sm.tw (Sm.tw s_41 hSz6461 (by decide)) hSz6482 (by decide)) (Sm.at hSz6482 (by decide) (Sm.at hSz6461 (by decide) f41_5)) (c1_skip (c1_cons (hMMz6481.2 156 (by decide) (by decide)) (c1_cons (hMMz6481.2 157 (by decide) (by decide)) (c1_cons (hMMz6481.2 158 (by decide) (by decide)) (c1_cons (hMMz6481.2 159 (by decide) (by decide)) (c1_cons (hMMz6481.2 160 (by decide) (by decide)) c1_nil)))))) (fs_k (fs_c (fs_c (fs_c (fs_c (fs_c fs_n))))))) c sg li co ht hS t (by omega)) (fun rz6488 Mz6489 hz6490 => ?_)
                                    rw [hz6490.1, hz6490.2]
                                    show Zw 8 zm_MO_repair 70 [some (.ref 139), some (.int (nI x)), some (.int (nI size)), some (.int (nI t)), some (.int (nI (li t))), some (.int (nI (size + (2 * size))))] [.int (nI (if t = 0 ∨ li (t - 1) ≠ li t then 1 else 0))] Mz6486 _
                                    refine zw_eq0N (a := if t = 0 ∨ li (t - 1) ≠ li t then 1 else 0) rfl rfl (ite_b) (fun c70 => ?_) (fun c70 => ?_)
                                    · -- 70 to 128
                                      refine zw_inc rfl (x' := (nI (t + 1))) (ls' := [some (.ref 139), some (.int (nI x)), some (.int (nI size)), some (.int (nI (t + 1))), some (.int (nI (li t))), some (.int (nI (size + (2 * size))))]) rfl (na (a := t) (b := 1) rfl rfl) rfl ?_
                                      refine zw_n 1 rfl ?_
                                      refine zw_ls (ls' := [some (.ref 139), some (.int (nI x)), some (.int (nI size)), some (.int (nI (t + 1))), none, none]) ⟨Or.inr rfl, Or.inr rfl, Or.inr rfl, Or.inr rfl, Or.inl rfl, Or.inl rfl, trivial⟩ ?_
                                      exact ih41 (t + 1) (fz6480 156) (fz6480 157) (fz6480 158) (fz6480 159) (fz6480 160) Mz6486 (Sm.tw (Sm.tw s_41 hSz6461 (by decide)) hSz6482 (by decide)) (hMMz6481.2 156 (by decide) (by decide)) (hMMz6481.2 157 (by decide) (by decide)) (hMMz6481.2 158 (by decide) (by decide)) (hMMz6481.2 159 (by decide) (by decide)) (hMMz6481.2 160 (by decide) (by decide)) (Sm.at hSz6482 (by decide) (Sm.at hSz6461 (by decide) f41_5)) (⟨by omega, ⟨hSFz6484.2.1, hSFz6484.2.2.1, hSFz6484.2.2.2.1, hSFz6484.2.2.2.2.1, hSFz6484.2.2.2.2.2⟩, by first | exact absurd hbeg (ite_eq0 c70) | exact hJ.two hn0_ hn1_⟩) (by omega)
                                    · -- 70 to 73
                                      refine zw_n 2 rfl ?_
                                      refine zw_igtN (a := size + (2 * size)) (b := size) rfl rfl rfl (by omega) (by omega) (fun c76 => ?_) (fun c76 => ?_)
                                      · -- 76 to 128
                                        refine zw_inc rfl (x' := (nI (t + 1))) (ls' := [some (.ref 139), some (.int (nI x)), some (.int (nI size)), some (.int (nI (t + 1))), some (.int (nI (li t))), some (.int (nI (size + (2 * size))))]) rfl (na (a := t) (b := 1) rfl rfl) rfl ?_
                                        refine zw_n 1 rfl ?_
                                        refine zw_ls (ls' := [some (.ref 139), some (.int (nI x)), some (.int (nI size)), some (.int (nI (t + 1))), none, none]) ⟨Or.inr rfl, Or.inr rfl, Or.inr rfl, Or.inr rfl, Or.inl rfl, Or.inl rfl, trivial⟩ ?_
                                        exact ih41 (t + 1) (fz6480 156) (fz6480 157) (fz6480 158) (fz6480 159) (fz6480 160) Mz6486 (Sm.tw (Sm.tw s_41 hSz6461 (by decide)) hSz6482 (by decide)) (hMMz6481.2 156 (by decide) (by decide)) (hMMz6481.2 157 (by decide) (by decide)) (hMMz6481.2 158 (by decide) (by decide)) (hMMz6481.2 159 (by decide) (by decide)) (hMMz6481.2 160 (by decide) (by decide)) (Sm.at hSz6482 (by decide) (Sm.at hSz6461 (by decide) f41_5)) (⟨by omega, ⟨hSFz6484.2.1, hSFz6484.2.2.1, hSFz6484.2.2.2.1, hSFz6484.2.2.2.2.1, hSFz6484.2.2.2.2.2⟩, by first | exact absurd hbeg (ite_eq0 c70) | exact hJ.two hn0_ hn1_⟩) (by omega)
                                      · -- 76 to 79
                                        exfalso
                                        omega
                                  · -- 99 to 102
                                    refine zw_n 1 rfl ?_
                                    refine zw_ne0N (a := x) rfl rfl (by omega) (fun c103 => ?_) (fun c103 => ?_)
                                    · -- 103 to 111
                                      refine zw_n 3 rfl ?_
                                      refine zw_top (na (a := size) (b := 100) rfl rfl) ?_
                                      refine zw_top (x' := (nI (size + 100))) (rfl) ?_
                                      exact zw_iret rfl rfl (⟨fun q9 => absurd q9 hnof, fun _ => ⟨li t, size, hJ.hit1 (by omega) (by omega) (by omega) hbeg hn0_ (show rOk al_ it tg pt bd n c sg li co (li t) (rZ size 1) from ⟨by have h9 := ite_ne c88; rw [stA_0, hlt, hps] at h9; exact h9, by have h9 := hbz6479.mp (by omega); rw [hps] at h9; exact h9⟩), by unfold repA; rw [if_neg (by omega), if_neg c103]⟩, fset (fset (fset (fset (fset f 160 (fz6480 160)) 159 (fz6480 159)) 158 (fz6480 158)) 157 (fz6480 157)) 156 (fz6480 156), (MM.of (o' := up o 0 0) (f' := fset (fset (fset (fset (fset f 160 (fz6480 160)) 159 (fz6480 159)) 158 (fz6480 158)) 157 (fz6480 157)) 156 (fz6480 156)) hM (Sm.tw (Sm.tw s_41 hSz6461 (by decide)) hSz6482 (by decide)) (Sm.at hSz6482 (by decide) (Sm.at hSz6461 (by decide) f41_5)) (c1_skip (c1_cons (hMMz6481.2 156 (by decide) (by decide)) (c1_cons (hMMz6481.2 157 (by decide) (by decide)) (c1_cons (hMMz6481.2 158 (by decide) (by decide)) (c1_cons (hMMz6481.2 159 (by decide) (by decide)) (c1_cons (hMMz6481.2 160 (by decide) (by decide)) c1_nil)))))) (fs_k (fs_c (fs_c (fs_c (fs_c (fs_c fs_n))))))), Sm.tw (Sm.tw s_41 hSz6461 (by decide)) hSz6482 (by decide), fs_k (fs_c (fs_c (fs_c (fs_c (fs_c fs_n))))), ⟨hF.1, hSFz6484.2.1, hSFz6484.2.2.1, hSFz6484.2.2.2.1, hSFz6484.2.2.2.2.1, hSFz6484.2.2.2.2.2⟩⟩)
                                    · -- 103 to 106
                                      refine zw_n 2 rfl ?_
                                      exact zw_iret rfl rfl (⟨fun q9 => absurd q9 hnof, fun _ => ⟨li t, size, hJ.hit1 (by omega) (by omega) (by omega) hbeg hn0_ (show rOk al_ it tg pt bd n c sg li co (li t) (rZ size 1) from ⟨by have h9 := ite_ne c88; rw [stA_0, hlt, hps] at h9; exact h9, by have h9 := hbz6479.mp (by omega); rw [hps] at h9; exact h9⟩), by unfold repA; rw [if_neg (by omega), if_pos c103]⟩, fset (fset (fset (fset (fset f 160 (fz6480 160)) 159 (fz6480 159)) 158 (fz6480 158)) 157 (fz6480 157)) 156 (fz6480 156), (MM.of (o' := up o 0 0) (f' := fset (fset (fset (fset (fset f 160 (fz6480 160)) 159 (fz6480 159)) 158 (fz6480 158)) 157 (fz6480 157)) 156 (fz6480 156)) hM (Sm.tw (Sm.tw s_41 hSz6461 (by decide)) hSz6482 (by decide)) (Sm.at hSz6482 (by decide) (Sm.at hSz6461 (by decide) f41_5)) (c1_skip (c1_cons (hMMz6481.2 156 (by decide) (by decide)) (c1_cons (hMMz6481.2 157 (by decide) (by decide)) (c1_cons (hMMz6481.2 158 (by decide) (by decide)) (c1_cons (hMMz6481.2 159 (by decide) (by decide)) (c1_cons (hMMz6481.2 160 (by decide) (by decide)) c1_nil)))))) (fs_k (fs_c (fs_c (fs_c (fs_c (fs_c fs_n))))))), Sm.tw (Sm.tw s_41 hSz6461 (by decide)) hSz6482 (by decide), fs_k (fs_c (fs_c (fs_c (fs_c (fs_c fs_n))))), ⟨hF.1, hSFz6484.2.1, hSFz6484.2.2.1, hSFz6484.2.2.2.1, hSFz6484.2.2.2.2.1, hSFz6484.2.2.2.2.2⟩⟩)
                          · -- 99 to 102
                            refine zw_n 1 rfl ?_
                            refine zw_ne0N (a := x) rfl rfl (by omega) (fun c103 => ?_) (fun c103 => ?_)
                            · -- 103 to 111
                              refine zw_n 3 rfl ?_
                              refine zw_top (x' := (nI (4294967296 - size + 100))) ((nI_negp (by omega) (by omega)).2) ?_
                              exact zw_iret rfl rfl (⟨fun q9 => absurd q9 hnof, fun _ => ⟨li t, 4294967296 - size, hJ.hit0 (by omega) (by omega) (by omega) hbeg (show rOk al_ it tg pt bd n c sg li co (li t) (rZ size 0) from ⟨by have h9 := ite_ne c88; rw [stA_0, hlt, hng] at h9; exact h9, by have h9 := hbz6458.mp (by omega); rw [hng] at h9; exact h9⟩), by unfold repA; rw [if_neg (by omega), if_neg c103]⟩, fset (fset (fset (fset (fset f 160 (fz6459 160)) 159 (fz6459 159)) 158 (fz6459 158)) 157 (fz6459 157)) 156 (fz6459 156), (MM.of (o' := up o 0 0) (f' := fset (fset (fset (fset (fset f 160 (fz6459 160)) 159 (fz6459 159)) 158 (fz6459 158)) 157 (fz6459 157)) 156 (fz6459 156)) hM (Sm.tw s_41 hSz6461 (by decide)) (Sm.at hSz6461 (by decide) f41_5) (c1_skip (c1_cons (hMMz6460.2 156 (by decide) (by decide)) (c1_cons (hMMz6460.2 157 (by decide) (by decide)) (c1_cons (hMMz6460.2 158 (by decide) (by decide)) (c1_cons (hMMz6460.2 159 (by decide) (by decide)) (c1_cons (hMMz6460.2 160 (by decide) (by decide)) c1_nil)))))) (fs_k (fs_c (fs_c (fs_c (fs_c (fs_c fs_n))))))), Sm.tw s_41 hSz6461 (by decide), fs_k (fs_c (fs_c (fs_c (fs_c (fs_c fs_n))))), ⟨hF.1, hSFz6463.2.1, hSFz6463.2.2.1, hSFz6463.2.2.2.1, hSFz6463.2.2.2.2.1, hSFz6463.2.2.2.2.2⟩⟩)
                            · -- 103 to 106
                              refine zw_n 2 rfl ?_
                              exact zw_iret rfl rfl (⟨fun q9 => absurd q9 hnof, fun _ => ⟨li t, 4294967296 - size, hJ.hit0 (by omega) (by omega) (by omega) hbeg (show rOk al_ it tg pt bd n c sg li co (li t) (rZ size 0) from ⟨by have h9 := ite_ne c88; rw [stA_0, hlt, hng] at h9; exact h9, by have h9 := hbz6458.mp (by omega); rw [hng] at h9; exact h9⟩), by unfold repA; rw [if_neg (by omega), if_pos c103]⟩, fset (fset (fset (fset (fset f 160 (fz6459 160)) 159 (fz6459 159)) 158 (fz6459 158)) 157 (fz6459 157)) 156 (fz6459 156), (MM.of (o' := up o 0 0) (f' := fset (fset (fset (fset (fset f 160 (fz6459 160)) 159 (fz6459 159)) 158 (fz6459 158)) 157 (fz6459 157)) 156 (fz6459 156)) hM (Sm.tw s_41 hSz6461 (by decide)) (Sm.at hSz6461 (by decide) f41_5) (c1_skip (c1_cons (hMMz6460.2 156 (by decide) (by decide)) (c1_cons (hMMz6460.2 157 (by decide) (by decide)) (c1_cons (hMMz6460.2 158 (by decide) (by decide)) (c1_cons (hMMz6460.2 159 (by decide) (by decide)) (c1_cons (hMMz6460.2 160 (by decide) (by decide)) c1_nil)))))) (fs_k (fs_c (fs_c (fs_c (fs_c (fs_c fs_n))))))), Sm.tw s_41 hSz6461 (by decide), fs_k (fs_c (fs_c (fs_c (fs_c (fs_c fs_n))))), ⟨hF.1, hSFz6463.2.1, hSFz6463.2.2.1, hSFz6463.2.2.2.1, hSFz6463.2.2.2.2.1, hSFz6463.2.2.2.2.2⟩⟩)
              exact lp41 _ 0 a6 a7 a8 a9 a0 M_33 s_33 f33_0 f33_1 f33_2 f33_3 f33_4 f33_5 (⟨Nat.zero_le _, as, hi33.2.2.2⟩) (Nat.lt_succ_self _)
        exact lp33 _ 1 (fz6409 156) (fz6409 157) (fz6409 158) (fz6409 159) (fz6409 160) Mz6418 (Sm.tw (Sm.tset Sm.rf ez6402 (by decide)) hSz6412 (by decide)) (hMMz6411.2 156 (by decide) (by decide)) (hMMz6411.2 157 (by decide) (by decide)) (hMMz6411.2 158 (by decide) (by decide)) (hMMz6411.2 159 (by decide) (by decide)) (hMMz6411.2 160 (by decide) (by decide)) (Sm.at hSz6412 (by decide) (zat_self ez6402 hM.1)) (⟨Nat.le_refl _, by omega, ⟨hSFz6414.2.1, hSFz6414.2.2.1, hSFz6414.2.2.2.1, hSFz6414.2.2.2.2.1, hSFz6414.2.2.2.2.2⟩, RepJ.start⟩) (Nat.lt_succ_self _)
      · -- 26 to 29
        refine zw_n 1 rfl ?_
        exact zw_iret rfl rfl (⟨fun _ => rfl, fun q9 => absurd (by first | exact Or.inl (by have h9 := ite_eq0 c19; omega) | exact Or.inr (ite_ne c26) | exact absurd (by omega) (ite_eq0 c12)) q9, fset (fset (fset (fset (fset f 160 (fz6409 160)) 159 (fz6409 159)) 158 (fz6409 158)) 157 (fz6409 157)) 156 (fz6409 156), (MM.of (o' := up o 0 0) (f' := fset (fset (fset (fset (fset f 160 (fz6409 160)) 159 (fz6409 159)) 158 (fz6409 158)) 157 (fz6409 157)) 156 (fz6409 156)) hM (Sm.tw (Sm.tset Sm.rf ez6402 (by decide)) hSz6412 (by decide)) (Sm.at hSz6412 (by decide) (zat_self ez6402 hM.1)) (c1_skip (c1_cons (hMMz6411.2 156 (by decide) (by decide)) (c1_cons (hMMz6411.2 157 (by decide) (by decide)) (c1_cons (hMMz6411.2 158 (by decide) (by decide)) (c1_cons (hMMz6411.2 159 (by decide) (by decide)) (c1_cons (hMMz6411.2 160 (by decide) (by decide)) c1_nil)))))) (fs_k (fs_c (fs_c (fs_c (fs_c (fs_c fs_n))))))), Sm.tw (Sm.tset Sm.rf ez6402 (by decide)) hSz6412 (by decide), fs_k (fs_c (fs_c (fs_c (fs_c (fs_c fs_n))))), ⟨hF.1, hSFz6414.2.1, hSFz6414.2.2.1, hSFz6414.2.2.2.1, hSFz6414.2.2.2.2.1, hSFz6414.2.2.2.2.2⟩⟩)
