set_option maxHeartbeats 4000000 in
set_option maxRecDepth 100000 in
theorem c_fitsMoved (Mq : zM) (n em : Nat) (gn al_ it pt tg bd fr af fb : Nat → Nat) (hR : Seg Mq 16 (rulL 16 (n, gn, al_, it, pt, tg, bd, em, fr, af, fb))) (hG : SafeG n gn al_ it pt tg bd) (c : Nat) (sg li co : Nat → Nat) (hT : Seg Mq 26 (tokL 26 (c, sg, li, co))) (hS : SafeT c sg li co) (hn : 0 < n) (emp : Nat → Prop) (rk : Nat → Nat) (hA : Acyc (gE al_ it tg pt bd sg co) n emp rk) (s : Nat) (W R : Nat → Nat) (hC : Seg Mq 125 (chtL 125 16 135 s W R)) (hW : SafeM W) (hQ : SafeM R) (c1 : Nat) (sg1 li1 co1 : Nat → Nat) (hV : Seg Mq 135 (tokL 135 (c1, sg1, li1, co1))) (kn l b : Nat) (h134 : Mq[134]? = some (.inr (7, [.int (nI (kn)), .int (nI (l)), .int (nI (b)), .ref 135]))) (z : Int32) (hz : -40 < z.toInt ∧ z.toInt < 40) (hl : l < 1000000) (hcn : cnt (inL li (l : Int)) c ≠ 0) : Zm 5 zm_Repairs_fitsMoved [.ref 134, .ref 125, .ref 26, .int z] Mq (fun r9 M1 => ∃ b9 st9 W9 R9 co9, r9 = some (.int (nI b9)) ∧ b9 ≤ 1 ∧ (b9 = 1 ↔ rOk al_ it tg pt bd n c sg li co l z.toInt) ∧ Seg M1 125 (chtL 125 16 135 st9 W9 R9) ∧ Seg M1 135 (tokL 135 (c, sg, li, co9)) ∧ st9 ≤ 1 ∧ SafeM W9 ∧ SafeM R9 ∧ (∀ q, co9 q < 40) ∧ Sm Mq M1 [125, 126, 127, 135, 136, 137, 138]) := by
  show Zw 5 zm_Repairs_fitsMoved 0 [some (.ref 134), some (.ref 125), some (.ref 26), some (.int z)] [] Mq _
  have hc20 := hS.1
  have hlz : (nI l).toInt = (l : Int) := nI_toInt (by omega)
  refine zw_n 1 rfl ?_
  refine zw_get (v := .ref 135) rfl h134 rfl ?_
  refine zw_n 1 rfl ?_
  refine zw_callV (as := [.ref 26]) (rest := []) rfl rfl rfl (hV.get 0 rfl) rfl rfl rfl (by decide) (c_copyTok Mq 135 26 c1 sg1 li1 co1 (seg4 (hV.get 0 rfl) (hV.get 1 rfl) (hV.get 2 rfl) (hV.get 3 rfl)) c sg li co (seg4 (hT.get 0 rfl) (hT.get 1 rfl) (hT.get 2 rfl) (hT.get 3 rfl)) (by omega)) (fun rz6221 Mz6222 hz6223 => ?_)
  obtain ⟨hAz6218, hBz6219, hSz6220⟩ := hz6223
  rw [hAz6218]
  show Zw 5 zm_Repairs_fitsMoved 8 [some (.ref 134), some (.ref 125), some (.ref 26), some (.int z)] [] Mz6222 _
  refine zw_n 2 rfl ?_
  refine zw_put rfl (Sm.at hSz6220 (by decide) (hC.get 0 rfl)) (rfl) (Nat.le_of_ble_eq_true rfl) ?_
  generalize ez6225 : List.set Mz6222 125 _ = Mz6224
  refine zw_n 1 rfl ?_
  refine zw_get (v := .ref 135) rfl (zat_set ez6225 (by decide) (Sm.at hSz6220 (by decide) h134)) rfl ?_
  refine zw_n 1 rfl ?_
  refine zw_get (v := .int (nI l)) rfl (zat_set ez6225 (by decide) (Sm.at hSz6220 (by decide) h134)) rfl ?_
  refine zw_n 1 rfl ?_
  refine zw_callV (as := [.int (nI l), .int z]) (rest := []) rfl rfl rfl (zat_set ez6225 (by decide) (hBz6219.get 0 rfl)) rfl rfl rfl (by decide) (c_moveLine Mz6224 135 c sg li co (seg4 (zat_set ez6225 (by decide) (hBz6219.get 0 rfl)) (zat_set ez6225 (by decide) (hBz6219.get 1 rfl)) (zat_set ez6225 (by decide) (hBz6219.get 2 rfl)) (zat_set ez6225 (by decide) (hBz6219.get 3 rfl))) hS (nI l) z) (fun rz6233 Mz6234 hz6235 => ?_)
  obtain ⟨hAz6226, coz6227, hBz6228, hSz6229, h1z6230, h2z6231, h3z6232⟩ := hz6235
  rw [hAz6226]
  rw [hlz] at h2z6231
  have hS9 : SafeT c sg li coz6227 := ⟨hS.1, hS.2.1, hS.2.2.1, h1z6230⟩
  show Zw 5 zm_Repairs_fitsMoved 25 [some (.ref 134), some (.ref 125), some (.ref 26), some (.int z)] [.int (nI (mvA c li co (nI l).toInt z.toInt))] Mz6234 _
  refine zw_le0Z (a := (nI (mvA c li co (nI l).toInt z.toInt)).toInt) rfl (rfl) (fun c25 => ?_) (fun c25 => ?_)
  · -- 25 to 39
    refine zw_n 1 rfl ?_
    exact zw_zret rfl rfl (Or.inl rfl) (⟨0, 0, W, R, coz6227, rfl, by decide, ⟨fun q9 => absurd q9 (by decide), fun q9 => absurd q9.1 (mvA_non hc20 (by omega) hcn (by rw [hlz] at c25; omega))⟩, (seg3 (Sm.at hSz6229 (by decide) (zat_self ez6225 (Sm.at hSz6220 (by decide) (hC.get 0 rfl)))) (Sm.at hSz6229 (by decide) (zat_set ez6225 (by decide) (Sm.at hSz6220 (by decide) (hC.get 1 rfl)))) (Sm.at hSz6229 (by decide) (zat_set ez6225 (by decide) (Sm.at hSz6220 (by decide) (hC.get 2 rfl))))), (seg4 (Sm.at hSz6229 (by decide) (zat_set ez6225 (by decide) (hBz6219.get 0 rfl))) (Sm.at hSz6229 (by decide) (zat_set ez6225 (by decide) (hBz6219.get 1 rfl))) (Sm.at hSz6229 (by decide) (zat_set ez6225 (by decide) (hBz6219.get 2 rfl))) (hBz6228.get 3 rfl)), by decide, hW, hQ, h1z6230, Sm.tw (Sm.tset (Sm.tw Sm.rf hSz6220 (by decide)) ez6225 (by decide)) hSz6229 (by decide)⟩)
  · -- 25 to 28
    refine zw_n 1 rfl ?_
    refine zw_callV (as := []) (rest := []) rfl rfl rfl (Sm.at hSz6229 (by decide) (zat_self ez6225 (Sm.at hSz6220 (by decide) (hC.get 0 rfl)))) rfl rfl rfl (by decide) (c_readOnce Mz6234 125 16 135 0 W R n em gn al_ it pt tg bd fr af fb c sg li coz6227 (seg3 (Sm.at hSz6229 (by decide) (zat_self ez6225 (Sm.at hSz6220 (by decide) (hC.get 0 rfl)))) (Sm.at hSz6229 (by decide) (zat_set ez6225 (by decide) (Sm.at hSz6220 (by decide) (hC.get 1 rfl)))) (Sm.at hSz6229 (by decide) (zat_set ez6225 (by decide) (Sm.at hSz6220 (by decide) (hC.get 2 rfl))))) (seg10 (Sm.at hSz6229 (by decide) (zat_set ez6225 (by decide) (Sm.at hSz6220 (by decide) (hR.get 0 rfl)))) (Sm.at hSz6229 (by decide) (zat_set ez6225 (by decide) (Sm.at hSz6220 (by decide) (hR.get 1 rfl)))) (Sm.at hSz6229 (by decide) (zat_set ez6225 (by decide) (Sm.at hSz6220 (by decide) (hR.get 2 rfl)))) (Sm.at hSz6229 (by decide) (zat_set ez6225 (by decide) (Sm.at hSz6220 (by decide) (hR.get 3 rfl)))) (Sm.at hSz6229 (by decide) (zat_set ez6225 (by decide) (Sm.at hSz6220 (by decide) (hR.get 4 rfl)))) (Sm.at hSz6229 (by decide) (zat_set ez6225 (by decide) (Sm.at hSz6220 (by decide) (hR.get 5 rfl)))) (Sm.at hSz6229 (by decide) (zat_set ez6225 (by decide) (Sm.at hSz6220 (by decide) (hR.get 6 rfl)))) (Sm.at hSz6229 (by decide) (zat_set ez6225 (by decide) (Sm.at hSz6220 (by decide) (hR.get 7 rfl)))) (Sm.at hSz6229 (by decide) (zat_set ez6225 (by decide) (Sm.at hSz6220 (by decide) (hR.get 8 rfl)))) (Sm.at hSz6229 (by decide) (zat_set ez6225 (by decide) (Sm.at hSz6220 (by decide) (hR.get 9 rfl))))) (seg4 (Sm.at hSz6229 (by decide) (zat_set ez6225 (by decide) (hBz6219.get 0 rfl))) (Sm.at hSz6229 (by decide) (zat_set ez6225 (by decide) (hBz6219.get 1 rfl))) (Sm.at hSz6229 (by decide) (zat_set ez6225 (by decide) (hBz6219.get 2 rfl))) (hBz6228.get 3 rfl)) hG hS9 (by assumption) (by assumption) (by omega) emp rk hA (Nat.zero_le _) (fun q9 => absurd rfl q9)) (fun rz6244 Mz6245 hz6246 => ?_)
    obtain ⟨hAz6236, Wz6237, Rz6238, hBz6239, hSz6240, hDz6241, hEz6242, hFz6243⟩ := hz6246
    rw [hAz6236]
    show Zw 5 zm_Repairs_fitsMoved 32 [some (.ref 134), some (.ref 125), some (.ref 26), some (.int z)] [.int (nI (if 0 < n ∧ wh (gE al_ it tg pt bd sg coz6227) n 0 0 c ≠ 0 then 1 else 0))] Mz6245 _
    refine zw_eq0N (a := if 0 < n ∧ wh (gE al_ it tg pt bd sg coz6227) n 0 0 c ≠ 0 then 1 else 0) rfl rfl (ite_b) (fun c32 => ?_) (fun c32 => ?_)
    · -- 32 to 39
      refine zw_n 1 rfl ?_
      exact zw_zret rfl rfl (Or.inl rfl) (⟨0, 1, Wz6237, Rz6238, coz6227, rfl, by decide, ⟨fun q9 => absurd q9 (by decide), fun q9 => absurd (show 0 < n ∧ wh (gE al_ it tg pt bd sg coz6227) n 0 0 c ≠ 0 from ⟨hn, by rw [(wh_mv (fun q9 h9 => (h2z6231 q9 h9).trans (if_pos (mvA_pos hc20 (by rw [hlz] at c25; omega)))))]; exact q9.2⟩) (ite_eq0 c32)⟩, (seg3 (hBz6239.get 0 rfl) (hBz6239.get 1 rfl) (hBz6239.get 2 rfl)), (seg4 (Sm.at hSz6240 (by decide) (Sm.at hSz6229 (by decide) (zat_set ez6225 (by decide) (hBz6219.get 0 rfl)))) (Sm.at hSz6240 (by decide) (Sm.at hSz6229 (by decide) (zat_set ez6225 (by decide) (hBz6219.get 1 rfl)))) (Sm.at hSz6240 (by decide) (Sm.at hSz6229 (by decide) (zat_set ez6225 (by decide) (hBz6219.get 2 rfl)))) (Sm.at hSz6240 (by decide) (hBz6228.get 3 rfl))), by decide, hDz6241, hEz6242, h1z6230, Sm.tw (Sm.tw (Sm.tset (Sm.tw Sm.rf hSz6220 (by decide)) ez6225 (by decide)) hSz6229 (by decide)) hSz6240 (by decide)⟩)
    · -- 32 to 35
      refine zw_n 2 rfl ?_
      exact zw_zret rfl rfl (Or.inr rfl) (⟨1, 1, Wz6237, Rz6238, coz6227, rfl, by decide, ⟨fun _ => ⟨(mvA_ok (mvA_pos hc20 (by rw [hlz] at c25; omega))).2.2.1, by rw [← (wh_mv (fun q9 h9 => (h2z6231 q9 h9).trans (if_pos (mvA_pos hc20 (by rw [hlz] at c25; omega)))))]; exact (ite_ne c32).2⟩, fun _ => rfl⟩, (seg3 (hBz6239.get 0 rfl) (hBz6239.get 1 rfl) (hBz6239.get 2 rfl)), (seg4 (Sm.at hSz6240 (by decide) (Sm.at hSz6229 (by decide) (zat_set ez6225 (by decide) (hBz6219.get 0 rfl)))) (Sm.at hSz6240 (by decide) (Sm.at hSz6229 (by decide) (zat_set ez6225 (by decide) (hBz6219.get 1 rfl)))) (Sm.at hSz6240 (by decide) (Sm.at hSz6229 (by decide) (zat_set ez6225 (by decide) (hBz6219.get 2 rfl)))) (Sm.at hSz6240 (by decide) (hBz6228.get 3 rfl))), by decide, hDz6241, hEz6242, h1z6230, Sm.tw (Sm.tw (Sm.tset (Sm.tw Sm.rf hSz6220 (by decide)) ez6225 (by decide)) hSz6229 (by decide)) hSz6240 (by decide)⟩)

set_option maxHeartbeats 4000000 in
set_option maxRecDepth 100000 in
theorem c_search (Mq : zM) (n em : Nat) (gn al_ it pt tg bd fr af fb : Nat → Nat) (hR : Seg Mq 16 (rulL 16 (n, gn, al_, it, pt, tg, bd, em, fr, af, fb))) (hG : SafeG n gn al_ it pt tg bd) (c : Nat) (sg li co : Nat → Nat) (hT : Seg Mq 26 (tokL 26 (c, sg, li, co))) (hS : SafeT c sg li co) (hn : 0 < n) (emp : Nat → Prop) (rk : Nat → Nat) (hA : Acyc (gE al_ it tg pt bd sg co) n emp rk) (kr0 kt0 s : Nat) (W R : Nat → Nat) (hC : Seg Mq 125 (chtL 125 kr0 kt0 s W R)) (hW : SafeM W) (hQ : SafeM R) (c1 : Nat) (sg1 li1 co1 : Nat → Nat) (hV : Seg Mq 135 (tokL 135 (c1, sg1, li1, co1))) (hS1 : SafeT c1 sg1 li1 co1) (L : Nat) (hl1 : ∀ q, li1 q < L) (hli : ∀ q, li q < L) (kn l b : Nat) (h134 : Mq[134]? = some (.inr (7, [.int (nI (kn)), .int (nI (l)), .int (nI (b)), .ref 135]))) : Zm 6 zm_Repairs_search [.ref 134, .ref 125, .ref 16, .ref 26] Mq (fun r9 M1 => r9 = none ∧ ∃ l9 b9 st9 W9 R9 c9 sg9 li9 co9, M1[134]? = some (.inr (7, [.int (nI (1)), .int (nI (l9)), .int (nI (b9)), .ref 135])) ∧ Seg M1 125 (chtL 125 16 135 st9 W9 R9) ∧ Seg M1 135 (tokL 135 (c9, sg9, li9, co9)) ∧ st9 ≤ 1 ∧ SafeM W9 ∧ SafeM R9 ∧ SafeT c9 sg9 li9 co9 ∧ (∀ q, li9 q < L) ∧ RepQ c li (rOk al_ it tg pt bd n c sg li co) l9 b9 ∧ Sm Mq M1 [125, 126, 127, 134, 135, 136, 137, 138]) := by
  show Zw 6 zm_Repairs_search 0 [some (.ref 134), some (.ref 125), some (.ref 16), some (.ref 26), none, none] [] Mq _
  have hc20 := hS.1
  refine zw_n 2 rfl ?_
  refine zw_put rfl h134 (rfl) (Nat.le_of_ble_eq_true rfl) ?_
  generalize ez6248 : List.set Mq 134 _ = Mz6247
  refine zw_n 2 rfl ?_
  refine zw_put rfl (zat_self ez6248 h134) (rfl) (Nat.le_of_ble_eq_true rfl) ?_
  generalize ez6250 : List.set Mz6247 134 _ = Mz6249
  refine zw_n 3 rfl ?_
  refine zw_get (v := .ref 135) rfl (zat_self ez6250 (zat_self ez6248 h134)) rfl ?_
  refine zw_callV (as := [.ref 16, .ref 135]) (rest := []) rfl rfl rfl (zat_set ez6250 (by decide) (zat_set ez6248 (by decide) (hC.get 0 rfl))) rfl rfl rfl (by decide) (c_turnTo Mz6249 125 kr0 kt0 s W R (seg3 (zat_set ez6250 (by decide) (zat_set ez6248 (by decide) (hC.get 0 rfl))) (zat_set ez6250 (by decide) (zat_set ez6248 (by decide) (hC.get 1 rfl))) (zat_set ez6250 (by decide) (zat_set ez6248 (by decide) (hC.get 2 rfl)))) 16 135) (fun rz6254 Mz6255 hz6256 => ?_)
  obtain ⟨hAz6251, hBz6252, hSz6253⟩ := hz6256
  rw [hAz6251]
  show Zw 6 zm_Repairs_search 19 [some (.ref 134), some (.ref 125), some (.ref 16), some (.ref 26), none, none] [] Mz6255 _
  refine zw_n 2 (ls' := [some (.ref 134), some (.ref 125), some (.ref 16), some (.ref 26), some (.int 1), none]) rfl ?_
  have mz6257 : Mz6255[134]? = some (.inr (7, [.int 1, .int (nI l), .int 0, .ref 135])) := Sm.at hSz6253 (by decide) (zat_self ez6250 (zat_self ez6248 h134))
  have mz6258 : Mz6255[16]? = some (.inr (8, [.int (nI n), .ref 17, .ref 18, .ref 19, .ref 20, .ref 21, .ref 22, .int (nI em), .ref 23, .ref 24, .ref 25])) := Sm.at hSz6253 (by decide) (zat_set ez6250 (by decide) (zat_set ez6248 (by decide) (hR.get 0 rfl)))
  have mz6259 : Mz6255[17]? = some (.inl (0, 8, .inl (ai gn))) := Sm.at hSz6253 (by decide) (zat_set ez6250 (by decide) (zat_set ez6248 (by decide) (hR.get 1 rfl)))
  have mz6260 : Mz6255[18]? = some (.inl (0, 8, .inl (ai al_))) := Sm.at hSz6253 (by decide) (zat_set ez6250 (by decide) (zat_set ez6248 (by decide) (hR.get 2 rfl)))
  have mz6261 : Mz6255[19]? = some (.inl (0, 32, .inl (ai it))) := Sm.at hSz6253 (by decide) (zat_set ez6250 (by decide) (zat_set ez6248 (by decide) (hR.get 3 rfl)))
  have mz6262 : Mz6255[20]? = some (.inl (0, 160, .inl (ai pt))) := Sm.at hSz6253 (by decide) (zat_set ez6250 (by decide) (zat_set ez6248 (by decide) (hR.get 4 rfl)))
  have mz6263 : Mz6255[21]? = some (.inl (0, 160, .inl (ai tg))) := Sm.at hSz6253 (by decide) (zat_set ez6250 (by decide) (zat_set ez6248 (by decide) (hR.get 5 rfl)))
  have mz6264 : Mz6255[22]? = some (.inl (0, 160, .inl (ai bd))) := Sm.at hSz6253 (by decide) (zat_set ez6250 (by decide) (zat_set ez6248 (by decide) (hR.get 6 rfl)))
  have mz6265 : Mz6255[23]? = some (.inl (1, 8, .inr (.inl (al fr)))) := Sm.at hSz6253 (by decide) (zat_set ez6250 (by decide) (zat_set ez6248 (by decide) (hR.get 7 rfl)))
  have mz6266 : Mz6255[24]? = some (.inl (1, 32, .inr (.inl (al af)))) := Sm.at hSz6253 (by decide) (zat_set ez6250 (by decide) (zat_set ez6248 (by decide) (hR.get 8 rfl)))
  have mz6267 : Mz6255[25]? = some (.inl (1, 160, .inr (.inl (al fb)))) := Sm.at hSz6253 (by decide) (zat_set ez6250 (by decide) (zat_set ez6248 (by decide) (hR.get 9 rfl)))
  have mz6268 : Mz6255[26]? = some (.inr (9, [.int (nI c), .ref 27, .ref 28, .ref 29])) := Sm.at hSz6253 (by decide) (zat_set ez6250 (by decide) (zat_set ez6248 (by decide) (hT.get 0 rfl)))
  have mz6269 : Mz6255[27]? = some (.inl (0, 20, .inl (ai sg))) := Sm.at hSz6253 (by decide) (zat_set ez6250 (by decide) (zat_set ez6248 (by decide) (hT.get 1 rfl)))
  have mz6270 : Mz6255[28]? = some (.inl (0, 20, .inl (ai li))) := Sm.at hSz6253 (by decide) (zat_set ez6250 (by decide) (zat_set ez6248 (by decide) (hT.get 2 rfl)))
  have mz6271 : Mz6255[29]? = some (.inl (0, 20, .inl (ai co))) := Sm.at hSz6253 (by decide) (zat_set ez6250 (by decide) (zat_set ez6248 (by decide) (hT.get 3 rfl)))
  have mz6272 : Mz6255[135]? = some (.inr (9, [.int (nI c1), .ref 136, .ref 137, .ref 138])) := Sm.at hSz6253 (by decide) (zat_set ez6250 (by decide) (zat_set ez6248 (by decide) (hV.get 0 rfl)))
  have mz6273 : Mz6255[136]? = some (.inl (0, 20, .inl (ai sg1))) := Sm.at hSz6253 (by decide) (zat_set ez6250 (by decide) (zat_set ez6248 (by decide) (hV.get 1 rfl)))
  have mz6274 : Mz6255[137]? = some (.inl (0, 20, .inl (ai li1))) := Sm.at hSz6253 (by decide) (zat_set ez6250 (by decide) (zat_set ez6248 (by decide) (hV.get 2 rfl)))
  have mz6275 : Mz6255[138]? = some (.inl (0, 20, .inl (ai co1))) := Sm.at hSz6253 (by decide) (zat_set ez6250 (by decide) (zat_set ez6248 (by decide) (hV.get 3 rfl)))
  have sz6276 : Sm Mq Mz6255 [125, 126, 127, 134, 135, 136, 137, 138] := Sm.tw (Sm.tset (Sm.tset Sm.rf ez6248 (by decide)) ez6250 (by decide)) hSz6253 (by decide)
  have lp22 : ∀ (n22 : Nat) (far : Nat) (l8 : Nat) (b8 : Nat) (st8 : Nat) (W8 : Nat → Nat) (R8 : Nat → Nat) (c8 : Nat) (sg8 : Nat → Nat) (li8 : Nat → Nat) (co8 : Nat → Nat) (M_22 : zM), Sm Mq M_22 [125, 126, 127, 134, 135, 136, 137, 138] → M_22[134]? = some (.inr (7, [.int (nI 1), .int (nI l8), .int (nI b8), .ref 135])) → M_22[125]? = some (.inr (0, [.ref 16, .ref 135, .int (nI st8), .ref 126, .ref 127])) → M_22[126]? = some (.inl (1, 3528, .inr (.inl (al W8)))) → M_22[127]? = some (.inl (1, 3360, .inr (.inl (al R8)))) → M_22[135]? = some (.inr (9, [.int (nI c8), .ref 136, .ref 137, .ref 138])) → M_22[136]? = some (.inl (0, 20, .inl (ai sg8))) → M_22[137]? = some (.inl (0, 20, .inl (ai li8))) → M_22[138]? = some (.inl (0, 20, .inl (ai co8))) → (1 ≤ far ∧ far ≤ 7 ∧ st8 ≤ 1 ∧ SafeM W8 ∧ SafeM R8 ∧ SafeT c8 sg8 li8 co8 ∧ (∀ q, li8 q < L) ∧ b8 < 4294967296 ∧ ((b8 = 0 ∧ RepJ c li (rOk al_ it tg pt bd n c sg li co) far 0) ∨ (b8 ≠ 0 ∧ RepQ c li (rOk al_ it tg pt bd n c sg li co) l8 b8))) → 7 - far < n22 → Zw 6 zm_Repairs_search 22 [some (.ref 134), some (.ref 125), some (.ref 16), some (.ref 26), some (.int (nI far)), none] [] M_22 (fun r9 M1 => r9 = none ∧ ∃ l9 b9 st9 W9 R9 c9 sg9 li9 co9, M1[134]? = some (.inr (7, [.int (nI (1)), .int (nI (l9)), .int (nI (b9)), .ref 135])) ∧ Seg M1 125 (chtL 125 16 135 st9 W9 R9) ∧ Seg M1 135 (tokL 135 (c9, sg9, li9, co9)) ∧ st9 ≤ 1 ∧ SafeM W9 ∧ SafeM R9 ∧ SafeT c9 sg9 li9 co9 ∧ (∀ q, li9 q < L) ∧ RepQ c li (rOk al_ it tg pt bd n c sg li co) l9 b9 ∧ Sm Mq M1 [125, 126, 127, 134, 135, 136, 137, 138]) := by
    intro n22
    induction n22 with
    | zero => intro far l8 b8 st8 W8 R8 c8 sg8 li8 co8 M_22 _ _ _ _ _ _ _ _ _ _ h; exact absurd h (Nat.not_lt_zero _)
    | succ n22 ih22 =>
      intro far l8 b8 st8 W8 R8 c8 sg8 li8 co8 M_22 s_22 f22_0 f22_1 f22_2 f22_3 f22_4 f22_5 f22_6 f22_7 hi22 hm22
      obtain ⟨hf1, hf7, hst8, hW8, hR8, hT8, hl8, hb8, hd8⟩ := hi22
      refine zw_n 2 rfl ?_
      refine zw_igtN (a := far) (b := 6) rfl rfl rfl (by omega) (by omega) (fun c26 => ?_) (fun c26 => ?_)
      · -- 26 to 134
        exact zw_vret rfl rfl (⟨rfl, l8, b8, st8, W8, R8, c8, sg8, li8, co8, f22_0, (seg3 f22_1 f22_2 f22_3), (seg4 f22_4 f22_5 f22_6 f22_7), hst8, hW8, hR8, hT8, hl8, (by rcases hd8 with q9 | q9; (rw [q9.1]; exact q9.2.fin (by first | omega | exact absurd (by rw [q9.1]; rfl) c33)); exact q9.2), s_22⟩)
      · -- 26 to 29
        refine zw_n 1 rfl ?_
        refine zw_get (v := .int (nI b8)) rfl f22_0 rfl ?_
        refine zw_ne0 rfl (fun c33 => ?_) (fun c33 => ?_)
        · -- 33 to 134
          exact zw_vret rfl rfl (⟨rfl, l8, b8, st8, W8, R8, c8, sg8, li8, co8, f22_0, (seg3 f22_1 f22_2 f22_3), (seg4 f22_4 f22_5 f22_6 f22_7), hst8, hW8, hR8, hT8, hl8, (by rcases hd8 with q9 | q9; (rw [q9.1]; exact q9.2.fin (by first | omega | exact absurd (by rw [q9.1]; rfl) c33)); exact q9.2), s_22⟩)
        · -- 33 to 36
          have hb80 : b8 = 0 := nI_eq0 hb8 c33
          obtain ⟨hng, hnq, hnz⟩ := nI_neg (far := far) (by omega) (by omega)
          refine zw_n 2 (ls' := [some (.ref 134), some (.ref 125), some (.ref 16), some (.ref 26), some (.int (nI far)), some (.int 0)]) rfl ?_
          have lp39 : ∀ (n39 : Nat) (k : Nat) (l9 : Nat) (b9 : Nat) (st9 : Nat) (W9 : Nat → Nat) (R9 : Nat → Nat) (c9 : Nat) (sg9 : Nat → Nat) (li9 : Nat → Nat) (co9 : Nat → Nat) (M_39 : zM), Sm Mq M_39 [125, 126, 127, 134, 135, 136, 137, 138] → M_39[134]? = some (.inr (7, [.int (nI 1), .int (nI l9), .int (nI b9), .ref 135])) → M_39[125]? = some (.inr (0, [.ref 16, .ref 135, .int (nI st9), .ref 126, .ref 127])) → M_39[126]? = some (.inl (1, 3528, .inr (.inl (al W9)))) → M_39[127]? = some (.inl (1, 3360, .inr (.inl (al R9)))) → M_39[135]? = some (.inr (9, [.int (nI c9), .ref 136, .ref 137, .ref 138])) → M_39[136]? = some (.inl (0, 20, .inl (ai sg9))) → M_39[137]? = some (.inl (0, 20, .inl (ai li9))) → M_39[138]? = some (.inl (0, 20, .inl (ai co9))) → (k ≤ c ∧ st9 ≤ 1 ∧ SafeM W9 ∧ SafeM R9 ∧ SafeT c9 sg9 li9 co9 ∧ (∀ q, li9 q < L) ∧ b9 < 4294967296 ∧ ((b9 = 0 ∧ RepJ c li (rOk al_ it tg pt bd n c sg li co) far k) ∨ (b9 ≠ 0 ∧ RepQ c li (rOk al_ it tg pt bd n c sg li co) l9 b9))) → c - k < n39 → Zw 6 zm_Repairs_search 39 [some (.ref 134), some (.ref 125), some (.ref 16), some (.ref 26), some (.int (nI far)), some (.int (nI k))] [] M_39 (fun r9 M1 => r9 = none ∧ ∃ l9 b9 st9 W9 R9 c9 sg9 li9 co9, M1[134]? = some (.inr (7, [.int (nI (1)), .int (nI (l9)), .int (nI (b9)), .ref 135])) ∧ Seg M1 125 (chtL 125 16 135 st9 W9 R9) ∧ Seg M1 135 (tokL 135 (c9, sg9, li9, co9)) ∧ st9 ≤ 1 ∧ SafeM W9 ∧ SafeM R9 ∧ SafeT c9 sg9 li9 co9 ∧ (∀ q, li9 q < L) ∧ RepQ c li (rOk al_ it tg pt bd n c sg li co) l9 b9 ∧ Sm Mq M1 [125, 126, 127, 134, 135, 136, 137, 138]) := by
            intro n39
            induction n39 with
            | zero => intro k l9 b9 st9 W9 R9 c9 sg9 li9 co9 M_39 _ _ _ _ _ _ _ _ _ _ h; exact absurd h (Nat.not_lt_zero _)
            | succ n39 ih39 =>
              intro k l9 b9 st9 W9 R9 c9 sg9 li9 co9 M_39 s_39 f39_0 f39_1 f39_2 f39_3 f39_4 f39_5 f39_6 f39_7 hi39 hm39
              obtain ⟨hk9, hst9, hW9, hR9, hT9, hl9, hb9, hd9⟩ := hi39
              refine zw_n 2 rfl ?_
              refine zw_get (v := .int (nI c)) rfl (Sm.at s_39 (by decide) (hT.get 0 rfl)) rfl ?_
              refine zw_igeN (a := k) (b := c) rfl rfl rfl (by omega) (by omega) (fun c45 => ?_) (fun c45 => ?_)
              · -- 45 to 128
                refine zw_inc rfl (x' := (nI (far + 1))) (ls' := [some (.ref 134), some (.ref 125), some (.ref 16), some (.ref 26), some (.int (nI (far + 1))), some (.int (nI k))]) rfl (na (a := far) (b := 1) rfl rfl) rfl ?_
                refine zw_n 1 rfl ?_
                refine zw_ls (ls' := [some (.ref 134), some (.ref 125), some (.ref 16), some (.ref 26), some (.int (nI (far + 1))), none]) ⟨Or.inr rfl, Or.inr rfl, Or.inr rfl, Or.inr rfl, Or.inr rfl, Or.inl rfl, trivial⟩ ?_
                exact ih22 (far + 1) l9 b9 st9 W9 R9 c9 sg9 li9 co9 M_39 s_39 f39_0 f39_1 f39_2 f39_3 f39_4 f39_5 f39_6 f39_7 (⟨by omega, by omega, hst9, hW9, hR9, hT9, hl9, hb9, by rcases hd9 with q9 | q9; (exact Or.inl ⟨q9.1, q9.2.next (by first | omega | exact absurd (by rw [q9.1]; rfl) c52)⟩); exact Or.inr q9⟩) (by omega)
              · -- 45 to 48
                refine zw_n 1 rfl ?_
                refine zw_get (v := .int (nI b9)) rfl f39_0 rfl ?_
                refine zw_ne0 rfl (fun c52 => ?_) (fun c52 => ?_)
                · -- 52 to 128
                  refine zw_inc rfl (x' := (nI (far + 1))) (ls' := [some (.ref 134), some (.ref 125), some (.ref 16), some (.ref 26), some (.int (nI (far + 1))), some (.int (nI k))]) rfl (na (a := far) (b := 1) rfl rfl) rfl ?_
                  refine zw_n 1 rfl ?_
                  refine zw_ls (ls' := [some (.ref 134), some (.ref 125), some (.ref 16), some (.ref 26), some (.int (nI (far + 1))), none]) ⟨Or.inr rfl, Or.inr rfl, Or.inr rfl, Or.inr rfl, Or.inr rfl, Or.inl rfl, trivial⟩ ?_
                  exact ih22 (far + 1) l9 b9 st9 W9 R9 c9 sg9 li9 co9 M_39 s_39 f39_0 f39_1 f39_2 f39_3 f39_4 f39_5 f39_6 f39_7 (⟨by omega, by omega, hst9, hW9, hR9, hT9, hl9, hb9, by rcases hd9 with q9 | q9; (exact Or.inl ⟨q9.1, q9.2.next (by first | omega | exact absurd (by rw [q9.1]; rfl) c52)⟩); exact Or.inr q9⟩) (by omega)
                · -- 52 to 55
                  have hb0 : b9 = 0 := nI_eq0 hb9 c52
                  have hJ : RepJ c li (rOk al_ it tg pt bd n c sg li co) far k := (hd9.resolve_right (fun q9 => q9.1 hb0)).2
                  refine zw_n 2 rfl ?_
                  refine zw_callV (as := [.int (nI k)]) (rest := []) rfl rfl rfl (Sm.at s_39 (by decide) (hT.get 0 rfl)) rfl rfl rfl (by decide) (c_beginsLine M_39 26 c sg li co (seg4 (Sm.at s_39 (by decide) (hT.get 0 rfl)) (Sm.at s_39 (by decide) (hT.get 1 rfl)) (Sm.at s_39 (by decide) (hT.get 2 rfl)) (Sm.at s_39 (by decide) (hT.get 3 rfl))) k (by omega) (fun q9 => by have := hS.2.2.1 q9; omega)) (fun rz6277 Mz6278 hz6279 => ?_)
                  rw [hz6279.1, hz6279.2]
                  show Zw 6 zm_Repairs_search 61 [some (.ref 134), some (.ref 125), some (.ref 16), some (.ref 26), some (.int (nI far)), some (.int (nI k))] [.int (nI (if k = 0 ∨ li (k - 1) ≠ li k then 1 else 0))] M_39 _
                  refine zw_eq0N (a := if k = 0 ∨ li (k - 1) ≠ li k then 1 else 0) rfl rfl (ite_b) (fun c61 => ?_) (fun c61 => ?_)
                  · -- 61 to 122
                    refine zw_inc rfl (x' := (nI (k + 1))) (ls' := [some (.ref 134), some (.ref 125), some (.ref 16), some (.ref 26), some (.int (nI far)), some (.int (nI (k + 1)))]) rfl (na (a := k) (b := 1) rfl rfl) rfl ?_
                    refine zw_n 1 rfl ?_
                    exact ih39 (k + 1) l9 b9 st9 W9 R9 c9 sg9 li9 co9 M_39 s_39 f39_0 f39_1 f39_2 f39_3 f39_4 f39_5 f39_6 f39_7 (⟨by omega, hst9, hW9, hR9, hT9, hl9, hb9, Or.inl ⟨hb0, hJ.skip (ite_eq0 c61)⟩⟩) (by omega)
                  · -- 61 to 64
                    refine zw_n 2 rfl ?_
                    refine zw_get (v := .ref 28) rfl (Sm.at s_39 (by decide) (hT.get 0 rfl)) rfl ?_
                    refine zw_n 1 rfl ?_
                    refine zw_iald (f := ai li) (j := k) rfl (Sm.at s_39 (by decide) (hT.get 2 rfl)) rfl (by decide) (by omega) ?_
                    refine zw_put rfl f39_0 (rfl) (Nat.le_of_ble_eq_true rfl) ?_
                    generalize ez6281 : List.set M_39 134 _ = Mz6280
                    refine zw_n 6 rfl ?_
                    refine zw_callV (as := [.ref 125, .ref 26, .int (-(nI far))]) (rest := [.ref 134]) rfl rfl rfl (zat_self ez6281 f39_0) rfl rfl rfl (by decide) (c_fitsMoved Mz6280 n em gn al_ it pt tg bd fr af fb (seg10 (zat_set ez6281 (by decide) (Sm.at s_39 (by decide) (hR.get 0 rfl))) (zat_set ez6281 (by decide) (Sm.at s_39 (by decide) (hR.get 1 rfl))) (zat_set ez6281 (by decide) (Sm.at s_39 (by decide) (hR.get 2 rfl))) (zat_set ez6281 (by decide) (Sm.at s_39 (by decide) (hR.get 3 rfl))) (zat_set ez6281 (by decide) (Sm.at s_39 (by decide) (hR.get 4 rfl))) (zat_set ez6281 (by decide) (Sm.at s_39 (by decide) (hR.get 5 rfl))) (zat_set ez6281 (by decide) (Sm.at s_39 (by decide) (hR.get 6 rfl))) (zat_set ez6281 (by decide) (Sm.at s_39 (by decide) (hR.get 7 rfl))) (zat_set ez6281 (by decide) (Sm.at s_39 (by decide) (hR.get 8 rfl))) (zat_set ez6281 (by decide) (Sm.at s_39 (by decide) (hR.get 9 rfl)))) hG c sg li co (seg4 (zat_set ez6281 (by decide) (Sm.at s_39 (by decide) (hT.get 0 rfl))) (zat_set ez6281 (by decide) (Sm.at s_39 (by decide) (hT.get 1 rfl))) (zat_set ez6281 (by decide) (Sm.at s_39 (by decide) (hT.get 2 rfl))) (zat_set ez6281 (by decide) (Sm.at s_39 (by decide) (hT.get 3 rfl)))) hS hn emp rk hA st9 W9 R9 (seg3 (zat_set ez6281 (by decide) f39_1) (zat_set ez6281 (by decide) f39_2) (zat_set ez6281 (by decide) f39_3)) hW9 hR9 c9 sg9 li9 co9 (seg4 (zat_set ez6281 (by decide) f39_4) (zat_set ez6281 (by decide) f39_5) (zat_set ez6281 (by decide) f39_6) (zat_set ez6281 (by decide) f39_7)) 1 (li k) b9 (zat_self ez6281 f39_0) (-(nI far)) (by rw [hng]; omega) (by have := hS.2.2.1 k; omega) (cnt_ln (by omega))) (fun rz6297 Mz6298 hz6299 => ?_)
                    obtain ⟨bz6282, stz6283, Wz6284, Rz6285, coz6286, hAz6287, hb1z6288, hbz6289, hCz6290, hVz6291, hstz6292, hWz6293, hRz6294, hcoz6295, hSz6296⟩ := hz6299
                    rw [hAz6287]
                    show Zw 6 zm_Repairs_search 85 [some (.ref 134), some (.ref 125), some (.ref 16), some (.ref 26), some (.int (nI far)), some (.int (nI k))] [.int (nI bz6282), .ref 134] Mz6298 _
                    refine zw_eq0N (a := bz6282) rfl rfl (by omega) (fun c85 => ?_) (fun c85 => ?_)
                    · -- 85 to 94
                      refine zw_n 1 rfl ?_
                      refine zw_put rfl (Sm.at hSz6296 (by decide) (zat_self ez6281 f39_0)) (rfl) (Nat.le_of_ble_eq_true rfl) ?_
                      generalize ez6301 : List.set Mz6298 134 _ = Mz6300
                      refine zw_n 1 rfl ?_
                      refine zw_get (v := .int 0) rfl (zat_self ez6301 (Sm.at hSz6296 (by decide) (zat_self ez6281 f39_0))) rfl ?_
                      refine zw_if rfl ?_
                      show Zw 6 zm_Repairs_search 105 [some (.ref 134), some (.ref 125), some (.ref 16), some (.ref 26), some (.int (nI far)), some (.int (nI k))] [] Mz6300 _
                      refine zw_n 4 rfl ?_
                      refine zw_callV (as := [.ref 125, .ref 26, .int (nI far)]) (rest := []) rfl rfl rfl (zat_self ez6301 (Sm.at hSz6296 (by decide) (zat_self ez6281 f39_0))) rfl rfl rfl (by decide) (c_fitsMoved Mz6300 n em gn al_ it pt tg bd fr af fb (seg10 (zat_set ez6301 (by decide) (Sm.at hSz6296 (by decide) (zat_set ez6281 (by decide) (Sm.at s_39 (by decide) (hR.get 0 rfl))))) (zat_set ez6301 (by decide) (Sm.at hSz6296 (by decide) (zat_set ez6281 (by decide) (Sm.at s_39 (by decide) (hR.get 1 rfl))))) (zat_set ez6301 (by decide) (Sm.at hSz6296 (by decide) (zat_set ez6281 (by decide) (Sm.at s_39 (by decide) (hR.get 2 rfl))))) (zat_set ez6301 (by decide) (Sm.at hSz6296 (by decide) (zat_set ez6281 (by decide) (Sm.at s_39 (by decide) (hR.get 3 rfl))))) (zat_set ez6301 (by decide) (Sm.at hSz6296 (by decide) (zat_set ez6281 (by decide) (Sm.at s_39 (by decide) (hR.get 4 rfl))))) (zat_set ez6301 (by decide) (Sm.at hSz6296 (by decide) (zat_set ez6281 (by decide) (Sm.at s_39 (by decide) (hR.get 5 rfl))))) (zat_set ez6301 (by decide) (Sm.at hSz6296 (by decide) (zat_set ez6281 (by decide) (Sm.at s_39 (by decide) (hR.get 6 rfl))))) (zat_set ez6301 (by decide) (Sm.at hSz6296 (by decide) (zat_set ez6281 (by decide) (Sm.at s_39 (by decide) (hR.get 7 rfl))))) (zat_set ez6301 (by decide) (Sm.at hSz6296 (by decide) (zat_set ez6281 (by decide) (Sm.at s_39 (by decide) (hR.get 8 rfl))))) (zat_set ez6301 (by decide) (Sm.at hSz6296 (by decide) (zat_set ez6281 (by decide) (Sm.at s_39 (by decide) (hR.get 9 rfl)))))) hG c sg li co (seg4 (zat_set ez6301 (by decide) (Sm.at hSz6296 (by decide) (zat_set ez6281 (by decide) (Sm.at s_39 (by decide) (hT.get 0 rfl))))) (zat_set ez6301 (by decide) (Sm.at hSz6296 (by decide) (zat_set ez6281 (by decide) (Sm.at s_39 (by decide) (hT.get 1 rfl))))) (zat_set ez6301 (by decide) (Sm.at hSz6296 (by decide) (zat_set ez6281 (by decide) (Sm.at s_39 (by decide) (hT.get 2 rfl))))) (zat_set ez6301 (by decide) (Sm.at hSz6296 (by decide) (zat_set ez6281 (by decide) (Sm.at s_39 (by decide) (hT.get 3 rfl)))))) hS hn emp rk hA stz6283 Wz6284 Rz6285 (seg3 (zat_set ez6301 (by decide) (hCz6290.get 0 rfl)) (zat_set ez6301 (by decide) (hCz6290.get 1 rfl)) (zat_set ez6301 (by decide) (hCz6290.get 2 rfl))) hWz6293 hRz6294 c sg li coz6286 (seg4 (zat_set ez6301 (by decide) (hVz6291.get 0 rfl)) (zat_set ez6301 (by decide) (hVz6291.get 1 rfl)) (zat_set ez6301 (by decide) (hVz6291.get 2 rfl)) (zat_set ez6301 (by decide) (hVz6291.get 3 rfl))) 1 (li k) 0 (zat_self ez6301 (Sm.at hSz6296 (by decide) (zat_self ez6281 f39_0))) (nI far) (by rw [nI_toInt (by omega)]; omega) (by have := hS.2.2.1 k; omega) (cnt_ln (by omega))) (fun rz6317 Mz6318 hz6319 => ?_)
                      obtain ⟨bz6302, stz6303, Wz6304, Rz6305, coz6306, hAz6307, hb1z6308, hbz6309, hCz6310, hVz6311, hstz6312, hWz6313, hRz6314, hcoz6315, hSz6316⟩ := hz6319
                      rw [hAz6307]
                      show Zw 6 zm_Repairs_search 113 [some (.ref 134), some (.ref 125), some (.ref 16), some (.ref 26), some (.int (nI far)), some (.int (nI k))] [.int (nI bz6302)] Mz6318 _
                      refine zw_eq0N (a := bz6302) rfl rfl (by omega) (fun c113 => ?_) (fun c113 => ?_)
                      · -- 113 to 122
                        refine zw_inc rfl (x' := (nI (k + 1))) (ls' := [some (.ref 134), some (.ref 125), some (.ref 16), some (.ref 26), some (.int (nI far)), some (.int (nI (k + 1)))]) rfl (na (a := k) (b := 1) rfl rfl) rfl ?_
                        refine zw_n 1 rfl ?_
                        exact ih39 (k + 1) (li k) 0 stz6303 Wz6304 Rz6305 c sg li coz6306 Mz6318 (Sm.tw (Sm.tset (Sm.tw (Sm.tset s_39 ez6281 (by decide)) hSz6296 (by decide)) ez6301 (by decide)) hSz6316 (by decide)) (Sm.at hSz6316 (by decide) (zat_self ez6301 (Sm.at hSz6296 (by decide) (zat_self ez6281 f39_0)))) (hCz6310.get 0 rfl) (hCz6310.get 1 rfl) (hCz6310.get 2 rfl) (hVz6311.get 0 rfl) (hVz6311.get 1 rfl) (hVz6311.get 2 rfl) (hVz6311.get 3 rfl) (⟨by omega, hstz6312, hWz6313, hRz6314, ⟨hS.1, hS.2.1, hS.2.2.1, hcoz6315⟩, hli, by omega, Or.inl ⟨rfl, hJ.two (fun q9 => by have h9 := hbz6289.mpr (by rw [hng]; exact q9); omega) (fun q9 => by have h9 := hbz6309.mpr (by rw [nI_toInt (by omega)]; exact q9); omega)⟩⟩) (by omega)
                      · -- 113 to 116
                        refine zw_n 2 rfl ?_
                        refine zw_put rfl (Sm.at hSz6316 (by decide) (zat_self ez6301 (Sm.at hSz6296 (by decide) (zat_self ez6281 f39_0)))) (rfl) (Nat.le_of_ble_eq_true rfl) ?_
                        generalize ez6321 : List.set Mz6318 134 _ = Mz6320
                        refine zw_inc rfl (x' := (nI (k + 1))) (ls' := [some (.ref 134), some (.ref 125), some (.ref 16), some (.ref 26), some (.int (nI far)), some (.int (nI (k + 1)))]) rfl (na (a := k) (b := 1) rfl rfl) rfl ?_
                        refine zw_n 1 rfl ?_
                        exact ih39 (k + 1) (li k) far stz6303 Wz6304 Rz6305 c sg li coz6306 Mz6320 (Sm.tset (Sm.tw (Sm.tset (Sm.tw (Sm.tset s_39 ez6281 (by decide)) hSz6296 (by decide)) ez6301 (by decide)) hSz6316 (by decide)) ez6321 (by decide)) (zat_self ez6321 (Sm.at hSz6316 (by decide) (zat_self ez6301 (Sm.at hSz6296 (by decide) (zat_self ez6281 f39_0))))) (zat_set ez6321 (by decide) (hCz6310.get 0 rfl)) (zat_set ez6321 (by decide) (hCz6310.get 1 rfl)) (zat_set ez6321 (by decide) (hCz6310.get 2 rfl)) (zat_set ez6321 (by decide) (hVz6311.get 0 rfl)) (zat_set ez6321 (by decide) (hVz6311.get 1 rfl)) (zat_set ez6321 (by decide) (hVz6311.get 2 rfl)) (zat_set ez6321 (by decide) (hVz6311.get 3 rfl)) (⟨by omega, hstz6312, hWz6313, hRz6314, ⟨hS.1, hS.2.1, hS.2.2.1, hcoz6315⟩, hli, by omega, Or.inr ⟨by omega, hJ.hit1 (by omega) (by omega) (by omega) (ite_ne c61) (fun q9 => by have h9 := hbz6289.mpr (by rw [hng]; exact q9); omega) (by have h9 := hbz6309.mp (by omega); rw [nI_toInt (by omega)] at h9; exact h9)⟩⟩) (by omega)
                    · -- 85 to 88
                      refine zw_n 2 rfl ?_
                      refine zw_top (x' := (nI (4294967296 - far))) (hnq) ?_
                      refine zw_n 1 rfl ?_
                      refine zw_put rfl (Sm.at hSz6296 (by decide) (zat_self ez6281 f39_0)) (rfl) (Nat.le_of_ble_eq_true rfl) ?_
                      generalize ez6323 : List.set Mz6298 134 _ = Mz6322
                      refine zw_n 1 rfl ?_
                      refine zw_get (v := .int (nI (4294967296 - far))) rfl (zat_self ez6323 (Sm.at hSz6296 (by decide) (zat_self ez6281 f39_0))) rfl ?_
                      refine zw_ne0 rfl (fun c102 => ?_) (fun c102 => ?_)
                      · -- 102 to 122
                        refine zw_inc rfl (x' := (nI (k + 1))) (ls' := [some (.ref 134), some (.ref 125), some (.ref 16), some (.ref 26), some (.int (nI far)), some (.int (nI (k + 1)))]) rfl (na (a := k) (b := 1) rfl rfl) rfl ?_
                        refine zw_n 1 rfl ?_
                        exact ih39 (k + 1) (li k) (4294967296 - far) stz6283 Wz6284 Rz6285 c sg li coz6286 Mz6322 (Sm.tset (Sm.tw (Sm.tset s_39 ez6281 (by decide)) hSz6296 (by decide)) ez6323 (by decide)) (zat_self ez6323 (Sm.at hSz6296 (by decide) (zat_self ez6281 f39_0))) (zat_set ez6323 (by decide) (hCz6290.get 0 rfl)) (zat_set ez6323 (by decide) (hCz6290.get 1 rfl)) (zat_set ez6323 (by decide) (hCz6290.get 2 rfl)) (zat_set ez6323 (by decide) (hVz6291.get 0 rfl)) (zat_set ez6323 (by decide) (hVz6291.get 1 rfl)) (zat_set ez6323 (by decide) (hVz6291.get 2 rfl)) (zat_set ez6323 (by decide) (hVz6291.get 3 rfl)) (⟨by omega, hstz6292, hWz6293, hRz6294, ⟨hS.1, hS.2.1, hS.2.2.1, hcoz6295⟩, hli, by omega, Or.inr ⟨by omega, hJ.hit0 (by omega) (by omega) (by omega) (ite_ne c61) (by have h9 := hbz6289.mp (by omega); rw [hng] at h9; exact h9)⟩⟩) (by omega)
                      · -- 102 to 105
                        exfalso
                        exact hnz c102
          exact lp39 _ 0 l8 b8 st8 W8 R8 c8 sg8 li8 co8 M_22 s_22 f22_0 f22_1 f22_2 f22_3 f22_4 f22_5 f22_6 f22_7 (⟨Nat.zero_le _, hst8, hW8, hR8, hT8, hl8, hb8, hd8⟩) (Nat.lt_succ_self _)
  exact lp22 _ 1 l 0 0 W R c1 sg1 li1 co1 Mz6255 sz6276 mz6257 (hBz6252.get 0 rfl) (hBz6252.get 1 rfl) (hBz6252.get 2 rfl) mz6272 mz6273 mz6274 mz6275 (⟨Nat.le_refl _, by omega, Nat.zero_le _, hW, hQ, hS1, hl1, by decide, Or.inl ⟨rfl, RepJ.start⟩⟩) (Nat.lt_succ_self _)
