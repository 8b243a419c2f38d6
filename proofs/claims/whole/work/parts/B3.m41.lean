set_option maxHeartbeats 4000000 in
set_option maxRecDepth 100000 in
theorem m_reads (Mq : zM) (o : Nat → Nat) (f : Nat → Nat → Nat) (hM : MM Mq o f) (tx : Nat → Nat) (hX : ∀ q, q < o 7 → f 144 q = byv (tx q)) (htx : ∀ q, tx q < 256) (htl : o 7 ≤ 240) (hb0 : ∀ q, f 145 q < 2147483648) (he0 : ∀ q, f 148 q ≤ 1) : Zm 5 zm_MO_reads [.ref 139] Mq (fun r9 M1 => ∃ v P f9, GrF tx (o 7) v ∧ Sm Mq M1 [139, 145, 146, 147, 148, 149] ∧ (∀ a, a ∉ [139, 145, 146, 147, 148, 149] → f9 a = f a) ∧ (∀ q, f9 145 q < 2147483648) ∧ (∀ q, f9 148 q ≤ 1) ∧ (v ≠ NO → r9 = some (.int 0) ∧ MM M1 (up (up (up (up o 7 0) 8 P) 9 v) 10 0) f9) ∧ (v = NO → r9 = some (.int 1) ∧ MM M1 (up (up (up o 7 0) 8 P) 10 1) f9 ∧ gF tx (o 7) = NO ∧ DrC tx (o 7) f9)) := by
  show Zw 5 zm_MO_reads 0 [some (.ref 139), none] [] Mq _
  refine zw_n 2 rfl ?_
  refine zw_put rfl hM.1 (rfl) (Nat.le_of_ble_eq_true rfl) ?_
  generalize ez3547 : List.set Mq 139 _ = Mz3546
  refine zw_n 2 rfl ?_
  refine zw_put rfl (zat_self ez3547 hM.1) (rfl) (Nat.le_of_ble_eq_true rfl) ?_
  generalize ez3549 : List.set Mz3546 139 _ = Mz3548
  refine zw_n 1 rfl ?_
  refine zw_get (v := .ref 145) rfl (zat_self ez3549 (zat_self ez3547 hM.1)) rfl ?_
  refine zw_n 2 rfl ?_
  refine zw_iastN (g := (f 145)) (j := 0) (v := 0) rfl (zat_set ez3549 (by decide) (zat_set ez3547 (by decide) (hM.2 145 (by decide) (by decide)))) rfl (by decide) (by omega) (rfl) ?_
  generalize ez3551 : List.set Mz3548 145 _ = Mz3550
  refine zw_n 1 rfl ?_
  refine zw_callV (as := []) (rest := []) rfl rfl rfl (zat_set ez3551 (by decide) (zat_self ez3549 (zat_self ez3547 hM.1))) rfl rfl rfl (by decide) (m_readRule Mz3550 (up (up o 8 0) 10 1) (fset f 145 (up (f 145) 0 0)) (MM.of (o' := up (up o 8 0) 10 1) (f' := fset f 145 (up (f 145) 0 0)) hM (Sm.tset (Sm.tset (Sm.tset Sm.rf ez3547 (by decide)) ez3549 (by decide)) ez3551 (by decide)) (zat_set ez3551 (by decide) (zat_self ez3549 (zat_self ez3547 hM.1))) (c1_skip (c1_cons (zat_self ez3551 (zat_set ez3549 (by decide) (zat_set ez3547 (by decide) (hM.2 145 (by decide) (by decide))))) (c1_cons (zat_set ez3551 (by decide) (zat_set ez3549 (by decide) (zat_set ez3547 (by decide) (hM.2 146 (by decide) (by decide))))) (c1_cons (zat_set ez3551 (by decide) (zat_set ez3549 (by decide) (zat_set ez3547 (by decide) (hM.2 147 (by decide) (by decide))))) (c1_cons (zat_set ez3551 (by decide) (zat_set ez3549 (by decide) (zat_set ez3547 (by decide) (hM.2 148 (by decide) (by decide))))) (c1_cons (zat_set ez3551 (by decide) (zat_set ez3549 (by decide) (zat_set ez3547 (by decide) (hM.2 149 (by decide) (by decide))))) c1_nil)))))) (fs_k (fs_c (fs_k (fs_k (fs_k (fs_k fs_n))))))) tx hX htx htl (show 0 ≤ o 7 by omega) rfl 0 (by omega) (show up (f 145) 0 0 0 = 0 from up_s ..) rfl (fun q hq => absurd hq (Nat.not_lt_zero _)) (up_lt hb0 (by decide))) (fun rz3578 Mz3579 hz3580 => ?_)
  rcases hz3580.2.2 with hz3580a | hz3580b
  · skip
    obtain ⟨hAz3569, hSz3570, -⟩ := hz3580
    obtain ⟨Dz3552, Nz3553, Qz3554, hMMz3555, hsoz3556, hi7z3557, hcaz3558, hzz3559, hkz3560, hMRz3561, hbz3562, hfz3563, h0z3564, h1z3565, hqz3566, hNz3567, hcfz3568⟩ := hz3580a
    rw [hAz3569]
    show Zw 5 zm_MO_reads 21 [some (.ref 139), none] [] Mz3579 _
    have mz3581 : Mz3579[144]? = some (.inl (2, 240, .inl (ai (f 144)))) := Sm.at hSz3570 (by decide) (zat_set ez3551 (by decide) (zat_set ez3549 (by decide) (zat_set ez3547 (by decide) (hM.2 144 (by decide) (by decide)))))
    have mz3582 : Mz3579[148]? = some (.inl (3, 8, .inl (ai (f 148)))) := Sm.at hSz3570 (by decide) (zat_set ez3551 (by decide) (zat_set ez3549 (by decide) (zat_set ez3547 (by decide) (hM.2 148 (by decide) (by decide)))))
    have mz3583 : Mz3579[149]? = some (.inl (0, 8, .inl (ai (f 149)))) := Sm.at hSz3570 (by decide) (zat_set ez3551 (by decide) (zat_set ez3549 (by decide) (zat_set ez3547 (by decide) (hM.2 149 (by decide) (by decide)))))
    have sz3584 : Sm Mq Mz3579 [139, 145, 146, 147, 148, 149] := Sm.tw (Sm.tset (Sm.tset (Sm.tset Sm.rf ez3547 (by decide)) ez3549 (by decide)) ez3551 (by decide)) hSz3570 (by decide)
    have lp21 : ∀ (n21 : Nat) (i : Nat) (D1 : Nat → Nat) (N1 : Nat → Nat) (Q1 : Nat → Nat) (M_21 : zM), Sm Mq M_21 [139, 145, 146, 147, 148, 149] → M_21[139]? = some (.inr (12, [.int (nI (o 0)), .ref 140, .ref 141, .ref 142, .ref 143, .int (nI (o 5)), .ref 144, .int (nI (o 7)), .int (nI (bE tx (o 7) (cA tx (o 7) i))), .int (nI (o 9)), .int 1, .ref 145, .ref 146, .ref 147, .ref 148, .ref 149, .ref 150, .ref 151, .ref 152, .ref 153, .ref 154, .ref 155, .ref 156, .ref 157, .ref 158, .ref 159, .ref 160, .ref 161, .ref 162, .ref 163, .ref 164, .int (nI (o 31)), .ref 165, .int (nI (o 33)), .ref 166, .ref 167, .ref 168, .ref 169, .int (nI (o 38)), .ref 170, .ref 171, .ref 172, .ref 173, .ref 174, .ref 175, .int (nI (o 45)), .int (nI (o 46)), .int (nI (o 47)), .long (lN (o 48)), .ref 176])) → M_21[145]? = some (.inl (0, 529, .inl (ai D1))) → M_21[146]? = some (.inl (0, 8, .inl (ai N1))) → M_21[147]? = some (.inl (0, 160, .inl (ai Q1))) → M_21[148]? = some (.inl (3, 8, .inl (ai (f 148)))) → M_21[149]? = some (.inl (0, 8, .inl (ai (f 149)))) → (i < 8 ∧ (∀ j, j < i → cZ tx (o 7) j = false) ∧ (cF tx (o 7) i = NO ∨ cF tx (o 7) i = bE tx (o 7) (cA tx (o 7) i)) ∧ cA tx (o 7) i ≤ o 7 ∧ (∀ j, j < bK tx (o 7) (cA tx (o 7) i) → bZ tx (o 7) (cA tx (o 7) i) j = false) ∧ bK tx (o 7) (cA tx (o 7) i) < 4 ∧ cF tx (o 7) i = bF tx (o 7) (cA tx (o 7) i) ∧ MRd tx (o 7) (i + 1) D1 N1 Q1 ∧ (∀ q, D1 q < 2147483648) ∧ D1 0 = i + 1) → 8 - i < n21 → Zw 5 zm_MO_reads 21 [some (.ref 139), none] [] M_21 (fun r9 M1 => ∃ v P f9, GrF tx (o 7) v ∧ Sm Mq M1 [139, 145, 146, 147, 148, 149] ∧ (∀ a, a ∉ [139, 145, 146, 147, 148, 149] → f9 a = f a) ∧ (∀ q, f9 145 q < 2147483648) ∧ (∀ q, f9 148 q ≤ 1) ∧ (v ≠ NO → r9 = some (.int 0) ∧ MM M1 (up (up (up (up o 7 0) 8 P) 9 v) 10 0) f9) ∧ (v = NO → r9 = some (.int 1) ∧ MM M1 (up (up (up o 7 0) 8 P) 10 1) f9 ∧ gF tx (o 7) = NO ∧ DrC tx (o 7) f9)) := by
      intro n21
      induction n21 with
      | zero => intro i D1 N1 Q1 M_21 _ _ _ _ _ _ _ _ h; exact absurd h (Nat.not_lt_zero _)
      | succ n21 ih21 =>
        intro i D1 N1 Q1 M_21 s_21 f21_0 f21_1 f21_2 f21_3 f21_4 f21_5 hi21 hm21
        obtain ⟨ii, iz, iso, ica, ibz, ibk, icf, iMR, iBd, iD0⟩ := hi21
        have hrs := rd_stop htl ica icf ibz ibk
        have hbe := hrs.1
        refine zw_n 2 rfl ?_
        refine zw_callV (as := [.int 59]) (rest := []) rfl rfl rfl f21_0 rfl rfl rfl (by decide) (m_takes M_21 (up (up o 8 (bE tx (o 7) (cA tx (o 7) i))) 10 1) (fset (fset (fset f 147 Q1) 146 N1) 145 D1) (MM.of (o' := up (up o 8 (bE tx (o 7) (cA tx (o 7) i))) 10 1) (f' := fset (fset (fset f 147 Q1) 146 N1) 145 D1) hM s_21 f21_0 (c1_skip (c1_cons f21_1 (c1_cons f21_2 (c1_cons f21_3 (c1_cons f21_4 (c1_cons f21_5 c1_nil)))))) (fs_k (fs_c (fs_c (fs_c (fs_k (fs_k fs_n))))))) tx hX htx htl (show bE tx (o 7) (cA tx (o 7) i) ≤ o 7 by omega) rfl 59 (by decide) (by decide)) (fun rz3588 Mz3589 hz3590 => ?_)
        rcases Classical.em (hr tx (o 7) (sk tx (o 7) (bE tx (o 7) (cA tx (o 7) i))) = 59) with hz3590a | hz3590b
        · skip
          obtain ⟨hAz3585, hMMz3586, hSz3587⟩ := hz3590.1 hz3590a
          rw [hAz3585]
          have htk9 : sk tx (o 7) (bE tx (o 7) (cA tx (o 7) i)) < o 7 := hr_in (by rw [hz3590a]; decide)
          show Zw 5 zm_MO_reads 27 [some (.ref 139), none] [.int 1] Mz3589 _
          refine zw_if rfl ?_
          show Zw 5 zm_MO_reads 30 [some (.ref 139), none] [] Mz3589 _
          have h59 : hr tx (o 7) (bE tx (o 7) (cA tx (o 7) i)) = 59 := by have h8 := hz3590a; rw [bE_sk] at h8; exact h8
          have hBC : sk tx (o 7) (bE tx (o 7) (cA tx (o 7) i)) + 1 = cP tx (o 7) (i + 1) := by rw [bE_sk]; rfl
          have mz3591 : Mz3589[139]? = some (.inr (12, [.int (nI (o 0)), .ref 140, .ref 141, .ref 142, .ref 143, .int (nI (o 5)), .ref 144, .int (nI (o 7)), .int (nI ((sk tx (o 7) (bE tx (o 7) (cA tx (o 7) i))) + 1)), .int (nI (o 9)), .int 1, .ref 145, .ref 146, .ref 147, .ref 148, .ref 149, .ref 150, .ref 151, .ref 152, .ref 153, .ref 154, .ref 155, .ref 156, .ref 157, .ref 158, .ref 159, .ref 160, .ref 161, .ref 162, .ref 163, .ref 164, .int (nI (o 31)), .ref 165, .int (nI (o 33)), .ref 166, .ref 167, .ref 168, .ref 169, .int (nI (o 38)), .ref 170, .ref 171, .ref 172, .ref 173, .ref 174, .ref 175, .int (nI (o 45)), .int (nI (o 46)), .int (nI (o 47)), .long (lN (o 48)), .ref 176])) := hMMz3586.1
          rw [hBC] at mz3591
          have hz8 := rt_step iz (cZ_no (hrs.2.1 (Or.inr h59)) (by rw [h59]; decide))
          have hcp8 : cP tx (o 7) (i + 1) ≤ o 7 := by rw [← hBC]; omega
          refine zw_n 1 rfl ?_
          refine zw_callV (as := []) (rest := []) rfl rfl rfl mz3591 rfl rfl rfl (by decide) (m_readRule Mz3589 (up (up o 8 (cP tx (o 7) (i + 1))) 10 1) (fset (fset (fset f 147 Q1) 146 N1) 145 D1) (MM.of (o' := up (up o 8 (cP tx (o 7) (i + 1))) 10 1) (f' := fset (fset (fset f 147 Q1) 146 N1) 145 D1) hM (Sm.tw s_21 hSz3587 (by decide)) mz3591 (c1_skip (c1_cons (Sm.at hSz3587 (by decide) f21_1) (c1_cons (Sm.at hSz3587 (by decide) f21_2) (c1_cons (Sm.at hSz3587 (by decide) f21_3) (c1_cons (Sm.at hSz3587 (by decide) f21_4) (c1_cons (Sm.at hSz3587 (by decide) f21_5) c1_nil)))))) (fs_k (fs_c (fs_c (fs_c (fs_k (fs_k fs_n))))))) tx hX htx htl (show cP tx (o 7) (i + 1) ≤ o 7 by omega) rfl (i + 1) (by omega) iD0 rfl (fun q hq => (iMR q hq).1) iBd) (fun rz3618 Mz3619 hz3620 => ?_)
          rcases hz3620.2.2 with hz3620a | hz3620b
          · skip
            obtain ⟨hAz3609, hSz3610, -⟩ := hz3620
            obtain ⟨Dz3592, Nz3593, Qz3594, hMMz3595, hsoz3596, hi7z3597, hcaz3598, hzz3599, hkz3600, hMRz3601, hbz3602, hfz3603, h0z3604, h1z3605, hqz3606, hNz3607, hcfz3608⟩ := hz3620a
            rw [hAz3609]
            show Zw 5 zm_MO_reads 34 [some (.ref 139), none] [] Mz3619 _
            refine zw_n 1 rfl ?_
            exact ih21 (i + 1) Dz3592 Nz3593 Qz3594 Mz3619 (Sm.tw (Sm.tw s_21 hSz3587 (by decide)) hSz3610 (by decide)) hMMz3595.1 (hMMz3595.2 145 (by decide) (by decide)) (hMMz3595.2 146 (by decide) (by decide)) (hMMz3595.2 147 (by decide) (by decide)) (Sm.at hSz3610 (by decide) (Sm.at hSz3587 (by decide) f21_4)) (Sm.at hSz3610 (by decide) (Sm.at hSz3587 (by decide) f21_5)) (⟨hi7z3597, hz8, hsoz3596, hcaz3598, hzz3599, hkz3600, hcfz3608, iMR.step hi7z3597 hMRz3601 hfz3603 h1z3605 hqz3606 hNz3607 hkz3600, hbz3602, h0z3604⟩) (by omega)
          · skip
            obtain ⟨hAz3609, hSz3610, -⟩ := hz3620
            obtain ⟨hnez3611, Pz3612, fz3613, hMz3614, hpz3615, hbz3616, hdz3617⟩ := hz3620b
            rw [hAz3609]
            have hp8 : Pz3612 ≤ o 7 := hpz3615
            show Zw 5 zm_MO_reads 34 [some (.ref 139), none] [] Mz3619 _
            refine zw_n 3 rfl ?_
            refine zw_callV (as := [.int 59]) (rest := []) rfl rfl rfl hMz3614.1 rfl rfl rfl (by decide) (m_takesB Mz3619 (up (up (up o 8 Pz3612) 9 (cF tx (o 7) (i + 1))) 10 0) (fset (fset (fset f 147 (fz3613 147)) 146 (fz3613 146)) 145 (fz3613 145)) (MM.of (o' := up (up (up o 8 Pz3612) 9 (cF tx (o 7) (i + 1))) 10 0) (f' := fset (fset (fset f 147 (fz3613 147)) 146 (fz3613 146)) 145 (fz3613 145)) hM (Sm.tw (Sm.tw s_21 hSz3587 (by decide)) hSz3610 (by decide)) hMz3614.1 (c1_skip (c1_cons (hMz3614.2 145 (by decide) (by decide)) (c1_cons (hMz3614.2 146 (by decide) (by decide)) (c1_cons (hMz3614.2 147 (by decide) (by decide)) (c1_cons (Sm.at hSz3610 (by decide) (Sm.at hSz3587 (by decide) f21_4)) (c1_cons (Sm.at hSz3610 (by decide) (Sm.at hSz3587 (by decide) f21_5)) c1_nil)))))) (fs_k (fs_c (fs_c (fs_c (fs_k (fs_k fs_n))))))) rfl 59) (fun rz3624 Mz3625 hz3626 => ?_)
            obtain ⟨hAz3621, hMMz3622, hSz3623⟩ := hz3626
            rw [hAz3621]
            show Zw 5 zm_MO_reads 27 [some (.ref 139), none] [.int 0] Mz3625 _
            refine zw_if rfl ?_
            show Zw 5 zm_MO_reads 37 [some (.ref 139), none] [] Mz3625 _
            refine zw_n 1 rfl ?_
            refine zw_get (v := .int (nI 0)) rfl hMMz3622.1 rfl ?_
            refine zw_eq0N (a := 0) rfl rfl (by omega) (fun c41 => ?_) (fun c41 => ?_)
            · -- 41 to 66
              have hg9 := gK_at (tx := tx) (tl := o 7) (i := (i + 1)) hz8 (by omega) (cZ_f hnez3611)
              refine zw_n 2 rfl ?_
              refine zw_put rfl hMMz3622.1 (rfl) (Nat.le_of_ble_eq_true rfl) ?_
              generalize ez3628 : List.set Mz3625 139 _ = Mz3627
              refine zw_n 1 rfl ?_
              refine zw_get (v := .int (nI 0)) rfl (zat_self ez3628 hMMz3622.1) rfl ?_
              refine zw_ne0N (a := 0) rfl rfl (by omega) (fun c75 => ?_) (fun c75 => ?_)
              · -- 75 to 80
                exfalso
                exact c75 rfl
              · -- 75 to 78
                refine zw_n 1 rfl ?_
                refine zw_zret rfl rfl (Or.inl rfl) ?_
                exact ⟨cF tx (o 7) (i + 1), Pz3612 + 0, fset (fset (fset f 147 (fz3613 147)) 146 (fz3613 146)) 145 (fz3613 145), Or.inl ⟨by rw [hg9.2]; exact hnez3611, hg9.2.symm⟩, Sm.tset (Sm.tw (Sm.tw (Sm.tw s_21 hSz3587 (by decide)) hSz3610 (by decide)) hSz3623 (by decide)) ez3628 (by decide), fs_k (fs_c (fs_c (fs_c (fs_k (fs_k fs_n))))), hbz3616, he0, fun _ => ⟨rfl, (MM.of (o' := up (up (up (up o 7 0) 8 (Pz3612 + 0)) 9 (cF tx (o 7) (i + 1))) 10 0) (f' := fset (fset (fset f 147 (fz3613 147)) 146 (fz3613 146)) 145 (fz3613 145)) hM (Sm.tset (Sm.tw (Sm.tw (Sm.tw s_21 hSz3587 (by decide)) hSz3610 (by decide)) hSz3623 (by decide)) ez3628 (by decide)) (zat_self ez3628 hMMz3622.1) (c1_skip (c1_cons (zat_set ez3628 (by decide) (Sm.at hSz3623 (by decide) (hMz3614.2 145 (by decide) (by decide)))) (c1_cons (zat_set ez3628 (by decide) (Sm.at hSz3623 (by decide) (hMz3614.2 146 (by decide) (by decide)))) (c1_cons (zat_set ez3628 (by decide) (Sm.at hSz3623 (by decide) (hMz3614.2 147 (by decide) (by decide)))) (c1_cons (zat_set ez3628 (by decide) (Sm.at hSz3623 (by decide) (Sm.at hSz3610 (by decide) (Sm.at hSz3587 (by decide) f21_4)))) (c1_cons (zat_set ez3628 (by decide) (Sm.at hSz3623 (by decide) (Sm.at hSz3610 (by decide) (Sm.at hSz3587 (by decide) f21_5)))) c1_nil)))))) (fs_k (fs_c (fs_c (fs_c (fs_k (fs_k fs_n)))))))⟩, fun q9 => absurd q9 hnez3611⟩
            · -- 41 to 44
              exfalso
              exact c41 rfl
        · skip
          obtain ⟨hAz3585, hMMz3586, hSz3587⟩ := hz3590.2 hz3590b
          rw [hAz3585]
          have hleThAz3585 := @sk_le tx (o 7) (bE tx (o 7) (cA tx (o 7) i)) (by omega)
          show Zw 5 zm_MO_reads 27 [some (.ref 139), none] [.int 0] Mz3589 _
          refine zw_if rfl ?_
          show Zw 5 zm_MO_reads 37 [some (.ref 139), none] [] Mz3589 _
          refine zw_n 1 rfl ?_
          refine zw_get (v := .int 1) rfl hMMz3586.1 rfl ?_
          refine zw_if rfl ?_
          show Zw 5 zm_MO_reads 44 [some (.ref 139), none] [] Mz3589 _
          refine zw_n 1 rfl ?_
          refine zw_callV (as := []) (rest := []) rfl rfl rfl hMMz3586.1 rfl rfl rfl (by decide) (m_next Mz3589 (up (up o 8 ((sk tx (o 7) (bE tx (o 7) (cA tx (o 7) i))) + 0)) 10 1) (fset (fset (fset f 147 Q1) 146 N1) 145 D1) (MM.of (o' := up (up o 8 ((sk tx (o 7) (bE tx (o 7) (cA tx (o 7) i))) + 0)) 10 1) (f' := fset (fset (fset f 147 Q1) 146 N1) 145 D1) hM (Sm.tw s_21 hSz3587 (by decide)) hMMz3586.1 (c1_skip (c1_cons (Sm.at hSz3587 (by decide) f21_1) (c1_cons (Sm.at hSz3587 (by decide) f21_2) (c1_cons (Sm.at hSz3587 (by decide) f21_3) (c1_cons (Sm.at hSz3587 (by decide) f21_4) (c1_cons (Sm.at hSz3587 (by decide) f21_5) c1_nil)))))) (fs_k (fs_c (fs_c (fs_c (fs_k (fs_k fs_n))))))) tx hX htx htl (show (sk tx (o 7) (bE tx (o 7) (cA tx (o 7) i))) + 0 ≤ o 7 by omega)) (fun rz3632 Mz3633 hz3634 => ?_)
          obtain ⟨hAz3629, hMMz3630, hSz3631⟩ := hz3634
          rw [hAz3629]
          have hgehAz3629 := sk_ge tx (o 7) ((sk tx (o 7) (bE tx (o 7) (cA tx (o 7) i))) + 0)
          have hlehAz3629 := @sk_le tx (o 7) ((sk tx (o 7) (bE tx (o 7) (cA tx (o 7) i))) + 0) (by omega)
          show Zw 5 zm_MO_reads 48 [some (.ref 139), none] [.int (nI (mv tx (o 7) (sk tx (o 7) ((sk tx (o 7) (bE tx (o 7) (cA tx (o 7) i))) + 0))))] Mz3633 _
          have hQ : sk tx (o 7) (sk tx (o 7) (bE tx (o 7) (cA tx (o 7) i)) + 0) = bE tx (o 7) (cA tx (o 7) i) := by rw [Nat.add_zero, sk_sk, bE_sk]
          have hn59 : ¬ hr tx (o 7) (bE tx (o 7) (cA tx (o 7) i)) = 59 := by have h8 := hz3590b; rw [bE_sk] at h8; exact h8
          have mz3635 : Mz3633[139]? = some (.inr (12, [.int (nI (o 0)), .ref 140, .ref 141, .ref 142, .ref 143, .int (nI (o 5)), .ref 144, .int (nI (o 7)), .int (nI (sk tx (o 7) ((sk tx (o 7) (bE tx (o 7) (cA tx (o 7) i))) + 0))), .int (nI (o 9)), .int 1, .ref 145, .ref 146, .ref 147, .ref 148, .ref 149, .ref 150, .ref 151, .ref 152, .ref 153, .ref 154, .ref 155, .ref 156, .ref 157, .ref 158, .ref 159, .ref 160, .ref 161, .ref 162, .ref 163, .ref 164, .int (nI (o 31)), .ref 165, .int (nI (o 33)), .ref 166, .ref 167, .ref 168, .ref 169, .int (nI (o 38)), .ref 170, .ref 171, .ref 172, .ref 173, .ref 174, .ref 175, .int (nI (o 45)), .int (nI (o 46)), .int (nI (o 47)), .long (lN (o 48)), .ref 176])) := hMMz3630.1
          rw [hQ] at mz3635
          rw [hQ]
          refine zw_ne0 rfl (fun c48 => ?_) (fun c48 => ?_)
          · -- 48 to 62
            have hin : bE tx (o 7) (cA tx (o 7) i) < o 7 := by first | omega | exact Classical.byContradiction fun q9 => c48 (by rw [mv_0 q9]; rfl)
            have hcfn : cF tx (o 7) i ≠ NO := fun q9 => hrs.2.2 (fun q8 => q8.elim (hr_ne htx hin) hn59) q9
            have hg9 := gK_at iz (by omega) (cZ_f hcfn)
            refine zw_n 1 rfl ?_
            refine zw_callV (as := []) (rest := []) rfl rfl rfl mz3635 rfl rfl rfl (by decide) (m_wrong Mz3633 (up (up o 8 (bE tx (o 7) (cA tx (o 7) i))) 10 1) (fset (fset (fset f 147 Q1) 146 N1) 145 D1) (MM.of (o' := up (up o 8 (bE tx (o 7) (cA tx (o 7) i))) 10 1) (f' := fset (fset (fset f 147 Q1) 146 N1) 145 D1) hM (Sm.tw (Sm.tw s_21 hSz3587 (by decide)) hSz3631 (by decide)) mz3635 (c1_skip (c1_cons (Sm.at hSz3631 (by decide) (Sm.at hSz3587 (by decide) f21_1)) (c1_cons (Sm.at hSz3631 (by decide) (Sm.at hSz3587 (by decide) f21_2)) (c1_cons (Sm.at hSz3631 (by decide) (Sm.at hSz3587 (by decide) f21_3)) (c1_cons (Sm.at hSz3631 (by decide) (Sm.at hSz3587 (by decide) f21_4)) (c1_cons (Sm.at hSz3631 (by decide) (Sm.at hSz3587 (by decide) f21_5)) c1_nil)))))) (fs_k (fs_c (fs_c (fs_c (fs_k (fs_k fs_n))))))) rfl) (fun rz3639 Mz3640 hz3641 => ?_)
            obtain ⟨hAz3636, hMMz3637, hSz3638⟩ := hz3641
            rw [hAz3636]
            show Zw 5 zm_MO_reads 66 [some (.ref 139), none] [] Mz3640 _
            refine zw_n 2 rfl ?_
            refine zw_put rfl hMMz3637.1 (rfl) (Nat.le_of_ble_eq_true rfl) ?_
            generalize ez3643 : List.set Mz3640 139 _ = Mz3642
            refine zw_n 1 rfl ?_
            refine zw_get (v := .int (nI 0)) rfl (zat_self ez3643 hMMz3637.1) rfl ?_
            refine zw_ne0N (a := 0) rfl rfl (by omega) (fun c75 => ?_) (fun c75 => ?_)
            · -- 75 to 80
              exfalso
              exact c75 rfl
            · -- 75 to 78
              refine zw_n 1 rfl ?_
              refine zw_zret rfl rfl (Or.inl rfl) ?_
              have hv9 := iso.resolve_left hcfn
              exact ⟨cF tx (o 7) i, bE tx (o 7) (cA tx (o 7) i), fset (fset (fset f 147 Q1) 146 N1) 145 D1, Or.inl ⟨by rw [hg9.2]; exact hcfn, hg9.2.symm⟩, Sm.tset (Sm.tw (Sm.tw (Sm.tw s_21 hSz3587 (by decide)) hSz3631 (by decide)) hSz3638 (by decide)) ez3643 (by decide), fs_k (fs_c (fs_c (fs_c (fs_k (fs_k fs_n))))), iBd, he0, fun _ => ⟨rfl, (by rw [hv9]; exact (MM.of (o' := up (up (up (up o 7 0) 8 (bE tx (o 7) (cA tx (o 7) i))) 9 (bE tx (o 7) (cA tx (o 7) i))) 10 0) (f' := fset (fset (fset f 147 Q1) 146 N1) 145 D1) hM (Sm.tset (Sm.tw (Sm.tw (Sm.tw s_21 hSz3587 (by decide)) hSz3631 (by decide)) hSz3638 (by decide)) ez3643 (by decide)) (zat_self ez3643 hMMz3637.1) (c1_skip (c1_cons (zat_set ez3643 (by decide) (Sm.at hSz3638 (by decide) (Sm.at hSz3631 (by decide) (Sm.at hSz3587 (by decide) f21_1)))) (c1_cons (zat_set ez3643 (by decide) (Sm.at hSz3638 (by decide) (Sm.at hSz3631 (by decide) (Sm.at hSz3587 (by decide) f21_2)))) (c1_cons (zat_set ez3643 (by decide) (Sm.at hSz3638 (by decide) (Sm.at hSz3631 (by decide) (Sm.at hSz3587 (by decide) f21_3)))) (c1_cons (zat_set ez3643 (by decide) (Sm.at hSz3638 (by decide) (Sm.at hSz3631 (by decide) (Sm.at hSz3587 (by decide) f21_4)))) (c1_cons (zat_set ez3643 (by decide) (Sm.at hSz3638 (by decide) (Sm.at hSz3631 (by decide) (Sm.at hSz3587 (by decide) f21_5)))) c1_nil)))))) (fs_k (fs_c (fs_c (fs_c (fs_k (fs_k fs_n))))))))⟩, fun q9 => absurd q9 hcfn⟩
          · -- 48 to 51
            refine zw_n 1 rfl ?_
            refine zw_get (v := .int (nI (bE tx (o 7) (cA tx (o 7) i)))) rfl mz3635 rfl ?_
            refine zw_n 1 rfl ?_
            refine zw_get (v := .int (nI (o 7))) rfl mz3635 rfl ?_
            refine zw_igeN (a := bE tx (o 7) (cA tx (o 7) i)) (b := o 7) rfl rfl rfl (by omega) (by omega) (fun c59 => ?_) (fun c59 => ?_)
            · -- 59 to 66
              have hhn : hr tx (o 7) (bE tx (o 7) (cA tx (o 7) i)) = NO := if_neg (by omega)
              have hcf0 := hrs.2.1 (Or.inl hhn)
              have hg9 := gK_at iz (by omega) (cZ_e hhn)
              have hgf : gF tx (o 7) = NO := hg9.2.trans hcf0
              have hMR9 : MRd tx (o 7) (gK tx (o 7) + 1) D1 N1 Q1 := by rw [hg9.1]; exact iMR
              have hdr := MRd.dr (f := fset (fset (fset f 147 Q1) 146 N1) 145 D1) htl hgf (by rw [hg9.1]; exact iD0) hMR9
              have hbd9 := MRd.bd htl hgf hMR9
              have hK8 : gK tx (o 7) + 1 ≤ 8 := by rw [hg9.1]; omega
              refine zw_n 2 rfl ?_
              refine zw_put rfl mz3635 (rfl) (Nat.le_of_ble_eq_true rfl) ?_
              generalize ez3645 : List.set Mz3633 139 _ = Mz3644
              refine zw_n 1 rfl ?_
              refine zw_get (v := .int 1) rfl (zat_self ez3645 mz3635) rfl ?_
              refine zw_if rfl ?_
              show Zw 5 zm_MO_reads 80 [some (.ref 139), none] [] Mz3644 _
              refine zw_n 2 rfl ?_
              refine zw_callV (as := []) (rest := [.ref 139]) rfl rfl rfl (zat_self ez3645 mz3635) rfl rfl rfl (by decide) (m_strayAt Mz3644 (up (up (up o 7 0) 8 (bE tx (o 7) (cA tx (o 7) i))) 10 1) (fset (fset (fset f 147 Q1) 146 N1) 145 D1) (MM.of (o' := up (up (up o 7 0) 8 (bE tx (o 7) (cA tx (o 7) i))) 10 1) (f' := fset (fset (fset f 147 Q1) 146 N1) 145 D1) hM (Sm.tset (Sm.tw (Sm.tw s_21 hSz3587 (by decide)) hSz3631 (by decide)) ez3645 (by decide)) (zat_self ez3645 mz3635) (c1_skip (c1_cons (zat_set ez3645 (by decide) (Sm.at hSz3631 (by decide) (Sm.at hSz3587 (by decide) f21_1))) (c1_cons (zat_set ez3645 (by decide) (Sm.at hSz3631 (by decide) (Sm.at hSz3587 (by decide) f21_2))) (c1_cons (zat_set ez3645 (by decide) (Sm.at hSz3631 (by decide) (Sm.at hSz3587 (by decide) f21_3))) (c1_cons (zat_set ez3645 (by decide) (Sm.at hSz3631 (by decide) (Sm.at hSz3587 (by decide) f21_4))) (c1_cons (zat_set ez3645 (by decide) (Sm.at hSz3631 (by decide) (Sm.at hSz3587 (by decide) f21_5))) c1_nil)))))) (fs_k (fs_c (fs_c (fs_c (fs_k (fs_k fs_n))))))) (gK tx (o 7) + 1) (cN tx (o 7)) (gAl tx (o 7)) (gIt tx (o 7)) (gPt tx (o 7)) (gFl tx (o 7)) hdr.1 hK8 iBd (gPp tx (o 7)) hdr.2) (fun rz3650 Mz3651 hz3652 => ?_)
              obtain ⟨vz3646, hAz3647, hMz3648, hstz3649⟩ := hz3652
              rw [hAz3647, hMz3648]
              show Zw 5 zm_MO_reads 85 [some (.ref 139), none] [.int (nI vz3646), .ref 139] Mz3644 _
              refine zw_put rfl (zat_self ez3645 mz3635) (rfl) (Nat.le_of_ble_eq_true rfl) ?_
              generalize ez3654 : List.set Mz3644 139 _ = Mz3653
              refine zw_n 1 rfl ?_
              refine zw_get (v := .int (nI vz3646)) rfl (zat_self ez3654 (zat_self ez3645 mz3635)) rfl ?_
              refine zw_n 1 rfl ?_
              refine zw_ieqM (a := vz3646) rfl rfl (by rcases hstz3649.lt with q9 | q9 <;> (first | (rw [q9]; decide) | omega)) (fun c93 => ?_) (fun c93 => ?_)
              · -- 93 to 102
                have hno : NoSty tx (o 7) := by
                  rcases sty_m htl hgf hstz3649 with q9 | q9
                  · exact q9.2
                  · exact absurd c93 q9.1
                have hdt := drg_T hdr.1 hno
                refine zw_n 1 rfl ?_
                refine zw_callV (as := []) (rest := []) rfl rfl rfl (zat_self ez3654 (zat_self ez3645 mz3635)) rfl rfl rfl (by decide) (m_layEmpties Mz3653 (up (up (up o 7 0) 8 vz3646) 10 1) (fset (fset (fset f 147 Q1) 146 N1) 145 D1) (MM.of (o' := up (up (up o 7 0) 8 vz3646) 10 1) (f' := fset (fset (fset f 147 Q1) 146 N1) 145 D1) hM (Sm.tset (Sm.tset (Sm.tw (Sm.tw s_21 hSz3587 (by decide)) hSz3631 (by decide)) ez3645 (by decide)) ez3654 (by decide)) (zat_self ez3654 (zat_self ez3645 mz3635)) (c1_skip (c1_cons (zat_set ez3654 (by decide) (zat_set ez3645 (by decide) (Sm.at hSz3631 (by decide) (Sm.at hSz3587 (by decide) f21_1)))) (c1_cons (zat_set ez3654 (by decide) (zat_set ez3645 (by decide) (Sm.at hSz3631 (by decide) (Sm.at hSz3587 (by decide) f21_2)))) (c1_cons (zat_set ez3654 (by decide) (zat_set ez3645 (by decide) (Sm.at hSz3631 (by decide) (Sm.at hSz3587 (by decide) f21_3)))) (c1_cons (zat_set ez3654 (by decide) (zat_set ez3645 (by decide) (Sm.at hSz3631 (by decide) (Sm.at hSz3587 (by decide) f21_4)))) (c1_cons (zat_set ez3654 (by decide) (zat_set ez3645 (by decide) (Sm.at hSz3631 (by decide) (Sm.at hSz3587 (by decide) f21_5)))) c1_nil)))))) (fs_k (fs_c (fs_c (fs_c (fs_k (fs_k fs_n))))))) (gK tx (o 7) + 1) (cN tx (o 7)) (gAl tx (o 7)) (gIt tx (o 7)) (gPt tx (o 7)) (gTg tx (o 7) (gK tx (o 7) + 1)) hdt.1 hK8 iBd hdt.2 he0) (fun rz3661 Mz3662 hz3663 => ?_)
                obtain ⟨hAz3655, Ez3656, hMMz3657, hSz3658, hbz3659, hEz3660⟩ := hz3663
                rw [hAz3655]
                show Zw 5 zm_MO_reads 106 [some (.ref 139), none] [] Mz3662 _
                refine zw_n 1 rfl ?_
                refine zw_callV (as := []) (rest := []) rfl rfl rfl (Sm.at hSz3658 (by decide) (zat_self ez3654 (zat_self ez3645 mz3635))) rfl rfl rfl (by decide) (m_layRounds Mz3662 (up (up (up o 7 0) 8 vz3646) 10 1) (fset (fset (fset (fset f 148 Ez3656) 147 Q1) 146 N1) 145 D1) (MM.of (o' := up (up (up o 7 0) 8 vz3646) 10 1) (f' := fset (fset (fset (fset f 148 Ez3656) 147 Q1) 146 N1) 145 D1) hM (Sm.tw (Sm.tset (Sm.tset (Sm.tw (Sm.tw s_21 hSz3587 (by decide)) hSz3631 (by decide)) ez3645 (by decide)) ez3654 (by decide)) hSz3658 (by decide)) (Sm.at hSz3658 (by decide) (zat_self ez3654 (zat_self ez3645 mz3635))) (c1_skip (c1_cons (Sm.at hSz3658 (by decide) (zat_set ez3654 (by decide) (zat_set ez3645 (by decide) (Sm.at hSz3631 (by decide) (Sm.at hSz3587 (by decide) f21_1))))) (c1_cons (Sm.at hSz3658 (by decide) (zat_set ez3654 (by decide) (zat_set ez3645 (by decide) (Sm.at hSz3631 (by decide) (Sm.at hSz3587 (by decide) f21_2))))) (c1_cons (Sm.at hSz3658 (by decide) (zat_set ez3654 (by decide) (zat_set ez3645 (by decide) (Sm.at hSz3631 (by decide) (Sm.at hSz3587 (by decide) f21_3))))) (c1_cons (hMMz3657.2 148 (by decide) (by decide)) (c1_cons (Sm.at hSz3658 (by decide) (zat_set ez3654 (by decide) (zat_set ez3645 (by decide) (Sm.at hSz3631 (by decide) (Sm.at hSz3587 (by decide) f21_5))))) c1_nil)))))) (fs_k (fs_c (fs_c (fs_c (fs_c (fs_k fs_n))))))) (gK tx (o 7) + 1) (cN tx (o 7)) (gAl tx (o 7)) (gIt tx (o 7)) (gPt tx (o 7)) (gTg tx (o 7) (gK tx (o 7) + 1)) hdt.1 hK8 iBd hdt.2 hbz3659) (fun rz3670 Mz3671 hz3672 => ?_)
                obtain ⟨hAz3664, Cz3665, hMMz3666, hSz3667, hbz3668, hCz3669⟩ := hz3672
                rw [hAz3664]
                have hrd : ∀ r, r < gK tx (o 7) + 1 → ((Cz3665 r).testBit r = true ↔ gRd tx (o 7) r) := fun r h9 => (hCz3669 r h9).trans (RdC_iff hdt.2.clo hEz3660).symm
                show Zw 5 zm_MO_reads 110 [some (.ref 139), none] [] Mz3671 _
                refine zw_n 2 (ls' := [some (.ref 139), some (.int 0)]) rfl ?_
                have lp112 : ∀ (n112 : Nat) (r : Nat), (r ≤ gK tx (o 7) + 1 ∧ ∀ q, q < r → ¬ gRd tx (o 7) q) → gK tx (o 7) + 1 - r < n112 → Zw 5 zm_MO_reads 112 [some (.ref 139), some (.int (nI r))] [] Mz3671 (fun r9 M1 => ∃ v P f9, GrF tx (o 7) v ∧ Sm Mq M1 [139, 145, 146, 147, 148, 149] ∧ (∀ a, a ∉ [139, 145, 146, 147, 148, 149] → f9 a = f a) ∧ (∀ q, f9 145 q < 2147483648) ∧ (∀ q, f9 148 q ≤ 1) ∧ (v ≠ NO → r9 = some (.int 0) ∧ MM M1 (up (up (up (up o 7 0) 8 P) 9 v) 10 0) f9) ∧ (v = NO → r9 = some (.int 1) ∧ MM M1 (up (up (up o 7 0) 8 P) 10 1) f9 ∧ gF tx (o 7) = NO ∧ DrC tx (o 7) f9)) := by
                  intro n112
                  induction n112 with
                  | zero => intro r _ h; exact absurd h (Nat.not_lt_zero _)
                  | succ n112 ih112 =>
                    intro r hi112 hm112
                    refine zw_n 2 rfl ?_
                    refine zw_get (v := .ref 145) rfl (Sm.at hSz3667 (by decide) (Sm.at hSz3658 (by decide) (zat_self ez3654 (zat_self ez3645 mz3635)))) rfl ?_
                    refine zw_n 1 rfl ?_
                    refine zw_iald (f := ai D1) (j := 0) rfl (Sm.at hSz3667 (by decide) (Sm.at hSz3658 (by decide) (zat_set ez3654 (by decide) (zat_set ez3645 (by decide) (Sm.at hSz3631 (by decide) (Sm.at hSz3587 (by decide) f21_1)))))) rfl (by decide) (by omega) ?_
                    refine zw_top (x' := (nI (gK tx (o 7) + 1))) (congrArg nI hdr.1.1) ?_
                    refine zw_igeN (a := r) (b := gK tx (o 7) + 1) rfl rfl rfl (by omega) (by omega) (fun c119 => ?_) (fun c119 => ?_)
                    · -- 119 to 163
                      refine zw_n 1 rfl ?_
                      refine zw_get (v := .int 1) rfl (Sm.at hSz3667 (by decide) (Sm.at hSz3658 (by decide) (zat_self ez3654 (zat_self ez3645 mz3635)))) rfl ?_
                      refine zw_zret rfl rfl (Or.inr rfl) ?_
                      exact ⟨NO, vz3646, fset (fset (fset (fset (fset f 149 Cz3665) 148 Ez3656) 147 Q1) 146 N1) 145 D1, Or.inr (Or.inr (Or.inr ⟨hgf, hno, fun q h9 => hi112.2 q (by omega), rfl⟩)), Sm.tw (Sm.tw (Sm.tset (Sm.tset (Sm.tw (Sm.tw s_21 hSz3587 (by decide)) hSz3631 (by decide)) ez3645 (by decide)) ez3654 (by decide)) hSz3658 (by decide)) hSz3667 (by decide), fs_k (fs_c (fs_c (fs_c (fs_c (fs_c fs_n))))), iBd, hbz3659, fun q9 => absurd rfl q9, fun _ => ⟨rfl, (MM.of (o' := up (up (up o 7 0) 8 vz3646) 10 1) (f' := fset (fset (fset (fset (fset f 149 Cz3665) 148 Ez3656) 147 Q1) 146 N1) 145 D1) hM (Sm.tw (Sm.tw (Sm.tset (Sm.tset (Sm.tw (Sm.tw s_21 hSz3587 (by decide)) hSz3631 (by decide)) ez3645 (by decide)) ez3654 (by decide)) hSz3658 (by decide)) hSz3667 (by decide)) (Sm.at hSz3667 (by decide) (Sm.at hSz3658 (by decide) (zat_self ez3654 (zat_self ez3645 mz3635)))) (c1_skip (c1_cons (Sm.at hSz3667 (by decide) (Sm.at hSz3658 (by decide) (zat_set ez3654 (by decide) (zat_set ez3645 (by decide) (Sm.at hSz3631 (by decide) (Sm.at hSz3587 (by decide) f21_1)))))) (c1_cons (Sm.at hSz3667 (by decide) (Sm.at hSz3658 (by decide) (zat_set ez3654 (by decide) (zat_set ez3645 (by decide) (Sm.at hSz3631 (by decide) (Sm.at hSz3587 (by decide) f21_2)))))) (c1_cons (Sm.at hSz3667 (by decide) (Sm.at hSz3658 (by decide) (zat_set ez3654 (by decide) (zat_set ez3645 (by decide) (Sm.at hSz3631 (by decide) (Sm.at hSz3587 (by decide) f21_3)))))) (c1_cons (Sm.at hSz3667 (by decide) (hMMz3657.2 148 (by decide) (by decide))) (c1_cons (hMMz3666.2 149 (by decide) (by decide)) c1_nil)))))) (fs_k (fs_c (fs_c (fs_c (fs_c (fs_c fs_n))))))), hgf, hdt.1, hbd9⟩⟩
                    · -- 119 to 122
                      refine zw_n 1 rfl ?_
                      refine zw_get (v := .int 1) rfl (Sm.at hSz3667 (by decide) (Sm.at hSz3658 (by decide) (zat_self ez3654 (zat_self ez3645 mz3635)))) rfl ?_
                      refine zw_if rfl ?_
                      show Zw 5 zm_MO_reads 129 [some (.ref 139), some (.int (nI r))] [] Mz3671 _
                      refine zw_n 1 rfl ?_
                      refine zw_get (v := .ref 149) rfl (Sm.at hSz3667 (by decide) (Sm.at hSz3658 (by decide) (zat_self ez3654 (zat_self ez3645 mz3635)))) rfl ?_
                      refine zw_n 1 rfl ?_
                      refine zw_iald (f := ai Cz3665) (j := r) rfl (hMMz3666.2 149 (by decide) (by decide)) rfl (by decide) (by omega) ?_
                      refine zw_n 4 rfl ?_
                      refine zw_top (x' := (nI (Cz3665 r / 2 ^ r % 2))) (isr (by have := hbz3668 r (by omega); omega) (by omega)) ?_
                      refine zw_n 1 rfl ?_
                      refine zw_ineN (a := Cz3665 r / 2 ^ r % 2) (b := 1) rfl rfl rfl (by omega) (by omega) (fun c140 => ?_) (fun c140 => ?_)
                      · -- 140 to 157
                        refine zw_inc rfl (x' := (nI (r + 1))) (ls' := [some (.ref 139), some (.int (nI (r + 1)))]) rfl (na (a := r) (b := 1) rfl rfl) rfl ?_
                        refine zw_n 1 rfl ?_
                        exact ih112 (r + 1) (⟨by omega, fun q hq q9 => by by_cases e9 : q = r; (subst e9; exact c140 (by rw [tb2, if_pos ((hrd q (by omega)).mpr q9)])); exact hi112.2 q (by omega) q9⟩) (by omega)
                      · -- 140 to 143
                        have hrr : gRd tx (o 7) r := (hrd r (by omega)).mp (by rw [tb2] at c140; revert c140; split <;> simp_all)
                        have hcp9 := ((gOK htl hgf).2 r (by omega)).1
                        have hsk9 := @sk_le tx (o 7) (cP tx (o 7) r) hcp9
                        have hnq : nQ tx (o 7) (cP tx (o 7) r) ≠ NO := by unfold nQ NO; omega
                        refine zw_n 2 rfl ?_
                        refine zw_get (v := .ref 146) rfl (Sm.at hSz3667 (by decide) (Sm.at hSz3658 (by decide) (zat_self ez3654 (zat_self ez3645 mz3635)))) rfl ?_
                        refine zw_n 1 rfl ?_
                        refine zw_iald (f := ai N1) (j := r) rfl (Sm.at hSz3667 (by decide) (Sm.at hSz3658 (by decide) (zat_set ez3654 (by decide) (zat_set ez3645 (by decide) (Sm.at hSz3631 (by decide) (Sm.at hSz3587 (by decide) f21_2)))))) rfl (by decide) (by omega) ?_
                        refine zw_top (x' := (nI (nQ tx (o 7) (cP tx (o 7) r)))) (congrArg nI (hMR9 r (by omega)).2.1) ?_
                        refine zw_put rfl (Sm.at hSz3667 (by decide) (Sm.at hSz3658 (by decide) (zat_self ez3654 (zat_self ez3645 mz3635)))) (rfl) (Nat.le_of_ble_eq_true rfl) ?_
                        generalize ez3674 : List.set Mz3671 139 _ = Mz3673
                        refine zw_n 1 rfl ?_
                        refine zw_callV (as := []) (rest := []) rfl rfl rfl (zat_self ez3674 (Sm.at hSz3667 (by decide) (Sm.at hSz3658 (by decide) (zat_self ez3654 (zat_self ez3645 mz3635))))) rfl rfl rfl (by decide) (m_wrong Mz3673 (up (up (up o 7 0) 8 (nQ tx (o 7) (cP tx (o 7) r))) 10 1) (fset (fset (fset (fset (fset f 149 Cz3665) 148 Ez3656) 147 Q1) 146 N1) 145 D1) (MM.of (o' := up (up (up o 7 0) 8 (nQ tx (o 7) (cP tx (o 7) r))) 10 1) (f' := fset (fset (fset (fset (fset f 149 Cz3665) 148 Ez3656) 147 Q1) 146 N1) 145 D1) hM (Sm.tset (Sm.tw (Sm.tw (Sm.tset (Sm.tset (Sm.tw (Sm.tw s_21 hSz3587 (by decide)) hSz3631 (by decide)) ez3645 (by decide)) ez3654 (by decide)) hSz3658 (by decide)) hSz3667 (by decide)) ez3674 (by decide)) (zat_self ez3674 (Sm.at hSz3667 (by decide) (Sm.at hSz3658 (by decide) (zat_self ez3654 (zat_self ez3645 mz3635))))) (c1_skip (c1_cons (zat_set ez3674 (by decide) (Sm.at hSz3667 (by decide) (Sm.at hSz3658 (by decide) (zat_set ez3654 (by decide) (zat_set ez3645 (by decide) (Sm.at hSz3631 (by decide) (Sm.at hSz3587 (by decide) f21_1))))))) (c1_cons (zat_set ez3674 (by decide) (Sm.at hSz3667 (by decide) (Sm.at hSz3658 (by decide) (zat_set ez3654 (by decide) (zat_set ez3645 (by decide) (Sm.at hSz3631 (by decide) (Sm.at hSz3587 (by decide) f21_2))))))) (c1_cons (zat_set ez3674 (by decide) (Sm.at hSz3667 (by decide) (Sm.at hSz3658 (by decide) (zat_set ez3654 (by decide) (zat_set ez3645 (by decide) (Sm.at hSz3631 (by decide) (Sm.at hSz3587 (by decide) f21_3))))))) (c1_cons (zat_set ez3674 (by decide) (Sm.at hSz3667 (by decide) (hMMz3657.2 148 (by decide) (by decide)))) (c1_cons (zat_set ez3674 (by decide) (hMMz3666.2 149 (by decide) (by decide))) c1_nil)))))) (fs_k (fs_c (fs_c (fs_c (fs_c (fs_c fs_n))))))) rfl) (fun rz3678 Mz3679 hz3680 => ?_)
                        obtain ⟨hAz3675, hMMz3676, hSz3677⟩ := hz3680
                        rw [hAz3675]
                        show Zw 5 zm_MO_reads 157 [some (.ref 139), some (.int (nI r))] [] Mz3679 _
                        refine zw_inc rfl (x' := (nI (r + 1))) (ls' := [some (.ref 139), some (.int (nI (r + 1)))]) rfl (na (a := r) (b := 1) rfl rfl) rfl ?_
                        refine zw_n 3 rfl ?_
                        refine zw_get (v := .ref 145) rfl hMMz3676.1 rfl ?_
                        refine zw_n 1 rfl ?_
                        refine zw_iald (f := ai D1) (j := 0) rfl (Sm.at hSz3677 (by decide) (zat_set ez3674 (by decide) (Sm.at hSz3667 (by decide) (Sm.at hSz3658 (by decide) (zat_set ez3654 (by decide) (zat_set ez3645 (by decide) (Sm.at hSz3631 (by decide) (Sm.at hSz3587 (by decide) f21_1)))))))) rfl (by decide) (by omega) ?_
                        refine zw_top (x' := (nI (gK tx (o 7) + 1))) (congrArg nI hdr.1.1) ?_
                        refine zw_igeN (a := r + 1) (b := gK tx (o 7) + 1) rfl rfl rfl (by omega) (by omega) (fun c119 => ?_) (fun c119 => ?_)
                        · -- 119 to 163
                          refine zw_n 1 rfl ?_
                          refine zw_get (v := .int (nI 0)) rfl hMMz3676.1 rfl ?_
                          refine zw_zret rfl rfl (Or.inl rfl) ?_
                          exact ⟨nQ tx (o 7) (cP tx (o 7) r), nQ tx (o 7) (cP tx (o 7) r), fset (fset (fset (fset (fset f 149 Cz3665) 148 Ez3656) 147 Q1) 146 N1) 145 D1, Or.inr (Or.inr (Or.inl ⟨hgf, hno, r, by omega, hrr, hi112.2, rfl⟩)), Sm.tw (Sm.tset (Sm.tw (Sm.tw (Sm.tset (Sm.tset (Sm.tw (Sm.tw s_21 hSz3587 (by decide)) hSz3631 (by decide)) ez3645 (by decide)) ez3654 (by decide)) hSz3658 (by decide)) hSz3667 (by decide)) ez3674 (by decide)) hSz3677 (by decide), fs_k (fs_c (fs_c (fs_c (fs_c (fs_c fs_n))))), iBd, hbz3659, fun _ => ⟨rfl, (MM.of (o' := up (up (up (up o 7 0) 8 (nQ tx (o 7) (cP tx (o 7) r))) 9 (nQ tx (o 7) (cP tx (o 7) r))) 10 0) (f' := fset (fset (fset (fset (fset f 149 Cz3665) 148 Ez3656) 147 Q1) 146 N1) 145 D1) hM (Sm.tw (Sm.tset (Sm.tw (Sm.tw (Sm.tset (Sm.tset (Sm.tw (Sm.tw s_21 hSz3587 (by decide)) hSz3631 (by decide)) ez3645 (by decide)) ez3654 (by decide)) hSz3658 (by decide)) hSz3667 (by decide)) ez3674 (by decide)) hSz3677 (by decide)) hMMz3676.1 (c1_skip (c1_cons (Sm.at hSz3677 (by decide) (zat_set ez3674 (by decide) (Sm.at hSz3667 (by decide) (Sm.at hSz3658 (by decide) (zat_set ez3654 (by decide) (zat_set ez3645 (by decide) (Sm.at hSz3631 (by decide) (Sm.at hSz3587 (by decide) f21_1)))))))) (c1_cons (Sm.at hSz3677 (by decide) (zat_set ez3674 (by decide) (Sm.at hSz3667 (by decide) (Sm.at hSz3658 (by decide) (zat_set ez3654 (by decide) (zat_set ez3645 (by decide) (Sm.at hSz3631 (by decide) (Sm.at hSz3587 (by decide) f21_2)))))))) (c1_cons (Sm.at hSz3677 (by decide) (zat_set ez3674 (by decide) (Sm.at hSz3667 (by decide) (Sm.at hSz3658 (by decide) (zat_set ez3654 (by decide) (zat_set ez3645 (by decide) (Sm.at hSz3631 (by decide) (Sm.at hSz3587 (by decide) f21_3)))))))) (c1_cons (Sm.at hSz3677 (by decide) (zat_set ez3674 (by decide) (Sm.at hSz3667 (by decide) (hMMz3657.2 148 (by decide) (by decide))))) (c1_cons (Sm.at hSz3677 (by decide) (zat_set ez3674 (by decide) (hMMz3666.2 149 (by decide) (by decide)))) c1_nil)))))) (fs_k (fs_c (fs_c (fs_c (fs_c (fs_c fs_n)))))))⟩, fun q9 => absurd q9 hnq⟩
                        · -- 119 to 122
                          refine zw_n 1 rfl ?_
                          refine zw_get (v := .int (nI 0)) rfl hMMz3676.1 rfl ?_
                          refine zw_eq0N (a := 0) rfl rfl (by omega) (fun c126 => ?_) (fun c126 => ?_)
                          · -- 126 to 163
                            refine zw_n 1 rfl ?_
                            refine zw_get (v := .int (nI 0)) rfl hMMz3676.1 rfl ?_
                            refine zw_zret rfl rfl (Or.inl rfl) ?_
                            exact ⟨nQ tx (o 7) (cP tx (o 7) r), nQ tx (o 7) (cP tx (o 7) r), fset (fset (fset (fset (fset f 149 Cz3665) 148 Ez3656) 147 Q1) 146 N1) 145 D1, Or.inr (Or.inr (Or.inl ⟨hgf, hno, r, by omega, hrr, hi112.2, rfl⟩)), Sm.tw (Sm.tset (Sm.tw (Sm.tw (Sm.tset (Sm.tset (Sm.tw (Sm.tw s_21 hSz3587 (by decide)) hSz3631 (by decide)) ez3645 (by decide)) ez3654 (by decide)) hSz3658 (by decide)) hSz3667 (by decide)) ez3674 (by decide)) hSz3677 (by decide), fs_k (fs_c (fs_c (fs_c (fs_c (fs_c fs_n))))), iBd, hbz3659, fun _ => ⟨rfl, (MM.of (o' := up (up (up (up o 7 0) 8 (nQ tx (o 7) (cP tx (o 7) r))) 9 (nQ tx (o 7) (cP tx (o 7) r))) 10 0) (f' := fset (fset (fset (fset (fset f 149 Cz3665) 148 Ez3656) 147 Q1) 146 N1) 145 D1) hM (Sm.tw (Sm.tset (Sm.tw (Sm.tw (Sm.tset (Sm.tset (Sm.tw (Sm.tw s_21 hSz3587 (by decide)) hSz3631 (by decide)) ez3645 (by decide)) ez3654 (by decide)) hSz3658 (by decide)) hSz3667 (by decide)) ez3674 (by decide)) hSz3677 (by decide)) hMMz3676.1 (c1_skip (c1_cons (Sm.at hSz3677 (by decide) (zat_set ez3674 (by decide) (Sm.at hSz3667 (by decide) (Sm.at hSz3658 (by decide) (zat_set ez3654 (by decide) (zat_set ez3645 (by decide) (Sm.at hSz3631 (by decide) (Sm.at hSz3587 (by decide) f21_1)))))))) (c1_cons (Sm.at hSz3677 (by decide) (zat_set ez3674 (by decide) (Sm.at hSz3667 (by decide) (Sm.at hSz3658 (by decide) (zat_set ez3654 (by decide) (zat_set ez3645 (by decide) (Sm.at hSz3631 (by decide) (Sm.at hSz3587 (by decide) f21_2)))))))) (c1_cons (Sm.at hSz3677 (by decide) (zat_set ez3674 (by decide) (Sm.at hSz3667 (by decide) (Sm.at hSz3658 (by decide) (zat_set ez3654 (by decide) (zat_set ez3645 (by decide) (Sm.at hSz3631 (by decide) (Sm.at hSz3587 (by decide) f21_3)))))))) (c1_cons (Sm.at hSz3677 (by decide) (zat_set ez3674 (by decide) (Sm.at hSz3667 (by decide) (hMMz3657.2 148 (by decide) (by decide))))) (c1_cons (Sm.at hSz3677 (by decide) (zat_set ez3674 (by decide) (hMMz3666.2 149 (by decide) (by decide)))) c1_nil)))))) (fs_k (fs_c (fs_c (fs_c (fs_c (fs_c fs_n)))))))⟩, fun q9 => absurd q9 hnq⟩
                          · -- 126 to 129
                            exfalso
                            exact c126 rfl
                exact lp112 _ 0 (⟨Nat.zero_le _, fun q hq => absurd hq (Nat.not_lt_zero _)⟩) (Nat.lt_succ_self _)
              · -- 93 to 96
                refine zw_n 1 rfl ?_
                refine zw_callV (as := []) (rest := []) rfl rfl rfl (zat_self ez3654 (zat_self ez3645 mz3635)) rfl rfl rfl (by decide) (m_wrong Mz3653 (up (up (up o 7 0) 8 vz3646) 10 1) (fset (fset (fset f 147 Q1) 146 N1) 145 D1) (MM.of (o' := up (up (up o 7 0) 8 vz3646) 10 1) (f' := fset (fset (fset f 147 Q1) 146 N1) 145 D1) hM (Sm.tset (Sm.tset (Sm.tw (Sm.tw s_21 hSz3587 (by decide)) hSz3631 (by decide)) ez3645 (by decide)) ez3654 (by decide)) (zat_self ez3654 (zat_self ez3645 mz3635)) (c1_skip (c1_cons (zat_set ez3654 (by decide) (zat_set ez3645 (by decide) (Sm.at hSz3631 (by decide) (Sm.at hSz3587 (by decide) f21_1)))) (c1_cons (zat_set ez3654 (by decide) (zat_set ez3645 (by decide) (Sm.at hSz3631 (by decide) (Sm.at hSz3587 (by decide) f21_2)))) (c1_cons (zat_set ez3654 (by decide) (zat_set ez3645 (by decide) (Sm.at hSz3631 (by decide) (Sm.at hSz3587 (by decide) f21_3)))) (c1_cons (zat_set ez3654 (by decide) (zat_set ez3645 (by decide) (Sm.at hSz3631 (by decide) (Sm.at hSz3587 (by decide) f21_4)))) (c1_cons (zat_set ez3654 (by decide) (zat_set ez3645 (by decide) (Sm.at hSz3631 (by decide) (Sm.at hSz3587 (by decide) f21_5)))) c1_nil)))))) (fs_k (fs_c (fs_c (fs_c (fs_k (fs_k fs_n))))))) rfl) (fun rz3684 Mz3685 hz3686 => ?_)
                obtain ⟨hAz3681, hMMz3682, hSz3683⟩ := hz3686
                rw [hAz3681]
                show Zw 5 zm_MO_reads 100 [some (.ref 139), none] [] Mz3685 _
                refine zw_n 1 rfl ?_
                refine zw_zret rfl rfl (Or.inl rfl) ?_
                have hs9 : vz3646 ≠ NO ∧ Sty tx (o 7) vz3646 := by
                  rcases sty_m htl hgf hstz3649 with q9 | q9
                  · exact absurd q9.1 c93
                  · exact q9
                exact ⟨vz3646, vz3646, fset (fset (fset f 147 Q1) 146 N1) 145 D1, Or.inr (Or.inl ⟨hgf, hs9.2⟩), Sm.tw (Sm.tset (Sm.tset (Sm.tw (Sm.tw s_21 hSz3587 (by decide)) hSz3631 (by decide)) ez3645 (by decide)) ez3654 (by decide)) hSz3683 (by decide), fs_k (fs_c (fs_c (fs_c (fs_k (fs_k fs_n))))), iBd, he0, fun _ => ⟨rfl, (MM.of (o' := up (up (up (up o 7 0) 8 vz3646) 9 vz3646) 10 0) (f' := fset (fset (fset f 147 Q1) 146 N1) 145 D1) hM (Sm.tw (Sm.tset (Sm.tset (Sm.tw (Sm.tw s_21 hSz3587 (by decide)) hSz3631 (by decide)) ez3645 (by decide)) ez3654 (by decide)) hSz3683 (by decide)) hMMz3682.1 (c1_skip (c1_cons (Sm.at hSz3683 (by decide) (zat_set ez3654 (by decide) (zat_set ez3645 (by decide) (Sm.at hSz3631 (by decide) (Sm.at hSz3587 (by decide) f21_1))))) (c1_cons (Sm.at hSz3683 (by decide) (zat_set ez3654 (by decide) (zat_set ez3645 (by decide) (Sm.at hSz3631 (by decide) (Sm.at hSz3587 (by decide) f21_2))))) (c1_cons (Sm.at hSz3683 (by decide) (zat_set ez3654 (by decide) (zat_set ez3645 (by decide) (Sm.at hSz3631 (by decide) (Sm.at hSz3587 (by decide) f21_3))))) (c1_cons (Sm.at hSz3683 (by decide) (zat_set ez3654 (by decide) (zat_set ez3645 (by decide) (Sm.at hSz3631 (by decide) (Sm.at hSz3587 (by decide) f21_4))))) (c1_cons (Sm.at hSz3683 (by decide) (zat_set ez3654 (by decide) (zat_set ez3645 (by decide) (Sm.at hSz3631 (by decide) (Sm.at hSz3587 (by decide) f21_5))))) c1_nil)))))) (fs_k (fs_c (fs_c (fs_c (fs_k (fs_k fs_n)))))))⟩, fun q9 => absurd q9 hs9.1⟩
            · -- 59 to 62
              have hin : bE tx (o 7) (cA tx (o 7) i) < o 7 := by first | omega | exact Classical.byContradiction fun q9 => c48 (by rw [mv_0 q9]; rfl)
              have hcfn : cF tx (o 7) i ≠ NO := fun q9 => hrs.2.2 (fun q8 => q8.elim (hr_ne htx hin) hn59) q9
              have hg9 := gK_at iz (by omega) (cZ_f hcfn)
              refine zw_n 1 rfl ?_
              refine zw_callV (as := []) (rest := []) rfl rfl rfl mz3635 rfl rfl rfl (by decide) (m_wrong Mz3633 (up (up o 8 (bE tx (o 7) (cA tx (o 7) i))) 10 1) (fset (fset (fset f 147 Q1) 146 N1) 145 D1) (MM.of (o' := up (up o 8 (bE tx (o 7) (cA tx (o 7) i))) 10 1) (f' := fset (fset (fset f 147 Q1) 146 N1) 145 D1) hM (Sm.tw (Sm.tw s_21 hSz3587 (by decide)) hSz3631 (by decide)) mz3635 (c1_skip (c1_cons (Sm.at hSz3631 (by decide) (Sm.at hSz3587 (by decide) f21_1)) (c1_cons (Sm.at hSz3631 (by decide) (Sm.at hSz3587 (by decide) f21_2)) (c1_cons (Sm.at hSz3631 (by decide) (Sm.at hSz3587 (by decide) f21_3)) (c1_cons (Sm.at hSz3631 (by decide) (Sm.at hSz3587 (by decide) f21_4)) (c1_cons (Sm.at hSz3631 (by decide) (Sm.at hSz3587 (by decide) f21_5)) c1_nil)))))) (fs_k (fs_c (fs_c (fs_c (fs_k (fs_k fs_n))))))) rfl) (fun rz3690 Mz3691 hz3692 => ?_)
              obtain ⟨hAz3687, hMMz3688, hSz3689⟩ := hz3692
              rw [hAz3687]
              show Zw 5 zm_MO_reads 66 [some (.ref 139), none] [] Mz3691 _
              refine zw_n 2 rfl ?_
              refine zw_put rfl hMMz3688.1 (rfl) (Nat.le_of_ble_eq_true rfl) ?_
              generalize ez3694 : List.set Mz3691 139 _ = Mz3693
              refine zw_n 1 rfl ?_
              refine zw_get (v := .int (nI 0)) rfl (zat_self ez3694 hMMz3688.1) rfl ?_
              refine zw_ne0N (a := 0) rfl rfl (by omega) (fun c75 => ?_) (fun c75 => ?_)
              · -- 75 to 80
                exfalso
                exact c75 rfl
              · -- 75 to 78
                refine zw_n 1 rfl ?_
                refine zw_zret rfl rfl (Or.inl rfl) ?_
                have hv9 := iso.resolve_left hcfn
                exact ⟨cF tx (o 7) i, bE tx (o 7) (cA tx (o 7) i), fset (fset (fset f 147 Q1) 146 N1) 145 D1, Or.inl ⟨by rw [hg9.2]; exact hcfn, hg9.2.symm⟩, Sm.tset (Sm.tw (Sm.tw (Sm.tw s_21 hSz3587 (by decide)) hSz3631 (by decide)) hSz3689 (by decide)) ez3694 (by decide), fs_k (fs_c (fs_c (fs_c (fs_k (fs_k fs_n))))), iBd, he0, fun _ => ⟨rfl, (by rw [hv9]; exact (MM.of (o' := up (up (up (up o 7 0) 8 (bE tx (o 7) (cA tx (o 7) i))) 9 (bE tx (o 7) (cA tx (o 7) i))) 10 0) (f' := fset (fset (fset f 147 Q1) 146 N1) 145 D1) hM (Sm.tset (Sm.tw (Sm.tw (Sm.tw s_21 hSz3587 (by decide)) hSz3631 (by decide)) hSz3689 (by decide)) ez3694 (by decide)) (zat_self ez3694 hMMz3688.1) (c1_skip (c1_cons (zat_set ez3694 (by decide) (Sm.at hSz3689 (by decide) (Sm.at hSz3631 (by decide) (Sm.at hSz3587 (by decide) f21_1)))) (c1_cons (zat_set ez3694 (by decide) (Sm.at hSz3689 (by decide) (Sm.at hSz3631 (by decide) (Sm.at hSz3587 (by decide) f21_2)))) (c1_cons (zat_set ez3694 (by decide) (Sm.at hSz3689 (by decide) (Sm.at hSz3631 (by decide) (Sm.at hSz3587 (by decide) f21_3)))) (c1_cons (zat_set ez3694 (by decide) (Sm.at hSz3689 (by decide) (Sm.at hSz3631 (by decide) (Sm.at hSz3587 (by decide) f21_4)))) (c1_cons (zat_set ez3694 (by decide) (Sm.at hSz3689 (by decide) (Sm.at hSz3631 (by decide) (Sm.at hSz3587 (by decide) f21_5)))) c1_nil)))))) (fs_k (fs_c (fs_c (fs_c (fs_k (fs_k fs_n))))))))⟩, fun q9 => absurd q9 hcfn⟩
    exact lp21 _ 0 Dz3552 Nz3553 Qz3554 Mz3579 sz3584 hMMz3555.1 (hMMz3555.2 145 (by decide) (by decide)) (hMMz3555.2 146 (by decide) (by decide)) (hMMz3555.2 147 (by decide) (by decide)) mz3582 mz3583 (⟨by decide, fun j hj => absurd hj (Nat.not_lt_zero _), hsoz3556, hcaz3558, hzz3559, hkz3560, hcfz3568, MRd.step (D := f 145) (N := f 146) (Q := f 147) (fun r hr => absurd hr (Nat.not_lt_zero _)) (by decide) hMRz3561 (fun q q1 q2 q3 => (hfz3563 q q1 q2 q3).trans (up_n q2)) h1z3565 hqz3566 hNz3567 hkz3560, hbz3562, h0z3564⟩) (Nat.lt_succ_self _)
  · skip
    obtain ⟨hAz3569, hSz3570, -⟩ := hz3580
    obtain ⟨hnez3571, Pz3572, fz3573, hMz3574, hpz3575, hbz3576, hdz3577⟩ := hz3580b
    rw [hAz3569]
    have hp8 : Pz3572 ≤ o 7 := hpz3575
    show Zw 5 zm_MO_reads 21 [some (.ref 139), none] [] Mz3579 _
    refine zw_n 2 rfl ?_
    refine zw_callV (as := [.int 59]) (rest := []) rfl rfl rfl hMz3574.1 rfl rfl rfl (by decide) (m_takesB Mz3579 (up (up (up o 8 Pz3572) 9 (cF tx (o 7) 0)) 10 0) (fset (fset (fset f 147 (fz3573 147)) 146 (fz3573 146)) 145 (fz3573 145)) (MM.of (o' := up (up (up o 8 Pz3572) 9 (cF tx (o 7) 0)) 10 0) (f' := fset (fset (fset f 147 (fz3573 147)) 146 (fz3573 146)) 145 (fz3573 145)) hM (Sm.tw (Sm.tset (Sm.tset (Sm.tset Sm.rf ez3547 (by decide)) ez3549 (by decide)) ez3551 (by decide)) hSz3570 (by decide)) hMz3574.1 (c1_skip (c1_cons (hMz3574.2 145 (by decide) (by decide)) (c1_cons (hMz3574.2 146 (by decide) (by decide)) (c1_cons (hMz3574.2 147 (by decide) (by decide)) (c1_cons (Sm.at hSz3570 (by decide) (zat_set ez3551 (by decide) (zat_set ez3549 (by decide) (zat_set ez3547 (by decide) (hM.2 148 (by decide) (by decide)))))) (c1_cons (Sm.at hSz3570 (by decide) (zat_set ez3551 (by decide) (zat_set ez3549 (by decide) (zat_set ez3547 (by decide) (hM.2 149 (by decide) (by decide)))))) c1_nil)))))) (fs_k (fs_c (fs_c (fs_c (fs_k (fs_k fs_n))))))) rfl 59) (fun rz3698 Mz3699 hz3700 => ?_)
    obtain ⟨hAz3695, hMMz3696, hSz3697⟩ := hz3700
    rw [hAz3695]
    show Zw 5 zm_MO_reads 27 [some (.ref 139), none] [.int 0] Mz3699 _
    refine zw_if rfl ?_
    show Zw 5 zm_MO_reads 37 [some (.ref 139), none] [] Mz3699 _
    refine zw_n 1 rfl ?_
    refine zw_get (v := .int (nI 0)) rfl hMMz3696.1 rfl ?_
    refine zw_eq0N (a := 0) rfl rfl (by omega) (fun c41 => ?_) (fun c41 => ?_)
    · -- 41 to 66
      have hg9 := gK_at (tx := tx) (tl := o 7) (i := 0) (fun j hj => absurd hj (Nat.not_lt_zero _)) (by omega) (cZ_f hnez3571)
      refine zw_n 2 rfl ?_
      refine zw_put rfl hMMz3696.1 (rfl) (Nat.le_of_ble_eq_true rfl) ?_
      generalize ez3702 : List.set Mz3699 139 _ = Mz3701
      refine zw_n 1 rfl ?_
      refine zw_get (v := .int (nI 0)) rfl (zat_self ez3702 hMMz3696.1) rfl ?_
      refine zw_ne0N (a := 0) rfl rfl (by omega) (fun c75 => ?_) (fun c75 => ?_)
      · -- 75 to 80
        exfalso
        exact c75 rfl
      · -- 75 to 78
        refine zw_n 1 rfl ?_
        refine zw_zret rfl rfl (Or.inl rfl) ?_
        exact ⟨cF tx (o 7) 0, Pz3572 + 0, fset (fset (fset f 147 (fz3573 147)) 146 (fz3573 146)) 145 (fz3573 145), Or.inl ⟨by rw [hg9.2]; exact hnez3571, hg9.2.symm⟩, Sm.tset (Sm.tw (Sm.tw (Sm.tset (Sm.tset (Sm.tset Sm.rf ez3547 (by decide)) ez3549 (by decide)) ez3551 (by decide)) hSz3570 (by decide)) hSz3697 (by decide)) ez3702 (by decide), fs_k (fs_c (fs_c (fs_c (fs_k (fs_k fs_n))))), hbz3576, he0, fun _ => ⟨rfl, (MM.of (o' := up (up (up (up o 7 0) 8 (Pz3572 + 0)) 9 (cF tx (o 7) 0)) 10 0) (f' := fset (fset (fset f 147 (fz3573 147)) 146 (fz3573 146)) 145 (fz3573 145)) hM (Sm.tset (Sm.tw (Sm.tw (Sm.tset (Sm.tset (Sm.tset Sm.rf ez3547 (by decide)) ez3549 (by decide)) ez3551 (by decide)) hSz3570 (by decide)) hSz3697 (by decide)) ez3702 (by decide)) (zat_self ez3702 hMMz3696.1) (c1_skip (c1_cons (zat_set ez3702 (by decide) (Sm.at hSz3697 (by decide) (hMz3574.2 145 (by decide) (by decide)))) (c1_cons (zat_set ez3702 (by decide) (Sm.at hSz3697 (by decide) (hMz3574.2 146 (by decide) (by decide)))) (c1_cons (zat_set ez3702 (by decide) (Sm.at hSz3697 (by decide) (hMz3574.2 147 (by decide) (by decide)))) (c1_cons (zat_set ez3702 (by decide) (Sm.at hSz3697 (by decide) (Sm.at hSz3570 (by decide) (zat_set ez3551 (by decide) (zat_set ez3549 (by decide) (zat_set ez3547 (by decide) (hM.2 148 (by decide) (by decide)))))))) (c1_cons (zat_set ez3702 (by decide) (Sm.at hSz3697 (by decide) (Sm.at hSz3570 (by decide) (zat_set ez3551 (by decide) (zat_set ez3549 (by decide) (zat_set ez3547 (by decide) (hM.2 149 (by decide) (by decide)))))))) c1_nil)))))) (fs_k (fs_c (fs_c (fs_c (fs_k (fs_k fs_n)))))))⟩, fun q9 => absurd q9 hnez3571⟩
    · -- 41 to 44
      exfalso
      exact c41 rfl

set_option maxHeartbeats 4000000 in
set_option maxRecDepth 100000 in
theorem m_grammarNo (Mq : zM) (o : Nat → Nat) (f : Nat → Nat → Nat) (hM : MM Mq o f) (tx : Nat → Nat) (hX : ∀ q, q < o 7 → f 144 q = byv (tx q)) (htx : ∀ q, tx q < 256) (htl : o 7 ≤ 240) (hb0 : ∀ q, f 145 q < 2147483648) (he0 : ∀ q, f 148 q ≤ 1) (v : Nat) (hv : GrF tx (o 7) v) (hne : v ≠ NO) : Zm 6 zm_MO_grammar [.ref 139] Mq (fun r9 M1 => r9 = some (.int (-1000 - nI v)) ∧ ∃ P f9, MM M1 (up (up (up (up (up o 0 0) 7 0) 8 P) 9 v) 10 0) f9 ∧ Sm Mq M1 [139, 145, 146, 147, 148, 149] ∧ (∀ a, a ∉ [139, 145, 146, 147, 148, 149] → f9 a = f a) ∧ (∀ q, f9 145 q < 2147483648) ∧ (∀ q, f9 148 q ≤ 1)) := by
  show Zw 6 zm_MO_grammar 0 [some (.ref 139), none] [] Mq _
  refine zw_n 2 rfl ?_
  refine zw_put rfl hM.1 (rfl) (Nat.le_of_ble_eq_true rfl) ?_
  generalize ez3704 : List.set Mq 139 _ = Mz3703
  refine zw_n 1 rfl ?_
  refine zw_callV (as := []) (rest := []) rfl rfl rfl (zat_self ez3704 hM.1) rfl rfl rfl (by decide) (m_reads Mz3703 (up o 0 0) f (MM.of (o' := up o 0 0) (f' := f) hM (Sm.tset Sm.rf ez3704 (by decide)) (zat_self ez3704 hM.1) (c1_skip (c1_cons (zat_set ez3704 (by decide) (hM.2 145 (by decide) (by decide))) (c1_cons (zat_set ez3704 (by decide) (hM.2 146 (by decide) (by decide))) (c1_cons (zat_set ez3704 (by decide) (hM.2 147 (by decide) (by decide))) (c1_cons (zat_set ez3704 (by decide) (hM.2 148 (by decide) (by decide))) (c1_cons (zat_set ez3704 (by decide) (hM.2 149 (by decide) (by decide))) c1_nil)))))) (fs_k (fs_k (fs_k (fs_k (fs_k (fs_k fs_n))))))) tx hX htx htl hb0 he0) (fun rz3717 Mz3718 hz3719 => ?_)
  obtain ⟨v9z3705, Pz3706, fz3707, hGrz3708, hSz3709, hFz3710, hbz3711, hez3712, hNz3713, hYz3714⟩ := hz3719
  obtain rfl := GrF.uniq hv hGrz3708
  obtain ⟨hAz3715, hMMz3716⟩ := hNz3713 hne
  rw [hAz3715]
  show Zw 6 zm_MO_grammar 9 [some (.ref 139), none] [.int 0] Mz3718 _
  refine zw_if rfl ?_
  show Zw 6 zm_MO_grammar 12 [some (.ref 139), none] [] Mz3718 _
  refine zw_n 2 rfl ?_
  refine zw_get (v := .int (nI v)) rfl hMMz3716.1 rfl ?_
  refine zw_n 1 rfl ?_
  exact zw_iret rfl rfl (⟨rfl, Pz3706, fset (fset (fset (fset (fset f 149 (fz3707 149)) 148 (fz3707 148)) 147 (fz3707 147)) 146 (fz3707 146)) 145 (fz3707 145), (MM.of (o' := up (up (up (up (up o 0 0) 7 0) 8 Pz3706) 9 v) 10 0) (f' := fset (fset (fset (fset (fset f 149 (fz3707 149)) 148 (fz3707 148)) 147 (fz3707 147)) 146 (fz3707 146)) 145 (fz3707 145)) hM (Sm.trans (Sm.tset Sm.rf ez3704 (by decide)) hSz3709) hMMz3716.1 (c1_skip (c1_cons (hMMz3716.2 145 (by decide) (by decide)) (c1_cons (hMMz3716.2 146 (by decide) (by decide)) (c1_cons (hMMz3716.2 147 (by decide) (by decide)) (c1_cons (hMMz3716.2 148 (by decide) (by decide)) (c1_cons (hMMz3716.2 149 (by decide) (by decide)) c1_nil)))))) (fs_k (fs_c (fs_c (fs_c (fs_c (fs_c fs_n))))))), Sm.trans (Sm.tset Sm.rf ez3704 (by decide)) hSz3709, fs_k (fs_c (fs_c (fs_c (fs_c (fs_c fs_n))))), hbz3711, hez3712⟩)

set_option maxHeartbeats 4000000 in
set_option maxRecDepth 100000 in
theorem m_grammarOk (Mq : zM) (o : Nat → Nat) (f : Nat → Nat → Nat) (hM : MM Mq o f) (tx : Nat → Nat) (hX : ∀ q, q < o 7 → f 144 q = byv (tx q)) (htx : ∀ q, tx q < 256) (htl : o 7 ≤ 240) (hb0 : ∀ q, f 145 q < 2147483648) (he0 : ∀ q, f 148 q ≤ 1) (hv : GrF tx (o 7) NO) (n : Nat) (gn al_ it pt tg bd : Nat → Nat) (hAg : AgG tx (o 7) n gn al_ it pt tg bd) (hG : SafeG n gn al_ it pt tg bd) (hF : SafeF f) (hres : DrR n gn al_ it pt tg) (h4 : SafeM (f 154)) (h5 : SafeM (f 155)) : Zm 6 zm_MO_grammar [.ref 139] Mq (fun r9 M1 => r9 = some (.int (nI n)) ∧ ∃ P f9, MM M1 (up (up (up (up o 0 0) 7 0) 8 P) 10 1) f9 ∧ Sm Mq M1 [139, 140, 145, 146, 147, 148, 149, 153, 154, 155] ∧ (∀ a, a ∉ [139, 140, 145, 146, 147, 148, 149, 153, 154, 155] → f9 a = f a) ∧ (∀ q, f9 145 q < 2147483648) ∧ (∀ q, f9 148 q ≤ 1) ∧ SafeM (f9 154) ∧ SafeM (f9 155) ∧ RelG f9 n gn al_ it pt tg bd ∧ IsLfp n (frR al_ it tg bd) (f9 154) ∧ IsLfp n (brR al_ it tg bd) (f9 155) ∧ (∀ q, f9 140 q < 2147483648) ∧ ∀ q, 529 ≤ q → f9 140 q = f 140 q) := by
  show Zw 6 zm_MO_grammar 0 [some (.ref 139), none] [] Mq _
  refine zw_n 2 rfl ?_
  refine zw_put rfl hM.1 (rfl) (Nat.le_of_ble_eq_true rfl) ?_
  generalize ez3721 : List.set Mq 139 _ = Mz3720
  refine zw_n 1 rfl ?_
  refine zw_callV (as := []) (rest := []) rfl rfl rfl (zat_self ez3721 hM.1) rfl rfl rfl (by decide) (m_reads Mz3720 (up o 0 0) f (MM.of (o' := up o 0 0) (f' := f) hM (Sm.tset Sm.rf ez3721 (by decide)) (zat_self ez3721 hM.1) (c1_skip (c1_cons (zat_set ez3721 (by decide) (hM.2 140 (by decide) (by decide))) (c1_cons (zat_set ez3721 (by decide) (hM.2 145 (by decide) (by decide))) (c1_cons (zat_set ez3721 (by decide) (hM.2 146 (by decide) (by decide))) (c1_cons (zat_set ez3721 (by decide) (hM.2 147 (by decide) (by decide))) (c1_cons (zat_set ez3721 (by decide) (hM.2 148 (by decide) (by decide))) (c1_cons (zat_set ez3721 (by decide) (hM.2 149 (by decide) (by decide))) (c1_cons (zat_set ez3721 (by decide) (hM.2 153 (by decide) (by decide))) (c1_cons (zat_set ez3721 (by decide) (hM.2 154 (by decide) (by decide))) (c1_cons (zat_set ez3721 (by decide) (hM.2 155 (by decide) (by decide))) c1_nil)))))))))) (fs_k (fs_k (fs_k (fs_k (fs_k (fs_k (fs_k (fs_k (fs_k (fs_k fs_n))))))))))) tx hX htx htl hb0 he0) (fun rz3736 Mz3737 hz3738 => ?_)
  obtain ⟨v9z3722, Pz3723, fz3724, hGrz3725, hSz3726, hFz3727, hbz3728, hez3729, hNz3730, hYz3731⟩ := hz3738
  obtain rfl := GrF.uniq hv hGrz3725
  obtain ⟨hAz3732, hMMz3733, hgfz3734, hDrz3735⟩ := hYz3731 rfl
  rw [hAz3732]
  show Zw 6 zm_MO_grammar 9 [some (.ref 139), none] [.int 1] Mz3737 _
  refine zw_if rfl ?_
  show Zw 6 zm_MO_grammar 21 [some (.ref 139), none] [] Mz3737 _
  refine zw_n 2 (ls' := [some (.ref 139), some (.int 0)]) rfl ?_
  have mz3739 : Mz3737[144]? = some (.inl (2, 240, .inl (ai (f 144)))) := Sm.at hSz3726 (by decide) (zat_set ez3721 (by decide) (hM.2 144 (by decide) (by decide)))
  have mz3740 : Mz3737[140]? = some (.inl (0, 590, .inl (ai (f 140)))) := Sm.at hSz3726 (by decide) (zat_set ez3721 (by decide) (hM.2 140 (by decide) (by decide)))
  have mz3741 : Mz3737[153]? = some (.inl (0, 160, .inl (ai (f 153)))) := Sm.at hSz3726 (by decide) (zat_set ez3721 (by decide) (hM.2 153 (by decide) (by decide)))
  have mz3742 : Mz3737[154]? = some (.inl (1, 8, .inr (.inl (al (f 154))))) := Sm.at hSz3726 (by decide) (zat_set ez3721 (by decide) (hM.2 154 (by decide) (by decide)))
  have mz3743 : Mz3737[155]? = some (.inl (1, 8, .inr (.inl (al (f 155))))) := Sm.at hSz3726 (by decide) (zat_set ez3721 (by decide) (hM.2 155 (by decide) (by decide)))
  have lp23 : ∀ (n23 : Nat) (i : Nat) (R : Nat → Nat) (M_23 : zM), Sm Mq M_23 [139, 140, 145, 146, 147, 148, 149, 153, 154, 155] → M_23[140]? = some (.inl (0, 590, .inl (ai R))) → M_23[139]? = some (.inr (12, [.int 0, .ref 140, .ref 141, .ref 142, .ref 143, .int (nI (o 5)), .ref 144, .int (nI 0), .int (nI Pz3723), .int (nI (o 9)), .int (nI 1), .ref 145, .ref 146, .ref 147, .ref 148, .ref 149, .ref 150, .ref 151, .ref 152, .ref 153, .ref 154, .ref 155, .ref 156, .ref 157, .ref 158, .ref 159, .ref 160, .ref 161, .ref 162, .ref 163, .ref 164, .int (nI (o 31)), .ref 165, .int (nI (o 33)), .ref 166, .ref 167, .ref 168, .ref 169, .int (nI (o 38)), .ref 170, .ref 171, .ref 172, .ref 173, .ref 174, .ref 175, .int (nI (o 45)), .int (nI (o 46)), .int (nI (o 47)), .long (lN (o 48)), .ref 176])) → M_23[145]? = some (.inl (0, 529, .inl (ai (fz3724 145)))) → M_23[146]? = some (.inl (0, 8, .inl (ai (fz3724 146)))) → M_23[147]? = some (.inl (0, 160, .inl (ai (fz3724 147)))) → M_23[148]? = some (.inl (3, 8, .inl (ai (fz3724 148)))) → M_23[149]? = some (.inl (0, 8, .inl (ai (fz3724 149)))) → M_23[153]? = some (.inl (0, 160, .inl (ai (f 153)))) → M_23[154]? = some (.inl (1, 8, .inr (.inl (al (f 154))))) → M_23[155]? = some (.inl (1, 8, .inr (.inl (al (f 155))))) → (i ≤ 529 ∧ R = dRi (fset f 145 (fz3724 145)) i) → 529 - i < n23 → Zw 6 zm_MO_grammar 23 [some (.ref 139), some (.int (nI i))] [] M_23 (fun r9 M1 => r9 = some (.int (nI n)) ∧ ∃ P f9, MM M1 (up (up (up (up o 0 0) 7 0) 8 P) 10 1) f9 ∧ Sm Mq M1 [139, 140, 145, 146, 147, 148, 149, 153, 154, 155] ∧ (∀ a, a ∉ [139, 140, 145, 146, 147, 148, 149, 153, 154, 155] → f9 a = f a) ∧ (∀ q, f9 145 q < 2147483648) ∧ (∀ q, f9 148 q ≤ 1) ∧ SafeM (f9 154) ∧ SafeM (f9 155) ∧ RelG f9 n gn al_ it pt tg bd ∧ IsLfp n (frR al_ it tg bd) (f9 154) ∧ IsLfp n (brR al_ it tg bd) (f9 155) ∧ (∀ q, f9 140 q < 2147483648) ∧ ∀ q, 529 ≤ q → f9 140 q = f 140 q) := by
    intro n23
    induction n23 with
    | zero => intro i R M_23 _ _ _ _ _ _ _ _ _ _ _ _ h; exact absurd h (Nat.not_lt_zero _)
    | succ n23 ih23 =>
      intro i R M_23 s_23 f23_0 f23_1 f23_2 f23_3 f23_4 f23_5 f23_6 f23_7 f23_8 f23_9 hi23 hm23
      refine zw_n 2 rfl ?_
      refine zw_igeN (a := i) (b := 529) rfl rfl rfl (by omega) (by omega) (fun c27 => ?_) (fun c27 => ?_)
      · -- 27 to 48
        have hR9 : R = dRi (fset f 145 (fz3724 145)) 529 := by rw [hi23.2, show i = 529 by omega]
        have hw9 : RowG (fset f 140 R) n gn al_ it pt tg bd := DrC.row hDrz3735 hAg hG (fun q hq => by show R q = _; rw [hR9, dRi_lt hq]; rfl)
        have hF9 : SafeF (fset f 140 R) := by rw [hR9]; exact ⟨(dRi_F (f := fset f 145 (fz3724 145)) (i := 529) hF hbz3728).1, hF.2⟩
        refine zw_n 1 rfl ?_
        refine zw_callV (as := []) (rest := []) rfl rfl rfl f23_1 rfl rfl rfl (by decide) (m_layFree M_23 (up (up (up (up o 0 0) 7 0) 8 Pz3723) 10 1) (fset (fset (fset (fset (fset (fset f 149 (fz3724 149)) 148 (fz3724 148)) 147 (fz3724 147)) 146 (fz3724 146)) 145 (fz3724 145)) 140 R) (MM.of (o' := up (up (up (up o 0 0) 7 0) 8 Pz3723) 10 1) (f' := fset (fset (fset (fset (fset (fset f 149 (fz3724 149)) 148 (fz3724 148)) 147 (fz3724 147)) 146 (fz3724 146)) 145 (fz3724 145)) 140 R) hM s_23 f23_1 (c1_skip (c1_cons f23_0 (c1_cons f23_2 (c1_cons f23_3 (c1_cons f23_4 (c1_cons f23_5 (c1_cons f23_6 (c1_cons f23_7 (c1_cons f23_8 (c1_cons f23_9 c1_nil)))))))))) (fs_k (fs_c (fs_c (fs_c (fs_c (fs_c (fs_c (fs_k (fs_k (fs_k fs_n))))))))))) n gn al_ it pt tg bd hw9 hG hF9 hres h4 h5) (fun rz3755 Mz3756 hz3757 => ?_)
        obtain ⟨hAz3744, Pz3745, Fz3746, Bz3747, hMMz3748, hSz3749, sFz3750, sBz3751, hRelz3752, hlz3753, hbz3754⟩ := hz3757
        rw [hAz3744]
        show Zw 6 zm_MO_grammar 52 [some (.ref 139), some (.int (nI i))] [] Mz3756 _
        refine zw_n 1 rfl ?_
        refine zw_get (v := .ref 140) rfl (Sm.at hSz3749 (by decide) f23_1) rfl ?_
        refine zw_n 1 rfl ?_
        refine zw_iald (f := ai R) (j := 0) rfl (Sm.at hSz3749 (by decide) f23_0) rfl (by decide) (by omega) ?_
        refine zw_top (x' := (nI n)) (congrArg nI hw9.1) ?_
        exact zw_iret rfl rfl (⟨by rfl, Pz3723, fset (fset (fset (fset (fset (fset (fset (fset (fset f 155 Bz3747) 154 Fz3746) 153 Pz3745) 149 (fz3724 149)) 148 (fz3724 148)) 147 (fz3724 147)) 146 (fz3724 146)) 145 (fz3724 145)) 140 R, (MM.of (o' := up (up (up (up o 0 0) 7 0) 8 Pz3723) 10 1) (f' := fset (fset (fset (fset (fset (fset (fset (fset (fset f 155 Bz3747) 154 Fz3746) 153 Pz3745) 149 (fz3724 149)) 148 (fz3724 148)) 147 (fz3724 147)) 146 (fz3724 146)) 145 (fz3724 145)) 140 R) hM (Sm.tw s_23 hSz3749 (by decide)) (Sm.at hSz3749 (by decide) f23_1) (c1_skip (c1_cons (Sm.at hSz3749 (by decide) f23_0) (c1_cons (Sm.at hSz3749 (by decide) f23_2) (c1_cons (Sm.at hSz3749 (by decide) f23_3) (c1_cons (Sm.at hSz3749 (by decide) f23_4) (c1_cons (Sm.at hSz3749 (by decide) f23_5) (c1_cons (Sm.at hSz3749 (by decide) f23_6) (c1_cons (hMMz3748.2 153 (by decide) (by decide)) (c1_cons (hMMz3748.2 154 (by decide) (by decide)) (c1_cons (hMMz3748.2 155 (by decide) (by decide)) c1_nil)))))))))) (fs_k (fs_c (fs_c (fs_c (fs_c (fs_c (fs_c (fs_c (fs_c (fs_c fs_n))))))))))), Sm.tw s_23 hSz3749 (by decide), fs_k (fs_c (fs_c (fs_c (fs_c (fs_c (fs_c (fs_c (fs_c (fs_c fs_n))))))))), hbz3728, hez3729, sFz3750, sBz3751, hRelz3752, hlz3753, hbz3754, hF9.1, fun q hq => by show R q = f 140 q; rw [hR9, dRi_ge hq]; rfl⟩)
      · -- 27 to 30
        refine zw_n 1 rfl ?_
        refine zw_get (v := .ref 140) rfl f23_1 rfl ?_
        refine zw_n 2 rfl ?_
        refine zw_get (v := .ref 145) rfl f23_1 rfl ?_
        refine zw_n 1 rfl ?_
        refine zw_iald (f := ai (fz3724 145)) (j := i) rfl f23_2 rfl (by decide) (by omega) ?_
        refine zw_iastN (g := R) (j := i) (v := ((fz3724 145) i)) rfl f23_0 rfl (by decide) (by omega) (rfl) ?_
        generalize ez3759 : List.set M_23 140 _ = Mz3758
        refine zw_inc rfl (x' := (nI (i + 1))) (ls' := [some (.ref 139), some (.int (nI (i + 1)))]) rfl (na (a := i) (b := 1) rfl rfl) rfl ?_
        refine zw_n 1 rfl ?_
        exact ih23 (i + 1) (up R i ((fz3724 145) i)) Mz3758 (Sm.tset s_23 ez3759 (by decide)) (zat_self ez3759 f23_0) (zat_set ez3759 (by decide) f23_1) (zat_set ez3759 (by decide) f23_2) (zat_set ez3759 (by decide) f23_3) (zat_set ez3759 (by decide) f23_4) (zat_set ez3759 (by decide) f23_5) (zat_set ez3759 (by decide) f23_6) (zat_set ez3759 (by decide) f23_7) (zat_set ez3759 (by decide) f23_8) (zat_set ez3759 (by decide) f23_9) (⟨by omega, by rw [hi23.2]; exact dRi_s⟩) (by omega)
  exact lp23 _ 0 (f 140) Mz3737 (Sm.tw (Sm.tset Sm.rf ez3721 (by decide)) hSz3726 (by decide)) mz3740 hMMz3733.1 (hMMz3733.2 145 (by decide) (by decide)) (hMMz3733.2 146 (by decide) (by decide)) (hMMz3733.2 147 (by decide) (by decide)) (hMMz3733.2 148 (by decide) (by decide)) (hMMz3733.2 149 (by decide) (by decide)) mz3741 mz3742 mz3743 (⟨Nat.zero_le _, (dRi_0 (fset f 145 _)).symm⟩) (Nat.lt_succ_self _)
