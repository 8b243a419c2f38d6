set_option maxHeartbeats 4000000 in
set_option maxRecDepth 100000 in
theorem m_readAlt4 (Mq : zM) (o : Nat → Nat) (f : Nat → Nat → Nat) (hM : MM Mq o f) (tx : Nat → Nat) (hX : ∀ q, q < o 7 → f 144 q = byv (tx q)) (htx : ∀ q, tx q < 256) (htl : o 7 ≤ 240) (hp : o 8 ≤ o 7) (hg : o 10 = 1) (r a : Nat) (h_r : r < 8) (hra : f 145 (9 + r) = a) (h4 : a = 4) (h0 : 0 < o 8) : Zm 3 zm_MO_readAlt [.ref 139, .int (nI r)] Mq (fun r9 M1 => r9 = none ∧ MM M1 (up (up (up o 8 (o 8 - 1)) 9 (o 8 - 1)) 10 0) f ∧ Sm Mq M1 [139]) := by
  show Zw 3 zm_MO_readAlt 0 [some (.ref 139), some (.int (nI r)), none, none] [] Mq _
  refine zw_n 1 rfl ?_
  refine zw_get (v := .ref 145) rfl hM.1 rfl ?_
  refine zw_n 3 rfl ?_
  refine zw_top (na (a := 9) (b := r) rfl rfl) ?_
  refine zw_iald (f := ai (f 145)) (j := (9 + r)) rfl (hM.2 145 (by decide) (by decide)) rfl (by decide) (by omega) ?_
  refine zw_top (x' := (nI a)) (congrArg nI hra) ?_
  refine zw_n 1 rfl ?_
  refine zw_ineN (a := a) (b := 4) rfl rfl rfl (by omega) (by omega) (fun c10 => ?_) (fun c10 => ?_)
  · -- 10 to 28
    exfalso
    omega
  · -- 10 to 13
    refine zw_n 2 rfl ?_
    refine zw_get (v := .int (nI (o 8))) rfl hM.1 rfl ?_
    refine zw_n 2 rfl ?_
    refine zw_top (ns (a := o 8) (b := 1) rfl rfl (by omega)) ?_
    refine zw_put rfl hM.1 (rfl) (Nat.le_of_ble_eq_true rfl) ?_
    generalize ez2879 : List.set Mq 139 _ = Mz2878
    refine zw_n 1 rfl ?_
    refine zw_callV (as := []) (rest := []) rfl rfl rfl (zat_self ez2879 hM.1) rfl rfl rfl (by decide) (m_wrong Mz2878 (up o 8 ((o 8) - 1)) f (MM.of (o' := up o 8 ((o 8) - 1)) (f' := f) hM (Sm.tset Sm.rf ez2879 (by decide)) (zat_self ez2879 hM.1) (c1_skip c1_nil) (fs_k fs_n)) hg) (fun rz2883 Mz2884 hz2885 => ?_)
    obtain ⟨hAz2880, hMMz2881, hSz2882⟩ := hz2885
    rw [hAz2880]
    show Zw 3 zm_MO_readAlt 27 [some (.ref 139), some (.int (nI r)), none, none] [] Mz2884 _
    exact zw_vret rfl rfl (⟨rfl, (MM.of (o' := up (up (up o 8 ((o 8) - 1)) 9 ((o 8) - 1)) 10 0) (f' := f) hM (Sm.trans (Sm.tset Sm.rf ez2879 (by decide)) hSz2882) hMMz2881.1 (c1_skip c1_nil) (fs_k fs_n)), Sm.trans (Sm.tset Sm.rf ez2879 (by decide)) hSz2882⟩)

set_option maxHeartbeats 4000000 in
set_option maxRecDepth 100000 in
theorem m_readAlt (Mq : zM) (o : Nat → Nat) (f : Nat → Nat → Nat) (hM : MM Mq o f) (tx : Nat → Nat) (hX : ∀ q, q < o 7 → f 144 q = byv (tx q)) (htx : ∀ q, tx q < 256) (htl : o 7 ≤ 240) (hp : o 8 ≤ o 7) (hg : o 10 = 1) (r a : Nat) (h_r : r < 8) (hra : f 145 (9 + r) = a) (h4 : a < 4) (hb0 : ∀ q, f 145 q < 2147483648) : Zm 3 zm_MO_readAlt [.ref 139, .int (nI r)] Mq (fun r9 M1 => r9 = none ∧ Sm Mq M1 [139, 145, 147] ∧ ((∃ D9 Q9, MM M1 (up o 8 (aE tx (o 7) (o 8))) (fset (fset f 147 Q9) 145 D9) ∧ (aF tx (o 7) (o 8) = NO ∨ aF tx (o 7) (o 8) = aE tx (o 7) (o 8)) ∧ MAlt tx (o 7) (o 8) (r * 4 + a) (aK tx (o 7) (o 8)) D9 Q9 ∧ (∀ q, D9 q < 2147483648) ∧ (∀ q, ¬ aR_ (r * 4 + a) q → q ≠ 9 + r → D9 q = f 145 q) ∧ D9 (9 + r) = a + 1 ∧ (∀ q, ¬ ((r * 4 + a) * 5 ≤ q ∧ q < (r * 4 + a) * 5 + 5) → Q9 q = f 147 q)) ∨ (aF tx (o 7) (o 8) ≠ NO ∧ ∃ P9 f9, MM M1 (up (up (up o 8 P9) 9 (aF tx (o 7) (o 8))) 10 0) f9 ∧ P9 ≤ o 7 ∧ (∀ q, f9 145 q < 2147483648) ∧ Dsame f f9))) := by
  show Zw 3 zm_MO_readAlt 0 [some (.ref 139), some (.int (nI r)), none, none] [] Mq _
  refine zw_n 1 rfl ?_
  refine zw_get (v := .ref 145) rfl hM.1 rfl ?_
  refine zw_n 3 rfl ?_
  refine zw_top (na (a := 9) (b := r) rfl rfl) ?_
  refine zw_iald (f := ai (f 145)) (j := (9 + r)) rfl (hM.2 145 (by decide) (by decide)) rfl (by decide) (by omega) ?_
  refine zw_top (x' := (nI a)) (congrArg nI hra) ?_
  refine zw_n 1 rfl ?_
  refine zw_ineN (a := a) (b := 4) rfl rfl rfl (by omega) (by omega) (fun c10 => ?_) (fun c10 => ?_)
  · -- 10 to 28
    refine zw_n 1 rfl ?_
    refine zw_get (v := .ref 145) rfl hM.1 rfl ?_
    refine zw_n 3 rfl ?_
    refine zw_top (na (a := 9) (b := r) rfl rfl) ?_
    refine zw_iald (f := ai (f 145)) (j := (9 + r)) rfl (hM.2 145 (by decide) (by decide)) rfl (by decide) (by omega) ?_
    refine zw_top (x' := (nI a)) (congrArg nI hra) ?_
    refine zw_n 2 (ls' := [some (.ref 139), some (.int (nI r)), some (.int (nI a)), none]) rfl ?_
    refine zw_get (v := .ref 145) rfl hM.1 rfl ?_
    refine zw_n 3 rfl ?_
    refine zw_top (na (a := 9) (b := r) rfl rfl) ?_
    refine zw_n 1 rfl ?_
    refine zw_iald (f := ai (f 145)) (j := (9 + r)) rfl (hM.2 145 (by decide) (by decide)) rfl (by decide) (by omega) ?_
    refine zw_top (x' := (nI a)) (congrArg nI hra) ?_
    refine zw_n 2 rfl ?_
    refine zw_top (na (a := a) (b := 1) rfl rfl) ?_
    refine zw_iastN (g := (f 145)) (j := (9 + r)) (v := (a + 1)) rfl (hM.2 145 (by decide) (by decide)) rfl (by decide) (by omega) (rfl) ?_
    generalize ez2887 : List.set Mq 145 _ = Mz2886
    refine zw_n 1 rfl ?_
    refine zw_get (v := .ref 145) rfl (zat_set ez2887 (by decide) hM.1) rfl ?_
    refine zw_n 3 rfl ?_
    refine zw_callS (as := [.int (nI r), .int (nI a)]) (rest := [.int 17, .ref 145]) rfl rfl rfl rfl rfl rfl (by decide) (m_altAt _ r a) (fun rz2888 Mz2889 hz2890 => ?_)
    rw [hz2890.1, hz2890.2]
    show Zw 3 zm_MO_readAlt 62 [some (.ref 139), some (.int (nI r)), some (.int (nI a)), none] [.int (nI (r * 4 + a)), .int 17, .ref 145] Mz2886 _
    refine zw_n 1 rfl ?_
    refine zw_top (na (a := 17) (b := r * 4 + a) rfl rfl) ?_
    refine zw_n 1 rfl ?_
    refine zw_iastN (g := (up (f 145) (9 + r) (a + 1))) (j := (17 + (r * 4 + a))) (v := 0) rfl (zat_self ez2887 (hM.2 145 (by decide) (by decide))) rfl (by decide) (by omega) (rfl) ?_
    generalize ez2892 : List.set Mz2886 145 _ = Mz2891
    refine zw_n 1 rfl ?_
    refine zw_callV (as := []) (rest := []) rfl rfl rfl (zat_set ez2892 (by decide) (zat_set ez2887 (by decide) hM.1)) rfl rfl rfl (by decide) (m_next Mz2891 o (fset f 145 (up (up (f 145) (9 + r) (a + 1)) (17 + (r * 4 + a)) 0)) (MM.of (o' := o) (f' := fset f 145 (up (up (f 145) (9 + r) (a + 1)) (17 + (r * 4 + a)) 0)) hM (Sm.tset (Sm.tset Sm.rf ez2887 (by decide)) ez2892 (by decide)) (zat_set ez2892 (by decide) (zat_set ez2887 (by decide) hM.1)) (c1_skip (c1_cons (zat_self ez2892 (zat_self ez2887 (hM.2 145 (by decide) (by decide)))) (c1_cons (zat_set ez2892 (by decide) (zat_set ez2887 (by decide) (hM.2 147 (by decide) (by decide)))) c1_nil))) (fs_k (fs_c (fs_k fs_n)))) tx hX htx htl (show o 8 ≤ o 7 by omega)) (fun rz2896 Mz2897 hz2898 => ?_)
    obtain ⟨hAz2893, hMMz2894, hSz2895⟩ := hz2898
    rw [hAz2893]
    have hgehAz2893 := sk_ge tx (o 7) (o 8)
    have hlehAz2893 := @sk_le tx (o 7) (o 8) (by omega)
    show Zw 3 zm_MO_readAlt 69 [some (.ref 139), some (.int (nI r)), some (.int (nI a)), none] [.int (nI (mv tx (o 7) (sk tx (o 7) (o 8))))] Mz2897 _
    refine zw_n 1 (ls' := [some (.ref 139), some (.int (nI r)), some (.int (nI a)), some (.int (nI (mv tx (o 7) (sk tx (o 7) (o 8)))))]) rfl ?_
    have mz2899 : Mz2897[145]? = some (.inl (0, 529, .inl (ai (up (up (f 145) (9 + r) (a + 1)) (17 + (r * 4 + a)) 0)))) := Sm.at hSz2895 (by decide) (zat_self ez2892 (zat_self ez2887 (hM.2 145 (by decide) (by decide))))
    have mz2900 : Mz2897[144]? = some (.inl (2, 240, .inl (ai (f 144)))) := Sm.at hSz2895 (by decide) (zat_set ez2892 (by decide) (zat_set ez2887 (by decide) (hM.2 144 (by decide) (by decide))))
    have mz2901 : Mz2897[147]? = some (.inl (0, 160, .inl (ai (f 147)))) := Sm.at hSz2895 (by decide) (zat_set ez2892 (by decide) (zat_set ez2887 (by decide) (hM.2 147 (by decide) (by decide))))
    have sz2902 : Sm Mq Mz2897 [139, 145, 147] := Sm.tw (Sm.tset (Sm.tset Sm.rf ez2887 (by decide)) ez2892 (by decide)) hSz2895 (by decide)
    have lp70 : ∀ (n70 : Nat) (k : Nat) (D1 : Nat → Nat) (Q1 : Nat → Nat) (M_70 : zM), Sm Mq M_70 [139, 145, 147] → M_70[139]? = some (.inr (12, [.int (nI (o 0)), .ref 140, .ref 141, .ref 142, .ref 143, .int (nI (o 5)), .ref 144, .int (nI (o 7)), .int (nI (aP tx (o 7) (o 8) k)), .int (nI (o 9)), .int (nI (o 10)), .ref 145, .ref 146, .ref 147, .ref 148, .ref 149, .ref 150, .ref 151, .ref 152, .ref 153, .ref 154, .ref 155, .ref 156, .ref 157, .ref 158, .ref 159, .ref 160, .ref 161, .ref 162, .ref 163, .ref 164, .int (nI (o 31)), .ref 165, .int (nI (o 33)), .ref 166, .ref 167, .ref 168, .ref 169, .int (nI (o 38)), .ref 170, .ref 171, .ref 172, .ref 173, .ref 174, .ref 175, .int (nI (o 45)), .int (nI (o 46)), .int (nI (o 47)), .long (lN (o 48)), .ref 176])) → M_70[145]? = some (.inl (0, 529, .inl (ai D1))) → M_70[147]? = some (.inl (0, 160, .inl (ai Q1))) → (k ≤ 5 ∧ (∀ j, j < k → aZ tx (o 7) (o 8) j = false) ∧ MAlt tx (o 7) (o 8) (r * 4 + a) k D1 Q1 ∧ (∀ q, D1 q < 2147483648) ∧ (∀ q, ¬ aR_ (r * 4 + a) q → q ≠ 9 + r → D1 q = f 145 q) ∧ D1 (9 + r) = a + 1 ∧ (∀ q, ¬ ((r * 4 + a) * 5 ≤ q ∧ q < (r * 4 + a) * 5 + 5) → Q1 q = f 147 q)) → 6 - k < n70 → Zw 3 zm_MO_readAlt 70 [some (.ref 139), some (.int (nI r)), some (.int (nI a)), some (.int (nI (mv tx (o 7) (aP tx (o 7) (o 8) k))))] [] M_70 (fun r9 M1 => r9 = none ∧ Sm Mq M1 [139, 145, 147] ∧ ((∃ D9 Q9, MM M1 (up o 8 (aE tx (o 7) (o 8))) (fset (fset f 147 Q9) 145 D9) ∧ (aF tx (o 7) (o 8) = NO ∨ aF tx (o 7) (o 8) = aE tx (o 7) (o 8)) ∧ MAlt tx (o 7) (o 8) (r * 4 + a) (aK tx (o 7) (o 8)) D9 Q9 ∧ (∀ q, D9 q < 2147483648) ∧ (∀ q, ¬ aR_ (r * 4 + a) q → q ≠ 9 + r → D9 q = f 145 q) ∧ D9 (9 + r) = a + 1 ∧ (∀ q, ¬ ((r * 4 + a) * 5 ≤ q ∧ q < (r * 4 + a) * 5 + 5) → Q9 q = f 147 q)) ∨ (aF tx (o 7) (o 8) ≠ NO ∧ ∃ P9 f9, MM M1 (up (up (up o 8 P9) 9 (aF tx (o 7) (o 8))) 10 0) f9 ∧ P9 ≤ o 7 ∧ (∀ q, f9 145 q < 2147483648) ∧ Dsame f f9))) := by
      intro n70
      induction n70 with
      | zero => intro k D1 Q1 M_70 _ _ _ _ _ h; exact absurd h (Nat.not_lt_zero _)
      | succ n70 ih70 =>
        intro k D1 Q1 M_70 s_70 f70_0 f70_1 f70_2 hi70 hm70
        obtain ⟨ik, iz, iM, iBd, iF9, i9r, iQ9⟩ := hi70
        have hab := aP_b (tx := tx) hp htl iz
        refine zw_n 1 rfl ?_
        refine zw_get (v := .int (nI (o 10))) rfl f70_0 rfl ?_
        refine zw_eq0N (a := o 10) rfl rfl (by omega) (fun c74 => ?_) (fun c74 => ?_)
        · -- 74 to 111
          exfalso
          omega
        · -- 74 to 77
          refine zw_n 1 rfl ?_
          refine zw_callS (as := [.int (nI (mv tx (o 7) (aP tx (o 7) (o 8) k)))]) (rest := []) rfl rfl rfl rfl rfl rfl (by decide) (m_isBond _ (aP tx (o 7) (o 8) k) (o 7) tx htx) (fun rz2903 Mz2904 hz2905 => ?_)
          rw [hz2905.1, hz2905.2]
          show Zw 3 zm_MO_readAlt 81 [some (.ref 139), some (.int (nI r)), some (.int (nI a)), some (.int (nI (mv tx (o 7) (aP tx (o 7) (o 8) k))))] [.int (nI (if bnB (hr tx (o 7) (aP tx (o 7) (o 8) k)) = true then 1 else 0))] M_70 _
          refine zw_ne0N (a := if bnB (hr tx (o 7) (aP tx (o 7) (o 8) k)) = true then 1 else 0) rfl rfl (ite_b) (fun c81 => ?_) (fun c81 => ?_)
          · -- 81 to 97
            by_cases sp97 : k < 5
            · skip
              have hit : itB_ (hr tx (o 7) (aP tx (o 7) (o 8) k)) := by first | exact Or.inl (ite_ne c81) | exact Or.inr (Or.inl (ite_ne c88)) | exact Or.inr (Or.inr ((mv_eq htx (by decide) (show 39 < 128 by decide)).mp c94))
              refine zw_n 3 rfl ?_
              refine zw_callV (as := [.int (nI r), .int (nI a)]) (rest := []) rfl rfl rfl f70_0 rfl rfl rfl (by decide) (m_readItem M_70 (up o 8 (aP tx (o 7) (o 8) k)) (fset (fset f 147 Q1) 145 D1) (MM.of (o' := up o 8 (aP tx (o 7) (o 8) k)) (f' := fset (fset f 147 Q1) 145 D1) hM s_70 f70_0 (c1_skip (c1_cons f70_1 (c1_cons f70_2 c1_nil))) (fs_k (fs_c (fs_c fs_n)))) tx hX htx htl (show aP tx (o 7) (o 8) k ≤ o 7 by omega) hg (aP_sk _ _ _ _) r a k (by omega) (by omega) iM.1 sp97 iBd) (fun rz2915 Mz2916 hz2917 => ?_)
              rcases Classical.em (iF tx (o 7) (aP tx (o 7) (o 8) k) = NO) with hz2917a | hz2917b
              · skip
                obtain ⟨hAz2906, hBz2907, -⟩ := hz2917
                obtain ⟨hMMz2908, hSz2909⟩ := hBz2907 hz2917a
                rw [hAz2906]
                have hie := iE_b (tx := tx) hab.2 hz2917a htl
                show Zw 3 zm_MO_readAlt 103 [some (.ref 139), some (.int (nI r)), some (.int (nI a)), some (.int (nI (mv tx (o 7) (aP tx (o 7) (o 8) k))))] [] Mz2916 _
                refine zw_n 1 rfl ?_
                refine zw_callV (as := []) (rest := []) rfl rfl rfl hMMz2908.1 rfl rfl rfl (by decide) (m_next Mz2916 (up o 8 (iE tx (o 7) (aP tx (o 7) (o 8) k))) (fset (fset f 147 (up Q1 ((r * 4 + a) * 5 + k) (iQ tx (o 7) (aP tx (o 7) (o 8) k)))) 145 (up (up (up (up D1 ((49 + 3 * ((r * 4 + a) * 5 + k)) + 2) (iB tx (o 7) (aP tx (o 7) (o 8) k))) (49 + 3 * ((r * 4 + a) * 5 + k)) (iV tx (o 7) (aP tx (o 7) (o 8) k))) ((49 + 3 * ((r * 4 + a) * 5 + k)) + 1) (if iN tx (o 7) (aP tx (o 7) (o 8) k) = true then 1 else 0)) (17 + (r * 4 + a)) (k + 1))) (MM.of (o' := up o 8 (iE tx (o 7) (aP tx (o 7) (o 8) k))) (f' := fset (fset f 147 (up Q1 ((r * 4 + a) * 5 + k) (iQ tx (o 7) (aP tx (o 7) (o 8) k)))) 145 (up (up (up (up D1 ((49 + 3 * ((r * 4 + a) * 5 + k)) + 2) (iB tx (o 7) (aP tx (o 7) (o 8) k))) (49 + 3 * ((r * 4 + a) * 5 + k)) (iV tx (o 7) (aP tx (o 7) (o 8) k))) ((49 + 3 * ((r * 4 + a) * 5 + k)) + 1) (if iN tx (o 7) (aP tx (o 7) (o 8) k) = true then 1 else 0)) (17 + (r * 4 + a)) (k + 1))) hM (Sm.trans s_70 hSz2909) hMMz2908.1 (c1_skip (c1_cons (hMMz2908.2 145 (by decide) (by decide)) (c1_cons (hMMz2908.2 147 (by decide) (by decide)) c1_nil))) (fs_k (fs_c (fs_c fs_n)))) tx hX htx htl (show iE tx (o 7) (aP tx (o 7) (o 8) k) ≤ o 7 by omega)) (fun rz2921 Mz2922 hz2923 => ?_)
                obtain ⟨hAz2918, hMMz2919, hSz2920⟩ := hz2923
                rw [hAz2918]
                have hgehAz2918 := sk_ge tx (o 7) (iE tx (o 7) (aP tx (o 7) (o 8) k))
                have hlehAz2918 := @sk_le tx (o 7) (iE tx (o 7) (aP tx (o 7) (o 8) k)) (by omega)
                show Zw 3 zm_MO_readAlt 107 [some (.ref 139), some (.int (nI r)), some (.int (nI a)), some (.int (nI (mv tx (o 7) (aP tx (o 7) (o 8) k))))] [.int (nI (mv tx (o 7) (sk tx (o 7) (iE tx (o 7) (aP tx (o 7) (o 8) k)))))] Mz2922 _
                refine zw_n 2 (ls' := [some (.ref 139), some (.int (nI r)), some (.int (nI a)), some (.int (nI (mv tx (o 7) (sk tx (o 7) (iE tx (o 7) (aP tx (o 7) (o 8) k))))))]) rfl ?_
                exact ih70 (k + 1) (up (up (up (up D1 ((49 + 3 * ((r * 4 + a) * 5 + k)) + 2) (iB tx (o 7) (aP tx (o 7) (o 8) k))) (49 + 3 * ((r * 4 + a) * 5 + k)) (iV tx (o 7) (aP tx (o 7) (o 8) k))) ((49 + 3 * ((r * 4 + a) * 5 + k)) + 1) (if iN tx (o 7) (aP tx (o 7) (o 8) k) = true then 1 else 0)) (17 + (r * 4 + a)) (k + 1)) (up Q1 ((r * 4 + a) * 5 + k) (iQ tx (o 7) (aP tx (o 7) (o 8) k))) Mz2922 (Sm.tw (Sm.trans s_70 hSz2909) hSz2920 (by decide)) hMMz2919.1 (Sm.at hSz2920 (by decide) (hMMz2908.2 145 (by decide) (by decide))) (Sm.at hSz2920 (by decide) (hMMz2908.2 147 (by decide) (by decide))) (⟨by omega, rt_step iz (aZ_no (it_stp hit) hz2917a), iM.step (by omega), it_bnd iBd sp97 (iV_lt hab.2 htl hz2917a) iB_lt, fun q q1 q2 => (it_out sp97 q1).trans (iF9 q q1 q2), by rw [up_n (by omega), up_n (by omega), up_n (by omega), up_n (by omega)]; exact i9r, fun q q1 => (up_n (by omega)).trans (iQ9 q q1)⟩) (by omega)
              · skip
                obtain ⟨hAz2906, -, hBz2907⟩ := hz2917
                obtain ⟨Pz2910, fz2911, hMMz2908, hpz2912, hbz2913, hdz2914, hSz2909⟩ := hBz2907 hz2917b
                rw [hAz2906]
                have hp8 : Pz2910 ≤ o 7 := hpz2912
                show Zw 3 zm_MO_readAlt 103 [some (.ref 139), some (.int (nI r)), some (.int (nI a)), some (.int (nI (mv tx (o 7) (aP tx (o 7) (o 8) k))))] [] Mz2916 _
                refine zw_n 1 rfl ?_
                refine zw_callV (as := []) (rest := []) rfl rfl rfl hMMz2908.1 rfl rfl rfl (by decide) (m_next Mz2916 (up (up (up o 8 Pz2910) 9 (iF tx (o 7) (aP tx (o 7) (o 8) k))) 10 0) (fset (fset f 147 (fz2911 147)) 145 (fz2911 145)) (MM.of (o' := up (up (up o 8 Pz2910) 9 (iF tx (o 7) (aP tx (o 7) (o 8) k))) 10 0) (f' := fset (fset f 147 (fz2911 147)) 145 (fz2911 145)) hM (Sm.trans s_70 hSz2909) hMMz2908.1 (c1_skip (c1_cons (hMMz2908.2 145 (by decide) (by decide)) (c1_cons (hMMz2908.2 147 (by decide) (by decide)) c1_nil))) (fs_k (fs_c (fs_c fs_n)))) tx hX htx htl (show Pz2910 ≤ o 7 by omega)) (fun rz2927 Mz2928 hz2929 => ?_)
                obtain ⟨hAz2924, hMMz2925, hSz2926⟩ := hz2929
                rw [hAz2924]
                have hgehAz2924 := sk_ge tx (o 7) Pz2910
                have hlehAz2924 := @sk_le tx (o 7) Pz2910 (by omega)
                show Zw 3 zm_MO_readAlt 107 [some (.ref 139), some (.int (nI r)), some (.int (nI a)), some (.int (nI (mv tx (o 7) (aP tx (o 7) (o 8) k))))] [.int (nI (mv tx (o 7) (sk tx (o 7) Pz2910)))] Mz2928 _
                refine zw_n 3 (ls' := [some (.ref 139), some (.int (nI r)), some (.int (nI a)), some (.int (nI (mv tx (o 7) (sk tx (o 7) Pz2910))))]) rfl ?_
                refine zw_get (v := .int (nI 0)) rfl hMMz2925.1 rfl ?_
                refine zw_eq0N (a := 0) rfl rfl (by omega) (fun c74 => ?_) (fun c74 => ?_)
                · -- 74 to 111
                  refine zw_vret rfl rfl ?_
                  have hK9 := aK_at iz ik (fun _ => aZ_it hz2917b)
                  have hf9 : aF tx (o 7) (o 8) = iF tx (o 7) (aP tx (o 7) (o 8) k) := aF_i hK9 (it_stp hit) sp97
                  exact ⟨rfl, Sm.tw (Sm.trans s_70 hSz2909) hSz2926 (by decide), Or.inr ⟨by rw [hf9]; exact hz2917b, sk tx (o 7) Pz2910, fset (fset f 147 (fz2911 147)) 145 (fz2911 145), by rw [hf9]; exact (MM.of (o' := up (up (up o 8 (sk tx (o 7) Pz2910)) 9 (iF tx (o 7) (aP tx (o 7) (o 8) k))) 10 0) (f' := fset (fset f 147 (fz2911 147)) 145 (fz2911 145)) hM (Sm.tw (Sm.trans s_70 hSz2909) hSz2926 (by decide)) hMMz2925.1 (c1_skip (c1_cons (Sm.at hSz2926 (by decide) (hMMz2908.2 145 (by decide) (by decide))) (c1_cons (Sm.at hSz2926 (by decide) (hMMz2908.2 147 (by decide) (by decide))) c1_nil))) (fs_k (fs_c (fs_c fs_n)))), by omega, hbz2913, Dsame.of (S := [139, 145, 147]) (fs_k (fs_c (fs_c fs_n))) (by decide)⟩⟩
                · -- 74 to 77
                  exfalso
                  exact c74 rfl
            · skip
              have hit : itB_ (hr tx (o 7) (aP tx (o 7) (o 8) k)) := by first | exact Or.inl (ite_ne c81) | exact Or.inr (Or.inl (ite_ne c88)) | exact Or.inr (Or.inr ((mv_eq htx (by decide) (show 39 < 128 by decide)).mp c94))
              refine zw_n 3 rfl ?_
              refine zw_callV (as := [.int (nI r), .int (nI a)]) (rest := []) rfl rfl rfl f70_0 rfl rfl rfl (by decide) (m_readItem5 M_70 (up o 8 (aP tx (o 7) (o 8) k)) (fset (fset f 147 Q1) 145 D1) (MM.of (o' := up o 8 (aP tx (o 7) (o 8) k)) (f' := fset (fset f 147 Q1) 145 D1) hM s_70 f70_0 (c1_skip (c1_cons f70_1 (c1_cons f70_2 c1_nil))) (fs_k (fs_c (fs_c fs_n)))) tx hX htx htl (show aP tx (o 7) (o 8) k ≤ o 7 by omega) hg (aP_sk _ _ _ _) r a k (by omega) (by omega) iM.1 (by omega)) (fun rz2939 Mz2940 hz2941 => ?_)
              obtain ⟨hAz2930, hMMz2932, hSz2933⟩ := hz2941
              rw [hAz2930]
              show Zw 3 zm_MO_readAlt 103 [some (.ref 139), some (.int (nI r)), some (.int (nI a)), some (.int (nI (mv tx (o 7) (aP tx (o 7) (o 8) k))))] [] Mz2940 _
              refine zw_n 1 rfl ?_
              refine zw_callV (as := []) (rest := []) rfl rfl rfl hMMz2932.1 rfl rfl rfl (by decide) (m_next Mz2940 (up (up (up o 8 (aP tx (o 7) (o 8) k)) 9 (aP tx (o 7) (o 8) k)) 10 0) (fset (fset f 147 Q1) 145 D1) (MM.of (o' := up (up (up o 8 (aP tx (o 7) (o 8) k)) 9 (aP tx (o 7) (o 8) k)) 10 0) (f' := fset (fset f 147 Q1) 145 D1) hM (Sm.tw s_70 hSz2933 (by decide)) hMMz2932.1 (c1_skip (c1_cons (Sm.at hSz2933 (by decide) f70_1) (c1_cons (Sm.at hSz2933 (by decide) f70_2) c1_nil))) (fs_k (fs_c (fs_c fs_n)))) tx hX htx htl (show aP tx (o 7) (o 8) k ≤ o 7 by omega)) (fun rz2945 Mz2946 hz2947 => ?_)
              obtain ⟨hAz2942, hMMz2943, hSz2944⟩ := hz2947
              rw [hAz2942]
              have hgehAz2942 := sk_ge tx (o 7) (aP tx (o 7) (o 8) k)
              have hlehAz2942 := @sk_le tx (o 7) (aP tx (o 7) (o 8) k) (by omega)
              show Zw 3 zm_MO_readAlt 107 [some (.ref 139), some (.int (nI r)), some (.int (nI a)), some (.int (nI (mv tx (o 7) (aP tx (o 7) (o 8) k))))] [.int (nI (mv tx (o 7) (sk tx (o 7) (aP tx (o 7) (o 8) k))))] Mz2946 _
              refine zw_n 3 (ls' := [some (.ref 139), some (.int (nI r)), some (.int (nI a)), some (.int (nI (mv tx (o 7) (sk tx (o 7) (aP tx (o 7) (o 8) k)))))]) rfl ?_
              refine zw_get (v := .int (nI 0)) rfl hMMz2943.1 rfl ?_
              refine zw_eq0N (a := 0) rfl rfl (by omega) (fun c74 => ?_) (fun c74 => ?_)
              · -- 74 to 111
                refine zw_vret rfl rfl ?_
                have hK9 := aK_at iz ik (fun q9 => absurd q9 sp97)
                have hf9 : aF tx (o 7) (o 8) = aP tx (o 7) (o 8) k := aF_5 hK9 (it_stp hit) (by omega)
                exact ⟨rfl, Sm.tw (Sm.tw s_70 hSz2933 (by decide)) hSz2944 (by decide), Or.inr ⟨by rw [hf9]; unfold NO; omega, sk tx (o 7) (aP tx (o 7) (o 8) k), fset (fset f 147 Q1) 145 D1, by rw [hf9]; exact (MM.of (o' := up (up (up o 8 (sk tx (o 7) (aP tx (o 7) (o 8) k))) 9 (aP tx (o 7) (o 8) k)) 10 0) (f' := fset (fset f 147 Q1) 145 D1) hM (Sm.tw (Sm.tw s_70 hSz2933 (by decide)) hSz2944 (by decide)) hMMz2943.1 (c1_skip (c1_cons (Sm.at hSz2944 (by decide) (Sm.at hSz2933 (by decide) f70_1)) (c1_cons (Sm.at hSz2944 (by decide) (Sm.at hSz2933 (by decide) f70_2)) c1_nil))) (fs_k (fs_c (fs_c fs_n)))), by omega, iBd, Dsame.of (S := [139, 145, 147]) (fs_k (fs_c (fs_c fs_n))) (by decide)⟩⟩
              · -- 74 to 77
                exfalso
                exact c74 rfl
          · -- 81 to 84
            refine zw_n 1 rfl ?_
            refine zw_callS (as := [.int (nI (mv tx (o 7) (aP tx (o 7) (o 8) k)))]) (rest := []) rfl rfl rfl rfl rfl rfl (by decide) (m_isName _ (aP tx (o 7) (o 8) k) (o 7) tx htx) (fun rz2948 Mz2949 hz2950 => ?_)
            rw [hz2950.1, hz2950.2]
            show Zw 3 zm_MO_readAlt 88 [some (.ref 139), some (.int (nI r)), some (.int (nI a)), some (.int (nI (mv tx (o 7) (aP tx (o 7) (o 8) k))))] [.int (nI (if nmB (hr tx (o 7) (aP tx (o 7) (o 8) k)) = true then 1 else 0))] M_70 _
            refine zw_ne0N (a := if nmB (hr tx (o 7) (aP tx (o 7) (o 8) k)) = true then 1 else 0) rfl rfl (ite_b) (fun c88 => ?_) (fun c88 => ?_)
            · -- 88 to 97
              by_cases sp97 : k < 5
              · skip
                have hit : itB_ (hr tx (o 7) (aP tx (o 7) (o 8) k)) := by first | exact Or.inl (ite_ne c81) | exact Or.inr (Or.inl (ite_ne c88)) | exact Or.inr (Or.inr ((mv_eq htx (by decide) (show 39 < 128 by decide)).mp c94))
                refine zw_n 3 rfl ?_
                refine zw_callV (as := [.int (nI r), .int (nI a)]) (rest := []) rfl rfl rfl f70_0 rfl rfl rfl (by decide) (m_readItem M_70 (up o 8 (aP tx (o 7) (o 8) k)) (fset (fset f 147 Q1) 145 D1) (MM.of (o' := up o 8 (aP tx (o 7) (o 8) k)) (f' := fset (fset f 147 Q1) 145 D1) hM s_70 f70_0 (c1_skip (c1_cons f70_1 (c1_cons f70_2 c1_nil))) (fs_k (fs_c (fs_c fs_n)))) tx hX htx htl (show aP tx (o 7) (o 8) k ≤ o 7 by omega) hg (aP_sk _ _ _ _) r a k (by omega) (by omega) iM.1 sp97 iBd) (fun rz2960 Mz2961 hz2962 => ?_)
                rcases Classical.em (iF tx (o 7) (aP tx (o 7) (o 8) k) = NO) with hz2962a | hz2962b
                · skip
                  obtain ⟨hAz2951, hBz2952, -⟩ := hz2962
                  obtain ⟨hMMz2953, hSz2954⟩ := hBz2952 hz2962a
                  rw [hAz2951]
                  have hie := iE_b (tx := tx) hab.2 hz2962a htl
                  show Zw 3 zm_MO_readAlt 103 [some (.ref 139), some (.int (nI r)), some (.int (nI a)), some (.int (nI (mv tx (o 7) (aP tx (o 7) (o 8) k))))] [] Mz2961 _
                  refine zw_n 1 rfl ?_
                  refine zw_callV (as := []) (rest := []) rfl rfl rfl hMMz2953.1 rfl rfl rfl (by decide) (m_next Mz2961 (up o 8 (iE tx (o 7) (aP tx (o 7) (o 8) k))) (fset (fset f 147 (up Q1 ((r * 4 + a) * 5 + k) (iQ tx (o 7) (aP tx (o 7) (o 8) k)))) 145 (up (up (up (up D1 ((49 + 3 * ((r * 4 + a) * 5 + k)) + 2) (iB tx (o 7) (aP tx (o 7) (o 8) k))) (49 + 3 * ((r * 4 + a) * 5 + k)) (iV tx (o 7) (aP tx (o 7) (o 8) k))) ((49 + 3 * ((r * 4 + a) * 5 + k)) + 1) (if iN tx (o 7) (aP tx (o 7) (o 8) k) = true then 1 else 0)) (17 + (r * 4 + a)) (k + 1))) (MM.of (o' := up o 8 (iE tx (o 7) (aP tx (o 7) (o 8) k))) (f' := fset (fset f 147 (up Q1 ((r * 4 + a) * 5 + k) (iQ tx (o 7) (aP tx (o 7) (o 8) k)))) 145 (up (up (up (up D1 ((49 + 3 * ((r * 4 + a) * 5 + k)) + 2) (iB tx (o 7) (aP tx (o 7) (o 8) k))) (49 + 3 * ((r * 4 + a) * 5 + k)) (iV tx (o 7) (aP tx (o 7) (o 8) k))) ((49 + 3 * ((r * 4 + a) * 5 + k)) + 1) (if iN tx (o 7) (aP tx (o 7) (o 8) k) = true then 1 else 0)) (17 + (r * 4 + a)) (k + 1))) hM (Sm.trans s_70 hSz2954) hMMz2953.1 (c1_skip (c1_cons (hMMz2953.2 145 (by decide) (by decide)) (c1_cons (hMMz2953.2 147 (by decide) (by decide)) c1_nil))) (fs_k (fs_c (fs_c fs_n)))) tx hX htx htl (show iE tx (o 7) (aP tx (o 7) (o 8) k) ≤ o 7 by omega)) (fun rz2966 Mz2967 hz2968 => ?_)
                  obtain ⟨hAz2963, hMMz2964, hSz2965⟩ := hz2968
                  rw [hAz2963]
                  have hgehAz2963 := sk_ge tx (o 7) (iE tx (o 7) (aP tx (o 7) (o 8) k))
                  have hlehAz2963 := @sk_le tx (o 7) (iE tx (o 7) (aP tx (o 7) (o 8) k)) (by omega)
                  show Zw 3 zm_MO_readAlt 107 [some (.ref 139), some (.int (nI r)), some (.int (nI a)), some (.int (nI (mv tx (o 7) (aP tx (o 7) (o 8) k))))] [.int (nI (mv tx (o 7) (sk tx (o 7) (iE tx (o 7) (aP tx (o 7) (o 8) k)))))] Mz2967 _
                  refine zw_n 2 (ls' := [some (.ref 139), some (.int (nI r)), some (.int (nI a)), some (.int (nI (mv tx (o 7) (sk tx (o 7) (iE tx (o 7) (aP tx (o 7) (o 8) k))))))]) rfl ?_
                  exact ih70 (k + 1) (up (up (up (up D1 ((49 + 3 * ((r * 4 + a) * 5 + k)) + 2) (iB tx (o 7) (aP tx (o 7) (o 8) k))) (49 + 3 * ((r * 4 + a) * 5 + k)) (iV tx (o 7) (aP tx (o 7) (o 8) k))) ((49 + 3 * ((r * 4 + a) * 5 + k)) + 1) (if iN tx (o 7) (aP tx (o 7) (o 8) k) = true then 1 else 0)) (17 + (r * 4 + a)) (k + 1)) (up Q1 ((r * 4 + a) * 5 + k) (iQ tx (o 7) (aP tx (o 7) (o 8) k))) Mz2967 (Sm.tw (Sm.trans s_70 hSz2954) hSz2965 (by decide)) hMMz2964.1 (Sm.at hSz2965 (by decide) (hMMz2953.2 145 (by decide) (by decide))) (Sm.at hSz2965 (by decide) (hMMz2953.2 147 (by decide) (by decide))) (⟨by omega, rt_step iz (aZ_no (it_stp hit) hz2962a), iM.step (by omega), it_bnd iBd sp97 (iV_lt hab.2 htl hz2962a) iB_lt, fun q q1 q2 => (it_out sp97 q1).trans (iF9 q q1 q2), by rw [up_n (by omega), up_n (by omega), up_n (by omega), up_n (by omega)]; exact i9r, fun q q1 => (up_n (by omega)).trans (iQ9 q q1)⟩) (by omega)
                · skip
                  obtain ⟨hAz2951, -, hBz2952⟩ := hz2962
                  obtain ⟨Pz2955, fz2956, hMMz2953, hpz2957, hbz2958, hdz2959, hSz2954⟩ := hBz2952 hz2962b
                  rw [hAz2951]
                  have hp8 : Pz2955 ≤ o 7 := hpz2957
                  show Zw 3 zm_MO_readAlt 103 [some (.ref 139), some (.int (nI r)), some (.int (nI a)), some (.int (nI (mv tx (o 7) (aP tx (o 7) (o 8) k))))] [] Mz2961 _
                  refine zw_n 1 rfl ?_
                  refine zw_callV (as := []) (rest := []) rfl rfl rfl hMMz2953.1 rfl rfl rfl (by decide) (m_next Mz2961 (up (up (up o 8 Pz2955) 9 (iF tx (o 7) (aP tx (o 7) (o 8) k))) 10 0) (fset (fset f 147 (fz2956 147)) 145 (fz2956 145)) (MM.of (o' := up (up (up o 8 Pz2955) 9 (iF tx (o 7) (aP tx (o 7) (o 8) k))) 10 0) (f' := fset (fset f 147 (fz2956 147)) 145 (fz2956 145)) hM (Sm.trans s_70 hSz2954) hMMz2953.1 (c1_skip (c1_cons (hMMz2953.2 145 (by decide) (by decide)) (c1_cons (hMMz2953.2 147 (by decide) (by decide)) c1_nil))) (fs_k (fs_c (fs_c fs_n)))) tx hX htx htl (show Pz2955 ≤ o 7 by omega)) (fun rz2972 Mz2973 hz2974 => ?_)
                  obtain ⟨hAz2969, hMMz2970, hSz2971⟩ := hz2974
                  rw [hAz2969]
                  have hgehAz2969 := sk_ge tx (o 7) Pz2955
                  have hlehAz2969 := @sk_le tx (o 7) Pz2955 (by omega)
                  show Zw 3 zm_MO_readAlt 107 [some (.ref 139), some (.int (nI r)), some (.int (nI a)), some (.int (nI (mv tx (o 7) (aP tx (o 7) (o 8) k))))] [.int (nI (mv tx (o 7) (sk tx (o 7) Pz2955)))] Mz2973 _
                  refine zw_n 3 (ls' := [some (.ref 139), some (.int (nI r)), some (.int (nI a)), some (.int (nI (mv tx (o 7) (sk tx (o 7) Pz2955))))]) rfl ?_
                  refine zw_get (v := .int (nI 0)) rfl hMMz2970.1 rfl ?_
                  refine zw_eq0N (a := 0) rfl rfl (by omega) (fun c74 => ?_) (fun c74 => ?_)
                  · -- 74 to 111
                    refine zw_vret rfl rfl ?_
                    have hK9 := aK_at iz ik (fun _ => aZ_it hz2962b)
                    have hf9 : aF tx (o 7) (o 8) = iF tx (o 7) (aP tx (o 7) (o 8) k) := aF_i hK9 (it_stp hit) sp97
                    exact ⟨rfl, Sm.tw (Sm.trans s_70 hSz2954) hSz2971 (by decide), Or.inr ⟨by rw [hf9]; exact hz2962b, sk tx (o 7) Pz2955, fset (fset f 147 (fz2956 147)) 145 (fz2956 145), by rw [hf9]; exact (MM.of (o' := up (up (up o 8 (sk tx (o 7) Pz2955)) 9 (iF tx (o 7) (aP tx (o 7) (o 8) k))) 10 0) (f' := fset (fset f 147 (fz2956 147)) 145 (fz2956 145)) hM (Sm.tw (Sm.trans s_70 hSz2954) hSz2971 (by decide)) hMMz2970.1 (c1_skip (c1_cons (Sm.at hSz2971 (by decide) (hMMz2953.2 145 (by decide) (by decide))) (c1_cons (Sm.at hSz2971 (by decide) (hMMz2953.2 147 (by decide) (by decide))) c1_nil))) (fs_k (fs_c (fs_c fs_n)))), by omega, hbz2958, Dsame.of (S := [139, 145, 147]) (fs_k (fs_c (fs_c fs_n))) (by decide)⟩⟩
                  · -- 74 to 77
                    exfalso
                    exact c74 rfl
              · skip
                have hit : itB_ (hr tx (o 7) (aP tx (o 7) (o 8) k)) := by first | exact Or.inl (ite_ne c81) | exact Or.inr (Or.inl (ite_ne c88)) | exact Or.inr (Or.inr ((mv_eq htx (by decide) (show 39 < 128 by decide)).mp c94))
                refine zw_n 3 rfl ?_
                refine zw_callV (as := [.int (nI r), .int (nI a)]) (rest := []) rfl rfl rfl f70_0 rfl rfl rfl (by decide) (m_readItem5 M_70 (up o 8 (aP tx (o 7) (o 8) k)) (fset (fset f 147 Q1) 145 D1) (MM.of (o' := up o 8 (aP tx (o 7) (o 8) k)) (f' := fset (fset f 147 Q1) 145 D1) hM s_70 f70_0 (c1_skip (c1_cons f70_1 (c1_cons f70_2 c1_nil))) (fs_k (fs_c (fs_c fs_n)))) tx hX htx htl (show aP tx (o 7) (o 8) k ≤ o 7 by omega) hg (aP_sk _ _ _ _) r a k (by omega) (by omega) iM.1 (by omega)) (fun rz2984 Mz2985 hz2986 => ?_)
                obtain ⟨hAz2975, hMMz2977, hSz2978⟩ := hz2986
                rw [hAz2975]
                show Zw 3 zm_MO_readAlt 103 [some (.ref 139), some (.int (nI r)), some (.int (nI a)), some (.int (nI (mv tx (o 7) (aP tx (o 7) (o 8) k))))] [] Mz2985 _
                refine zw_n 1 rfl ?_
                refine zw_callV (as := []) (rest := []) rfl rfl rfl hMMz2977.1 rfl rfl rfl (by decide) (m_next Mz2985 (up (up (up o 8 (aP tx (o 7) (o 8) k)) 9 (aP tx (o 7) (o 8) k)) 10 0) (fset (fset f 147 Q1) 145 D1) (MM.of (o' := up (up (up o 8 (aP tx (o 7) (o 8) k)) 9 (aP tx (o 7) (o 8) k)) 10 0) (f' := fset (fset f 147 Q1) 145 D1) hM (Sm.tw s_70 hSz2978 (by decide)) hMMz2977.1 (c1_skip (c1_cons (Sm.at hSz2978 (by decide) f70_1) (c1_cons (Sm.at hSz2978 (by decide) f70_2) c1_nil))) (fs_k (fs_c (fs_c fs_n)))) tx hX htx htl (show aP tx (o 7) (o 8) k ≤ o 7 by omega)) (fun rz2990 Mz2991 hz2992 => ?_)
                obtain ⟨hAz2987, hMMz2988, hSz2989⟩ := hz2992
                rw [hAz2987]
                have hgehAz2987 := sk_ge tx (o 7) (aP tx (o 7) (o 8) k)
                have hlehAz2987 := @sk_le tx (o 7) (aP tx (o 7) (o 8) k) (by omega)
                show Zw 3 zm_MO_readAlt 107 [some (.ref 139), some (.int (nI r)), some (.int (nI a)), some (.int (nI (mv tx (o 7) (aP tx (o 7) (o 8) k))))] [.int (nI (mv tx (o 7) (sk tx (o 7) (aP tx (o 7) (o 8) k))))] Mz2991 _
                refine zw_n 3 (ls' := [some (.ref 139), some (.int (nI r)), some (.int (nI a)), some (.int (nI (mv tx (o 7) (sk tx (o 7) (aP tx (o 7) (o 8) k)))))]) rfl ?_
                refine zw_get (v := .int (nI 0)) rfl hMMz2988.1 rfl ?_
                refine zw_eq0N (a := 0) rfl rfl (by omega) (fun c74 => ?_) (fun c74 => ?_)
                · -- 74 to 111
                  refine zw_vret rfl rfl ?_
                  have hK9 := aK_at iz ik (fun q9 => absurd q9 sp97)
                  have hf9 : aF tx (o 7) (o 8) = aP tx (o 7) (o 8) k := aF_5 hK9 (it_stp hit) (by omega)
                  exact ⟨rfl, Sm.tw (Sm.tw s_70 hSz2978 (by decide)) hSz2989 (by decide), Or.inr ⟨by rw [hf9]; unfold NO; omega, sk tx (o 7) (aP tx (o 7) (o 8) k), fset (fset f 147 Q1) 145 D1, by rw [hf9]; exact (MM.of (o' := up (up (up o 8 (sk tx (o 7) (aP tx (o 7) (o 8) k))) 9 (aP tx (o 7) (o 8) k)) 10 0) (f' := fset (fset f 147 Q1) 145 D1) hM (Sm.tw (Sm.tw s_70 hSz2978 (by decide)) hSz2989 (by decide)) hMMz2988.1 (c1_skip (c1_cons (Sm.at hSz2989 (by decide) (Sm.at hSz2978 (by decide) f70_1)) (c1_cons (Sm.at hSz2989 (by decide) (Sm.at hSz2978 (by decide) f70_2)) c1_nil))) (fs_k (fs_c (fs_c fs_n)))), by omega, iBd, Dsame.of (S := [139, 145, 147]) (fs_k (fs_c (fs_c fs_n))) (by decide)⟩⟩
                · -- 74 to 77
                  exfalso
                  exact c74 rfl
            · -- 88 to 91
              refine zw_n 2 rfl ?_
              refine zw_ine rfl (fun c94 => ?_) (fun c94 => ?_)
              · -- 94 to 111
                have hni : ¬ itB_ (hr tx (o 7) (aP tx (o 7) (o 8) k)) := fun q9 => by rcases q9 with q9 | q9 | q9; exact ite_eq0 c81 q9; exact ite_eq0 c88 q9; exact c94 ((mv_eq htx (by decide) (show 39 < 128 by decide)).mpr q9)
                refine zw_vret rfl rfl ?_
                obtain ⟨e1, e2, e3⟩ := al_end iz ik hni hp htl
                exact ⟨rfl, s_70, Or.inl ⟨D1, Q1, by rw [e2]; exact (MM.of (o' := up o 8 (aP tx (o 7) (o 8) k)) (f' := fset (fset f 147 Q1) 145 D1) hM s_70 f70_0 (c1_skip (c1_cons f70_1 (c1_cons f70_2 c1_nil))) (fs_k (fs_c (fs_c fs_n)))), e3, by rw [e1]; exact iM, iBd, iF9, i9r, iQ9⟩⟩
              · -- 94 to 97
                by_cases sp97 : k < 5
                · skip
                  have hit : itB_ (hr tx (o 7) (aP tx (o 7) (o 8) k)) := by first | exact Or.inl (ite_ne c81) | exact Or.inr (Or.inl (ite_ne c88)) | exact Or.inr (Or.inr ((mv_eq htx (by decide) (show 39 < 128 by decide)).mp c94))
                  refine zw_n 3 rfl ?_
                  refine zw_callV (as := [.int (nI r), .int (nI a)]) (rest := []) rfl rfl rfl f70_0 rfl rfl rfl (by decide) (m_readItem M_70 (up o 8 (aP tx (o 7) (o 8) k)) (fset (fset f 147 Q1) 145 D1) (MM.of (o' := up o 8 (aP tx (o 7) (o 8) k)) (f' := fset (fset f 147 Q1) 145 D1) hM s_70 f70_0 (c1_skip (c1_cons f70_1 (c1_cons f70_2 c1_nil))) (fs_k (fs_c (fs_c fs_n)))) tx hX htx htl (show aP tx (o 7) (o 8) k ≤ o 7 by omega) hg (aP_sk _ _ _ _) r a k (by omega) (by omega) iM.1 sp97 iBd) (fun rz3002 Mz3003 hz3004 => ?_)
                  rcases Classical.em (iF tx (o 7) (aP tx (o 7) (o 8) k) = NO) with hz3004a | hz3004b
                  · skip
                    obtain ⟨hAz2993, hBz2994, -⟩ := hz3004
                    obtain ⟨hMMz2995, hSz2996⟩ := hBz2994 hz3004a
                    rw [hAz2993]
                    have hie := iE_b (tx := tx) hab.2 hz3004a htl
                    show Zw 3 zm_MO_readAlt 103 [some (.ref 139), some (.int (nI r)), some (.int (nI a)), some (.int (nI (mv tx (o 7) (aP tx (o 7) (o 8) k))))] [] Mz3003 _
                    refine zw_n 1 rfl ?_
                    refine zw_callV (as := []) (rest := []) rfl rfl rfl hMMz2995.1 rfl rfl rfl (by decide) (m_next Mz3003 (up o 8 (iE tx (o 7) (aP tx (o 7) (o 8) k))) (fset (fset f 147 (up Q1 ((r * 4 + a) * 5 + k) (iQ tx (o 7) (aP tx (o 7) (o 8) k)))) 145 (up (up (up (up D1 ((49 + 3 * ((r * 4 + a) * 5 + k)) + 2) (iB tx (o 7) (aP tx (o 7) (o 8) k))) (49 + 3 * ((r * 4 + a) * 5 + k)) (iV tx (o 7) (aP tx (o 7) (o 8) k))) ((49 + 3 * ((r * 4 + a) * 5 + k)) + 1) (if iN tx (o 7) (aP tx (o 7) (o 8) k) = true then 1 else 0)) (17 + (r * 4 + a)) (k + 1))) (MM.of (o' := up o 8 (iE tx (o 7) (aP tx (o 7) (o 8) k))) (f' := fset (fset f 147 (up Q1 ((r * 4 + a) * 5 + k) (iQ tx (o 7) (aP tx (o 7) (o 8) k)))) 145 (up (up (up (up D1 ((49 + 3 * ((r * 4 + a) * 5 + k)) + 2) (iB tx (o 7) (aP tx (o 7) (o 8) k))) (49 + 3 * ((r * 4 + a) * 5 + k)) (iV tx (o 7) (aP tx (o 7) (o 8) k))) ((49 + 3 * ((r * 4 + a) * 5 + k)) + 1) (if iN tx (o 7) (aP tx (o 7) (o 8) k) = true then 1 else 0)) (17 + (r * 4 + a)) (k + 1))) hM (Sm.trans s_70 hSz2996) hMMz2995.1 (c1_skip (c1_cons (hMMz2995.2 145 (by decide) (by decide)) (c1_cons (hMMz2995.2 147 (by decide) (by decide)) c1_nil))) (fs_k (fs_c (fs_c fs_n)))) tx hX htx htl (show iE tx (o 7) (aP tx (o 7) (o 8) k) ≤ o 7 by omega)) (fun rz3008 Mz3009 hz3010 => ?_)
                    obtain ⟨hAz3005, hMMz3006, hSz3007⟩ := hz3010
                    rw [hAz3005]
                    have hgehAz3005 := sk_ge tx (o 7) (iE tx (o 7) (aP tx (o 7) (o 8) k))
                    have hlehAz3005 := @sk_le tx (o 7) (iE tx (o 7) (aP tx (o 7) (o 8) k)) (by omega)
                    show Zw 3 zm_MO_readAlt 107 [some (.ref 139), some (.int (nI r)), some (.int (nI a)), some (.int (nI (mv tx (o 7) (aP tx (o 7) (o 8) k))))] [.int (nI (mv tx (o 7) (sk tx (o 7) (iE tx (o 7) (aP tx (o 7) (o 8) k)))))] Mz3009 _
                    refine zw_n 2 (ls' := [some (.ref 139), some (.int (nI r)), some (.int (nI a)), some (.int (nI (mv tx (o 7) (sk tx (o 7) (iE tx (o 7) (aP tx (o 7) (o 8) k))))))]) rfl ?_
                    exact ih70 (k + 1) (up (up (up (up D1 ((49 + 3 * ((r * 4 + a) * 5 + k)) + 2) (iB tx (o 7) (aP tx (o 7) (o 8) k))) (49 + 3 * ((r * 4 + a) * 5 + k)) (iV tx (o 7) (aP tx (o 7) (o 8) k))) ((49 + 3 * ((r * 4 + a) * 5 + k)) + 1) (if iN tx (o 7) (aP tx (o 7) (o 8) k) = true then 1 else 0)) (17 + (r * 4 + a)) (k + 1)) (up Q1 ((r * 4 + a) * 5 + k) (iQ tx (o 7) (aP tx (o 7) (o 8) k))) Mz3009 (Sm.tw (Sm.trans s_70 hSz2996) hSz3007 (by decide)) hMMz3006.1 (Sm.at hSz3007 (by decide) (hMMz2995.2 145 (by decide) (by decide))) (Sm.at hSz3007 (by decide) (hMMz2995.2 147 (by decide) (by decide))) (⟨by omega, rt_step iz (aZ_no (it_stp hit) hz3004a), iM.step (by omega), it_bnd iBd sp97 (iV_lt hab.2 htl hz3004a) iB_lt, fun q q1 q2 => (it_out sp97 q1).trans (iF9 q q1 q2), by rw [up_n (by omega), up_n (by omega), up_n (by omega), up_n (by omega)]; exact i9r, fun q q1 => (up_n (by omega)).trans (iQ9 q q1)⟩) (by omega)
                  · skip
                    obtain ⟨hAz2993, -, hBz2994⟩ := hz3004
                    obtain ⟨Pz2997, fz2998, hMMz2995, hpz2999, hbz3000, hdz3001, hSz2996⟩ := hBz2994 hz3004b
                    rw [hAz2993]
                    have hp8 : Pz2997 ≤ o 7 := hpz2999
                    show Zw 3 zm_MO_readAlt 103 [some (.ref 139), some (.int (nI r)), some (.int (nI a)), some (.int (nI (mv tx (o 7) (aP tx (o 7) (o 8) k))))] [] Mz3003 _
                    refine zw_n 1 rfl ?_
                    refine zw_callV (as := []) (rest := []) rfl rfl rfl hMMz2995.1 rfl rfl rfl (by decide) (m_next Mz3003 (up (up (up o 8 Pz2997) 9 (iF tx (o 7) (aP tx (o 7) (o 8) k))) 10 0) (fset (fset f 147 (fz2998 147)) 145 (fz2998 145)) (MM.of (o' := up (up (up o 8 Pz2997) 9 (iF tx (o 7) (aP tx (o 7) (o 8) k))) 10 0) (f' := fset (fset f 147 (fz2998 147)) 145 (fz2998 145)) hM (Sm.trans s_70 hSz2996) hMMz2995.1 (c1_skip (c1_cons (hMMz2995.2 145 (by decide) (by decide)) (c1_cons (hMMz2995.2 147 (by decide) (by decide)) c1_nil))) (fs_k (fs_c (fs_c fs_n)))) tx hX htx htl (show Pz2997 ≤ o 7 by omega)) (fun rz3014 Mz3015 hz3016 => ?_)
                    obtain ⟨hAz3011, hMMz3012, hSz3013⟩ := hz3016
                    rw [hAz3011]
                    have hgehAz3011 := sk_ge tx (o 7) Pz2997
                    have hlehAz3011 := @sk_le tx (o 7) Pz2997 (by omega)
                    show Zw 3 zm_MO_readAlt 107 [some (.ref 139), some (.int (nI r)), some (.int (nI a)), some (.int (nI (mv tx (o 7) (aP tx (o 7) (o 8) k))))] [.int (nI (mv tx (o 7) (sk tx (o 7) Pz2997)))] Mz3015 _
                    refine zw_n 3 (ls' := [some (.ref 139), some (.int (nI r)), some (.int (nI a)), some (.int (nI (mv tx (o 7) (sk tx (o 7) Pz2997))))]) rfl ?_
                    refine zw_get (v := .int (nI 0)) rfl hMMz3012.1 rfl ?_
                    refine zw_eq0N (a := 0) rfl rfl (by omega) (fun c74 => ?_) (fun c74 => ?_)
                    · -- 74 to 111
                      refine zw_vret rfl rfl ?_
                      have hK9 := aK_at iz ik (fun _ => aZ_it hz3004b)
                      have hf9 : aF tx (o 7) (o 8) = iF tx (o 7) (aP tx (o 7) (o 8) k) := aF_i hK9 (it_stp hit) sp97
                      exact ⟨rfl, Sm.tw (Sm.trans s_70 hSz2996) hSz3013 (by decide), Or.inr ⟨by rw [hf9]; exact hz3004b, sk tx (o 7) Pz2997, fset (fset f 147 (fz2998 147)) 145 (fz2998 145), by rw [hf9]; exact (MM.of (o' := up (up (up o 8 (sk tx (o 7) Pz2997)) 9 (iF tx (o 7) (aP tx (o 7) (o 8) k))) 10 0) (f' := fset (fset f 147 (fz2998 147)) 145 (fz2998 145)) hM (Sm.tw (Sm.trans s_70 hSz2996) hSz3013 (by decide)) hMMz3012.1 (c1_skip (c1_cons (Sm.at hSz3013 (by decide) (hMMz2995.2 145 (by decide) (by decide))) (c1_cons (Sm.at hSz3013 (by decide) (hMMz2995.2 147 (by decide) (by decide))) c1_nil))) (fs_k (fs_c (fs_c fs_n)))), by omega, hbz3000, Dsame.of (S := [139, 145, 147]) (fs_k (fs_c (fs_c fs_n))) (by decide)⟩⟩
                    · -- 74 to 77
                      exfalso
                      exact c74 rfl
                · skip
                  have hit : itB_ (hr tx (o 7) (aP tx (o 7) (o 8) k)) := by first | exact Or.inl (ite_ne c81) | exact Or.inr (Or.inl (ite_ne c88)) | exact Or.inr (Or.inr ((mv_eq htx (by decide) (show 39 < 128 by decide)).mp c94))
                  refine zw_n 3 rfl ?_
                  refine zw_callV (as := [.int (nI r), .int (nI a)]) (rest := []) rfl rfl rfl f70_0 rfl rfl rfl (by decide) (m_readItem5 M_70 (up o 8 (aP tx (o 7) (o 8) k)) (fset (fset f 147 Q1) 145 D1) (MM.of (o' := up o 8 (aP tx (o 7) (o 8) k)) (f' := fset (fset f 147 Q1) 145 D1) hM s_70 f70_0 (c1_skip (c1_cons f70_1 (c1_cons f70_2 c1_nil))) (fs_k (fs_c (fs_c fs_n)))) tx hX htx htl (show aP tx (o 7) (o 8) k ≤ o 7 by omega) hg (aP_sk _ _ _ _) r a k (by omega) (by omega) iM.1 (by omega)) (fun rz3026 Mz3027 hz3028 => ?_)
                  obtain ⟨hAz3017, hMMz3019, hSz3020⟩ := hz3028
                  rw [hAz3017]
                  show Zw 3 zm_MO_readAlt 103 [some (.ref 139), some (.int (nI r)), some (.int (nI a)), some (.int (nI (mv tx (o 7) (aP tx (o 7) (o 8) k))))] [] Mz3027 _
                  refine zw_n 1 rfl ?_
                  refine zw_callV (as := []) (rest := []) rfl rfl rfl hMMz3019.1 rfl rfl rfl (by decide) (m_next Mz3027 (up (up (up o 8 (aP tx (o 7) (o 8) k)) 9 (aP tx (o 7) (o 8) k)) 10 0) (fset (fset f 147 Q1) 145 D1) (MM.of (o' := up (up (up o 8 (aP tx (o 7) (o 8) k)) 9 (aP tx (o 7) (o 8) k)) 10 0) (f' := fset (fset f 147 Q1) 145 D1) hM (Sm.tw s_70 hSz3020 (by decide)) hMMz3019.1 (c1_skip (c1_cons (Sm.at hSz3020 (by decide) f70_1) (c1_cons (Sm.at hSz3020 (by decide) f70_2) c1_nil))) (fs_k (fs_c (fs_c fs_n)))) tx hX htx htl (show aP tx (o 7) (o 8) k ≤ o 7 by omega)) (fun rz3032 Mz3033 hz3034 => ?_)
                  obtain ⟨hAz3029, hMMz3030, hSz3031⟩ := hz3034
                  rw [hAz3029]
                  have hgehAz3029 := sk_ge tx (o 7) (aP tx (o 7) (o 8) k)
                  have hlehAz3029 := @sk_le tx (o 7) (aP tx (o 7) (o 8) k) (by omega)
                  show Zw 3 zm_MO_readAlt 107 [some (.ref 139), some (.int (nI r)), some (.int (nI a)), some (.int (nI (mv tx (o 7) (aP tx (o 7) (o 8) k))))] [.int (nI (mv tx (o 7) (sk tx (o 7) (aP tx (o 7) (o 8) k))))] Mz3033 _
                  refine zw_n 3 (ls' := [some (.ref 139), some (.int (nI r)), some (.int (nI a)), some (.int (nI (mv tx (o 7) (sk tx (o 7) (aP tx (o 7) (o 8) k)))))]) rfl ?_
                  refine zw_get (v := .int (nI 0)) rfl hMMz3030.1 rfl ?_
                  refine zw_eq0N (a := 0) rfl rfl (by omega) (fun c74 => ?_) (fun c74 => ?_)
                  · -- 74 to 111
                    refine zw_vret rfl rfl ?_
                    have hK9 := aK_at iz ik (fun q9 => absurd q9 sp97)
                    have hf9 : aF tx (o 7) (o 8) = aP tx (o 7) (o 8) k := aF_5 hK9 (it_stp hit) (by omega)
                    exact ⟨rfl, Sm.tw (Sm.tw s_70 hSz3020 (by decide)) hSz3031 (by decide), Or.inr ⟨by rw [hf9]; unfold NO; omega, sk tx (o 7) (aP tx (o 7) (o 8) k), fset (fset f 147 Q1) 145 D1, by rw [hf9]; exact (MM.of (o' := up (up (up o 8 (sk tx (o 7) (aP tx (o 7) (o 8) k))) 9 (aP tx (o 7) (o 8) k)) 10 0) (f' := fset (fset f 147 Q1) 145 D1) hM (Sm.tw (Sm.tw s_70 hSz3020 (by decide)) hSz3031 (by decide)) hMMz3030.1 (c1_skip (c1_cons (Sm.at hSz3031 (by decide) (Sm.at hSz3020 (by decide) f70_1)) (c1_cons (Sm.at hSz3031 (by decide) (Sm.at hSz3020 (by decide) f70_2)) c1_nil))) (fs_k (fs_c (fs_c fs_n)))), by omega, iBd, Dsame.of (S := [139, 145, 147]) (fs_k (fs_c (fs_c fs_n))) (by decide)⟩⟩
                  · -- 74 to 77
                    exfalso
                    exact c74 rfl
    exact lp70 _ 0 (up (up (f 145) (9 + r) (a + 1)) (17 + (r * 4 + a)) 0) (f 147) Mz2897 sz2902 hMMz2894.1 mz2899 mz2901 (⟨Nat.zero_le _, fun j hj => absurd hj (Nat.not_lt_zero _), ⟨up_s .., fun j hj => absurd hj (Nat.not_lt_zero _)⟩, up_lt (up_lt hb0 (by omega)) (by decide), fun q q1 q2 => by unfold aR_ at q1; rw [up_n (by omega), up_n q2], by rw [up_n (by omega), up_s], fun _ _ => rfl⟩) (Nat.lt_succ_self _)
  · -- 10 to 13
    exfalso
    omega
