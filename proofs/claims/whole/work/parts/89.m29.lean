set_option maxHeartbeats 4000000 in
set_option maxRecDepth 100000 in
theorem m_readItem5 (Mq : zM) (o : Nat → Nat) (f : Nat → Nat → Nat) (hM : MM Mq o f) (tx : Nat → Nat) (hX : ∀ q, q < o 7 → f 144 q = byv (tx q)) (htx : ∀ q, tx q < 256) (htl : o 7 ≤ 240) (hp : o 8 ≤ o 7) (hg : o 10 = 1) (hsk : sk tx (o 7) (o 8) = o 8) (r a k : Nat) (h_r : r < 8) (ha : a < 4) (hk : f 145 (17 + (r * 4 + a)) = k) (h5 : k = 5) : Zm 2 zm_MO_readItem [.ref 139, .int (nI r), .int (nI a)] Mq (fun r9 M1 => r9 = none ∧ MM M1 (up (up o 9 (o 8)) 10 0) f ∧ Sm Mq M1 [139]) := by
  show Zw 2 zm_MO_readItem 0 [some (.ref 139), some (.int (nI r)), some (.int (nI a)), none, none, none, none] [] Mq _
  refine zw_n 2 rfl ?_
  refine zw_callS (as := [.int (nI r), .int (nI a)]) (rest := []) rfl rfl rfl rfl rfl rfl (by decide) (m_altAt _ r a) (fun rz2735 Mz2736 hz2737 => ?_)
  rw [hz2737.1, hz2737.2]
  show Zw 2 zm_MO_readItem 5 [some (.ref 139), some (.int (nI r)), some (.int (nI a)), none, none, none, none] [.int (nI (r * 4 + a))] Mq _
  refine zw_n 2 (ls' := [some (.ref 139), some (.int (nI r)), some (.int (nI a)), some (.int (nI (r * 4 + a))), none, none, none]) rfl ?_
  refine zw_get (v := .ref 145) rfl hM.1 rfl ?_
  refine zw_n 3 rfl ?_
  refine zw_top (na (a := 17) (b := r * 4 + a) rfl rfl) ?_
  refine zw_iald (f := ai (f 145)) (j := (17 + (r * 4 + a))) rfl (hM.2 145 (by decide) (by decide)) rfl (by decide) (by omega) ?_
  refine zw_top (x' := (nI k)) (congrArg nI hk) ?_
  refine zw_n 1 rfl ?_
  refine zw_ineN (a := k) (b := 5) rfl rfl rfl (by omega) (by omega) (fun c16 => ?_) (fun c16 => ?_)
  · -- 16 to 24
    exfalso
    omega
  · -- 16 to 19
    refine zw_n 1 rfl ?_
    refine zw_callV (as := []) (rest := []) rfl rfl rfl hM.1 rfl rfl rfl (by decide) (m_wrong Mq o f hM hg) (fun rz2741 Mz2742 hz2743 => ?_)
    obtain ⟨hAz2738, hMMz2739, hSz2740⟩ := hz2743
    rw [hAz2738]
    show Zw 2 zm_MO_readItem 23 [some (.ref 139), some (.int (nI r)), some (.int (nI a)), some (.int (nI (r * 4 + a))), none, none, none] [] Mz2742 _
    exact zw_vret rfl rfl (⟨rfl, (MM.of (o' := up (up o 9 (o 8)) 10 0) (f' := f) hM (Sm.trans Sm.rf hSz2740) hMMz2739.1 (c1_skip c1_nil) (fs_k fs_n)), Sm.trans Sm.rf hSz2740⟩)

set_option maxHeartbeats 4000000 in
set_option maxRecDepth 100000 in
theorem m_readItem (Mq : zM) (o : Nat → Nat) (f : Nat → Nat → Nat) (hM : MM Mq o f) (tx : Nat → Nat) (hX : ∀ q, q < o 7 → f 144 q = byv (tx q)) (htx : ∀ q, tx q < 256) (htl : o 7 ≤ 240) (hp : o 8 ≤ o 7) (hg : o 10 = 1) (hsk : sk tx (o 7) (o 8) = o 8) (r a k : Nat) (h_r : r < 8) (ha : a < 4) (hk : f 145 (17 + (r * 4 + a)) = k) (h5 : k < 5) (hb0 : ∀ q, f 145 q < 2147483648) : Zm 2 zm_MO_readItem [.ref 139, .int (nI r), .int (nI a)] Mq (fun r9 M1 => r9 = none ∧ (iF tx (o 7) (o 8) = NO → MM M1 (up o 8 (iE tx (o 7) (o 8))) (fset (fset f 147 (up (f 147) ((r * 4 + a) * 5 + k) (iQ tx (o 7) (o 8)))) 145 (up (up (up (up (f 145) ((49 + 3 * ((r * 4 + a) * 5 + k)) + 2) (iB tx (o 7) (o 8))) (49 + 3 * ((r * 4 + a) * 5 + k)) (iV tx (o 7) (o 8))) ((49 + 3 * ((r * 4 + a) * 5 + k)) + 1) (if iN tx (o 7) (o 8) = true then 1 else 0)) (17 + (r * 4 + a)) (k + 1))) ∧ Sm Mq M1 [139, 145, 147]) ∧ (iF tx (o 7) (o 8) ≠ NO → ∃ P9 f9, MM M1 (up (up (up o 8 P9) 9 (iF tx (o 7) (o 8))) 10 0) f9 ∧ P9 ≤ o 7 ∧ (∀ q, f9 145 q < 2147483648) ∧ Dsame f f9 ∧ Sm Mq M1 [139, 145, 147])) := by
  show Zw 2 zm_MO_readItem 0 [some (.ref 139), some (.int (nI r)), some (.int (nI a)), none, none, none, none] [] Mq _
  refine zw_n 2 rfl ?_
  refine zw_callS (as := [.int (nI r), .int (nI a)]) (rest := []) rfl rfl rfl rfl rfl rfl (by decide) (m_altAt _ r a) (fun rz2744 Mz2745 hz2746 => ?_)
  rw [hz2746.1, hz2746.2]
  show Zw 2 zm_MO_readItem 5 [some (.ref 139), some (.int (nI r)), some (.int (nI a)), none, none, none, none] [.int (nI (r * 4 + a))] Mq _
  refine zw_n 2 (ls' := [some (.ref 139), some (.int (nI r)), some (.int (nI a)), some (.int (nI (r * 4 + a))), none, none, none]) rfl ?_
  refine zw_get (v := .ref 145) rfl hM.1 rfl ?_
  refine zw_n 3 rfl ?_
  refine zw_top (na (a := 17) (b := r * 4 + a) rfl rfl) ?_
  refine zw_iald (f := ai (f 145)) (j := (17 + (r * 4 + a))) rfl (hM.2 145 (by decide) (by decide)) rfl (by decide) (by omega) ?_
  refine zw_top (x' := (nI k)) (congrArg nI hk) ?_
  refine zw_n 1 rfl ?_
  refine zw_ineN (a := k) (b := 5) rfl rfl rfl (by omega) (by omega) (fun c16 => ?_) (fun c16 => ?_)
  · -- 16 to 24
    refine zw_n 3 rfl ?_
    refine zw_get (v := .ref 145) rfl hM.1 rfl ?_
    refine zw_n 3 rfl ?_
    refine zw_top (na (a := 17) (b := r * 4 + a) rfl rfl) ?_
    refine zw_iald (f := ai (f 145)) (j := (17 + (r * 4 + a))) rfl (hM.2 145 (by decide) (by decide)) rfl (by decide) (by omega) ?_
    refine zw_top (x' := (nI k)) (congrArg nI hk) ?_
    refine zw_callS (as := [.int (nI r), .int (nI a), .int (nI k)]) (rest := []) rfl rfl rfl rfl rfl rfl (by decide) (m_itemAt _ r a k) (fun rz2747 Mz2748 hz2749 => ?_)
    rw [hz2749.1, hz2749.2]
    show Zw 2 zm_MO_readItem 38 [some (.ref 139), some (.int (nI r)), some (.int (nI a)), some (.int (nI (r * 4 + a))), none, none, none] [.int (nI (49 + 3 * ((r * 4 + a) * 5 + k)))] Mq _
    refine zw_n 2 (ls' := [some (.ref 139), some (.int (nI r)), some (.int (nI a)), some (.int (nI (r * 4 + a))), some (.int (nI (49 + 3 * ((r * 4 + a) * 5 + k)))), none, none]) rfl ?_
    refine zw_callV (as := []) (rest := []) rfl rfl rfl hM.1 rfl rfl rfl (by decide) (m_next Mq o f hM tx hX htx htl (show o 8 ≤ o 7 by omega)) (fun rz2753 Mz2754 hz2755 => ?_)
    obtain ⟨hAz2750, hMMz2751, hSz2752⟩ := hz2755
    rw [hAz2750]
    have hgehAz2750 := sk_ge tx (o 7) (o 8)
    have hlehAz2750 := @sk_le tx (o 7) (o 8) (by omega)
    show Zw 2 zm_MO_readItem 44 [some (.ref 139), some (.int (nI r)), some (.int (nI a)), some (.int (nI (r * 4 + a))), some (.int (nI (49 + 3 * ((r * 4 + a) * 5 + k)))), none, none] [.int (nI (mv tx (o 7) (sk tx (o 7) (o 8))))] Mz2754 _
    have mz2756 : Mz2754[139]? = some (.inr (12, [.int (nI (o 0)), .ref 140, .ref 141, .ref 142, .ref 143, .int (nI (o 5)), .ref 144, .int (nI (o 7)), .int (nI (sk tx (o 7) (o 8))), .int (nI (o 9)), .int (nI (o 10)), .ref 145, .ref 146, .ref 147, .ref 148, .ref 149, .ref 150, .ref 151, .ref 152, .ref 153, .ref 154, .ref 155, .ref 156, .ref 157, .ref 158, .ref 159, .ref 160, .ref 161, .ref 162, .ref 163, .ref 164, .int (nI (o 31)), .ref 165, .int (nI (o 33)), .ref 166, .ref 167, .ref 168, .ref 169, .int (nI (o 38)), .ref 170, .ref 171, .ref 172, .ref 173, .ref 174, .ref 175, .int (nI (o 45)), .int (nI (o 46)), .int (nI (o 47)), .long (lN (o 48)), .ref 176])) := hMMz2751.1
    rw [hsk] at mz2756
    rw [hsk]
    refine zw_n 2 (ls' := [some (.ref 139), some (.int (nI r)), some (.int (nI a)), some (.int (nI (r * 4 + a))), some (.int (nI (49 + 3 * ((r * 4 + a) * 5 + k)))), some (.int (nI (mv tx (o 7) (o 8)))), none]) rfl ?_
    refine zw_get (v := .ref 145) rfl mz2756 rfl ?_
    refine zw_n 3 rfl ?_
    refine zw_top (na (a := 49 + 3 * ((r * 4 + a) * 5 + k)) (b := 2) rfl rfl) ?_
    refine zw_n 1 rfl ?_
    refine zw_callS (as := [.int (nI (mv tx (o 7) (o 8)))]) (rest := [.int (nI ((49 + 3 * ((r * 4 + a) * 5 + k)) + 2)), .ref 145]) rfl rfl rfl rfl rfl rfl (by decide) (m_isBond _ (o 8) (o 7) tx htx) (fun rz2757 Mz2758 hz2759 => ?_)
    rw [hz2759.1, hz2759.2]
    show Zw 2 zm_MO_readItem 59 [some (.ref 139), some (.int (nI r)), some (.int (nI a)), some (.int (nI (r * 4 + a))), some (.int (nI (49 + 3 * ((r * 4 + a) * 5 + k)))), some (.int (nI (mv tx (o 7) (o 8)))), none] [.int (nI (if bnB (hr tx (o 7) (o 8)) = true then 1 else 0)), .int (nI ((49 + 3 * ((r * 4 + a) * 5 + k)) + 2)), .ref 145] Mz2754 _
    refine zw_eq0N (a := if bnB (hr tx (o 7) (o 8)) = true then 1 else 0) rfl rfl (ite_b) (fun c59 => ?_) (fun c59 => ?_)
    · -- 59 to 67
      refine zw_n 1 rfl ?_
      refine zw_iastN (g := (f 145)) (j := ((49 + 3 * ((r * 4 + a) * 5 + k)) + 2)) (v := 0) rfl (Sm.at hSz2752 (by decide) (hM.2 145 (by decide) (by decide))) rfl (by decide) (by omega) (rfl) ?_
      generalize ez2761 : List.set Mz2754 145 _ = Mz2760
      refine zw_n 2 rfl ?_
      refine zw_get (v := .int (nI (o 8))) rfl (zat_set ez2761 (by decide) mz2756) rfl ?_
      refine zw_n 1 rfl ?_
      refine zw_callS (as := [.int (nI (mv tx (o 7) (o 8)))]) (rest := [.int (nI (o 8)), .ref 139]) rfl rfl rfl rfl rfl rfl (by decide) (m_isBond _ (o 8) (o 7) tx htx) (fun rz2762 Mz2763 hz2764 => ?_)
      rw [hz2764.1, hz2764.2]
      show Zw 2 zm_MO_readItem 79 [some (.ref 139), some (.int (nI r)), some (.int (nI a)), some (.int (nI (r * 4 + a))), some (.int (nI (49 + 3 * ((r * 4 + a) * 5 + k)))), some (.int (nI (mv tx (o 7) (o 8)))), none] [.int (nI (if bnB (hr tx (o 7) (o 8)) = true then 1 else 0)), .int (nI (o 8)), .ref 139] Mz2760 _
      refine zw_eq0N (a := if bnB (hr tx (o 7) (o 8)) = true then 1 else 0) rfl rfl (ite_b) (fun c79 => ?_) (fun c79 => ?_)
      · -- 79 to 86
        refine zw_n 2 rfl ?_
        refine zw_top (na (a := o 8) (b := 0) rfl rfl) ?_
        refine zw_put rfl (zat_set ez2761 (by decide) mz2756) (rfl) (Nat.le_of_ble_eq_true rfl) ?_
        generalize ez2766 : List.set Mz2760 139 _ = Mz2765
        refine zw_n 1 rfl ?_
        refine zw_callV (as := []) (rest := []) rfl rfl rfl (zat_self ez2766 (zat_set ez2761 (by decide) mz2756)) rfl rfl rfl (by decide) (m_next Mz2765 (up o 8 ((o 8) + 0)) (fset f 145 (up (f 145) ((49 + 3 * ((r * 4 + a) * 5 + k)) + 2) 0)) (MM.of (o' := up o 8 ((o 8) + 0)) (f' := fset f 145 (up (f 145) ((49 + 3 * ((r * 4 + a) * 5 + k)) + 2) 0)) hM (Sm.tset (Sm.tset (Sm.tw Sm.rf hSz2752 (by decide)) ez2761 (by decide)) ez2766 (by decide)) (zat_self ez2766 (zat_set ez2761 (by decide) mz2756)) (c1_skip (c1_cons (zat_set ez2766 (by decide) (zat_self ez2761 (Sm.at hSz2752 (by decide) (hM.2 145 (by decide) (by decide))))) (c1_cons (zat_set ez2766 (by decide) (zat_set ez2761 (by decide) (Sm.at hSz2752 (by decide) (hM.2 147 (by decide) (by decide))))) c1_nil))) (fs_k (fs_c (fs_k fs_n)))) tx hX htx htl (show (o 8) + 0 ≤ o 7 by omega)) (fun rz2770 Mz2771 hz2772 => ?_)
        obtain ⟨hAz2767, hMMz2768, hSz2769⟩ := hz2772
        rw [hAz2767]
        have hgehAz2767 := sk_ge tx (o 7) ((o 8) + 0)
        have hlehAz2767 := @sk_le tx (o 7) ((o 8) + 0) (by omega)
        show Zw 2 zm_MO_readItem 95 [some (.ref 139), some (.int (nI r)), some (.int (nI a)), some (.int (nI (r * 4 + a))), some (.int (nI (49 + 3 * ((r * 4 + a) * 5 + k)))), some (.int (nI (mv tx (o 7) (o 8)))), none] [.int (nI (mv tx (o 7) (sk tx (o 7) ((o 8) + 0))))] Mz2771 _
        have hQ : sk tx (o 7) (o 8 + 0) = iQ tx (o 7) (o 8) := by unfold iQ; rw [if_neg (ite_eq0 c59)]; exact hsk
        have mz2773 : Mz2771[139]? = some (.inr (12, [.int (nI (o 0)), .ref 140, .ref 141, .ref 142, .ref 143, .int (nI (o 5)), .ref 144, .int (nI (o 7)), .int (nI (sk tx (o 7) ((o 8) + 0))), .int (nI (o 9)), .int (nI (o 10)), .ref 145, .ref 146, .ref 147, .ref 148, .ref 149, .ref 150, .ref 151, .ref 152, .ref 153, .ref 154, .ref 155, .ref 156, .ref 157, .ref 158, .ref 159, .ref 160, .ref 161, .ref 162, .ref 163, .ref 164, .int (nI (o 31)), .ref 165, .int (nI (o 33)), .ref 166, .ref 167, .ref 168, .ref 169, .int (nI (o 38)), .ref 170, .ref 171, .ref 172, .ref 173, .ref 174, .ref 175, .int (nI (o 45)), .int (nI (o 46)), .int (nI (o 47)), .long (lN (o 48)), .ref 176])) := hMMz2768.1
        rw [hQ] at mz2773
        rw [hQ]
        refine zw_n 2 (ls' := [some (.ref 139), some (.int (nI r)), some (.int (nI a)), some (.int (nI (r * 4 + a))), some (.int (nI (49 + 3 * ((r * 4 + a) * 5 + k)))), some (.int (nI (mv tx (o 7) (iQ tx (o 7) (o 8))))), none]) rfl ?_
        refine zw_callS (as := [.int (nI (mv tx (o 7) (iQ tx (o 7) (o 8))))]) (rest := []) rfl rfl rfl rfl rfl rfl (by decide) (m_isName _ (iQ tx (o 7) (o 8)) (o 7) tx htx) (fun rz2774 Mz2775 hz2776 => ?_)
        rw [hz2776.1, hz2776.2]
        show Zw 2 zm_MO_readItem 102 [some (.ref 139), some (.int (nI r)), some (.int (nI a)), some (.int (nI (r * 4 + a))), some (.int (nI (49 + 3 * ((r * 4 + a) * 5 + k)))), some (.int (nI (mv tx (o 7) (iQ tx (o 7) (o 8))))), none] [.int (nI (if nmB (hr tx (o 7) (iQ tx (o 7) (o 8))) = true then 1 else 0))] Mz2771 _
        refine zw_n 2 (ls' := [some (.ref 139), some (.int (nI r)), some (.int (nI a)), some (.int (nI (r * 4 + a))), some (.int (nI (49 + 3 * ((r * 4 + a) * 5 + k)))), some (.int (nI (mv tx (o 7) (iQ tx (o 7) (o 8))))), some (.int (nI (if nmB (hr tx (o 7) (iQ tx (o 7) (o 8))) = true then 1 else 0)))]) rfl ?_
        refine zw_ne0N (a := if nmB (hr tx (o 7) (iQ tx (o 7) (o 8))) = true then 1 else 0) rfl rfl (ite_b) (fun c106 => ?_) (fun c106 => ?_)
        · -- 106 to 121
          have h39 := nm_in (ite_ne c106)
          refine zw_n 1 rfl ?_
          refine zw_get (v := .ref 147) rfl mz2773 rfl ?_
          refine zw_n 3 rfl ?_
          refine zw_top (ns (a := 49 + 3 * ((r * 4 + a) * 5 + k)) (b := 49) rfl rfl (by omega)) ?_
          refine zw_n 2 rfl ?_
          refine zw_top (x' := (nI ((r * 4 + a) * 5 + k))) ((ndiv (a := 49 + 3 * ((r * 4 + a) * 5 + k) - 49) (b := 3) rfl rfl (by omega) (by decide) (by decide)).trans (congrArg nI (by omega))) ?_
          refine zw_n 1 rfl ?_
          refine zw_get (v := .int (nI (iQ tx (o 7) (o 8)))) rfl mz2773 rfl ?_
          refine zw_iastN (g := (f 147)) (j := ((r * 4 + a) * 5 + k)) (v := (iQ tx (o 7) (o 8))) rfl (Sm.at hSz2769 (by decide) (zat_set ez2766 (by decide) (zat_set ez2761 (by decide) (Sm.at hSz2752 (by decide) (hM.2 147 (by decide) (by decide)))))) rfl (by decide) (by omega) (rfl) ?_
          generalize ez2778 : List.set Mz2771 147 _ = Mz2777
          refine zw_n 2 rfl ?_
          refine zw_get (v := .int (nI (iQ tx (o 7) (o 8)))) rfl (zat_set ez2778 (by decide) mz2773) rfl ?_
          refine zw_n 2 rfl ?_
          refine zw_top (na (a := iQ tx (o 7) (o 8)) (b := 1) rfl rfl) ?_
          refine zw_put rfl (zat_set ez2778 (by decide) mz2773) (rfl) (Nat.le_of_ble_eq_true rfl) ?_
          generalize ez2780 : List.set Mz2777 139 _ = Mz2779
          refine zw_n 1 rfl ?_
          refine zw_ne0N (a := if nmB (hr tx (o 7) (iQ tx (o 7) (o 8))) = true then 1 else 0) rfl rfl (ite_b) (fun c149 => ?_) (fun c149 => ?_)
          · -- 149 to 201
            refine zw_n 1 rfl ?_
            refine zw_get (v := .ref 145) rfl (zat_self ez2780 (zat_set ez2778 (by decide) mz2773)) rfl ?_
            refine zw_n 2 rfl ?_
            refine zw_iastN (g := (up (f 145) ((49 + 3 * ((r * 4 + a) * 5 + k)) + 2) 0)) (j := (49 + 3 * ((r * 4 + a) * 5 + k))) (v := (hr tx (o 7) (iQ tx (o 7) (o 8)))) rfl (zat_set ez2780 (by decide) (zat_set ez2778 (by decide) (Sm.at hSz2769 (by decide) (zat_set ez2766 (by decide) (zat_self ez2761 (Sm.at hSz2752 (by decide) (hM.2 145 (by decide) (by decide)))))))) rfl (by decide) (by omega) (congrArg nI (mv_val (by have := nm_lt (ite_ne c106); omega))) ?_
            generalize ez2782 : List.set Mz2779 145 _ = Mz2781
            refine zw_n 1 rfl ?_
            refine zw_get (v := .ref 145) rfl (zat_set ez2782 (by decide) (zat_self ez2780 (zat_set ez2778 (by decide) mz2773))) rfl ?_
            refine zw_n 3 rfl ?_
            refine zw_top (na (a := 49 + 3 * ((r * 4 + a) * 5 + k)) (b := 1) rfl rfl) ?_
            refine zw_n 1 rfl ?_
            refine zw_eq0N (a := if nmB (hr tx (o 7) (iQ tx (o 7) (o 8))) = true then 1 else 0) rfl rfl (ite_b) (fun c220 => ?_) (fun c220 => ?_)
            · -- 220 to 227
              exfalso
              exact c106 c220
            · -- 220 to 223
              refine zw_n 2 rfl ?_
              refine zw_iastN (g := (up (up (f 145) ((49 + 3 * ((r * 4 + a) * 5 + k)) + 2) 0) (49 + 3 * ((r * 4 + a) * 5 + k)) (hr tx (o 7) (iQ tx (o 7) (o 8))))) (j := ((49 + 3 * ((r * 4 + a) * 5 + k)) + 1)) (v := 1) rfl (zat_self ez2782 (zat_set ez2780 (by decide) (zat_set ez2778 (by decide) (Sm.at hSz2769 (by decide) (zat_set ez2766 (by decide) (zat_self ez2761 (Sm.at hSz2752 (by decide) (hM.2 145 (by decide) (by decide))))))))) rfl (by decide) (by omega) (rfl) ?_
              generalize ez2784 : List.set Mz2781 145 _ = Mz2783
              refine zw_n 1 rfl ?_
              refine zw_get (v := .ref 145) rfl (zat_set ez2784 (by decide) (zat_set ez2782 (by decide) (zat_self ez2780 (zat_set ez2778 (by decide) mz2773)))) rfl ?_
              refine zw_n 3 rfl ?_
              refine zw_top (na (a := 17) (b := r * 4 + a) rfl rfl) ?_
              refine zw_n 1 rfl ?_
              refine zw_iald (f := ai (up (up (up (f 145) ((49 + 3 * ((r * 4 + a) * 5 + k)) + 2) 0) (49 + 3 * ((r * 4 + a) * 5 + k)) (hr tx (o 7) (iQ tx (o 7) (o 8)))) ((49 + 3 * ((r * 4 + a) * 5 + k)) + 1) 1)) (j := (17 + (r * 4 + a))) rfl (zat_self ez2784 (zat_self ez2782 (zat_set ez2780 (by decide) (zat_set ez2778 (by decide) (Sm.at hSz2769 (by decide) (zat_set ez2766 (by decide) (zat_self ez2761 (Sm.at hSz2752 (by decide) (hM.2 145 (by decide) (by decide)))))))))) rfl (by decide) (by omega) ?_
              refine zw_top (x' := (nI k)) (congrArg nI ((up_n (by omega)).trans ((up_n (by omega)).trans ((up_n (by omega)).trans (hk))))) ?_
              refine zw_n 2 rfl ?_
              refine zw_top (na (a := k) (b := 1) rfl rfl) ?_
              refine zw_iastN (g := (up (up (up (f 145) ((49 + 3 * ((r * 4 + a) * 5 + k)) + 2) 0) (49 + 3 * ((r * 4 + a) * 5 + k)) (hr tx (o 7) (iQ tx (o 7) (o 8)))) ((49 + 3 * ((r * 4 + a) * 5 + k)) + 1) 1)) (j := (17 + (r * 4 + a))) (v := (k + 1)) rfl (zat_self ez2784 (zat_self ez2782 (zat_set ez2780 (by decide) (zat_set ez2778 (by decide) (Sm.at hSz2769 (by decide) (zat_set ez2766 (by decide) (zat_self ez2761 (Sm.at hSz2752 (by decide) (hM.2 145 (by decide) (by decide)))))))))) rfl (by decide) (by omega) (rfl) ?_
              generalize ez2786 : List.set Mz2783 145 _ = Mz2785
              refine zw_vret rfl rfl ?_
              have hF9 : iF tx (o 7) (o 8) = NO := by unfold iF; rw [if_pos (ite_ne c106)]
              exact ⟨rfl, fun _ => ⟨by rw [show iE tx (o 7) (o 8) = (iQ tx (o 7) (o 8)) + 1 from by unfold iE; rw [if_pos (ite_ne c106)], show iV tx (o 7) (o 8) = hr tx (o 7) (iQ tx (o 7) (o 8)) from by unfold iV; rw [if_pos (ite_ne c106)], show iB tx (o 7) (o 8) = 0 from by unfold iB; rw [if_neg (ite_eq0 c59)], show (if iN tx (o 7) (o 8) = true then 1 else 0) = 1 from by unfold iN; rw [if_pos (ite_ne c106)]]; exact (MM.of (o' := up o 8 ((iQ tx (o 7) (o 8)) + 1)) (f' := fset (fset f 147 (up (f 147) ((r * 4 + a) * 5 + k) (iQ tx (o 7) (o 8)))) 145 (up (up (up (up (f 145) ((49 + 3 * ((r * 4 + a) * 5 + k)) + 2) 0) (49 + 3 * ((r * 4 + a) * 5 + k)) (hr tx (o 7) (iQ tx (o 7) (o 8)))) ((49 + 3 * ((r * 4 + a) * 5 + k)) + 1) 1) (17 + (r * 4 + a)) (k + 1))) hM (Sm.tset (Sm.tset (Sm.tset (Sm.tset (Sm.tset (Sm.tw (Sm.tset (Sm.tset (Sm.tw Sm.rf hSz2752 (by decide)) ez2761 (by decide)) ez2766 (by decide)) hSz2769 (by decide)) ez2778 (by decide)) ez2780 (by decide)) ez2782 (by decide)) ez2784 (by decide)) ez2786 (by decide)) (zat_set ez2786 (by decide) (zat_set ez2784 (by decide) (zat_set ez2782 (by decide) (zat_self ez2780 (zat_set ez2778 (by decide) mz2773))))) (c1_skip (c1_cons (zat_self ez2786 (zat_self ez2784 (zat_self ez2782 (zat_set ez2780 (by decide) (zat_set ez2778 (by decide) (Sm.at hSz2769 (by decide) (zat_set ez2766 (by decide) (zat_self ez2761 (Sm.at hSz2752 (by decide) (hM.2 145 (by decide) (by decide))))))))))) (c1_cons (zat_set ez2786 (by decide) (zat_set ez2784 (by decide) (zat_set ez2782 (by decide) (zat_set ez2780 (by decide) (zat_self ez2778 (Sm.at hSz2769 (by decide) (zat_set ez2766 (by decide) (zat_set ez2761 (by decide) (Sm.at hSz2752 (by decide) (hM.2 147 (by decide) (by decide))))))))))) c1_nil))) (fs_k (fs_c (fs_c fs_n)))), Sm.tset (Sm.tset (Sm.tset (Sm.tset (Sm.tset (Sm.tw (Sm.tset (Sm.tset (Sm.tw Sm.rf hSz2752 (by decide)) ez2761 (by decide)) ez2766 (by decide)) hSz2769 (by decide)) ez2778 (by decide)) ez2780 (by decide)) ez2782 (by decide)) ez2784 (by decide)) ez2786 (by decide)⟩, fun q9 => absurd hF9 q9⟩
          · -- 149 to 152
            exfalso
            exact c106 c149
        · -- 106 to 109
          refine zw_n 2 rfl ?_
          refine zw_ieq rfl (fun c113 => ?_) (fun c113 => ?_)
          · -- 113 to 121
            have h39 : iQ tx (o 7) (o 8) < o 7 := hr_in (by rw [(mv_eq htx (by decide) (show 39 < 128 by decide)).mp c113]; decide)
            refine zw_n 1 rfl ?_
            refine zw_get (v := .ref 147) rfl mz2773 rfl ?_
            refine zw_n 3 rfl ?_
            refine zw_top (ns (a := 49 + 3 * ((r * 4 + a) * 5 + k)) (b := 49) rfl rfl (by omega)) ?_
            refine zw_n 2 rfl ?_
            refine zw_top (x' := (nI ((r * 4 + a) * 5 + k))) ((ndiv (a := 49 + 3 * ((r * 4 + a) * 5 + k) - 49) (b := 3) rfl rfl (by omega) (by decide) (by decide)).trans (congrArg nI (by omega))) ?_
            refine zw_n 1 rfl ?_
            refine zw_get (v := .int (nI (iQ tx (o 7) (o 8)))) rfl mz2773 rfl ?_
            refine zw_iastN (g := (f 147)) (j := ((r * 4 + a) * 5 + k)) (v := (iQ tx (o 7) (o 8))) rfl (Sm.at hSz2769 (by decide) (zat_set ez2766 (by decide) (zat_set ez2761 (by decide) (Sm.at hSz2752 (by decide) (hM.2 147 (by decide) (by decide)))))) rfl (by decide) (by omega) (rfl) ?_
            generalize ez2788 : List.set Mz2771 147 _ = Mz2787
            refine zw_n 2 rfl ?_
            refine zw_get (v := .int (nI (iQ tx (o 7) (o 8)))) rfl (zat_set ez2788 (by decide) mz2773) rfl ?_
            refine zw_n 2 rfl ?_
            refine zw_top (na (a := iQ tx (o 7) (o 8)) (b := 1) rfl rfl) ?_
            refine zw_put rfl (zat_set ez2788 (by decide) mz2773) (rfl) (Nat.le_of_ble_eq_true rfl) ?_
            generalize ez2790 : List.set Mz2787 139 _ = Mz2789
            refine zw_n 1 rfl ?_
            refine zw_ne0N (a := if nmB (hr tx (o 7) (iQ tx (o 7) (o 8))) = true then 1 else 0) rfl rfl (ite_b) (fun c149 => ?_) (fun c149 => ?_)
            · -- 149 to 201
              exfalso
              exact c149 c106
            · -- 149 to 152
              have j152 : Zw 2 zm_MO_readItem 176 [some (.ref 139), some (.int (nI r)), some (.int (nI a)), some (.int (nI (r * 4 + a))), some (.int (nI (49 + 3 * ((r * 4 + a) * 5 + k)))), some (.int (nI (mv tx (o 7) (iQ tx (o 7) (o 8))))), some (.int (nI (if nmB (hr tx (o 7) (iQ tx (o 7) (o 8))) = true then 1 else 0)))] [.int (nI (if iQ tx (o 7) (o 8) + 1 < o 7 then byv (tx (iQ tx (o 7) (o 8) + 1)) else 0))] Mz2789 (fun r9 M1 => r9 = none ∧ (iF tx (o 7) (o 8) = NO → MM M1 (up o 8 (iE tx (o 7) (o 8))) (fset (fset f 147 (up (f 147) ((r * 4 + a) * 5 + k) (iQ tx (o 7) (o 8)))) 145 (up (up (up (up (f 145) ((49 + 3 * ((r * 4 + a) * 5 + k)) + 2) (iB tx (o 7) (o 8))) (49 + 3 * ((r * 4 + a) * 5 + k)) (iV tx (o 7) (o 8))) ((49 + 3 * ((r * 4 + a) * 5 + k)) + 1) (if iN tx (o 7) (o 8) = true then 1 else 0)) (17 + (r * 4 + a)) (k + 1))) ∧ Sm Mq M1 [139, 145, 147]) ∧ (iF tx (o 7) (o 8) ≠ NO → ∃ P9 f9, MM M1 (up (up (up o 8 P9) 9 (iF tx (o 7) (o 8))) 10 0) f9 ∧ P9 ≤ o 7 ∧ (∀ q, f9 145 q < 2147483648) ∧ Dsame f f9 ∧ Sm Mq M1 [139, 145, 147])) := by
                refine zw_top (x' := nI (mv tx (o 7) (iQ tx (o 7) (o 8) + 1))) rfl ?_
                refine zw_n 2 (ls' := [some (.ref 139), some (.int (nI r)), some (.int (nI a)), some (.int (nI (r * 4 + a))), some (.int (nI (49 + 3 * ((r * 4 + a) * 5 + k)))), some (.int (nI (mv tx (o 7) (iQ tx (o 7) (o 8) + 1)))), some (.int (nI (if nmB (hr tx (o 7) (iQ tx (o 7) (o 8))) = true then 1 else 0)))]) rfl ?_
                refine zw_callS (as := [.int (nI (mv tx (o 7) (iQ tx (o 7) (o 8) + 1)))]) (rest := []) rfl rfl rfl rfl rfl rfl (by decide) (m_isSign _ (nI (mv tx (o 7) (iQ tx (o 7) (o 8) + 1)))) (fun rz2791 Mz2792 hz2793 => ?_)
                rw [hz2793.1, hz2793.2]
                show Zw 2 zm_MO_readItem 183 [some (.ref 139), some (.int (nI r)), some (.int (nI a)), some (.int (nI (r * 4 + a))), some (.int (nI (49 + 3 * ((r * 4 + a) * 5 + k)))), some (.int (nI (mv tx (o 7) (iQ tx (o 7) (o 8) + 1)))), some (.int (nI (if nmB (hr tx (o 7) (iQ tx (o 7) (o 8))) = true then 1 else 0)))] [.int (nI (if 33 ≤ (nI (mv tx (o 7) (iQ tx (o 7) (o 8) + 1))).toInt ∧ (nI (mv tx (o 7) (iQ tx (o 7) (o 8) + 1))).toInt ≤ 126 then 1 else 0))] Mz2789 _
                refine zw_ne0N (a := if 33 ≤ (nI (mv tx (o 7) (iQ tx (o 7) (o 8) + 1))).toInt ∧ (nI (mv tx (o 7) (iQ tx (o 7) (o 8) + 1))).toInt ≤ 126 then 1 else 0) rfl rfl (ite_b) (fun c183 => ?_) (fun c183 => ?_)
                · -- 183 to 191
                  have h40 := sg_in ((mv_sg htx).mp (ite_ne c183))
                  refine zw_n 2 rfl ?_
                  refine zw_get (v := .int (nI ((iQ tx (o 7) (o 8)) + 1))) rfl (zat_self ez2790 (zat_set ez2788 (by decide) mz2773)) rfl ?_
                  refine zw_n 2 rfl ?_
                  refine zw_top (na (a := (iQ tx (o 7) (o 8)) + 1) (b := 1) rfl rfl) ?_
                  refine zw_put rfl (zat_self ez2790 (zat_set ez2788 (by decide) mz2773)) (rfl) (Nat.le_of_ble_eq_true rfl) ?_
                  generalize ez2795 : List.set Mz2789 139 _ = Mz2794
                  refine zw_n 1 rfl ?_
                  refine zw_get (v := .ref 145) rfl (zat_self ez2795 (zat_self ez2790 (zat_set ez2788 (by decide) mz2773))) rfl ?_
                  refine zw_n 2 rfl ?_
                  refine zw_iastN (g := (up (f 145) ((49 + 3 * ((r * 4 + a) * 5 + k)) + 2) 0)) (j := (49 + 3 * ((r * 4 + a) * 5 + k))) (v := (hr tx (o 7) (iQ tx (o 7) (o 8) + 1))) rfl (zat_set ez2795 (by decide) (zat_set ez2790 (by decide) (zat_set ez2788 (by decide) (Sm.at hSz2769 (by decide) (zat_set ez2766 (by decide) (zat_self ez2761 (Sm.at hSz2752 (by decide) (hM.2 145 (by decide) (by decide))))))))) rfl (by decide) (by omega) (congrArg nI (mv_val (by have := sg_b ((mv_sg htx).mp (ite_ne c183)); omega))) ?_
                  generalize ez2797 : List.set Mz2794 145 _ = Mz2796
                  refine zw_n 1 rfl ?_
                  refine zw_get (v := .ref 145) rfl (zat_set ez2797 (by decide) (zat_self ez2795 (zat_self ez2790 (zat_set ez2788 (by decide) mz2773)))) rfl ?_
                  refine zw_n 3 rfl ?_
                  refine zw_top (na (a := 49 + 3 * ((r * 4 + a) * 5 + k)) (b := 1) rfl rfl) ?_
                  refine zw_n 1 rfl ?_
                  refine zw_eq0N (a := if nmB (hr tx (o 7) (iQ tx (o 7) (o 8))) = true then 1 else 0) rfl rfl (ite_b) (fun c220 => ?_) (fun c220 => ?_)
                  · -- 220 to 227
                    refine zw_n 1 rfl ?_
                    refine zw_iastN (g := (up (up (f 145) ((49 + 3 * ((r * 4 + a) * 5 + k)) + 2) 0) (49 + 3 * ((r * 4 + a) * 5 + k)) (hr tx (o 7) (iQ tx (o 7) (o 8) + 1)))) (j := ((49 + 3 * ((r * 4 + a) * 5 + k)) + 1)) (v := 0) rfl (zat_self ez2797 (zat_set ez2795 (by decide) (zat_set ez2790 (by decide) (zat_set ez2788 (by decide) (Sm.at hSz2769 (by decide) (zat_set ez2766 (by decide) (zat_self ez2761 (Sm.at hSz2752 (by decide) (hM.2 145 (by decide) (by decide)))))))))) rfl (by decide) (by omega) (rfl) ?_
                    generalize ez2799 : List.set Mz2796 145 _ = Mz2798
                    refine zw_n 1 rfl ?_
                    refine zw_get (v := .ref 145) rfl (zat_set ez2799 (by decide) (zat_set ez2797 (by decide) (zat_self ez2795 (zat_self ez2790 (zat_set ez2788 (by decide) mz2773))))) rfl ?_
                    refine zw_n 3 rfl ?_
                    refine zw_top (na (a := 17) (b := r * 4 + a) rfl rfl) ?_
                    refine zw_n 1 rfl ?_
                    refine zw_iald (f := ai (up (up (up (f 145) ((49 + 3 * ((r * 4 + a) * 5 + k)) + 2) 0) (49 + 3 * ((r * 4 + a) * 5 + k)) (hr tx (o 7) (iQ tx (o 7) (o 8) + 1))) ((49 + 3 * ((r * 4 + a) * 5 + k)) + 1) 0)) (j := (17 + (r * 4 + a))) rfl (zat_self ez2799 (zat_self ez2797 (zat_set ez2795 (by decide) (zat_set ez2790 (by decide) (zat_set ez2788 (by decide) (Sm.at hSz2769 (by decide) (zat_set ez2766 (by decide) (zat_self ez2761 (Sm.at hSz2752 (by decide) (hM.2 145 (by decide) (by decide))))))))))) rfl (by decide) (by omega) ?_
                    refine zw_top (x' := (nI k)) (congrArg nI ((up_n (by omega)).trans ((up_n (by omega)).trans ((up_n (by omega)).trans (hk))))) ?_
                    refine zw_n 2 rfl ?_
                    refine zw_top (na (a := k) (b := 1) rfl rfl) ?_
                    refine zw_iastN (g := (up (up (up (f 145) ((49 + 3 * ((r * 4 + a) * 5 + k)) + 2) 0) (49 + 3 * ((r * 4 + a) * 5 + k)) (hr tx (o 7) (iQ tx (o 7) (o 8) + 1))) ((49 + 3 * ((r * 4 + a) * 5 + k)) + 1) 0)) (j := (17 + (r * 4 + a))) (v := (k + 1)) rfl (zat_self ez2799 (zat_self ez2797 (zat_set ez2795 (by decide) (zat_set ez2790 (by decide) (zat_set ez2788 (by decide) (Sm.at hSz2769 (by decide) (zat_set ez2766 (by decide) (zat_self ez2761 (Sm.at hSz2752 (by decide) (hM.2 145 (by decide) (by decide))))))))))) rfl (by decide) (by omega) (rfl) ?_
                    generalize ez2801 : List.set Mz2798 145 _ = Mz2800
                    have mz2802 : Mz2800[139]? = some (.inr (12, [.int (nI (o 0)), .ref 140, .ref 141, .ref 142, .ref 143, .int (nI (o 5)), .ref 144, .int (nI (o 7)), .int (nI (((iQ tx (o 7) (o 8)) + 1) + 1)), .int (nI (o 9)), .int (nI (o 10)), .ref 145, .ref 146, .ref 147, .ref 148, .ref 149, .ref 150, .ref 151, .ref 152, .ref 153, .ref 154, .ref 155, .ref 156, .ref 157, .ref 158, .ref 159, .ref 160, .ref 161, .ref 162, .ref 163, .ref 164, .int (nI (o 31)), .ref 165, .int (nI (o 33)), .ref 166, .ref 167, .ref 168, .ref 169, .int (nI (o 38)), .ref 170, .ref 171, .ref 172, .ref 173, .ref 174, .ref 175, .int (nI (o 45)), .int (nI (o 46)), .int (nI (o 47)), .long (lN (o 48)), .ref 176])) := zat_set ez2801 (by decide) (zat_set ez2799 (by decide) (zat_set ez2797 (by decide) (zat_self ez2795 (zat_self ez2790 (zat_set ez2788 (by decide) mz2773)))))
                    have mz2803 : Mz2800[145]? = some (.inl (0, 529, .inl (ai (up (up (up (up (f 145) ((49 + 3 * ((r * 4 + a) * 5 + k)) + 2) 0) (49 + 3 * ((r * 4 + a) * 5 + k)) (hr tx (o 7) (iQ tx (o 7) (o 8) + 1))) ((49 + 3 * ((r * 4 + a) * 5 + k)) + 1) 0) (17 + (r * 4 + a)) (k + 1))))) := zat_self ez2801 (zat_self ez2799 (zat_self ez2797 (zat_set ez2795 (by decide) (zat_set ez2790 (by decide) (zat_set ez2788 (by decide) (Sm.at hSz2769 (by decide) (zat_set ez2766 (by decide) (zat_self ez2761 (Sm.at hSz2752 (by decide) (hM.2 145 (by decide) (by decide)))))))))))
                    have mz2804 : Mz2800[144]? = some (.inl (2, 240, .inl (ai (f 144)))) := zat_set ez2801 (by decide) (zat_set ez2799 (by decide) (zat_set ez2797 (by decide) (zat_set ez2795 (by decide) (zat_set ez2790 (by decide) (zat_set ez2788 (by decide) (Sm.at hSz2769 (by decide) (zat_set ez2766 (by decide) (zat_set ez2761 (by decide) (Sm.at hSz2752 (by decide) (hM.2 144 (by decide) (by decide)))))))))))
                    have mz2805 : Mz2800[147]? = some (.inl (0, 160, .inl (ai (up (f 147) ((r * 4 + a) * 5 + k) (iQ tx (o 7) (o 8)))))) := zat_set ez2801 (by decide) (zat_set ez2799 (by decide) (zat_set ez2797 (by decide) (zat_set ez2795 (by decide) (zat_set ez2790 (by decide) (zat_self ez2788 (Sm.at hSz2769 (by decide) (zat_set ez2766 (by decide) (zat_set ez2761 (by decide) (Sm.at hSz2752 (by decide) (hM.2 147 (by decide) (by decide)))))))))))
                    have sz2806 : Sm Mq Mz2800 [139, 145, 147] := Sm.tset (Sm.tset (Sm.tset (Sm.tset (Sm.tset (Sm.tset (Sm.tw (Sm.tset (Sm.tset (Sm.tw Sm.rf hSz2752 (by decide)) ez2761 (by decide)) ez2766 (by decide)) hSz2769 (by decide)) ez2788 (by decide)) ez2790 (by decide)) ez2795 (by decide)) ez2797 (by decide)) ez2799 (by decide)) ez2801 (by decide)
                    refine zw_vret rfl rfl ?_
                    have hF9 : iF tx (o 7) (o 8) = NO := by unfold iF; rw [if_neg (ite_eq0 c106), if_pos ((mv_eq htx (by decide) (show 39 < 128 by decide)).mp c113), if_pos ((mv_sg htx).mp (ite_ne c183))]
                    exact ⟨rfl, fun _ => ⟨by rw [show iE tx (o 7) (o 8) = ((iQ tx (o 7) (o 8)) + 1) + 1 from by unfold iE; rw [if_neg (ite_eq0 c106)], show iV tx (o 7) (o 8) = hr tx (o 7) (iQ tx (o 7) (o 8) + 1) from by unfold iV; rw [if_neg (ite_eq0 c106)], show iB tx (o 7) (o 8) = 0 from by unfold iB; rw [if_neg (ite_eq0 c59)], show (if iN tx (o 7) (o 8) = true then 1 else 0) = 0 from by unfold iN; rw [if_neg (ite_eq0 c106)]]; exact (MM.of (o' := up o 8 (((iQ tx (o 7) (o 8)) + 1) + 1)) (f' := fset (fset f 147 (up (f 147) ((r * 4 + a) * 5 + k) (iQ tx (o 7) (o 8)))) 145 (up (up (up (up (f 145) ((49 + 3 * ((r * 4 + a) * 5 + k)) + 2) 0) (49 + 3 * ((r * 4 + a) * 5 + k)) (hr tx (o 7) (iQ tx (o 7) (o 8) + 1))) ((49 + 3 * ((r * 4 + a) * 5 + k)) + 1) 0) (17 + (r * 4 + a)) (k + 1))) hM sz2806 mz2802 (c1_skip (c1_cons mz2803 (c1_cons mz2805 c1_nil))) (fs_k (fs_c (fs_c fs_n)))), sz2806⟩, fun q9 => absurd hF9 q9⟩
                  · -- 220 to 223
                    exfalso
                    exact c220 c106
                · -- 183 to 186
                  refine zw_n 1 rfl ?_
                  refine zw_callV (as := []) (rest := []) rfl rfl rfl (zat_self ez2790 (zat_set ez2788 (by decide) mz2773)) rfl rfl rfl (by decide) (m_wrong Mz2789 (up o 8 ((iQ tx (o 7) (o 8)) + 1)) (fset (fset f 147 (up (f 147) ((r * 4 + a) * 5 + k) (iQ tx (o 7) (o 8)))) 145 (up (f 145) ((49 + 3 * ((r * 4 + a) * 5 + k)) + 2) 0)) (MM.of (o' := up o 8 ((iQ tx (o 7) (o 8)) + 1)) (f' := fset (fset f 147 (up (f 147) ((r * 4 + a) * 5 + k) (iQ tx (o 7) (o 8)))) 145 (up (f 145) ((49 + 3 * ((r * 4 + a) * 5 + k)) + 2) 0)) hM (Sm.tset (Sm.tset (Sm.tw (Sm.tset (Sm.tset (Sm.tw Sm.rf hSz2752 (by decide)) ez2761 (by decide)) ez2766 (by decide)) hSz2769 (by decide)) ez2788 (by decide)) ez2790 (by decide)) (zat_self ez2790 (zat_set ez2788 (by decide) mz2773)) (c1_skip (c1_cons (zat_set ez2790 (by decide) (zat_set ez2788 (by decide) (Sm.at hSz2769 (by decide) (zat_set ez2766 (by decide) (zat_self ez2761 (Sm.at hSz2752 (by decide) (hM.2 145 (by decide) (by decide)))))))) (c1_cons (zat_set ez2790 (by decide) (zat_self ez2788 (Sm.at hSz2769 (by decide) (zat_set ez2766 (by decide) (zat_set ez2761 (by decide) (Sm.at hSz2752 (by decide) (hM.2 147 (by decide) (by decide)))))))) c1_nil))) (fs_k (fs_c (fs_c fs_n)))) hg) (fun rz2810 Mz2811 hz2812 => ?_)
                  obtain ⟨hAz2807, hMMz2808, hSz2809⟩ := hz2812
                  rw [hAz2807]
                  show Zw 2 zm_MO_readItem 190 [some (.ref 139), some (.int (nI r)), some (.int (nI a)), some (.int (nI (r * 4 + a))), some (.int (nI (49 + 3 * ((r * 4 + a) * 5 + k)))), some (.int (nI (mv tx (o 7) (iQ tx (o 7) (o 8) + 1)))), some (.int (nI (if nmB (hr tx (o 7) (iQ tx (o 7) (o 8))) = true then 1 else 0)))] [] Mz2811 _
                  refine zw_vret rfl rfl ?_
                  have hF9 : iF tx (o 7) (o 8) = (iQ tx (o 7) (o 8)) + 1 := by unfold iF; rw [if_neg (ite_eq0 c106), if_pos ((mv_eq htx (by decide) (show 39 < 128 by decide)).mp c113), if_neg (fun q9 => ite_eq0 c183 ((mv_sg htx).mpr q9))]
                  have hn9 : iF tx (o 7) (o 8) ≠ NO := by rw [hF9]; unfold NO; omega
                  exact ⟨rfl, fun q9 => absurd q9 hn9, fun _ => ⟨(iQ tx (o 7) (o 8)) + 1, fset (fset f 147 (up (f 147) ((r * 4 + a) * 5 + k) (iQ tx (o 7) (o 8)))) 145 (up (f 145) ((49 + 3 * ((r * 4 + a) * 5 + k)) + 2) 0), by rw [hF9]; exact (MM.of (o' := up (up (up o 8 ((iQ tx (o 7) (o 8)) + 1)) 9 ((iQ tx (o 7) (o 8)) + 1)) 10 0) (f' := fset (fset f 147 (up (f 147) ((r * 4 + a) * 5 + k) (iQ tx (o 7) (o 8)))) 145 (up (f 145) ((49 + 3 * ((r * 4 + a) * 5 + k)) + 2) 0)) hM (Sm.tw (Sm.tset (Sm.tset (Sm.tw (Sm.tset (Sm.tset (Sm.tw Sm.rf hSz2752 (by decide)) ez2761 (by decide)) ez2766 (by decide)) hSz2769 (by decide)) ez2788 (by decide)) ez2790 (by decide)) hSz2809 (by decide)) hMMz2808.1 (c1_skip (c1_cons (Sm.at hSz2809 (by decide) (zat_set ez2790 (by decide) (zat_set ez2788 (by decide) (Sm.at hSz2769 (by decide) (zat_set ez2766 (by decide) (zat_self ez2761 (Sm.at hSz2752 (by decide) (hM.2 145 (by decide) (by decide))))))))) (c1_cons (Sm.at hSz2809 (by decide) (zat_set ez2790 (by decide) (zat_self ez2788 (Sm.at hSz2769 (by decide) (zat_set ez2766 (by decide) (zat_set ez2761 (by decide) (Sm.at hSz2752 (by decide) (hM.2 147 (by decide) (by decide))))))))) c1_nil))) (fs_k (fs_c (fs_c fs_n)))), by omega, (up_lt hb0 (by decide)), Dsame.of (S := [139, 145, 147]) (fs_k (fs_c (fs_c fs_n))) (by decide), Sm.tw (Sm.tset (Sm.tset (Sm.tw (Sm.tset (Sm.tset (Sm.tw Sm.rf hSz2752 (by decide)) ez2761 (by decide)) ez2766 (by decide)) hSz2769 (by decide)) ez2788 (by decide)) ez2790 (by decide)) hSz2809 (by decide)⟩⟩
              refine zw_n 1 rfl ?_
              refine zw_get (v := .int (nI ((iQ tx (o 7) (o 8)) + 1))) rfl (zat_self ez2790 (zat_set ez2788 (by decide) mz2773)) rfl ?_
              refine zw_n 1 rfl ?_
              refine zw_get (v := .int (nI (o 7))) rfl (zat_self ez2790 (zat_set ez2788 (by decide) mz2773)) rfl ?_
              refine zw_igeN (a := (iQ tx (o 7) (o 8)) + 1) (b := o 7) rfl rfl rfl (by omega) (by omega) (fun c160 => ?_) (fun c160 => ?_)
              · -- 160 to 175
                refine zw_n 1 rfl ?_
                refine zw_top (x' := nI (if iQ tx (o 7) (o 8) + 1 < o 7 then byv (tx (iQ tx (o 7) (o 8) + 1)) else 0)) (show nI 0 = nI (if iQ tx (o 7) (o 8) + 1 < o 7 then byv (tx (iQ tx (o 7) (o 8) + 1)) else 0) by rw [if_neg (by omega)]) ?_
                exact j152
              · -- 160 to 163
                refine zw_n 1 rfl ?_
                refine zw_get (v := .ref 144) rfl (zat_self ez2790 (zat_set ez2788 (by decide) mz2773)) rfl ?_
                refine zw_n 1 rfl ?_
                refine zw_get (v := .int (nI ((iQ tx (o 7) (o 8)) + 1))) rfl (zat_self ez2790 (zat_set ez2788 (by decide) mz2773)) rfl ?_
                refine zw_bald (f := ai (f 144)) (j := ((iQ tx (o 7) (o 8)) + 1)) rfl (zat_set ez2790 (by decide) (zat_set ez2788 (by decide) (Sm.at hSz2769 (by decide) (zat_set ez2766 (by decide) (zat_set ez2761 (by decide) (Sm.at hSz2752 (by decide) (hM.2 144 (by decide) (by decide)))))))) rfl rfl (by decide) (by omega) ?_
                refine zw_top (x' := (nI (byv (tx (iQ tx (o 7) (o 8) + 1))))) (congrArg nI (hX _ (by omega))) ?_
                refine zw_n 1 rfl ?_
                refine zw_top (x' := nI (if iQ tx (o 7) (o 8) + 1 < o 7 then byv (tx (iQ tx (o 7) (o 8) + 1)) else 0)) (show nI (byv (tx (iQ tx (o 7) (o 8) + 1))) = nI (if iQ tx (o 7) (o 8) + 1 < o 7 then byv (tx (iQ tx (o 7) (o 8) + 1)) else 0) by rw [if_pos (by omega)]) ?_
                exact j152
          · -- 113 to 116
            refine zw_n 1 rfl ?_
            refine zw_callV (as := []) (rest := []) rfl rfl rfl mz2773 rfl rfl rfl (by decide) (m_wrong Mz2771 (up o 8 (iQ tx (o 7) (o 8))) (fset f 145 (up (f 145) ((49 + 3 * ((r * 4 + a) * 5 + k)) + 2) 0)) (MM.of (o' := up o 8 (iQ tx (o 7) (o 8))) (f' := fset f 145 (up (f 145) ((49 + 3 * ((r * 4 + a) * 5 + k)) + 2) 0)) hM (Sm.tw (Sm.tset (Sm.tset (Sm.tw Sm.rf hSz2752 (by decide)) ez2761 (by decide)) ez2766 (by decide)) hSz2769 (by decide)) mz2773 (c1_skip (c1_cons (Sm.at hSz2769 (by decide) (zat_set ez2766 (by decide) (zat_self ez2761 (Sm.at hSz2752 (by decide) (hM.2 145 (by decide) (by decide)))))) (c1_cons (Sm.at hSz2769 (by decide) (zat_set ez2766 (by decide) (zat_set ez2761 (by decide) (Sm.at hSz2752 (by decide) (hM.2 147 (by decide) (by decide)))))) c1_nil))) (fs_k (fs_c (fs_k fs_n)))) hg) (fun rz2816 Mz2817 hz2818 => ?_)
            obtain ⟨hAz2813, hMMz2814, hSz2815⟩ := hz2818
            rw [hAz2813]
            show Zw 2 zm_MO_readItem 120 [some (.ref 139), some (.int (nI r)), some (.int (nI a)), some (.int (nI (r * 4 + a))), some (.int (nI (49 + 3 * ((r * 4 + a) * 5 + k)))), some (.int (nI (mv tx (o 7) (iQ tx (o 7) (o 8))))), some (.int (nI (if nmB (hr tx (o 7) (iQ tx (o 7) (o 8))) = true then 1 else 0)))] [] Mz2817 _
            refine zw_vret rfl rfl ?_
            have hF9 : iF tx (o 7) (o 8) = iQ tx (o 7) (o 8) := by unfold iF; rw [if_neg (ite_eq0 c106), if_neg (fun q9 => c113 ((mv_eq htx (by decide) (show 39 < 128 by decide)).mpr q9))]
            have hn9 : iF tx (o 7) (o 8) ≠ NO := by rw [hF9]; unfold NO; omega
            exact ⟨rfl, fun q9 => absurd q9 hn9, fun _ => ⟨iQ tx (o 7) (o 8), fset f 145 (up (f 145) ((49 + 3 * ((r * 4 + a) * 5 + k)) + 2) 0), by rw [hF9]; exact (MM.of (o' := up (up (up o 8 (iQ tx (o 7) (o 8))) 9 (iQ tx (o 7) (o 8))) 10 0) (f' := fset f 145 (up (f 145) ((49 + 3 * ((r * 4 + a) * 5 + k)) + 2) 0)) hM (Sm.tw (Sm.tw (Sm.tset (Sm.tset (Sm.tw Sm.rf hSz2752 (by decide)) ez2761 (by decide)) ez2766 (by decide)) hSz2769 (by decide)) hSz2815 (by decide)) hMMz2814.1 (c1_skip (c1_cons (Sm.at hSz2815 (by decide) (Sm.at hSz2769 (by decide) (zat_set ez2766 (by decide) (zat_self ez2761 (Sm.at hSz2752 (by decide) (hM.2 145 (by decide) (by decide))))))) (c1_cons (Sm.at hSz2815 (by decide) (Sm.at hSz2769 (by decide) (zat_set ez2766 (by decide) (zat_set ez2761 (by decide) (Sm.at hSz2752 (by decide) (hM.2 147 (by decide) (by decide))))))) c1_nil))) (fs_k (fs_c (fs_k fs_n)))), by omega, (up_lt hb0 (by decide)), Dsame.of (S := [139, 145, 147]) (fs_k (fs_c (fs_k fs_n))) (by decide), Sm.tw (Sm.tw (Sm.tset (Sm.tset (Sm.tw Sm.rf hSz2752 (by decide)) ez2761 (by decide)) ez2766 (by decide)) hSz2769 (by decide)) hSz2815 (by decide)⟩⟩
      · -- 79 to 82
        exfalso
        exact c79 c59
    · -- 59 to 62
      have hbi := bn_in (ite_ne c59)
      refine zw_n 2 rfl ?_
      refine zw_iastN (g := (f 145)) (j := ((49 + 3 * ((r * 4 + a) * 5 + k)) + 2)) (v := (hr tx (o 7) (o 8))) rfl (Sm.at hSz2752 (by decide) (hM.2 145 (by decide) (by decide))) rfl (by decide) (by omega) (congrArg nI (mv_val (by have := bn_lt (ite_ne c59); omega))) ?_
      generalize ez2820 : List.set Mz2754 145 _ = Mz2819
      refine zw_n 2 rfl ?_
      refine zw_get (v := .int (nI (o 8))) rfl (zat_set ez2820 (by decide) mz2756) rfl ?_
      refine zw_n 1 rfl ?_
      refine zw_callS (as := [.int (nI (mv tx (o 7) (o 8)))]) (rest := [.int (nI (o 8)), .ref 139]) rfl rfl rfl rfl rfl rfl (by decide) (m_isBond _ (o 8) (o 7) tx htx) (fun rz2821 Mz2822 hz2823 => ?_)
      rw [hz2823.1, hz2823.2]
      show Zw 2 zm_MO_readItem 79 [some (.ref 139), some (.int (nI r)), some (.int (nI a)), some (.int (nI (r * 4 + a))), some (.int (nI (49 + 3 * ((r * 4 + a) * 5 + k)))), some (.int (nI (mv tx (o 7) (o 8)))), none] [.int (nI (if bnB (hr tx (o 7) (o 8)) = true then 1 else 0)), .int (nI (o 8)), .ref 139] Mz2819 _
      refine zw_eq0N (a := if bnB (hr tx (o 7) (o 8)) = true then 1 else 0) rfl rfl (ite_b) (fun c79 => ?_) (fun c79 => ?_)
      · -- 79 to 86
        exfalso
        exact c59 c79
      · -- 79 to 82
        refine zw_n 3 rfl ?_
        refine zw_top (na (a := o 8) (b := 1) rfl rfl) ?_
        refine zw_put rfl (zat_set ez2820 (by decide) mz2756) (rfl) (Nat.le_of_ble_eq_true rfl) ?_
        generalize ez2825 : List.set Mz2819 139 _ = Mz2824
        refine zw_n 1 rfl ?_
        refine zw_callV (as := []) (rest := []) rfl rfl rfl (zat_self ez2825 (zat_set ez2820 (by decide) mz2756)) rfl rfl rfl (by decide) (m_next Mz2824 (up o 8 ((o 8) + 1)) (fset f 145 (up (f 145) ((49 + 3 * ((r * 4 + a) * 5 + k)) + 2) (hr tx (o 7) (o 8)))) (MM.of (o' := up o 8 ((o 8) + 1)) (f' := fset f 145 (up (f 145) ((49 + 3 * ((r * 4 + a) * 5 + k)) + 2) (hr tx (o 7) (o 8)))) hM (Sm.tset (Sm.tset (Sm.tw Sm.rf hSz2752 (by decide)) ez2820 (by decide)) ez2825 (by decide)) (zat_self ez2825 (zat_set ez2820 (by decide) mz2756)) (c1_skip (c1_cons (zat_set ez2825 (by decide) (zat_self ez2820 (Sm.at hSz2752 (by decide) (hM.2 145 (by decide) (by decide))))) (c1_cons (zat_set ez2825 (by decide) (zat_set ez2820 (by decide) (Sm.at hSz2752 (by decide) (hM.2 147 (by decide) (by decide))))) c1_nil))) (fs_k (fs_c (fs_k fs_n)))) tx hX htx htl (show (o 8) + 1 ≤ o 7 by omega)) (fun rz2829 Mz2830 hz2831 => ?_)
        obtain ⟨hAz2826, hMMz2827, hSz2828⟩ := hz2831
        rw [hAz2826]
        have hgehAz2826 := sk_ge tx (o 7) ((o 8) + 1)
        have hlehAz2826 := @sk_le tx (o 7) ((o 8) + 1) (by omega)
        show Zw 2 zm_MO_readItem 95 [some (.ref 139), some (.int (nI r)), some (.int (nI a)), some (.int (nI (r * 4 + a))), some (.int (nI (49 + 3 * ((r * 4 + a) * 5 + k)))), some (.int (nI (mv tx (o 7) (o 8)))), none] [.int (nI (mv tx (o 7) (sk tx (o 7) ((o 8) + 1))))] Mz2830 _
        have hQ : sk tx (o 7) (o 8 + 1) = iQ tx (o 7) (o 8) := by unfold iQ; rw [if_pos (ite_ne c59)]
        have mz2832 : Mz2830[139]? = some (.inr (12, [.int (nI (o 0)), .ref 140, .ref 141, .ref 142, .ref 143, .int (nI (o 5)), .ref 144, .int (nI (o 7)), .int (nI (sk tx (o 7) ((o 8) + 1))), .int (nI (o 9)), .int (nI (o 10)), .ref 145, .ref 146, .ref 147, .ref 148, .ref 149, .ref 150, .ref 151, .ref 152, .ref 153, .ref 154, .ref 155, .ref 156, .ref 157, .ref 158, .ref 159, .ref 160, .ref 161, .ref 162, .ref 163, .ref 164, .int (nI (o 31)), .ref 165, .int (nI (o 33)), .ref 166, .ref 167, .ref 168, .ref 169, .int (nI (o 38)), .ref 170, .ref 171, .ref 172, .ref 173, .ref 174, .ref 175, .int (nI (o 45)), .int (nI (o 46)), .int (nI (o 47)), .long (lN (o 48)), .ref 176])) := hMMz2827.1
        rw [hQ] at mz2832
        rw [hQ]
        refine zw_n 2 (ls' := [some (.ref 139), some (.int (nI r)), some (.int (nI a)), some (.int (nI (r * 4 + a))), some (.int (nI (49 + 3 * ((r * 4 + a) * 5 + k)))), some (.int (nI (mv tx (o 7) (iQ tx (o 7) (o 8))))), none]) rfl ?_
        refine zw_callS (as := [.int (nI (mv tx (o 7) (iQ tx (o 7) (o 8))))]) (rest := []) rfl rfl rfl rfl rfl rfl (by decide) (m_isName _ (iQ tx (o 7) (o 8)) (o 7) tx htx) (fun rz2833 Mz2834 hz2835 => ?_)
        rw [hz2835.1, hz2835.2]
        show Zw 2 zm_MO_readItem 102 [some (.ref 139), some (.int (nI r)), some (.int (nI a)), some (.int (nI (r * 4 + a))), some (.int (nI (49 + 3 * ((r * 4 + a) * 5 + k)))), some (.int (nI (mv tx (o 7) (iQ tx (o 7) (o 8))))), none] [.int (nI (if nmB (hr tx (o 7) (iQ tx (o 7) (o 8))) = true then 1 else 0))] Mz2830 _
        refine zw_n 2 (ls' := [some (.ref 139), some (.int (nI r)), some (.int (nI a)), some (.int (nI (r * 4 + a))), some (.int (nI (49 + 3 * ((r * 4 + a) * 5 + k)))), some (.int (nI (mv tx (o 7) (iQ tx (o 7) (o 8))))), some (.int (nI (if nmB (hr tx (o 7) (iQ tx (o 7) (o 8))) = true then 1 else 0)))]) rfl ?_
        refine zw_ne0N (a := if nmB (hr tx (o 7) (iQ tx (o 7) (o 8))) = true then 1 else 0) rfl rfl (ite_b) (fun c106 => ?_) (fun c106 => ?_)
        · -- 106 to 121
          have h39 := nm_in (ite_ne c106)
          refine zw_n 1 rfl ?_
          refine zw_get (v := .ref 147) rfl mz2832 rfl ?_
          refine zw_n 3 rfl ?_
          refine zw_top (ns (a := 49 + 3 * ((r * 4 + a) * 5 + k)) (b := 49) rfl rfl (by omega)) ?_
          refine zw_n 2 rfl ?_
          refine zw_top (x' := (nI ((r * 4 + a) * 5 + k))) ((ndiv (a := 49 + 3 * ((r * 4 + a) * 5 + k) - 49) (b := 3) rfl rfl (by omega) (by decide) (by decide)).trans (congrArg nI (by omega))) ?_
          refine zw_n 1 rfl ?_
          refine zw_get (v := .int (nI (iQ tx (o 7) (o 8)))) rfl mz2832 rfl ?_
          refine zw_iastN (g := (f 147)) (j := ((r * 4 + a) * 5 + k)) (v := (iQ tx (o 7) (o 8))) rfl (Sm.at hSz2828 (by decide) (zat_set ez2825 (by decide) (zat_set ez2820 (by decide) (Sm.at hSz2752 (by decide) (hM.2 147 (by decide) (by decide)))))) rfl (by decide) (by omega) (rfl) ?_
          generalize ez2837 : List.set Mz2830 147 _ = Mz2836
          refine zw_n 2 rfl ?_
          refine zw_get (v := .int (nI (iQ tx (o 7) (o 8)))) rfl (zat_set ez2837 (by decide) mz2832) rfl ?_
          refine zw_n 2 rfl ?_
          refine zw_top (na (a := iQ tx (o 7) (o 8)) (b := 1) rfl rfl) ?_
          refine zw_put rfl (zat_set ez2837 (by decide) mz2832) (rfl) (Nat.le_of_ble_eq_true rfl) ?_
          generalize ez2839 : List.set Mz2836 139 _ = Mz2838
          refine zw_n 1 rfl ?_
          refine zw_ne0N (a := if nmB (hr tx (o 7) (iQ tx (o 7) (o 8))) = true then 1 else 0) rfl rfl (ite_b) (fun c149 => ?_) (fun c149 => ?_)
          · -- 149 to 201
            refine zw_n 1 rfl ?_
            refine zw_get (v := .ref 145) rfl (zat_self ez2839 (zat_set ez2837 (by decide) mz2832)) rfl ?_
            refine zw_n 2 rfl ?_
            refine zw_iastN (g := (up (f 145) ((49 + 3 * ((r * 4 + a) * 5 + k)) + 2) (hr tx (o 7) (o 8)))) (j := (49 + 3 * ((r * 4 + a) * 5 + k))) (v := (hr tx (o 7) (iQ tx (o 7) (o 8)))) rfl (zat_set ez2839 (by decide) (zat_set ez2837 (by decide) (Sm.at hSz2828 (by decide) (zat_set ez2825 (by decide) (zat_self ez2820 (Sm.at hSz2752 (by decide) (hM.2 145 (by decide) (by decide)))))))) rfl (by decide) (by omega) (congrArg nI (mv_val (by have := nm_lt (ite_ne c106); omega))) ?_
            generalize ez2841 : List.set Mz2838 145 _ = Mz2840
            refine zw_n 1 rfl ?_
            refine zw_get (v := .ref 145) rfl (zat_set ez2841 (by decide) (zat_self ez2839 (zat_set ez2837 (by decide) mz2832))) rfl ?_
            refine zw_n 3 rfl ?_
            refine zw_top (na (a := 49 + 3 * ((r * 4 + a) * 5 + k)) (b := 1) rfl rfl) ?_
            refine zw_n 1 rfl ?_
            refine zw_eq0N (a := if nmB (hr tx (o 7) (iQ tx (o 7) (o 8))) = true then 1 else 0) rfl rfl (ite_b) (fun c220 => ?_) (fun c220 => ?_)
            · -- 220 to 227
              exfalso
              exact c106 c220
            · -- 220 to 223
              refine zw_n 2 rfl ?_
              refine zw_iastN (g := (up (up (f 145) ((49 + 3 * ((r * 4 + a) * 5 + k)) + 2) (hr tx (o 7) (o 8))) (49 + 3 * ((r * 4 + a) * 5 + k)) (hr tx (o 7) (iQ tx (o 7) (o 8))))) (j := ((49 + 3 * ((r * 4 + a) * 5 + k)) + 1)) (v := 1) rfl (zat_self ez2841 (zat_set ez2839 (by decide) (zat_set ez2837 (by decide) (Sm.at hSz2828 (by decide) (zat_set ez2825 (by decide) (zat_self ez2820 (Sm.at hSz2752 (by decide) (hM.2 145 (by decide) (by decide))))))))) rfl (by decide) (by omega) (rfl) ?_
              generalize ez2843 : List.set Mz2840 145 _ = Mz2842
              refine zw_n 1 rfl ?_
              refine zw_get (v := .ref 145) rfl (zat_set ez2843 (by decide) (zat_set ez2841 (by decide) (zat_self ez2839 (zat_set ez2837 (by decide) mz2832)))) rfl ?_
              refine zw_n 3 rfl ?_
              refine zw_top (na (a := 17) (b := r * 4 + a) rfl rfl) ?_
              refine zw_n 1 rfl ?_
              refine zw_iald (f := ai (up (up (up (f 145) ((49 + 3 * ((r * 4 + a) * 5 + k)) + 2) (hr tx (o 7) (o 8))) (49 + 3 * ((r * 4 + a) * 5 + k)) (hr tx (o 7) (iQ tx (o 7) (o 8)))) ((49 + 3 * ((r * 4 + a) * 5 + k)) + 1) 1)) (j := (17 + (r * 4 + a))) rfl (zat_self ez2843 (zat_self ez2841 (zat_set ez2839 (by decide) (zat_set ez2837 (by decide) (Sm.at hSz2828 (by decide) (zat_set ez2825 (by decide) (zat_self ez2820 (Sm.at hSz2752 (by decide) (hM.2 145 (by decide) (by decide)))))))))) rfl (by decide) (by omega) ?_
              refine zw_top (x' := (nI k)) (congrArg nI ((up_n (by omega)).trans ((up_n (by omega)).trans ((up_n (by omega)).trans (hk))))) ?_
              refine zw_n 2 rfl ?_
              refine zw_top (na (a := k) (b := 1) rfl rfl) ?_
              refine zw_iastN (g := (up (up (up (f 145) ((49 + 3 * ((r * 4 + a) * 5 + k)) + 2) (hr tx (o 7) (o 8))) (49 + 3 * ((r * 4 + a) * 5 + k)) (hr tx (o 7) (iQ tx (o 7) (o 8)))) ((49 + 3 * ((r * 4 + a) * 5 + k)) + 1) 1)) (j := (17 + (r * 4 + a))) (v := (k + 1)) rfl (zat_self ez2843 (zat_self ez2841 (zat_set ez2839 (by decide) (zat_set ez2837 (by decide) (Sm.at hSz2828 (by decide) (zat_set ez2825 (by decide) (zat_self ez2820 (Sm.at hSz2752 (by decide) (hM.2 145 (by decide) (by decide)))))))))) rfl (by decide) (by omega) (rfl) ?_
              generalize ez2845 : List.set Mz2842 145 _ = Mz2844
              refine zw_vret rfl rfl ?_
              have hF9 : iF tx (o 7) (o 8) = NO := by unfold iF; rw [if_pos (ite_ne c106)]
              exact ⟨rfl, fun _ => ⟨by rw [show iE tx (o 7) (o 8) = (iQ tx (o 7) (o 8)) + 1 from by unfold iE; rw [if_pos (ite_ne c106)], show iV tx (o 7) (o 8) = hr tx (o 7) (iQ tx (o 7) (o 8)) from by unfold iV; rw [if_pos (ite_ne c106)], show iB tx (o 7) (o 8) = hr tx (o 7) (o 8) from by unfold iB; rw [if_pos (ite_ne c59)], show (if iN tx (o 7) (o 8) = true then 1 else 0) = 1 from by unfold iN; rw [if_pos (ite_ne c106)]]; exact (MM.of (o' := up o 8 ((iQ tx (o 7) (o 8)) + 1)) (f' := fset (fset f 147 (up (f 147) ((r * 4 + a) * 5 + k) (iQ tx (o 7) (o 8)))) 145 (up (up (up (up (f 145) ((49 + 3 * ((r * 4 + a) * 5 + k)) + 2) (hr tx (o 7) (o 8))) (49 + 3 * ((r * 4 + a) * 5 + k)) (hr tx (o 7) (iQ tx (o 7) (o 8)))) ((49 + 3 * ((r * 4 + a) * 5 + k)) + 1) 1) (17 + (r * 4 + a)) (k + 1))) hM (Sm.tset (Sm.tset (Sm.tset (Sm.tset (Sm.tset (Sm.tw (Sm.tset (Sm.tset (Sm.tw Sm.rf hSz2752 (by decide)) ez2820 (by decide)) ez2825 (by decide)) hSz2828 (by decide)) ez2837 (by decide)) ez2839 (by decide)) ez2841 (by decide)) ez2843 (by decide)) ez2845 (by decide)) (zat_set ez2845 (by decide) (zat_set ez2843 (by decide) (zat_set ez2841 (by decide) (zat_self ez2839 (zat_set ez2837 (by decide) mz2832))))) (c1_skip (c1_cons (zat_self ez2845 (zat_self ez2843 (zat_self ez2841 (zat_set ez2839 (by decide) (zat_set ez2837 (by decide) (Sm.at hSz2828 (by decide) (zat_set ez2825 (by decide) (zat_self ez2820 (Sm.at hSz2752 (by decide) (hM.2 145 (by decide) (by decide))))))))))) (c1_cons (zat_set ez2845 (by decide) (zat_set ez2843 (by decide) (zat_set ez2841 (by decide) (zat_set ez2839 (by decide) (zat_self ez2837 (Sm.at hSz2828 (by decide) (zat_set ez2825 (by decide) (zat_set ez2820 (by decide) (Sm.at hSz2752 (by decide) (hM.2 147 (by decide) (by decide))))))))))) c1_nil))) (fs_k (fs_c (fs_c fs_n)))), Sm.tset (Sm.tset (Sm.tset (Sm.tset (Sm.tset (Sm.tw (Sm.tset (Sm.tset (Sm.tw Sm.rf hSz2752 (by decide)) ez2820 (by decide)) ez2825 (by decide)) hSz2828 (by decide)) ez2837 (by decide)) ez2839 (by decide)) ez2841 (by decide)) ez2843 (by decide)) ez2845 (by decide)⟩, fun q9 => absurd hF9 q9⟩
          · -- 149 to 152
            exfalso
            exact c106 c149
        · -- 106 to 109
          refine zw_n 2 rfl ?_
          refine zw_ieq rfl (fun c113 => ?_) (fun c113 => ?_)
          · -- 113 to 121
            have h39 : iQ tx (o 7) (o 8) < o 7 := hr_in (by rw [(mv_eq htx (by decide) (show 39 < 128 by decide)).mp c113]; decide)
            refine zw_n 1 rfl ?_
            refine zw_get (v := .ref 147) rfl mz2832 rfl ?_
            refine zw_n 3 rfl ?_
            refine zw_top (ns (a := 49 + 3 * ((r * 4 + a) * 5 + k)) (b := 49) rfl rfl (by omega)) ?_
            refine zw_n 2 rfl ?_
            refine zw_top (x' := (nI ((r * 4 + a) * 5 + k))) ((ndiv (a := 49 + 3 * ((r * 4 + a) * 5 + k) - 49) (b := 3) rfl rfl (by omega) (by decide) (by decide)).trans (congrArg nI (by omega))) ?_
            refine zw_n 1 rfl ?_
            refine zw_get (v := .int (nI (iQ tx (o 7) (o 8)))) rfl mz2832 rfl ?_
            refine zw_iastN (g := (f 147)) (j := ((r * 4 + a) * 5 + k)) (v := (iQ tx (o 7) (o 8))) rfl (Sm.at hSz2828 (by decide) (zat_set ez2825 (by decide) (zat_set ez2820 (by decide) (Sm.at hSz2752 (by decide) (hM.2 147 (by decide) (by decide)))))) rfl (by decide) (by omega) (rfl) ?_
            generalize ez2847 : List.set Mz2830 147 _ = Mz2846
            refine zw_n 2 rfl ?_
            refine zw_get (v := .int (nI (iQ tx (o 7) (o 8)))) rfl (zat_set ez2847 (by decide) mz2832) rfl ?_
            refine zw_n 2 rfl ?_
            refine zw_top (na (a := iQ tx (o 7) (o 8)) (b := 1) rfl rfl) ?_
            refine zw_put rfl (zat_set ez2847 (by decide) mz2832) (rfl) (Nat.le_of_ble_eq_true rfl) ?_
            generalize ez2849 : List.set Mz2846 139 _ = Mz2848
            refine zw_n 1 rfl ?_
            refine zw_ne0N (a := if nmB (hr tx (o 7) (iQ tx (o 7) (o 8))) = true then 1 else 0) rfl rfl (ite_b) (fun c149 => ?_) (fun c149 => ?_)
            · -- 149 to 201
              exfalso
              exact c149 c106
            · -- 149 to 152
              have j152 : Zw 2 zm_MO_readItem 176 [some (.ref 139), some (.int (nI r)), some (.int (nI a)), some (.int (nI (r * 4 + a))), some (.int (nI (49 + 3 * ((r * 4 + a) * 5 + k)))), some (.int (nI (mv tx (o 7) (iQ tx (o 7) (o 8))))), some (.int (nI (if nmB (hr tx (o 7) (iQ tx (o 7) (o 8))) = true then 1 else 0)))] [.int (nI (if iQ tx (o 7) (o 8) + 1 < o 7 then byv (tx (iQ tx (o 7) (o 8) + 1)) else 0))] Mz2848 (fun r9 M1 => r9 = none ∧ (iF tx (o 7) (o 8) = NO → MM M1 (up o 8 (iE tx (o 7) (o 8))) (fset (fset f 147 (up (f 147) ((r * 4 + a) * 5 + k) (iQ tx (o 7) (o 8)))) 145 (up (up (up (up (f 145) ((49 + 3 * ((r * 4 + a) * 5 + k)) + 2) (iB tx (o 7) (o 8))) (49 + 3 * ((r * 4 + a) * 5 + k)) (iV tx (o 7) (o 8))) ((49 + 3 * ((r * 4 + a) * 5 + k)) + 1) (if iN tx (o 7) (o 8) = true then 1 else 0)) (17 + (r * 4 + a)) (k + 1))) ∧ Sm Mq M1 [139, 145, 147]) ∧ (iF tx (o 7) (o 8) ≠ NO → ∃ P9 f9, MM M1 (up (up (up o 8 P9) 9 (iF tx (o 7) (o 8))) 10 0) f9 ∧ P9 ≤ o 7 ∧ (∀ q, f9 145 q < 2147483648) ∧ Dsame f f9 ∧ Sm Mq M1 [139, 145, 147])) := by
                refine zw_top (x' := nI (mv tx (o 7) (iQ tx (o 7) (o 8) + 1))) rfl ?_
                refine zw_n 2 (ls' := [some (.ref 139), some (.int (nI r)), some (.int (nI a)), some (.int (nI (r * 4 + a))), some (.int (nI (49 + 3 * ((r * 4 + a) * 5 + k)))), some (.int (nI (mv tx (o 7) (iQ tx (o 7) (o 8) + 1)))), some (.int (nI (if nmB (hr tx (o 7) (iQ tx (o 7) (o 8))) = true then 1 else 0)))]) rfl ?_
                refine zw_callS (as := [.int (nI (mv tx (o 7) (iQ tx (o 7) (o 8) + 1)))]) (rest := []) rfl rfl rfl rfl rfl rfl (by decide) (m_isSign _ (nI (mv tx (o 7) (iQ tx (o 7) (o 8) + 1)))) (fun rz2850 Mz2851 hz2852 => ?_)
                rw [hz2852.1, hz2852.2]
                show Zw 2 zm_MO_readItem 183 [some (.ref 139), some (.int (nI r)), some (.int (nI a)), some (.int (nI (r * 4 + a))), some (.int (nI (49 + 3 * ((r * 4 + a) * 5 + k)))), some (.int (nI (mv tx (o 7) (iQ tx (o 7) (o 8) + 1)))), some (.int (nI (if nmB (hr tx (o 7) (iQ tx (o 7) (o 8))) = true then 1 else 0)))] [.int (nI (if 33 ≤ (nI (mv tx (o 7) (iQ tx (o 7) (o 8) + 1))).toInt ∧ (nI (mv tx (o 7) (iQ tx (o 7) (o 8) + 1))).toInt ≤ 126 then 1 else 0))] Mz2848 _
                refine zw_ne0N (a := if 33 ≤ (nI (mv tx (o 7) (iQ tx (o 7) (o 8) + 1))).toInt ∧ (nI (mv tx (o 7) (iQ tx (o 7) (o 8) + 1))).toInt ≤ 126 then 1 else 0) rfl rfl (ite_b) (fun c183 => ?_) (fun c183 => ?_)
                · -- 183 to 191
                  have h40 := sg_in ((mv_sg htx).mp (ite_ne c183))
                  refine zw_n 2 rfl ?_
                  refine zw_get (v := .int (nI ((iQ tx (o 7) (o 8)) + 1))) rfl (zat_self ez2849 (zat_set ez2847 (by decide) mz2832)) rfl ?_
                  refine zw_n 2 rfl ?_
                  refine zw_top (na (a := (iQ tx (o 7) (o 8)) + 1) (b := 1) rfl rfl) ?_
                  refine zw_put rfl (zat_self ez2849 (zat_set ez2847 (by decide) mz2832)) (rfl) (Nat.le_of_ble_eq_true rfl) ?_
                  generalize ez2854 : List.set Mz2848 139 _ = Mz2853
                  refine zw_n 1 rfl ?_
                  refine zw_get (v := .ref 145) rfl (zat_self ez2854 (zat_self ez2849 (zat_set ez2847 (by decide) mz2832))) rfl ?_
                  refine zw_n 2 rfl ?_
                  refine zw_iastN (g := (up (f 145) ((49 + 3 * ((r * 4 + a) * 5 + k)) + 2) (hr tx (o 7) (o 8)))) (j := (49 + 3 * ((r * 4 + a) * 5 + k))) (v := (hr tx (o 7) (iQ tx (o 7) (o 8) + 1))) rfl (zat_set ez2854 (by decide) (zat_set ez2849 (by decide) (zat_set ez2847 (by decide) (Sm.at hSz2828 (by decide) (zat_set ez2825 (by decide) (zat_self ez2820 (Sm.at hSz2752 (by decide) (hM.2 145 (by decide) (by decide))))))))) rfl (by decide) (by omega) (congrArg nI (mv_val (by have := sg_b ((mv_sg htx).mp (ite_ne c183)); omega))) ?_
                  generalize ez2856 : List.set Mz2853 145 _ = Mz2855
                  refine zw_n 1 rfl ?_
                  refine zw_get (v := .ref 145) rfl (zat_set ez2856 (by decide) (zat_self ez2854 (zat_self ez2849 (zat_set ez2847 (by decide) mz2832)))) rfl ?_
                  refine zw_n 3 rfl ?_
                  refine zw_top (na (a := 49 + 3 * ((r * 4 + a) * 5 + k)) (b := 1) rfl rfl) ?_
                  refine zw_n 1 rfl ?_
                  refine zw_eq0N (a := if nmB (hr tx (o 7) (iQ tx (o 7) (o 8))) = true then 1 else 0) rfl rfl (ite_b) (fun c220 => ?_) (fun c220 => ?_)
                  · -- 220 to 227
                    refine zw_n 1 rfl ?_
                    refine zw_iastN (g := (up (up (f 145) ((49 + 3 * ((r * 4 + a) * 5 + k)) + 2) (hr tx (o 7) (o 8))) (49 + 3 * ((r * 4 + a) * 5 + k)) (hr tx (o 7) (iQ tx (o 7) (o 8) + 1)))) (j := ((49 + 3 * ((r * 4 + a) * 5 + k)) + 1)) (v := 0) rfl (zat_self ez2856 (zat_set ez2854 (by decide) (zat_set ez2849 (by decide) (zat_set ez2847 (by decide) (Sm.at hSz2828 (by decide) (zat_set ez2825 (by decide) (zat_self ez2820 (Sm.at hSz2752 (by decide) (hM.2 145 (by decide) (by decide)))))))))) rfl (by decide) (by omega) (rfl) ?_
                    generalize ez2858 : List.set Mz2855 145 _ = Mz2857
                    refine zw_n 1 rfl ?_
                    refine zw_get (v := .ref 145) rfl (zat_set ez2858 (by decide) (zat_set ez2856 (by decide) (zat_self ez2854 (zat_self ez2849 (zat_set ez2847 (by decide) mz2832))))) rfl ?_
                    refine zw_n 3 rfl ?_
                    refine zw_top (na (a := 17) (b := r * 4 + a) rfl rfl) ?_
                    refine zw_n 1 rfl ?_
                    refine zw_iald (f := ai (up (up (up (f 145) ((49 + 3 * ((r * 4 + a) * 5 + k)) + 2) (hr tx (o 7) (o 8))) (49 + 3 * ((r * 4 + a) * 5 + k)) (hr tx (o 7) (iQ tx (o 7) (o 8) + 1))) ((49 + 3 * ((r * 4 + a) * 5 + k)) + 1) 0)) (j := (17 + (r * 4 + a))) rfl (zat_self ez2858 (zat_self ez2856 (zat_set ez2854 (by decide) (zat_set ez2849 (by decide) (zat_set ez2847 (by decide) (Sm.at hSz2828 (by decide) (zat_set ez2825 (by decide) (zat_self ez2820 (Sm.at hSz2752 (by decide) (hM.2 145 (by decide) (by decide))))))))))) rfl (by decide) (by omega) ?_
                    refine zw_top (x' := (nI k)) (congrArg nI ((up_n (by omega)).trans ((up_n (by omega)).trans ((up_n (by omega)).trans (hk))))) ?_
                    refine zw_n 2 rfl ?_
                    refine zw_top (na (a := k) (b := 1) rfl rfl) ?_
                    refine zw_iastN (g := (up (up (up (f 145) ((49 + 3 * ((r * 4 + a) * 5 + k)) + 2) (hr tx (o 7) (o 8))) (49 + 3 * ((r * 4 + a) * 5 + k)) (hr tx (o 7) (iQ tx (o 7) (o 8) + 1))) ((49 + 3 * ((r * 4 + a) * 5 + k)) + 1) 0)) (j := (17 + (r * 4 + a))) (v := (k + 1)) rfl (zat_self ez2858 (zat_self ez2856 (zat_set ez2854 (by decide) (zat_set ez2849 (by decide) (zat_set ez2847 (by decide) (Sm.at hSz2828 (by decide) (zat_set ez2825 (by decide) (zat_self ez2820 (Sm.at hSz2752 (by decide) (hM.2 145 (by decide) (by decide))))))))))) rfl (by decide) (by omega) (rfl) ?_
                    generalize ez2860 : List.set Mz2857 145 _ = Mz2859
                    have mz2861 : Mz2859[139]? = some (.inr (12, [.int (nI (o 0)), .ref 140, .ref 141, .ref 142, .ref 143, .int (nI (o 5)), .ref 144, .int (nI (o 7)), .int (nI (((iQ tx (o 7) (o 8)) + 1) + 1)), .int (nI (o 9)), .int (nI (o 10)), .ref 145, .ref 146, .ref 147, .ref 148, .ref 149, .ref 150, .ref 151, .ref 152, .ref 153, .ref 154, .ref 155, .ref 156, .ref 157, .ref 158, .ref 159, .ref 160, .ref 161, .ref 162, .ref 163, .ref 164, .int (nI (o 31)), .ref 165, .int (nI (o 33)), .ref 166, .ref 167, .ref 168, .ref 169, .int (nI (o 38)), .ref 170, .ref 171, .ref 172, .ref 173, .ref 174, .ref 175, .int (nI (o 45)), .int (nI (o 46)), .int (nI (o 47)), .long (lN (o 48)), .ref 176])) := zat_set ez2860 (by decide) (zat_set ez2858 (by decide) (zat_set ez2856 (by decide) (zat_self ez2854 (zat_self ez2849 (zat_set ez2847 (by decide) mz2832)))))
                    have mz2862 : Mz2859[145]? = some (.inl (0, 529, .inl (ai (up (up (up (up (f 145) ((49 + 3 * ((r * 4 + a) * 5 + k)) + 2) (hr tx (o 7) (o 8))) (49 + 3 * ((r * 4 + a) * 5 + k)) (hr tx (o 7) (iQ tx (o 7) (o 8) + 1))) ((49 + 3 * ((r * 4 + a) * 5 + k)) + 1) 0) (17 + (r * 4 + a)) (k + 1))))) := zat_self ez2860 (zat_self ez2858 (zat_self ez2856 (zat_set ez2854 (by decide) (zat_set ez2849 (by decide) (zat_set ez2847 (by decide) (Sm.at hSz2828 (by decide) (zat_set ez2825 (by decide) (zat_self ez2820 (Sm.at hSz2752 (by decide) (hM.2 145 (by decide) (by decide)))))))))))
                    have mz2863 : Mz2859[144]? = some (.inl (2, 240, .inl (ai (f 144)))) := zat_set ez2860 (by decide) (zat_set ez2858 (by decide) (zat_set ez2856 (by decide) (zat_set ez2854 (by decide) (zat_set ez2849 (by decide) (zat_set ez2847 (by decide) (Sm.at hSz2828 (by decide) (zat_set ez2825 (by decide) (zat_set ez2820 (by decide) (Sm.at hSz2752 (by decide) (hM.2 144 (by decide) (by decide)))))))))))
                    have mz2864 : Mz2859[147]? = some (.inl (0, 160, .inl (ai (up (f 147) ((r * 4 + a) * 5 + k) (iQ tx (o 7) (o 8)))))) := zat_set ez2860 (by decide) (zat_set ez2858 (by decide) (zat_set ez2856 (by decide) (zat_set ez2854 (by decide) (zat_set ez2849 (by decide) (zat_self ez2847 (Sm.at hSz2828 (by decide) (zat_set ez2825 (by decide) (zat_set ez2820 (by decide) (Sm.at hSz2752 (by decide) (hM.2 147 (by decide) (by decide)))))))))))
                    have sz2865 : Sm Mq Mz2859 [139, 145, 147] := Sm.tset (Sm.tset (Sm.tset (Sm.tset (Sm.tset (Sm.tset (Sm.tw (Sm.tset (Sm.tset (Sm.tw Sm.rf hSz2752 (by decide)) ez2820 (by decide)) ez2825 (by decide)) hSz2828 (by decide)) ez2847 (by decide)) ez2849 (by decide)) ez2854 (by decide)) ez2856 (by decide)) ez2858 (by decide)) ez2860 (by decide)
                    refine zw_vret rfl rfl ?_
                    have hF9 : iF tx (o 7) (o 8) = NO := by unfold iF; rw [if_neg (ite_eq0 c106), if_pos ((mv_eq htx (by decide) (show 39 < 128 by decide)).mp c113), if_pos ((mv_sg htx).mp (ite_ne c183))]
                    exact ⟨rfl, fun _ => ⟨by rw [show iE tx (o 7) (o 8) = ((iQ tx (o 7) (o 8)) + 1) + 1 from by unfold iE; rw [if_neg (ite_eq0 c106)], show iV tx (o 7) (o 8) = hr tx (o 7) (iQ tx (o 7) (o 8) + 1) from by unfold iV; rw [if_neg (ite_eq0 c106)], show iB tx (o 7) (o 8) = hr tx (o 7) (o 8) from by unfold iB; rw [if_pos (ite_ne c59)], show (if iN tx (o 7) (o 8) = true then 1 else 0) = 0 from by unfold iN; rw [if_neg (ite_eq0 c106)]]; exact (MM.of (o' := up o 8 (((iQ tx (o 7) (o 8)) + 1) + 1)) (f' := fset (fset f 147 (up (f 147) ((r * 4 + a) * 5 + k) (iQ tx (o 7) (o 8)))) 145 (up (up (up (up (f 145) ((49 + 3 * ((r * 4 + a) * 5 + k)) + 2) (hr tx (o 7) (o 8))) (49 + 3 * ((r * 4 + a) * 5 + k)) (hr tx (o 7) (iQ tx (o 7) (o 8) + 1))) ((49 + 3 * ((r * 4 + a) * 5 + k)) + 1) 0) (17 + (r * 4 + a)) (k + 1))) hM sz2865 mz2861 (c1_skip (c1_cons mz2862 (c1_cons mz2864 c1_nil))) (fs_k (fs_c (fs_c fs_n)))), sz2865⟩, fun q9 => absurd hF9 q9⟩
                  · -- 220 to 223
                    exfalso
                    exact c220 c106
                · -- 183 to 186
                  refine zw_n 1 rfl ?_
                  refine zw_callV (as := []) (rest := []) rfl rfl rfl (zat_self ez2849 (zat_set ez2847 (by decide) mz2832)) rfl rfl rfl (by decide) (m_wrong Mz2848 (up o 8 ((iQ tx (o 7) (o 8)) + 1)) (fset (fset f 147 (up (f 147) ((r * 4 + a) * 5 + k) (iQ tx (o 7) (o 8)))) 145 (up (f 145) ((49 + 3 * ((r * 4 + a) * 5 + k)) + 2) (hr tx (o 7) (o 8)))) (MM.of (o' := up o 8 ((iQ tx (o 7) (o 8)) + 1)) (f' := fset (fset f 147 (up (f 147) ((r * 4 + a) * 5 + k) (iQ tx (o 7) (o 8)))) 145 (up (f 145) ((49 + 3 * ((r * 4 + a) * 5 + k)) + 2) (hr tx (o 7) (o 8)))) hM (Sm.tset (Sm.tset (Sm.tw (Sm.tset (Sm.tset (Sm.tw Sm.rf hSz2752 (by decide)) ez2820 (by decide)) ez2825 (by decide)) hSz2828 (by decide)) ez2847 (by decide)) ez2849 (by decide)) (zat_self ez2849 (zat_set ez2847 (by decide) mz2832)) (c1_skip (c1_cons (zat_set ez2849 (by decide) (zat_set ez2847 (by decide) (Sm.at hSz2828 (by decide) (zat_set ez2825 (by decide) (zat_self ez2820 (Sm.at hSz2752 (by decide) (hM.2 145 (by decide) (by decide)))))))) (c1_cons (zat_set ez2849 (by decide) (zat_self ez2847 (Sm.at hSz2828 (by decide) (zat_set ez2825 (by decide) (zat_set ez2820 (by decide) (Sm.at hSz2752 (by decide) (hM.2 147 (by decide) (by decide)))))))) c1_nil))) (fs_k (fs_c (fs_c fs_n)))) hg) (fun rz2869 Mz2870 hz2871 => ?_)
                  obtain ⟨hAz2866, hMMz2867, hSz2868⟩ := hz2871
                  rw [hAz2866]
                  show Zw 2 zm_MO_readItem 190 [some (.ref 139), some (.int (nI r)), some (.int (nI a)), some (.int (nI (r * 4 + a))), some (.int (nI (49 + 3 * ((r * 4 + a) * 5 + k)))), some (.int (nI (mv tx (o 7) (iQ tx (o 7) (o 8) + 1)))), some (.int (nI (if nmB (hr tx (o 7) (iQ tx (o 7) (o 8))) = true then 1 else 0)))] [] Mz2870 _
                  refine zw_vret rfl rfl ?_
                  have hF9 : iF tx (o 7) (o 8) = (iQ tx (o 7) (o 8)) + 1 := by unfold iF; rw [if_neg (ite_eq0 c106), if_pos ((mv_eq htx (by decide) (show 39 < 128 by decide)).mp c113), if_neg (fun q9 => ite_eq0 c183 ((mv_sg htx).mpr q9))]
                  have hn9 : iF tx (o 7) (o 8) ≠ NO := by rw [hF9]; unfold NO; omega
                  exact ⟨rfl, fun q9 => absurd q9 hn9, fun _ => ⟨(iQ tx (o 7) (o 8)) + 1, fset (fset f 147 (up (f 147) ((r * 4 + a) * 5 + k) (iQ tx (o 7) (o 8)))) 145 (up (f 145) ((49 + 3 * ((r * 4 + a) * 5 + k)) + 2) (hr tx (o 7) (o 8))), by rw [hF9]; exact (MM.of (o' := up (up (up o 8 ((iQ tx (o 7) (o 8)) + 1)) 9 ((iQ tx (o 7) (o 8)) + 1)) 10 0) (f' := fset (fset f 147 (up (f 147) ((r * 4 + a) * 5 + k) (iQ tx (o 7) (o 8)))) 145 (up (f 145) ((49 + 3 * ((r * 4 + a) * 5 + k)) + 2) (hr tx (o 7) (o 8)))) hM (Sm.tw (Sm.tset (Sm.tset (Sm.tw (Sm.tset (Sm.tset (Sm.tw Sm.rf hSz2752 (by decide)) ez2820 (by decide)) ez2825 (by decide)) hSz2828 (by decide)) ez2847 (by decide)) ez2849 (by decide)) hSz2868 (by decide)) hMMz2867.1 (c1_skip (c1_cons (Sm.at hSz2868 (by decide) (zat_set ez2849 (by decide) (zat_set ez2847 (by decide) (Sm.at hSz2828 (by decide) (zat_set ez2825 (by decide) (zat_self ez2820 (Sm.at hSz2752 (by decide) (hM.2 145 (by decide) (by decide))))))))) (c1_cons (Sm.at hSz2868 (by decide) (zat_set ez2849 (by decide) (zat_self ez2847 (Sm.at hSz2828 (by decide) (zat_set ez2825 (by decide) (zat_set ez2820 (by decide) (Sm.at hSz2752 (by decide) (hM.2 147 (by decide) (by decide))))))))) c1_nil))) (fs_k (fs_c (fs_c fs_n)))), by omega, (up_lt hb0 (by have := bn_lt (ite_ne c59); omega)), Dsame.of (S := [139, 145, 147]) (fs_k (fs_c (fs_c fs_n))) (by decide), Sm.tw (Sm.tset (Sm.tset (Sm.tw (Sm.tset (Sm.tset (Sm.tw Sm.rf hSz2752 (by decide)) ez2820 (by decide)) ez2825 (by decide)) hSz2828 (by decide)) ez2847 (by decide)) ez2849 (by decide)) hSz2868 (by decide)⟩⟩
              refine zw_n 1 rfl ?_
              refine zw_get (v := .int (nI ((iQ tx (o 7) (o 8)) + 1))) rfl (zat_self ez2849 (zat_set ez2847 (by decide) mz2832)) rfl ?_
              refine zw_n 1 rfl ?_
              refine zw_get (v := .int (nI (o 7))) rfl (zat_self ez2849 (zat_set ez2847 (by decide) mz2832)) rfl ?_
              refine zw_igeN (a := (iQ tx (o 7) (o 8)) + 1) (b := o 7) rfl rfl rfl (by omega) (by omega) (fun c160 => ?_) (fun c160 => ?_)
              · -- 160 to 175
                refine zw_n 1 rfl ?_
                refine zw_top (x' := nI (if iQ tx (o 7) (o 8) + 1 < o 7 then byv (tx (iQ tx (o 7) (o 8) + 1)) else 0)) (show nI 0 = nI (if iQ tx (o 7) (o 8) + 1 < o 7 then byv (tx (iQ tx (o 7) (o 8) + 1)) else 0) by rw [if_neg (by omega)]) ?_
                exact j152
              · -- 160 to 163
                refine zw_n 1 rfl ?_
                refine zw_get (v := .ref 144) rfl (zat_self ez2849 (zat_set ez2847 (by decide) mz2832)) rfl ?_
                refine zw_n 1 rfl ?_
                refine zw_get (v := .int (nI ((iQ tx (o 7) (o 8)) + 1))) rfl (zat_self ez2849 (zat_set ez2847 (by decide) mz2832)) rfl ?_
                refine zw_bald (f := ai (f 144)) (j := ((iQ tx (o 7) (o 8)) + 1)) rfl (zat_set ez2849 (by decide) (zat_set ez2847 (by decide) (Sm.at hSz2828 (by decide) (zat_set ez2825 (by decide) (zat_set ez2820 (by decide) (Sm.at hSz2752 (by decide) (hM.2 144 (by decide) (by decide)))))))) rfl rfl (by decide) (by omega) ?_
                refine zw_top (x' := (nI (byv (tx (iQ tx (o 7) (o 8) + 1))))) (congrArg nI (hX _ (by omega))) ?_
                refine zw_n 1 rfl ?_
                refine zw_top (x' := nI (if iQ tx (o 7) (o 8) + 1 < o 7 then byv (tx (iQ tx (o 7) (o 8) + 1)) else 0)) (show nI (byv (tx (iQ tx (o 7) (o 8) + 1))) = nI (if iQ tx (o 7) (o 8) + 1 < o 7 then byv (tx (iQ tx (o 7) (o 8) + 1)) else 0) by rw [if_pos (by omega)]) ?_
                exact j152
          · -- 113 to 116
            refine zw_n 1 rfl ?_
            refine zw_callV (as := []) (rest := []) rfl rfl rfl mz2832 rfl rfl rfl (by decide) (m_wrong Mz2830 (up o 8 (iQ tx (o 7) (o 8))) (fset f 145 (up (f 145) ((49 + 3 * ((r * 4 + a) * 5 + k)) + 2) (hr tx (o 7) (o 8)))) (MM.of (o' := up o 8 (iQ tx (o 7) (o 8))) (f' := fset f 145 (up (f 145) ((49 + 3 * ((r * 4 + a) * 5 + k)) + 2) (hr tx (o 7) (o 8)))) hM (Sm.tw (Sm.tset (Sm.tset (Sm.tw Sm.rf hSz2752 (by decide)) ez2820 (by decide)) ez2825 (by decide)) hSz2828 (by decide)) mz2832 (c1_skip (c1_cons (Sm.at hSz2828 (by decide) (zat_set ez2825 (by decide) (zat_self ez2820 (Sm.at hSz2752 (by decide) (hM.2 145 (by decide) (by decide)))))) (c1_cons (Sm.at hSz2828 (by decide) (zat_set ez2825 (by decide) (zat_set ez2820 (by decide) (Sm.at hSz2752 (by decide) (hM.2 147 (by decide) (by decide)))))) c1_nil))) (fs_k (fs_c (fs_k fs_n)))) hg) (fun rz2875 Mz2876 hz2877 => ?_)
            obtain ⟨hAz2872, hMMz2873, hSz2874⟩ := hz2877
            rw [hAz2872]
            show Zw 2 zm_MO_readItem 120 [some (.ref 139), some (.int (nI r)), some (.int (nI a)), some (.int (nI (r * 4 + a))), some (.int (nI (49 + 3 * ((r * 4 + a) * 5 + k)))), some (.int (nI (mv tx (o 7) (iQ tx (o 7) (o 8))))), some (.int (nI (if nmB (hr tx (o 7) (iQ tx (o 7) (o 8))) = true then 1 else 0)))] [] Mz2876 _
            refine zw_vret rfl rfl ?_
            have hF9 : iF tx (o 7) (o 8) = iQ tx (o 7) (o 8) := by unfold iF; rw [if_neg (ite_eq0 c106), if_neg (fun q9 => c113 ((mv_eq htx (by decide) (show 39 < 128 by decide)).mpr q9))]
            have hn9 : iF tx (o 7) (o 8) ≠ NO := by rw [hF9]; unfold NO; omega
            exact ⟨rfl, fun q9 => absurd q9 hn9, fun _ => ⟨iQ tx (o 7) (o 8), fset f 145 (up (f 145) ((49 + 3 * ((r * 4 + a) * 5 + k)) + 2) (hr tx (o 7) (o 8))), by rw [hF9]; exact (MM.of (o' := up (up (up o 8 (iQ tx (o 7) (o 8))) 9 (iQ tx (o 7) (o 8))) 10 0) (f' := fset f 145 (up (f 145) ((49 + 3 * ((r * 4 + a) * 5 + k)) + 2) (hr tx (o 7) (o 8)))) hM (Sm.tw (Sm.tw (Sm.tset (Sm.tset (Sm.tw Sm.rf hSz2752 (by decide)) ez2820 (by decide)) ez2825 (by decide)) hSz2828 (by decide)) hSz2874 (by decide)) hMMz2873.1 (c1_skip (c1_cons (Sm.at hSz2874 (by decide) (Sm.at hSz2828 (by decide) (zat_set ez2825 (by decide) (zat_self ez2820 (Sm.at hSz2752 (by decide) (hM.2 145 (by decide) (by decide))))))) (c1_cons (Sm.at hSz2874 (by decide) (Sm.at hSz2828 (by decide) (zat_set ez2825 (by decide) (zat_set ez2820 (by decide) (Sm.at hSz2752 (by decide) (hM.2 147 (by decide) (by decide))))))) c1_nil))) (fs_k (fs_c (fs_k fs_n)))), by omega, (up_lt hb0 (by have := bn_lt (ite_ne c59); omega)), Dsame.of (S := [139, 145, 147]) (fs_k (fs_c (fs_k fs_n))) (by decide), Sm.tw (Sm.tw (Sm.tset (Sm.tset (Sm.tw Sm.rf hSz2752 (by decide)) ez2820 (by decide)) ez2825 (by decide)) hSz2828 (by decide)) hSz2874 (by decide)⟩⟩
  · -- 16 to 19
    exfalso
    omega
