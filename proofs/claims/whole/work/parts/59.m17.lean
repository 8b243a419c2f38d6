set_option maxHeartbeats 4000000 in
set_option maxRecDepth 100000 in
theorem m_puts (Mq : zM) (o : Nat → Nat) (f : Nat → Nat → Nat) (hM : MM Mq o f) (x : Nat) (hx : x < 128) (hn : o 31 < 900) : Zm 0 zm_MO_puts [.ref 139, .int (nI x)] Mq (fun r9 M1 => r9 = none ∧ MM M1 (up o 31 (o 31 + 1)) (fset f 164 (up (f 164) (o 31) x)) ∧ Sm Mq M1 [139, 164]) := by
  show Zw 0 zm_MO_puts 0 [some (.ref 139), some (.int (nI x))] [] Mq _
  refine zw_n 1 rfl ?_
  refine zw_get (v := .ref 164) rfl hM.1 rfl ?_
  refine zw_n 1 rfl ?_
  refine zw_get (v := .int (nI (o 31))) rfl hM.1 rfl ?_
  refine zw_n 2 rfl ?_
  refine zw_top (x' := (nI x)) (by_lt hx) ?_
  refine zw_bastN (g := (f 164)) (j := (o 31)) (v := x) rfl (hM.2 164 (by decide) (by decide)) rfl (by decide) (by omega) (nar_lt hx) ?_
  generalize ez1829 : List.set Mq 164 _ = Mz1828
  refine zw_n 2 rfl ?_
  refine zw_get (v := .int (nI (o 31))) rfl (zat_set ez1829 (by decide) hM.1) rfl ?_
  refine zw_n 2 rfl ?_
  refine zw_top (na (a := o 31) (b := 1) rfl rfl) ?_
  refine zw_put rfl (zat_set ez1829 (by decide) hM.1) (rfl) (Nat.le_of_ble_eq_true rfl) ?_
  generalize ez1831 : List.set Mz1828 139 _ = Mz1830
  exact zw_vret rfl rfl (⟨rfl, (MM.of (o' := up o 31 ((o 31) + 1)) (f' := fset f 164 (up (f 164) (o 31) x)) hM (Sm.tset (Sm.tset Sm.rf ez1829 (by decide)) ez1831 (by decide)) (zat_self ez1831 (zat_set ez1829 (by decide) hM.1)) (c1_skip (c1_cons (zat_set ez1831 (by decide) (zat_self ez1829 (hM.2 164 (by decide) (by decide)))) c1_nil)) (fs_k (fs_c fs_n))), Sm.tset (Sm.tset Sm.rf ez1829 (by decide)) ez1831 (by decide)⟩)

set_option maxHeartbeats 4000000 in
set_option maxRecDepth 100000 in
theorem m_print (Mq : zM) (o : Nat → Nat) (f : Nat → Nat → Nat) (hM : MM Mq o f) (c : Nat) (sg li co : Nat → Nat) (ht : RelT f c sg li co) (hS : SafeT c sg li co) (hs : Srt c li co) (hsg : ∀ q, q < c → sg q < 128) : Zm 1 zm_MO_print [.ref 139] Mq (fun r9 M1 => r9 = some (.int (nI (prT c sg li co).length)) ∧ ∃ n9 g9, MM M1 (up (up o 0 0) 31 n9) (fset f 164 g9) ∧ Sm Mq M1 [139, 164] ∧ Lt n9 g9 (prT c sg li co) ∧ n9 ≤ 820) := by
  show Zw 1 zm_MO_print 0 [some (.ref 139), none, none, none] [] Mq _
  have hc20 := hS.1
  have hli := hS.2.2.1
  have hco := hS.2.2.2
  refine zw_n 2 rfl ?_
  refine zw_put rfl hM.1 (rfl) (Nat.le_of_ble_eq_true rfl) ?_
  generalize ez1833 : List.set Mq 139 _ = Mz1832
  refine zw_n 2 rfl ?_
  refine zw_put rfl (zat_self ez1833 hM.1) (rfl) (Nat.le_of_ble_eq_true rfl) ?_
  generalize ez1835 : List.set Mz1832 139 _ = Mz1834
  refine zw_n 2 (ls' := [some (.ref 139), some (.int 0), none, none]) rfl ?_
  have mz1836 : Mz1834[140]? = some (.inl (0, 590, .inl (ai (f 140)))) := zat_set ez1835 (by decide) (zat_set ez1833 (by decide) (hM.2 140 (by decide) (by decide)))
  have mz1837 : Mz1834[164]? = some (.inl (2, 900, .inl (ai (f 164)))) := zat_set ez1835 (by decide) (zat_set ez1833 (by decide) (hM.2 164 (by decide) (by decide)))
  have sz1838 : Sm Mq Mz1834 [139, 164] := Sm.tset (Sm.tset Sm.rf ez1833 (by decide)) ez1835 (by decide)
  have lp12 : ∀ (n12 : Nat) (k : Nat) (n1 : Nat) (g1 : Nat → Nat) (M_12 : zM), Sm Mq M_12 [139, 164] → M_12[139]? = some (.inr (12, [.int 0, .ref 140, .ref 141, .ref 142, .ref 143, .int (nI (o 5)), .ref 144, .int (nI (o 7)), .int (nI (o 8)), .int (nI (o 9)), .int (nI (o 10)), .ref 145, .ref 146, .ref 147, .ref 148, .ref 149, .ref 150, .ref 151, .ref 152, .ref 153, .ref 154, .ref 155, .ref 156, .ref 157, .ref 158, .ref 159, .ref 160, .ref 161, .ref 162, .ref 163, .ref 164, .int (nI n1), .ref 165, .int (nI (o 33)), .ref 166, .ref 167, .ref 168, .ref 169, .int (nI (o 38)), .ref 170, .ref 171, .ref 172, .ref 173, .ref 174, .ref 175, .int (nI (o 45)), .int (nI (o 46)), .int (nI (o 47)), .long (lN (o 48)), .ref 176])) → M_12[164]? = some (.inl (2, 900, .inl (ai g1))) → (k ≤ c ∧ n1 ≤ 41 * k ∧ Lt n1 g1 (lc (prK sg li co) k)) → c - k < n12 → Zw 1 zm_MO_print 12 [some (.ref 139), some (.int (nI k)), none, none] [] M_12 (fun r9 M1 => r9 = some (.int (nI (prT c sg li co).length)) ∧ ∃ n9 g9, MM M1 (up (up o 0 0) 31 n9) (fset f 164 g9) ∧ Sm Mq M1 [139, 164] ∧ Lt n9 g9 (prT c sg li co) ∧ n9 ≤ 820) := by
    intro n12
    induction n12 with
    | zero => intro k n1 g1 M_12 _ _ _ _ h; exact absurd h (Nat.not_lt_zero _)
    | succ n12 ih12 =>
      intro k n1 g1 M_12 s_12 f12_0 f12_1 hi12 hm12
      have hck := hco k
      refine zw_n 2 rfl ?_
      refine zw_callV (as := []) (rest := [.int (nI k)]) rfl rfl rfl f12_0 rfl rfl rfl (by decide) (m_tok1 M_12 (up (up o 0 0) 31 n1) (fset f 164 g1) (MM.of (o' := up (up o 0 0) 31 n1) (f' := fset f 164 g1) hM s_12 f12_0 (c1_skip (c1_cons f12_1 c1_nil)) (fs_k (fs_c fs_n))) c ht.1) (fun rz1839 Mz1840 hz1841 => ?_)
      rw [hz1841.1, hz1841.2]
      show Zw 1 zm_MO_print 17 [some (.ref 139), some (.int (nI k)), none, none] [.int (nI c), .int (nI k)] M_12 _
      refine zw_igeN (a := k) (b := c) rfl rfl rfl (by omega) (by omega) (fun c17 => ?_) (fun c17 => ?_)
      · -- 17 to 113
        refine zw_n 1 rfl ?_
        refine zw_get (v := .int (nI n1)) rfl f12_0 rfl ?_
        exact zw_iret rfl rfl (⟨by rw [prT, ← show k = c by omega, ← hi12.2.2.1], n1, g1, (MM.of (o' := up (up o 0 0) 31 n1) (f' := fset f 164 g1) hM s_12 f12_0 (c1_skip (c1_cons f12_1 c1_nil)) (fs_k (fs_c fs_n))), s_12, by rw [prT, ← show k = c by omega]; exact hi12.2.2, by omega⟩)
      · -- 17 to 20
        refine zw_n 1 rfl ?_
        refine zw_le0N (a := k) rfl rfl (by omega) (fun c21 => ?_) (fun c21 => ?_)
        · -- 21 to 38
          refine zw_n 2 rfl ?_
          refine zw_callV (as := [.int (nI k)]) (rest := []) rfl rfl rfl f12_0 rfl rfl rfl (by decide) (m_isFirst M_12 (up (up o 0 0) 31 n1) (fset f 164 g1) (MM.of (o' := up (up o 0 0) 31 n1) (f' := fset f 164 g1) hM s_12 f12_0 (c1_skip (c1_cons f12_1 c1_nil)) (fs_k (fs_c fs_n))) c sg li co ht hS k (by omega)) (fun rz1842 Mz1843 hz1844 => ?_)
          rw [hz1844.1, hz1844.2]
          show Zw 1 zm_MO_print 43 [some (.ref 139), some (.int (nI k)), none, none] [.int (nI (if k = 0 ∨ li (k - 1) ≠ li k then 1 else 0))] M_12 _
          refine zw_eq0N (a := if k = 0 ∨ li (k - 1) ≠ li k then 1 else 0) rfl rfl (ite_b) (fun c43 => ?_) (fun c43 => ?_)
          · -- 43 to 50
            exfalso
            exact ite_eq0 c43 (Or.inl (by omega))
          · -- 43 to 46
            refine zw_n 5 (ls' := [some (.ref 139), some (.int (nI k)), some (.int 0), some (.int 0)]) rfl ?_
            have lp67 : ∀ (n67 : Nat) (c2 : Nat) (n2 : Nat) (g2 : Nat → Nat) (M_67 : zM), Sm Mq M_67 [139, 164] → M_67[139]? = some (.inr (12, [.int 0, .ref 140, .ref 141, .ref 142, .ref 143, .int (nI (o 5)), .ref 144, .int (nI (o 7)), .int (nI (o 8)), .int (nI (o 9)), .int (nI (o 10)), .ref 145, .ref 146, .ref 147, .ref 148, .ref 149, .ref 150, .ref 151, .ref 152, .ref 153, .ref 154, .ref 155, .ref 156, .ref 157, .ref 158, .ref 159, .ref 160, .ref 161, .ref 162, .ref 163, .ref 164, .int (nI n2), .ref 165, .int (nI (o 33)), .ref 166, .ref 167, .ref 168, .ref 169, .int (nI (o 38)), .ref 170, .ref 171, .ref 172, .ref 173, .ref 174, .ref 175, .int (nI (o 45)), .int (nI (o 46)), .int (nI (o 47)), .long (lN (o 48)), .ref 176])) → M_67[164]? = some (.inl (2, 900, .inl (ai g2))) → (0 ≤ c2 ∧ c2 ≤ co k ∧ n2 ≤ 41 * k + 1 + (c2 - 0) ∧ Lt n2 g2 (lc (prK sg li co) k ++ [] ++ List.replicate (c2 - 0) 32)) → co k - c2 < n67 → Zw 1 zm_MO_print 67 [some (.ref 139), some (.int (nI k)), some (.int 0), some (.int (nI c2))] [] M_67 (fun r9 M1 => r9 = some (.int (nI (prT c sg li co).length)) ∧ ∃ n9 g9, MM M1 (up (up o 0 0) 31 n9) (fset f 164 g9) ∧ Sm Mq M1 [139, 164] ∧ Lt n9 g9 (prT c sg li co) ∧ n9 ≤ 820) := by
              intro n67
              induction n67 with
              | zero => intro c2 n2 g2 M_67 _ _ _ _ h; exact absurd h (Nat.not_lt_zero _)
              | succ n67 ih67 =>
                intro c2 n2 g2 M_67 s_67 f67_0 f67_1 hi67 hm67
                refine zw_n 2 rfl ?_
                refine zw_get (v := .ref 140) rfl f67_0 rfl ?_
                refine zw_n 3 rfl ?_
                refine zw_top (na (a := 570) (b := k) rfl rfl) ?_
                refine zw_iald (f := ai (f 140)) (j := (570 + k)) rfl (Sm.at s_67 (by decide) (hM.2 140 (by decide) (by decide))) rfl (by decide) (by omega) ?_
                refine zw_top (x' := (nI (co k))) (congrArg nI (ht.2 k (by omega)).2.2) ?_
                refine zw_igeN (a := c2) (b := co k) rfl rfl rfl (by omega) (by omega) (fun c78 => ?_) (fun c78 => ?_)
                · -- 78 to 93
                  refine zw_n 2 rfl ?_
                  refine zw_get (v := .ref 140) rfl f67_0 rfl ?_
                  refine zw_n 3 rfl ?_
                  refine zw_top (na (a := 530) (b := k) rfl rfl) ?_
                  refine zw_iald (f := ai (f 140)) (j := (530 + k)) rfl (Sm.at s_67 (by decide) (hM.2 140 (by decide) (by decide))) rfl (by decide) (by omega) ?_
                  refine zw_top (x' := (nI (sg k))) (congrArg nI (ht.2 k (by omega)).1) ?_
                  refine zw_callV (as := [.int (nI (sg k))]) (rest := []) rfl rfl rfl f67_0 rfl rfl rfl (by decide) (m_puts M_67 (up (up o 0 0) 31 n2) (fset f 164 g2) (MM.of (o' := up (up o 0 0) 31 n2) (f' := fset f 164 g2) hM s_67 f67_0 (c1_skip (c1_cons f67_1 c1_nil)) (fs_k (fs_c fs_n))) (sg k) (hsg k (by omega)) (show n2 < 900 by omega)) (fun rz1848 Mz1849 hz1850 => ?_)
                  obtain ⟨hAz1845, hMMz1846, hSz1847⟩ := hz1850
                  rw [hAz1845]
                  show Zw 1 zm_MO_print 107 [some (.ref 139), some (.int (nI k)), some (.int 0), some (.int (nI c2))] [] Mz1849 _
                  refine zw_inc rfl (x' := (nI (k + 1))) (ls' := [some (.ref 139), some (.int (nI (k + 1))), some (.int 0), some (.int (nI c2))]) rfl (na (a := k) (b := 1) rfl rfl) rfl ?_
                  refine zw_n 1 rfl ?_
                  refine zw_ls (ls' := [some (.ref 139), some (.int (nI (k + 1))), none, none]) ⟨Or.inr rfl, Or.inr rfl, Or.inl rfl, Or.inl rfl, trivial⟩ ?_
                  exact ih12 (k + 1) (n2 + 1) (up g2 n2 (sg k)) Mz1849 (Sm.trans s_67 hSz1847) hMMz1846.1 (hMMz1846.2 164 (by decide) (by decide)) (⟨by omega, by omega, by rw [lc_s0, prK_B (s := 0) (by omega) rfl, ← show c2 = co k by omega]; exact hi67.2.2.2.add _⟩) (by omega)
                · -- 78 to 81
                  refine zw_n 2 rfl ?_
                  refine zw_callV (as := [.int 32]) (rest := []) rfl rfl rfl f67_0 rfl rfl rfl (by decide) (m_puts M_67 (up (up o 0 0) 31 n2) (fset f 164 g2) (MM.of (o' := up (up o 0 0) 31 n2) (f' := fset f 164 g2) hM s_67 f67_0 (c1_skip (c1_cons f67_1 c1_nil)) (fs_k (fs_c fs_n))) 32 (by decide) (show n2 < 900 by omega)) (fun rz1854 Mz1855 hz1856 => ?_)
                  obtain ⟨hAz1851, hMMz1852, hSz1853⟩ := hz1856
                  rw [hAz1851]
                  show Zw 1 zm_MO_print 87 [some (.ref 139), some (.int (nI k)), some (.int 0), some (.int (nI c2))] [] Mz1855 _
                  refine zw_inc rfl (x' := (nI (c2 + 1))) (ls' := [some (.ref 139), some (.int (nI k)), some (.int 0), some (.int (nI (c2 + 1)))]) rfl (na (a := c2) (b := 1) rfl rfl) rfl ?_
                  refine zw_n 1 rfl ?_
                  exact ih67 (c2 + 1) (n2 + 1) (up g2 n2 32) Mz1855 (Sm.trans s_67 hSz1853) hMMz1852.1 (hMMz1852.2 164 (by decide) (by decide)) (⟨by omega, by omega, by omega, hi67.2.2.2.rep hi67.1⟩) (by omega)
            exact lp67 _ 0 n1 g1 M_12 s_12 f12_0 f12_1 (⟨Nat.le_refl _, by omega, by omega, Lt.rep0 (by rw [List.append_nil]; exact hi12.2.2)⟩) (Nat.lt_succ_self _)
        · -- 21 to 24
          refine zw_n 2 rfl ?_
          refine zw_callV (as := [.int (nI k)]) (rest := []) rfl rfl rfl f12_0 rfl rfl rfl (by decide) (m_isFirst M_12 (up (up o 0 0) 31 n1) (fset f 164 g1) (MM.of (o' := up (up o 0 0) 31 n1) (f' := fset f 164 g1) hM s_12 f12_0 (c1_skip (c1_cons f12_1 c1_nil)) (fs_k (fs_c fs_n))) c sg li co ht hS k (by omega)) (fun rz1857 Mz1858 hz1859 => ?_)
          rw [hz1859.1, hz1859.2]
          show Zw 1 zm_MO_print 29 [some (.ref 139), some (.int (nI k)), none, none] [.int (nI (if k = 0 ∨ li (k - 1) ≠ li k then 1 else 0))] M_12 _
          refine zw_eq0N (a := if k = 0 ∨ li (k - 1) ≠ li k then 1 else 0) rfl rfl (ite_b) (fun c29 => ?_) (fun c29 => ?_)
          · -- 29 to 38
            refine zw_n 2 rfl ?_
            refine zw_callV (as := [.int (nI k)]) (rest := []) rfl rfl rfl f12_0 rfl rfl rfl (by decide) (m_isFirst M_12 (up (up o 0 0) 31 n1) (fset f 164 g1) (MM.of (o' := up (up o 0 0) 31 n1) (f' := fset f 164 g1) hM s_12 f12_0 (c1_skip (c1_cons f12_1 c1_nil)) (fs_k (fs_c fs_n))) c sg li co ht hS k (by omega)) (fun rz1860 Mz1861 hz1862 => ?_)
            rw [hz1862.1, hz1862.2]
            show Zw 1 zm_MO_print 43 [some (.ref 139), some (.int (nI k)), none, none] [.int (nI (if k = 0 ∨ li (k - 1) ≠ li k then 1 else 0))] M_12 _
            refine zw_eq0N (a := if k = 0 ∨ li (k - 1) ≠ li k then 1 else 0) rfl rfl (ite_b) (fun c43 => ?_) (fun c43 => ?_)
            · -- 43 to 50
              have hb9 : li (k - 1) = li k := by have := ite_eq0 c43; omega
              refine zw_n 1 rfl ?_
              refine zw_get (v := .ref 140) rfl f12_0 rfl ?_
              refine zw_n 3 rfl ?_
              refine zw_top (na (a := 570) (b := k) rfl rfl) ?_
              refine zw_n 2 rfl ?_
              refine zw_top (ns (a := 570 + k) (b := 1) rfl rfl (by omega)) ?_
              refine zw_iald (f := ai (f 140)) (j := ((570 + k) - 1)) rfl (Sm.at s_12 (by decide) (hM.2 140 (by decide) (by decide))) rfl (by decide) (by omega) ?_
              refine zw_top (x' := (nI (co (k - 1)))) (congrArg nI ((congrArg (f 140) (show 570 + k - 1 = 570 + (k - 1) by omega)).trans (ht.2 (k - 1) (by omega)).2.2)) ?_
              refine zw_n 2 rfl ?_
              refine zw_top (na (a := co (k - 1)) (b := 1) rfl rfl) ?_
              refine zw_n 3 (ls' := [some (.ref 139), some (.int (nI k)), some (.int (nI ((co (k - 1)) + 1))), some (.int (nI ((co (k - 1)) + 1)))]) rfl ?_
              have hb8 := srt_col hs (show k < c by omega) (by omega) hb9
              have lp67 : ∀ (n67 : Nat) (c2 : Nat) (n2 : Nat) (g2 : Nat → Nat) (M_67 : zM), Sm Mq M_67 [139, 164] → M_67[139]? = some (.inr (12, [.int 0, .ref 140, .ref 141, .ref 142, .ref 143, .int (nI (o 5)), .ref 144, .int (nI (o 7)), .int (nI (o 8)), .int (nI (o 9)), .int (nI (o 10)), .ref 145, .ref 146, .ref 147, .ref 148, .ref 149, .ref 150, .ref 151, .ref 152, .ref 153, .ref 154, .ref 155, .ref 156, .ref 157, .ref 158, .ref 159, .ref 160, .ref 161, .ref 162, .ref 163, .ref 164, .int (nI n2), .ref 165, .int (nI (o 33)), .ref 166, .ref 167, .ref 168, .ref 169, .int (nI (o 38)), .ref 170, .ref 171, .ref 172, .ref 173, .ref 174, .ref 175, .int (nI (o 45)), .int (nI (o 46)), .int (nI (o 47)), .long (lN (o 48)), .ref 176])) → M_67[164]? = some (.inl (2, 900, .inl (ai g2))) → (((co (k - 1)) + 1) ≤ c2 ∧ c2 ≤ co k ∧ n2 ≤ 41 * k + 1 + (c2 - ((co (k - 1)) + 1)) ∧ Lt n2 g2 (lc (prK sg li co) k ++ [] ++ List.replicate (c2 - ((co (k - 1)) + 1)) 32)) → co k - c2 < n67 → Zw 1 zm_MO_print 67 [some (.ref 139), some (.int (nI k)), some (.int (nI ((co (k - 1)) + 1))), some (.int (nI c2))] [] M_67 (fun r9 M1 => r9 = some (.int (nI (prT c sg li co).length)) ∧ ∃ n9 g9, MM M1 (up (up o 0 0) 31 n9) (fset f 164 g9) ∧ Sm Mq M1 [139, 164] ∧ Lt n9 g9 (prT c sg li co) ∧ n9 ≤ 820) := by
                intro n67
                induction n67 with
                | zero => intro c2 n2 g2 M_67 _ _ _ _ h; exact absurd h (Nat.not_lt_zero _)
                | succ n67 ih67 =>
                  intro c2 n2 g2 M_67 s_67 f67_0 f67_1 hi67 hm67
                  refine zw_n 2 rfl ?_
                  refine zw_get (v := .ref 140) rfl f67_0 rfl ?_
                  refine zw_n 3 rfl ?_
                  refine zw_top (na (a := 570) (b := k) rfl rfl) ?_
                  refine zw_iald (f := ai (f 140)) (j := (570 + k)) rfl (Sm.at s_67 (by decide) (hM.2 140 (by decide) (by decide))) rfl (by decide) (by omega) ?_
                  refine zw_top (x' := (nI (co k))) (congrArg nI (ht.2 k (by omega)).2.2) ?_
                  refine zw_igeN (a := c2) (b := co k) rfl rfl rfl (by omega) (by omega) (fun c78 => ?_) (fun c78 => ?_)
                  · -- 78 to 93
                    refine zw_n 2 rfl ?_
                    refine zw_get (v := .ref 140) rfl f67_0 rfl ?_
                    refine zw_n 3 rfl ?_
                    refine zw_top (na (a := 530) (b := k) rfl rfl) ?_
                    refine zw_iald (f := ai (f 140)) (j := (530 + k)) rfl (Sm.at s_67 (by decide) (hM.2 140 (by decide) (by decide))) rfl (by decide) (by omega) ?_
                    refine zw_top (x' := (nI (sg k))) (congrArg nI (ht.2 k (by omega)).1) ?_
                    refine zw_callV (as := [.int (nI (sg k))]) (rest := []) rfl rfl rfl f67_0 rfl rfl rfl (by decide) (m_puts M_67 (up (up o 0 0) 31 n2) (fset f 164 g2) (MM.of (o' := up (up o 0 0) 31 n2) (f' := fset f 164 g2) hM s_67 f67_0 (c1_skip (c1_cons f67_1 c1_nil)) (fs_k (fs_c fs_n))) (sg k) (hsg k (by omega)) (show n2 < 900 by omega)) (fun rz1866 Mz1867 hz1868 => ?_)
                    obtain ⟨hAz1863, hMMz1864, hSz1865⟩ := hz1868
                    rw [hAz1863]
                    show Zw 1 zm_MO_print 107 [some (.ref 139), some (.int (nI k)), some (.int (nI ((co (k - 1)) + 1))), some (.int (nI c2))] [] Mz1867 _
                    refine zw_inc rfl (x' := (nI (k + 1))) (ls' := [some (.ref 139), some (.int (nI (k + 1))), some (.int (nI ((co (k - 1)) + 1))), some (.int (nI c2))]) rfl (na (a := k) (b := 1) rfl rfl) rfl ?_
                    refine zw_n 1 rfl ?_
                    refine zw_ls (ls' := [some (.ref 139), some (.int (nI (k + 1))), none, none]) ⟨Or.inr rfl, Or.inr rfl, Or.inl rfl, Or.inl rfl, trivial⟩ ?_
                    exact ih12 (k + 1) (n2 + 1) (up g2 n2 (sg k)) Mz1867 (Sm.trans s_67 hSz1865) hMMz1864.1 (hMMz1864.2 164 (by decide) (by decide)) (⟨by omega, by omega, by rw [lc_s0, prK_C (s := co (k - 1) + 1) (by omega) hb9 rfl, ← show c2 = co k by omega]; exact hi67.2.2.2.add _⟩) (by omega)
                  · -- 78 to 81
                    refine zw_n 2 rfl ?_
                    refine zw_callV (as := [.int 32]) (rest := []) rfl rfl rfl f67_0 rfl rfl rfl (by decide) (m_puts M_67 (up (up o 0 0) 31 n2) (fset f 164 g2) (MM.of (o' := up (up o 0 0) 31 n2) (f' := fset f 164 g2) hM s_67 f67_0 (c1_skip (c1_cons f67_1 c1_nil)) (fs_k (fs_c fs_n))) 32 (by decide) (show n2 < 900 by omega)) (fun rz1872 Mz1873 hz1874 => ?_)
                    obtain ⟨hAz1869, hMMz1870, hSz1871⟩ := hz1874
                    rw [hAz1869]
                    show Zw 1 zm_MO_print 87 [some (.ref 139), some (.int (nI k)), some (.int (nI ((co (k - 1)) + 1))), some (.int (nI c2))] [] Mz1873 _
                    refine zw_inc rfl (x' := (nI (c2 + 1))) (ls' := [some (.ref 139), some (.int (nI k)), some (.int (nI ((co (k - 1)) + 1))), some (.int (nI (c2 + 1)))]) rfl (na (a := c2) (b := 1) rfl rfl) rfl ?_
                    refine zw_n 1 rfl ?_
                    exact ih67 (c2 + 1) (n2 + 1) (up g2 n2 32) Mz1873 (Sm.trans s_67 hSz1871) hMMz1870.1 (hMMz1870.2 164 (by decide) (by decide)) (⟨by omega, by omega, by omega, hi67.2.2.2.rep hi67.1⟩) (by omega)
              exact lp67 _ ((co (k - 1)) + 1) n1 g1 M_12 s_12 f12_0 f12_1 (⟨Nat.le_refl _, by omega, by omega, Lt.rep0 (by rw [List.append_nil]; exact hi12.2.2)⟩) (Nat.lt_succ_self _)
            · -- 43 to 46
              exfalso
              exact ite_eq0 c29 (ite_ne c43)
          · -- 29 to 32
            have hb9 : li (k - 1) ≠ li k := by rcases ite_ne c29 with q | q <;> first | exact q | omega
            refine zw_n 2 rfl ?_
            refine zw_callV (as := [.int 10]) (rest := []) rfl rfl rfl f12_0 rfl rfl rfl (by decide) (m_puts M_12 (up (up o 0 0) 31 n1) (fset f 164 g1) (MM.of (o' := up (up o 0 0) 31 n1) (f' := fset f 164 g1) hM s_12 f12_0 (c1_skip (c1_cons f12_1 c1_nil)) (fs_k (fs_c fs_n))) 10 (by decide) (show n1 < 900 by omega)) (fun rz1878 Mz1879 hz1880 => ?_)
            obtain ⟨hAz1875, hMMz1876, hSz1877⟩ := hz1880
            rw [hAz1875]
            show Zw 1 zm_MO_print 38 [some (.ref 139), some (.int (nI k)), none, none] [] Mz1879 _
            refine zw_n 2 rfl ?_
            refine zw_callV (as := [.int (nI k)]) (rest := []) rfl rfl rfl hMMz1876.1 rfl rfl rfl (by decide) (m_isFirst Mz1879 (up (up o 0 0) 31 (n1 + 1)) (fset f 164 (up g1 n1 10)) (MM.of (o' := up (up o 0 0) 31 (n1 + 1)) (f' := fset f 164 (up g1 n1 10)) hM (Sm.trans s_12 hSz1877) hMMz1876.1 (c1_skip (c1_cons (hMMz1876.2 164 (by decide) (by decide)) c1_nil)) (fs_k (fs_c fs_n))) c sg li co ht hS k (by omega)) (fun rz1881 Mz1882 hz1883 => ?_)
            rw [hz1883.1, hz1883.2]
            show Zw 1 zm_MO_print 43 [some (.ref 139), some (.int (nI k)), none, none] [.int (nI (if k = 0 ∨ li (k - 1) ≠ li k then 1 else 0))] Mz1879 _
            refine zw_eq0N (a := if k = 0 ∨ li (k - 1) ≠ li k then 1 else 0) rfl rfl (ite_b) (fun c43 => ?_) (fun c43 => ?_)
            · -- 43 to 50
              exfalso
              exact ite_eq0 c43 (ite_ne c29)
            · -- 43 to 46
              refine zw_n 5 (ls' := [some (.ref 139), some (.int (nI k)), some (.int 0), some (.int 0)]) rfl ?_
              have mz1884 : Mz1879[140]? = some (.inl (0, 590, .inl (ai (f 140)))) := Sm.at hSz1877 (by decide) (Sm.at s_12 (by decide) (hM.2 140 (by decide) (by decide)))
              have lp67 : ∀ (n67 : Nat) (c2 : Nat) (n2 : Nat) (g2 : Nat → Nat) (M_67 : zM), Sm Mq M_67 [139, 164] → M_67[139]? = some (.inr (12, [.int 0, .ref 140, .ref 141, .ref 142, .ref 143, .int (nI (o 5)), .ref 144, .int (nI (o 7)), .int (nI (o 8)), .int (nI (o 9)), .int (nI (o 10)), .ref 145, .ref 146, .ref 147, .ref 148, .ref 149, .ref 150, .ref 151, .ref 152, .ref 153, .ref 154, .ref 155, .ref 156, .ref 157, .ref 158, .ref 159, .ref 160, .ref 161, .ref 162, .ref 163, .ref 164, .int (nI n2), .ref 165, .int (nI (o 33)), .ref 166, .ref 167, .ref 168, .ref 169, .int (nI (o 38)), .ref 170, .ref 171, .ref 172, .ref 173, .ref 174, .ref 175, .int (nI (o 45)), .int (nI (o 46)), .int (nI (o 47)), .long (lN (o 48)), .ref 176])) → M_67[164]? = some (.inl (2, 900, .inl (ai g2))) → (0 ≤ c2 ∧ c2 ≤ co k ∧ n2 ≤ 41 * k + 1 + (c2 - 0) ∧ Lt n2 g2 (lc (prK sg li co) k ++ [10] ++ List.replicate (c2 - 0) 32)) → co k - c2 < n67 → Zw 1 zm_MO_print 67 [some (.ref 139), some (.int (nI k)), some (.int 0), some (.int (nI c2))] [] M_67 (fun r9 M1 => r9 = some (.int (nI (prT c sg li co).length)) ∧ ∃ n9 g9, MM M1 (up (up o 0 0) 31 n9) (fset f 164 g9) ∧ Sm Mq M1 [139, 164] ∧ Lt n9 g9 (prT c sg li co) ∧ n9 ≤ 820) := by
                intro n67
                induction n67 with
                | zero => intro c2 n2 g2 M_67 _ _ _ _ h; exact absurd h (Nat.not_lt_zero _)
                | succ n67 ih67 =>
                  intro c2 n2 g2 M_67 s_67 f67_0 f67_1 hi67 hm67
                  refine zw_n 2 rfl ?_
                  refine zw_get (v := .ref 140) rfl f67_0 rfl ?_
                  refine zw_n 3 rfl ?_
                  refine zw_top (na (a := 570) (b := k) rfl rfl) ?_
                  refine zw_iald (f := ai (f 140)) (j := (570 + k)) rfl (Sm.at s_67 (by decide) (hM.2 140 (by decide) (by decide))) rfl (by decide) (by omega) ?_
                  refine zw_top (x' := (nI (co k))) (congrArg nI (ht.2 k (by omega)).2.2) ?_
                  refine zw_igeN (a := c2) (b := co k) rfl rfl rfl (by omega) (by omega) (fun c78 => ?_) (fun c78 => ?_)
                  · -- 78 to 93
                    refine zw_n 2 rfl ?_
                    refine zw_get (v := .ref 140) rfl f67_0 rfl ?_
                    refine zw_n 3 rfl ?_
                    refine zw_top (na (a := 530) (b := k) rfl rfl) ?_
                    refine zw_iald (f := ai (f 140)) (j := (530 + k)) rfl (Sm.at s_67 (by decide) (hM.2 140 (by decide) (by decide))) rfl (by decide) (by omega) ?_
                    refine zw_top (x' := (nI (sg k))) (congrArg nI (ht.2 k (by omega)).1) ?_
                    refine zw_callV (as := [.int (nI (sg k))]) (rest := []) rfl rfl rfl f67_0 rfl rfl rfl (by decide) (m_puts M_67 (up (up o 0 0) 31 n2) (fset f 164 g2) (MM.of (o' := up (up o 0 0) 31 n2) (f' := fset f 164 g2) hM s_67 f67_0 (c1_skip (c1_cons f67_1 c1_nil)) (fs_k (fs_c fs_n))) (sg k) (hsg k (by omega)) (show n2 < 900 by omega)) (fun rz1888 Mz1889 hz1890 => ?_)
                    obtain ⟨hAz1885, hMMz1886, hSz1887⟩ := hz1890
                    rw [hAz1885]
                    show Zw 1 zm_MO_print 107 [some (.ref 139), some (.int (nI k)), some (.int 0), some (.int (nI c2))] [] Mz1889 _
                    refine zw_inc rfl (x' := (nI (k + 1))) (ls' := [some (.ref 139), some (.int (nI (k + 1))), some (.int 0), some (.int (nI c2))]) rfl (na (a := k) (b := 1) rfl rfl) rfl ?_
                    refine zw_n 1 rfl ?_
                    refine zw_ls (ls' := [some (.ref 139), some (.int (nI (k + 1))), none, none]) ⟨Or.inr rfl, Or.inr rfl, Or.inl rfl, Or.inl rfl, trivial⟩ ?_
                    exact ih12 (k + 1) (n2 + 1) (up g2 n2 (sg k)) Mz1889 (Sm.trans s_67 hSz1887) hMMz1886.1 (hMMz1886.2 164 (by decide) (by decide)) (⟨by omega, by omega, by rw [lc_s0, prK_A (by omega) hb9, ← show c2 = co k by omega]; exact hi67.2.2.2.add _⟩) (by omega)
                  · -- 78 to 81
                    refine zw_n 2 rfl ?_
                    refine zw_callV (as := [.int 32]) (rest := []) rfl rfl rfl f67_0 rfl rfl rfl (by decide) (m_puts M_67 (up (up o 0 0) 31 n2) (fset f 164 g2) (MM.of (o' := up (up o 0 0) 31 n2) (f' := fset f 164 g2) hM s_67 f67_0 (c1_skip (c1_cons f67_1 c1_nil)) (fs_k (fs_c fs_n))) 32 (by decide) (show n2 < 900 by omega)) (fun rz1894 Mz1895 hz1896 => ?_)
                    obtain ⟨hAz1891, hMMz1892, hSz1893⟩ := hz1896
                    rw [hAz1891]
                    show Zw 1 zm_MO_print 87 [some (.ref 139), some (.int (nI k)), some (.int 0), some (.int (nI c2))] [] Mz1895 _
                    refine zw_inc rfl (x' := (nI (c2 + 1))) (ls' := [some (.ref 139), some (.int (nI k)), some (.int 0), some (.int (nI (c2 + 1)))]) rfl (na (a := c2) (b := 1) rfl rfl) rfl ?_
                    refine zw_n 1 rfl ?_
                    exact ih67 (c2 + 1) (n2 + 1) (up g2 n2 32) Mz1895 (Sm.trans s_67 hSz1893) hMMz1892.1 (hMMz1892.2 164 (by decide) (by decide)) (⟨by omega, by omega, by omega, hi67.2.2.2.rep hi67.1⟩) (by omega)
              exact lp67 _ 0 (n1 + 1) (up g1 n1 10) Mz1879 (Sm.trans s_12 hSz1877) hMMz1876.1 (hMMz1876.2 164 (by decide) (by decide)) (⟨Nat.le_refl _, Nat.zero_le _, by omega, Lt.rep0 (hi12.2.2.add 10)⟩) (Nat.lt_succ_self _)
  exact lp12 _ 0 0 (f 164) Mz1834 sz1838 (zat_self ez1835 (zat_self ez1833 hM.1)) mz1837 (⟨Nat.zero_le _, Nat.le_refl _, Lt.nil⟩) (Nat.lt_succ_self _)

set_option maxHeartbeats 4000000 in
set_option maxRecDepth 100000 in
theorem m_writeNo (Mq : zM) (o : Nat → Nat) (f : Nat → Nat → Nat) (hM : MM Mq o f)(n : Nat) (gn al_ it pt tg bd : Nat → Nat) (hg : RelG f n gn al_ it pt tg bd) (hG : SafeG n gn al_ it pt tg bd) (hF : SafeF f) (hn : n = 0) : Zm 2 zm_MO_write [.ref 139] Mq (fun r9 M1 => r9 = some (.int (-1)) ∧ MM M1 (up o 0 0) f ∧ Sm Mq M1 [139]) := by
  show Zw 2 zm_MO_write 0 [some (.ref 139), none, none, none, none] [] Mq _
  have hn8 := hG.1
  refine zw_n 2 rfl ?_
  refine zw_put rfl hM.1 (rfl) (Nat.le_of_ble_eq_true rfl) ?_
  generalize ez1898 : List.set Mq 139 _ = Mz1897
  refine zw_n 1 rfl ?_
  refine zw_callV (as := []) (rest := []) rfl rfl rfl (zat_self ez1898 hM.1) rfl rfl rfl (by decide) (m_isGrammar Mz1897 (up o 0 0) f (MM.of (o' := up o 0 0) (f' := f) hM (Sm.tset Sm.rf ez1898 (by decide)) (zat_self ez1898 hM.1) (c1_skip c1_nil) (fs_k fs_n)) n gn al_ it pt tg bd hg hG hF) (fun rz1899 Mz1900 hz1901 => ?_)
  rw [hz1901.1, hz1901.2]
  show Zw 2 zm_MO_write 9 [some (.ref 139), none, none, none, none] [.int (nI (if 0 < n then 1 else 0))] Mz1897 _
  refine zw_ne0N (a := if 0 < n then 1 else 0) rfl rfl (ite_b) (fun c9 => ?_) (fun c9 => ?_)
  · -- 9 to 14
    exfalso
    have := ite_ne c9; omega
  · -- 9 to 12
    refine zw_n 1 rfl ?_
    exact zw_iret rfl rfl (⟨rfl, (MM.of (o' := up o 0 0) (f' := f) hM (Sm.tset Sm.rf ez1898 (by decide)) (zat_self ez1898 hM.1) (c1_skip c1_nil) (fs_k fs_n)), Sm.tset Sm.rf ez1898 (by decide)⟩)

set_option maxHeartbeats 4000000 in
set_option maxRecDepth 100000 in
theorem m_writeOk (Mq : zM) (o : Nat → Nat) (f : Nat → Nat → Nat) (hM : MM Mq o f)(n : Nat) (gn al_ it pt tg bd : Nat → Nat) (hg : RelG f n gn al_ it pt tg bd) (hG : SafeG n gn al_ it pt tg bd) (hF : SafeF f) (hn : 0 < n) (hal : ∀ r, r < n → 1 ≤ al_ r) (hgn : ∀ r, r < n → gn r < 128) (hpb : ∀ x, Slt n al_ it x → pt x < 128 ∧ bd x < 128) : Zm 2 zm_MO_write [.ref 139] Mq (fun r9 M1 => r9 = some (.int (nI (wrG n gn al_ it pt tg bd).length)) ∧ ∃ n9 g9, MM M1 (up (up o 0 0) 31 n9) (fset f 164 g9) ∧ Sm Mq M1 [139, 164] ∧ Lt n9 g9 (wrG n gn al_ it pt tg bd) ∧ n9 ≤ 820) := by
  show Zw 2 zm_MO_write 0 [some (.ref 139), none, none, none, none] [] Mq _
  have hn8 := hG.1
  refine zw_n 2 rfl ?_
  refine zw_put rfl hM.1 (rfl) (Nat.le_of_ble_eq_true rfl) ?_
  generalize ez1903 : List.set Mq 139 _ = Mz1902
  refine zw_n 1 rfl ?_
  refine zw_callV (as := []) (rest := []) rfl rfl rfl (zat_self ez1903 hM.1) rfl rfl rfl (by decide) (m_isGrammar Mz1902 (up o 0 0) f (MM.of (o' := up o 0 0) (f' := f) hM (Sm.tset Sm.rf ez1903 (by decide)) (zat_self ez1903 hM.1) (c1_skip (c1_cons (zat_set ez1903 (by decide) (hM.2 164 (by decide) (by decide))) c1_nil)) (fs_k (fs_k fs_n))) n gn al_ it pt tg bd hg hG hF) (fun rz1904 Mz1905 hz1906 => ?_)
  rw [hz1906.1, hz1906.2]
  show Zw 2 zm_MO_write 9 [some (.ref 139), none, none, none, none] [.int (nI (if 0 < n then 1 else 0))] Mz1902 _
  refine zw_ne0N (a := if 0 < n then 1 else 0) rfl rfl (ite_b) (fun c9 => ?_) (fun c9 => ?_)
  · -- 9 to 14
    refine zw_n 2 rfl ?_
    refine zw_put rfl (zat_self ez1903 hM.1) (rfl) (Nat.le_of_ble_eq_true rfl) ?_
    generalize ez1908 : List.set Mz1902 139 _ = Mz1907
    refine zw_n 2 (ls' := [some (.ref 139), some (.int 0), none, none, none]) rfl ?_
    have mz1909 : Mz1907[140]? = some (.inl (0, 590, .inl (ai (f 140)))) := zat_set ez1908 (by decide) (zat_set ez1903 (by decide) (hM.2 140 (by decide) (by decide)))
    have mz1910 : Mz1907[164]? = some (.inl (2, 900, .inl (ai (f 164)))) := zat_set ez1908 (by decide) (zat_set ez1903 (by decide) (hM.2 164 (by decide) (by decide)))
    have sz1911 : Sm Mq Mz1907 [139, 164] := Sm.tset (Sm.tset Sm.rf ez1903 (by decide)) ez1908 (by decide)
    have lp21 : ∀ (n21 : Nat) (r : Nat) (n1 : Nat) (g1 : Nat → Nat) (M_21 : zM), Sm Mq M_21 [139, 164] → M_21[139]? = some (.inr (12, [.int 0, .ref 140, .ref 141, .ref 142, .ref 143, .int (nI (o 5)), .ref 144, .int (nI (o 7)), .int (nI (o 8)), .int (nI (o 9)), .int (nI (o 10)), .ref 145, .ref 146, .ref 147, .ref 148, .ref 149, .ref 150, .ref 151, .ref 152, .ref 153, .ref 154, .ref 155, .ref 156, .ref 157, .ref 158, .ref 159, .ref 160, .ref 161, .ref 162, .ref 163, .ref 164, .int (nI n1), .ref 165, .int (nI (o 33)), .ref 166, .ref 167, .ref 168, .ref 169, .int (nI (o 38)), .ref 170, .ref 171, .ref 172, .ref 173, .ref 174, .ref 175, .int (nI (o 45)), .int (nI (o 46)), .int (nI (o 47)), .long (lN (o 48)), .ref 176])) → M_21[164]? = some (.inl (2, 900, .inl (ai g1))) → (r ≤ n ∧ n1 ≤ 67 * r ∧ Lt n1 g1 (lc (wrR gn al_ it pt tg bd) r)) → n - r < n21 → Zw 2 zm_MO_write 21 [some (.ref 139), some (.int (nI r)), none, none, none] [] M_21 (fun r9 M1 => r9 = some (.int (nI (wrG n gn al_ it pt tg bd).length)) ∧ ∃ n9 g9, MM M1 (up (up o 0 0) 31 n9) (fset f 164 g9) ∧ Sm Mq M1 [139, 164] ∧ Lt n9 g9 (wrG n gn al_ it pt tg bd) ∧ n9 ≤ 820) := by
      intro n21
      induction n21 with
      | zero => intro r n1 g1 M_21 _ _ _ _ h; exact absurd h (Nat.not_lt_zero _)
      | succ n21 ih21 =>
        intro r n1 g1 M_21 s_21 f21_0 f21_1 hi21 hm21
        refine zw_n 2 rfl ?_
        refine zw_get (v := .ref 140) rfl f21_0 rfl ?_
        refine zw_n 1 rfl ?_
        refine zw_iald (f := ai (f 140)) (j := 0) rfl (Sm.at s_21 (by decide) (hM.2 140 (by decide) (by decide))) rfl (by decide) (by omega) ?_
        refine zw_top (x' := (nI n)) (congrArg nI hg.1) ?_
        refine zw_igeN (a := r) (b := n) rfl rfl rfl (by omega) (by omega) (fun c28 => ?_) (fun c28 => ?_)
        · -- 28 to 175
          refine zw_n 1 rfl ?_
          refine zw_get (v := .int (nI n1)) rfl f21_0 rfl ?_
          exact zw_iret rfl rfl (⟨by rw [wrG, ← show r = n by omega, ← hi21.2.2.1], n1, g1, (MM.of (o' := up (up o 0 0) 31 n1) (f' := fset f 164 g1) hM s_21 f21_0 (c1_skip (c1_cons f21_1 c1_nil)) (fs_k (fs_c fs_n))), s_21, by rw [wrG, ← show r = n by omega]; exact hi21.2.2, by omega⟩)
        · -- 28 to 31
          refine zw_n 1 rfl ?_
          refine zw_le0N (a := r) rfl rfl (by omega) (fun c32 => ?_) (fun c32 => ?_)
          · -- 32 to 41
            refine zw_n 2 rfl ?_
            refine zw_get (v := .ref 140) rfl f21_0 rfl ?_
            refine zw_n 3 rfl ?_
            refine zw_top (na (a := 1) (b := r) rfl rfl) ?_
            refine zw_iald (f := ai (f 140)) (j := (1 + r)) rfl (Sm.at s_21 (by decide) (hM.2 140 (by decide) (by decide))) rfl (by decide) (by omega) ?_
            refine zw_top (x' := (nI (gn r))) (congrArg nI (hg.2.1 r (by omega))) ?_
            refine zw_callV (as := [.int (nI (gn r))]) (rest := []) rfl rfl rfl f21_0 rfl rfl rfl (by decide) (m_puts M_21 (up (up o 0 0) 31 n1) (fset f 164 g1) (MM.of (o' := up (up o 0 0) 31 n1) (f' := fset f 164 g1) hM s_21 f21_0 (c1_skip (c1_cons f21_1 c1_nil)) (fs_k (fs_c fs_n))) (gn r) (hgn r (by omega)) (show n1 < 900 by omega)) (fun rz1915 Mz1916 hz1917 => ?_)
            obtain ⟨hAz1912, hMMz1913, hSz1914⟩ := hz1917
            rw [hAz1912]
            show Zw 2 zm_MO_write 53 [some (.ref 139), some (.int (nI r)), none, none, none] [] Mz1916 _
            refine zw_n 2 (ls' := [some (.ref 139), some (.int (nI r)), some (.int 0), none, none]) rfl ?_
            have mz1918 : Mz1916[140]? = some (.inl (0, 590, .inl (ai (f 140)))) := Sm.at hSz1914 (by decide) (Sm.at s_21 (by decide) (hM.2 140 (by decide) (by decide)))
            have lp55 : ∀ (n55 : Nat) (a : Nat) (n2 : Nat) (g2 : Nat → Nat) (M_55 : zM), Sm Mq M_55 [139, 164] → M_55[139]? = some (.inr (12, [.int 0, .ref 140, .ref 141, .ref 142, .ref 143, .int (nI (o 5)), .ref 144, .int (nI (o 7)), .int (nI (o 8)), .int (nI (o 9)), .int (nI (o 10)), .ref 145, .ref 146, .ref 147, .ref 148, .ref 149, .ref 150, .ref 151, .ref 152, .ref 153, .ref 154, .ref 155, .ref 156, .ref 157, .ref 158, .ref 159, .ref 160, .ref 161, .ref 162, .ref 163, .ref 164, .int (nI n2), .ref 165, .int (nI (o 33)), .ref 166, .ref 167, .ref 168, .ref 169, .int (nI (o 38)), .ref 170, .ref 171, .ref 172, .ref 173, .ref 174, .ref 175, .int (nI (o 45)), .int (nI (o 46)), .int (nI (o 47)), .long (lN (o 48)), .ref 176])) → M_55[164]? = some (.inl (2, 900, .inl (ai g2))) → (a ≤ al_ r ∧ n2 ≤ 67 * r + 2 + 16 * a ∧ Lt n2 g2 (lc (wrR gn al_ it pt tg bd) r ++ [] ++ [gn r] ++ wrM it pt tg bd r a)) → al_ r - a < n55 → Zw 2 zm_MO_write 55 [some (.ref 139), some (.int (nI r)), some (.int (nI a)), none, none] [] M_55 (fun r9 M1 => r9 = some (.int (nI (wrG n gn al_ it pt tg bd).length)) ∧ ∃ n9 g9, MM M1 (up (up o 0 0) 31 n9) (fset f 164 g9) ∧ Sm Mq M1 [139, 164] ∧ Lt n9 g9 (wrG n gn al_ it pt tg bd) ∧ n9 ≤ 820) := by
              intro n55
              induction n55 with
              | zero => intro a n2 g2 M_55 _ _ _ _ h; exact absurd h (Nat.not_lt_zero _)
              | succ n55 ih55 =>
                intro a n2 g2 M_55 s_55 f55_0 f55_1 hi55 hm55
                have ha4 := hG.2.2.1 r
                refine zw_n 2 rfl ?_
                refine zw_get (v := .ref 140) rfl f55_0 rfl ?_
                refine zw_n 3 rfl ?_
                refine zw_top (na (a := 9) (b := r) rfl rfl) ?_
                refine zw_iald (f := ai (f 140)) (j := (9 + r)) rfl (Sm.at s_55 (by decide) (hM.2 140 (by decide) (by decide))) rfl (by decide) (by omega) ?_
                refine zw_top (x' := (nI (al_ r))) (congrArg nI (hg.2.2.1 r (by omega))) ?_
                refine zw_igeN (a := a) (b := al_ r) rfl rfl rfl (by omega) (by omega) (fun c65 => ?_) (fun c65 => ?_)
                · -- 65 to 169
                  refine zw_inc rfl (x' := (nI (r + 1))) (ls' := [some (.ref 139), some (.int (nI (r + 1))), some (.int (nI a)), none, none]) rfl (na (a := r) (b := 1) rfl rfl) rfl ?_
                  refine zw_n 1 rfl ?_
                  refine zw_ls (ls' := [some (.ref 139), some (.int (nI (r + 1))), none, none, none]) ⟨Or.inr rfl, Or.inr rfl, Or.inl rfl, Or.inl rfl, Or.inl rfl, trivial⟩ ?_
                  exact ih21 (r + 1) n2 g2 M_55 s_55 f55_0 f55_1 (⟨by omega, by omega, by rw [lc_s0, wrR_M (hal r (by omega)), if_neg (by omega), ← show a = al_ r by omega]; exact hi55.2.2⟩) (by omega)
                · -- 65 to 68
                  refine zw_n 2 rfl ?_
                  refine zw_ne0N (a := a) rfl rfl (by omega) (fun c70 => ?_) (fun c70 => ?_)
                  · -- 70 to 78
                    refine zw_n 1 rfl ?_
                    refine zw_callV (as := [.int 47]) (rest := []) rfl rfl rfl f55_0 rfl rfl rfl (by decide) (m_puts M_55 (up (up o 0 0) 31 n2) (fset f 164 g2) (MM.of (o' := up (up o 0 0) 31 n2) (f' := fset f 164 g2) hM s_55 f55_0 (c1_skip (c1_cons f55_1 c1_nil)) (fs_k (fs_c fs_n))) 47 (by decide) (show n2 < 900 by omega)) (fun rz1922 Mz1923 hz1924 => ?_)
                    obtain ⟨hAz1919, hMMz1920, hSz1921⟩ := hz1924
                    rw [hAz1919]
                    show Zw 2 zm_MO_write 83 [some (.ref 139), some (.int (nI r)), some (.int (nI a)), none, none] [] Mz1923 _
                    refine zw_n 2 (ls' := [some (.ref 139), some (.int (nI r)), some (.int (nI a)), some (.int 0), none]) rfl ?_
                    have mz1925 : Mz1923[140]? = some (.inl (0, 590, .inl (ai (f 140)))) := Sm.at hSz1921 (by decide) (Sm.at s_55 (by decide) (hM.2 140 (by decide) (by decide)))
                    have lp85 : ∀ (n85 : Nat) (k : Nat) (n3 : Nat) (g3 : Nat → Nat) (M_85 : zM), Sm Mq M_85 [139, 164] → M_85[139]? = some (.inr (12, [.int 0, .ref 140, .ref 141, .ref 142, .ref 143, .int (nI (o 5)), .ref 144, .int (nI (o 7)), .int (nI (o 8)), .int (nI (o 9)), .int (nI (o 10)), .ref 145, .ref 146, .ref 147, .ref 148, .ref 149, .ref 150, .ref 151, .ref 152, .ref 153, .ref 154, .ref 155, .ref 156, .ref 157, .ref 158, .ref 159, .ref 160, .ref 161, .ref 162, .ref 163, .ref 164, .int (nI n3), .ref 165, .int (nI (o 33)), .ref 166, .ref 167, .ref 168, .ref 169, .int (nI (o 38)), .ref 170, .ref 171, .ref 172, .ref 173, .ref 174, .ref 175, .int (nI (o 45)), .int (nI (o 46)), .int (nI (o 47)), .long (lN (o 48)), .ref 176])) → M_85[164]? = some (.inl (2, 900, .inl (ai g3))) → (k ≤ it (r * 4 + a) ∧ n3 ≤ 67 * r + 3 + 16 * a + 3 * k ∧ Lt n3 g3 (lc (wrR gn al_ it pt tg bd) r ++ [] ++ [gn r] ++ wrM it pt tg bd r a ++ [47] ++ lc (fun k => wrI pt tg bd ((r * 4 + a) * 5 + k)) k)) → it (r * 4 + a) - k < n85 → Zw 2 zm_MO_write 85 [some (.ref 139), some (.int (nI r)), some (.int (nI a)), some (.int (nI k)), none] [] M_85 (fun r9 M1 => r9 = some (.int (nI (wrG n gn al_ it pt tg bd).length)) ∧ ∃ n9 g9, MM M1 (up (up o 0 0) 31 n9) (fset f 164 g9) ∧ Sm Mq M1 [139, 164] ∧ Lt n9 g9 (wrG n gn al_ it pt tg bd) ∧ n9 ≤ 820) := by
                      intro n85
                      induction n85 with
                      | zero => intro k n3 g3 M_85 _ _ _ _ h; exact absurd h (Nat.not_lt_zero _)
                      | succ n85 ih85 =>
                        intro k n3 g3 M_85 s_85 f85_0 f85_1 hi85 hm85
                        have hi5 := hG.2.2.2.1 (r * 4 + a)
                        have hbx := hG.2.2.2.2.2.2 ((r * 4 + a) * 5 + k)
                        refine zw_n 4 rfl ?_
                        refine zw_callV (as := [.int (nI r), .int (nI a)]) (rest := [.int (nI k)]) rfl rfl rfl f85_0 rfl rfl rfl (by decide) (m_items M_85 (up (up o 0 0) 31 n3) (fset f 164 g3) (MM.of (o' := up (up o 0 0) 31 n3) (f' := fset f 164 g3) hM s_85 f85_0 (c1_skip (c1_cons f85_1 c1_nil)) (fs_k (fs_c fs_n))) n gn al_ it pt tg bd hg hG hF r a (by omega) (by omega)) (fun rz1926 Mz1927 hz1928 => ?_)
                        rw [hz1928.1, hz1928.2]
                        show Zw 2 zm_MO_write 92 [some (.ref 139), some (.int (nI r)), some (.int (nI a)), some (.int (nI k)), none] [.int (nI (it (r * 4 + a))), .int (nI k)] M_85 _
                        refine zw_igeN (a := k) (b := it (r * 4 + a)) rfl rfl rfl (by omega) (by omega) (fun c92 => ?_) (fun c92 => ?_)
                        · -- 92 to 163
                          refine zw_inc rfl (x' := (nI (a + 1))) (ls' := [some (.ref 139), some (.int (nI r)), some (.int (nI (a + 1))), some (.int (nI k)), none]) rfl (na (a := a) (b := 1) rfl rfl) rfl ?_
                          refine zw_n 1 rfl ?_
                          refine zw_ls (ls' := [some (.ref 139), some (.int (nI r)), some (.int (nI (a + 1))), none, none]) ⟨Or.inr rfl, Or.inr rfl, Or.inr rfl, Or.inl rfl, Or.inl rfl, trivial⟩ ?_
                          exact ih55 (a + 1) n3 g3 M_85 s_85 f85_0 f85_1 (⟨by omega, by omega, by rw [wrM_s1 (show ¬ a = 0 by omega), wrA, ← show k = it (r * 4 + a) by omega]; exact hi85.2.2⟩) (by omega)
                        · -- 92 to 95
                          refine zw_n 3 rfl ?_
                          refine zw_callS (as := [.int (nI r), .int (nI a), .int (nI k)]) (rest := []) rfl rfl rfl rfl rfl rfl (by decide) (m_itemAt _ r a k) (fun rz1929 Mz1930 hz1931 => ?_)
                          rw [hz1931.1, hz1931.2]
                          show Zw 2 zm_MO_write 101 [some (.ref 139), some (.int (nI r)), some (.int (nI a)), some (.int (nI k)), none] [.int (nI (49 + 3 * ((r * 4 + a) * 5 + k)))] M_85 _
                          refine zw_n 2 (ls' := [some (.ref 139), some (.int (nI r)), some (.int (nI a)), some (.int (nI k)), some (.int (nI (49 + 3 * ((r * 4 + a) * 5 + k))))]) rfl ?_
                          refine zw_get (v := .ref 140) rfl f85_0 rfl ?_
                          refine zw_n 3 rfl ?_
                          refine zw_top (na (a := 49 + 3 * ((r * 4 + a) * 5 + k)) (b := 2) rfl rfl) ?_
                          refine zw_iald (f := ai (f 140)) (j := ((49 + 3 * ((r * 4 + a) * 5 + k)) + 2)) rfl (Sm.at s_85 (by decide) (hM.2 140 (by decide) (by decide))) rfl (by decide) (by omega) ?_
                          refine zw_top (x' := (nI (bd ((r * 4 + a) * 5 + k)))) (congrArg nI (hg.2.2.2.2 _ ⟨r, a, k, by omega, by omega, by omega, rfl⟩).2.2.1) ?_
                          refine zw_eq0N (a := bd ((r * 4 + a) * 5 + k)) rfl rfl (by omega) (fun c112 => ?_) (fun c112 => ?_)
                          · -- 112 to 128
                            refine zw_n 1 rfl ?_
                            refine zw_get (v := .ref 140) rfl f85_0 rfl ?_
                            refine zw_n 3 rfl ?_
                            refine zw_top (na (a := 49 + 3 * ((r * 4 + a) * 5 + k)) (b := 1) rfl rfl) ?_
                            refine zw_iald (f := ai (f 140)) (j := ((49 + 3 * ((r * 4 + a) * 5 + k)) + 1)) rfl (Sm.at s_85 (by decide) (hM.2 140 (by decide) (by decide))) rfl (by decide) (by omega) ?_
                            refine zw_top (x' := (nI (if tg ((r * 4 + a) * 5 + k) = NO then 0 else 1))) (congrArg nI (hg.2.2.2.2 _ ⟨r, a, k, by omega, by omega, by omega, rfl⟩).2.1) ?_
                            refine zw_ne0N (a := if tg ((r * 4 + a) * 5 + k) = NO then 0 else 1) rfl rfl (by split <;> decide) (fun c137 => ?_) (fun c137 => ?_)
                            · -- 137 to 146
                              refine zw_n 2 rfl ?_
                              refine zw_get (v := .ref 140) rfl f85_0 rfl ?_
                              refine zw_n 1 rfl ?_
                              refine zw_iald (f := ai (f 140)) (j := (49 + 3 * ((r * 4 + a) * 5 + k))) rfl (Sm.at s_85 (by decide) (hM.2 140 (by decide) (by decide))) rfl (by decide) (by omega) ?_
                              refine zw_top (x' := (nI (pt ((r * 4 + a) * 5 + k)))) (congrArg nI (hg.2.2.2.2 _ ⟨r, a, k, by omega, by omega, by omega, rfl⟩).1) ?_
                              refine zw_callV (as := [.int (nI (pt ((r * 4 + a) * 5 + k)))]) (rest := []) rfl rfl rfl f85_0 rfl rfl rfl (by decide) (m_puts M_85 (up (up o 0 0) 31 n3) (fset f 164 g3) (MM.of (o' := up (up o 0 0) 31 n3) (f' := fset f 164 g3) hM s_85 f85_0 (c1_skip (c1_cons f85_1 c1_nil)) (fs_k (fs_c fs_n))) (pt ((r * 4 + a) * 5 + k)) (hpb _ ⟨r, a, k, by omega, by omega, by omega, rfl⟩).1 (show n3 < 900 by omega)) (fun rz1935 Mz1936 hz1937 => ?_)
                              obtain ⟨hAz1932, hMMz1933, hSz1934⟩ := hz1937
                              rw [hAz1932]
                              show Zw 2 zm_MO_write 157 [some (.ref 139), some (.int (nI r)), some (.int (nI a)), some (.int (nI k)), some (.int (nI (49 + 3 * ((r * 4 + a) * 5 + k))))] [] Mz1936 _
                              refine zw_inc rfl (x' := (nI (k + 1))) (ls' := [some (.ref 139), some (.int (nI r)), some (.int (nI a)), some (.int (nI (k + 1))), some (.int (nI (49 + 3 * ((r * 4 + a) * 5 + k))))]) rfl (na (a := k) (b := 1) rfl rfl) rfl ?_
                              refine zw_n 1 rfl ?_
                              refine zw_ls (ls' := [some (.ref 139), some (.int (nI r)), some (.int (nI a)), some (.int (nI (k + 1))), none]) ⟨Or.inr rfl, Or.inr rfl, Or.inr rfl, Or.inr rfl, Or.inl rfl, trivial⟩ ?_
                              exact ih85 (k + 1) (n3 + 1) (up g3 n3 (pt ((r * 4 + a) * 5 + k))) Mz1936 (Sm.trans s_85 hSz1934) hMMz1933.1 (hMMz1933.2 164 (by decide) (by decide)) (⟨by omega, by omega, by rw [lc_s]; first | exact hi85.2.2.w1 c112 (ite_tg c137) | exact hi85.2.2.w2 c112 (ite_tg1 c137) | exact hi85.2.2.w3 c112 (ite_tg c137) | exact hi85.2.2.w4 c112 (ite_tg1 c137)⟩) (by omega)
                            · -- 137 to 140
                              refine zw_n 2 rfl ?_
                              refine zw_callV (as := [.int 39]) (rest := []) rfl rfl rfl f85_0 rfl rfl rfl (by decide) (m_puts M_85 (up (up o 0 0) 31 n3) (fset f 164 g3) (MM.of (o' := up (up o 0 0) 31 n3) (f' := fset f 164 g3) hM s_85 f85_0 (c1_skip (c1_cons f85_1 c1_nil)) (fs_k (fs_c fs_n))) 39 (by decide) (show n3 < 900 by omega)) (fun rz1941 Mz1942 hz1943 => ?_)
                              obtain ⟨hAz1938, hMMz1939, hSz1940⟩ := hz1943
                              rw [hAz1938]
                              show Zw 2 zm_MO_write 146 [some (.ref 139), some (.int (nI r)), some (.int (nI a)), some (.int (nI k)), some (.int (nI (49 + 3 * ((r * 4 + a) * 5 + k))))] [] Mz1942 _
                              refine zw_n 2 rfl ?_
                              refine zw_get (v := .ref 140) rfl hMMz1939.1 rfl ?_
                              refine zw_n 1 rfl ?_
                              refine zw_iald (f := ai (f 140)) (j := (49 + 3 * ((r * 4 + a) * 5 + k))) rfl (Sm.at hSz1940 (by decide) (Sm.at s_85 (by decide) (hM.2 140 (by decide) (by decide)))) rfl (by decide) (by omega) ?_
                              refine zw_top (x' := (nI (pt ((r * 4 + a) * 5 + k)))) (congrArg nI (hg.2.2.2.2 _ ⟨r, a, k, by omega, by omega, by omega, rfl⟩).1) ?_
                              refine zw_callV (as := [.int (nI (pt ((r * 4 + a) * 5 + k)))]) (rest := []) rfl rfl rfl hMMz1939.1 rfl rfl rfl (by decide) (m_puts Mz1942 (up (up o 0 0) 31 (n3 + 1)) (fset f 164 (up g3 n3 39)) (MM.of (o' := up (up o 0 0) 31 (n3 + 1)) (f' := fset f 164 (up g3 n3 39)) hM (Sm.trans s_85 hSz1940) hMMz1939.1 (c1_skip (c1_cons (hMMz1939.2 164 (by decide) (by decide)) c1_nil)) (fs_k (fs_c fs_n))) (pt ((r * 4 + a) * 5 + k)) (hpb _ ⟨r, a, k, by omega, by omega, by omega, rfl⟩).1 (show n3 + 1 < 900 by omega)) (fun rz1947 Mz1948 hz1949 => ?_)
                              obtain ⟨hAz1944, hMMz1945, hSz1946⟩ := hz1949
                              rw [hAz1944]
                              show Zw 2 zm_MO_write 157 [some (.ref 139), some (.int (nI r)), some (.int (nI a)), some (.int (nI k)), some (.int (nI (49 + 3 * ((r * 4 + a) * 5 + k))))] [] Mz1948 _
                              refine zw_inc rfl (x' := (nI (k + 1))) (ls' := [some (.ref 139), some (.int (nI r)), some (.int (nI a)), some (.int (nI (k + 1))), some (.int (nI (49 + 3 * ((r * 4 + a) * 5 + k))))]) rfl (na (a := k) (b := 1) rfl rfl) rfl ?_
                              refine zw_n 1 rfl ?_
                              refine zw_ls (ls' := [some (.ref 139), some (.int (nI r)), some (.int (nI a)), some (.int (nI (k + 1))), none]) ⟨Or.inr rfl, Or.inr rfl, Or.inr rfl, Or.inr rfl, Or.inl rfl, trivial⟩ ?_
                              exact ih85 (k + 1) (n3 + 1 + 1) (up (up g3 n3 39) (n3 + 1) (pt ((r * 4 + a) * 5 + k))) Mz1948 (Sm.trans (Sm.trans s_85 hSz1940) hSz1946) hMMz1945.1 (hMMz1945.2 164 (by decide) (by decide)) (⟨by omega, by omega, by rw [lc_s]; first | exact hi85.2.2.w1 c112 (ite_tg c137) | exact hi85.2.2.w2 c112 (ite_tg1 c137) | exact hi85.2.2.w3 c112 (ite_tg c137) | exact hi85.2.2.w4 c112 (ite_tg1 c137)⟩) (by omega)
                          · -- 112 to 115
                            refine zw_n 2 rfl ?_
                            refine zw_get (v := .ref 140) rfl f85_0 rfl ?_
                            refine zw_n 3 rfl ?_
                            refine zw_top (na (a := 49 + 3 * ((r * 4 + a) * 5 + k)) (b := 2) rfl rfl) ?_
                            refine zw_iald (f := ai (f 140)) (j := ((49 + 3 * ((r * 4 + a) * 5 + k)) + 2)) rfl (Sm.at s_85 (by decide) (hM.2 140 (by decide) (by decide))) rfl (by decide) (by omega) ?_
                            refine zw_top (x' := (nI (bd ((r * 4 + a) * 5 + k)))) (congrArg nI (hg.2.2.2.2 _ ⟨r, a, k, by omega, by omega, by omega, rfl⟩).2.2.1) ?_
                            refine zw_callV (as := [.int (nI (bd ((r * 4 + a) * 5 + k)))]) (rest := []) rfl rfl rfl f85_0 rfl rfl rfl (by decide) (m_puts M_85 (up (up o 0 0) 31 n3) (fset f 164 g3) (MM.of (o' := up (up o 0 0) 31 n3) (f' := fset f 164 g3) hM s_85 f85_0 (c1_skip (c1_cons f85_1 c1_nil)) (fs_k (fs_c fs_n))) (bd ((r * 4 + a) * 5 + k)) (hpb _ ⟨r, a, k, by omega, by omega, by omega, rfl⟩).2 (show n3 < 900 by omega)) (fun rz1953 Mz1954 hz1955 => ?_)
                            obtain ⟨hAz1950, hMMz1951, hSz1952⟩ := hz1955
                            rw [hAz1950]
                            show Zw 2 zm_MO_write 128 [some (.ref 139), some (.int (nI r)), some (.int (nI a)), some (.int (nI k)), some (.int (nI (49 + 3 * ((r * 4 + a) * 5 + k))))] [] Mz1954 _
                            refine zw_n 1 rfl ?_
                            refine zw_get (v := .ref 140) rfl hMMz1951.1 rfl ?_
                            refine zw_n 3 rfl ?_
                            refine zw_top (na (a := 49 + 3 * ((r * 4 + a) * 5 + k)) (b := 1) rfl rfl) ?_
                            refine zw_iald (f := ai (f 140)) (j := ((49 + 3 * ((r * 4 + a) * 5 + k)) + 1)) rfl (Sm.at hSz1952 (by decide) (Sm.at s_85 (by decide) (hM.2 140 (by decide) (by decide)))) rfl (by decide) (by omega) ?_
                            refine zw_top (x' := (nI (if tg ((r * 4 + a) * 5 + k) = NO then 0 else 1))) (congrArg nI (hg.2.2.2.2 _ ⟨r, a, k, by omega, by omega, by omega, rfl⟩).2.1) ?_
                            refine zw_ne0N (a := if tg ((r * 4 + a) * 5 + k) = NO then 0 else 1) rfl rfl (by split <;> decide) (fun c137 => ?_) (fun c137 => ?_)
                            · -- 137 to 146
                              refine zw_n 2 rfl ?_
                              refine zw_get (v := .ref 140) rfl hMMz1951.1 rfl ?_
                              refine zw_n 1 rfl ?_
                              refine zw_iald (f := ai (f 140)) (j := (49 + 3 * ((r * 4 + a) * 5 + k))) rfl (Sm.at hSz1952 (by decide) (Sm.at s_85 (by decide) (hM.2 140 (by decide) (by decide)))) rfl (by decide) (by omega) ?_
                              refine zw_top (x' := (nI (pt ((r * 4 + a) * 5 + k)))) (congrArg nI (hg.2.2.2.2 _ ⟨r, a, k, by omega, by omega, by omega, rfl⟩).1) ?_
                              refine zw_callV (as := [.int (nI (pt ((r * 4 + a) * 5 + k)))]) (rest := []) rfl rfl rfl hMMz1951.1 rfl rfl rfl (by decide) (m_puts Mz1954 (up (up o 0 0) 31 (n3 + 1)) (fset f 164 (up g3 n3 (bd ((r * 4 + a) * 5 + k)))) (MM.of (o' := up (up o 0 0) 31 (n3 + 1)) (f' := fset f 164 (up g3 n3 (bd ((r * 4 + a) * 5 + k)))) hM (Sm.trans s_85 hSz1952) hMMz1951.1 (c1_skip (c1_cons (hMMz1951.2 164 (by decide) (by decide)) c1_nil)) (fs_k (fs_c fs_n))) (pt ((r * 4 + a) * 5 + k)) (hpb _ ⟨r, a, k, by omega, by omega, by omega, rfl⟩).1 (show n3 + 1 < 900 by omega)) (fun rz1959 Mz1960 hz1961 => ?_)
                              obtain ⟨hAz1956, hMMz1957, hSz1958⟩ := hz1961
                              rw [hAz1956]
                              show Zw 2 zm_MO_write 157 [some (.ref 139), some (.int (nI r)), some (.int (nI a)), some (.int (nI k)), some (.int (nI (49 + 3 * ((r * 4 + a) * 5 + k))))] [] Mz1960 _
                              refine zw_inc rfl (x' := (nI (k + 1))) (ls' := [some (.ref 139), some (.int (nI r)), some (.int (nI a)), some (.int (nI (k + 1))), some (.int (nI (49 + 3 * ((r * 4 + a) * 5 + k))))]) rfl (na (a := k) (b := 1) rfl rfl) rfl ?_
                              refine zw_n 1 rfl ?_
                              refine zw_ls (ls' := [some (.ref 139), some (.int (nI r)), some (.int (nI a)), some (.int (nI (k + 1))), none]) ⟨Or.inr rfl, Or.inr rfl, Or.inr rfl, Or.inr rfl, Or.inl rfl, trivial⟩ ?_
                              exact ih85 (k + 1) (n3 + 1 + 1) (up (up g3 n3 (bd ((r * 4 + a) * 5 + k))) (n3 + 1) (pt ((r * 4 + a) * 5 + k))) Mz1960 (Sm.trans (Sm.trans s_85 hSz1952) hSz1958) hMMz1957.1 (hMMz1957.2 164 (by decide) (by decide)) (⟨by omega, by omega, by rw [lc_s]; first | exact hi85.2.2.w1 c112 (ite_tg c137) | exact hi85.2.2.w2 c112 (ite_tg1 c137) | exact hi85.2.2.w3 c112 (ite_tg c137) | exact hi85.2.2.w4 c112 (ite_tg1 c137)⟩) (by omega)
                            · -- 137 to 140
                              refine zw_n 2 rfl ?_
                              refine zw_callV (as := [.int 39]) (rest := []) rfl rfl rfl hMMz1951.1 rfl rfl rfl (by decide) (m_puts Mz1954 (up (up o 0 0) 31 (n3 + 1)) (fset f 164 (up g3 n3 (bd ((r * 4 + a) * 5 + k)))) (MM.of (o' := up (up o 0 0) 31 (n3 + 1)) (f' := fset f 164 (up g3 n3 (bd ((r * 4 + a) * 5 + k)))) hM (Sm.trans s_85 hSz1952) hMMz1951.1 (c1_skip (c1_cons (hMMz1951.2 164 (by decide) (by decide)) c1_nil)) (fs_k (fs_c fs_n))) 39 (by decide) (show n3 + 1 < 900 by omega)) (fun rz1965 Mz1966 hz1967 => ?_)
                              obtain ⟨hAz1962, hMMz1963, hSz1964⟩ := hz1967
                              rw [hAz1962]
                              show Zw 2 zm_MO_write 146 [some (.ref 139), some (.int (nI r)), some (.int (nI a)), some (.int (nI k)), some (.int (nI (49 + 3 * ((r * 4 + a) * 5 + k))))] [] Mz1966 _
                              refine zw_n 2 rfl ?_
                              refine zw_get (v := .ref 140) rfl hMMz1963.1 rfl ?_
                              refine zw_n 1 rfl ?_
                              refine zw_iald (f := ai (f 140)) (j := (49 + 3 * ((r * 4 + a) * 5 + k))) rfl (Sm.at hSz1964 (by decide) (Sm.at hSz1952 (by decide) (Sm.at s_85 (by decide) (hM.2 140 (by decide) (by decide))))) rfl (by decide) (by omega) ?_
                              refine zw_top (x' := (nI (pt ((r * 4 + a) * 5 + k)))) (congrArg nI (hg.2.2.2.2 _ ⟨r, a, k, by omega, by omega, by omega, rfl⟩).1) ?_
                              refine zw_callV (as := [.int (nI (pt ((r * 4 + a) * 5 + k)))]) (rest := []) rfl rfl rfl hMMz1963.1 rfl rfl rfl (by decide) (m_puts Mz1966 (up (up o 0 0) 31 (n3 + 1 + 1)) (fset f 164 (up (up g3 n3 (bd ((r * 4 + a) * 5 + k))) (n3 + 1) 39)) (MM.of (o' := up (up o 0 0) 31 (n3 + 1 + 1)) (f' := fset f 164 (up (up g3 n3 (bd ((r * 4 + a) * 5 + k))) (n3 + 1) 39)) hM (Sm.trans (Sm.trans s_85 hSz1952) hSz1964) hMMz1963.1 (c1_skip (c1_cons (hMMz1963.2 164 (by decide) (by decide)) c1_nil)) (fs_k (fs_c fs_n))) (pt ((r * 4 + a) * 5 + k)) (hpb _ ⟨r, a, k, by omega, by omega, by omega, rfl⟩).1 (show n3 + 1 + 1 < 900 by omega)) (fun rz1971 Mz1972 hz1973 => ?_)
                              obtain ⟨hAz1968, hMMz1969, hSz1970⟩ := hz1973
                              rw [hAz1968]
                              show Zw 2 zm_MO_write 157 [some (.ref 139), some (.int (nI r)), some (.int (nI a)), some (.int (nI k)), some (.int (nI (49 + 3 * ((r * 4 + a) * 5 + k))))] [] Mz1972 _
                              refine zw_inc rfl (x' := (nI (k + 1))) (ls' := [some (.ref 139), some (.int (nI r)), some (.int (nI a)), some (.int (nI (k + 1))), some (.int (nI (49 + 3 * ((r * 4 + a) * 5 + k))))]) rfl (na (a := k) (b := 1) rfl rfl) rfl ?_
                              refine zw_n 1 rfl ?_
                              refine zw_ls (ls' := [some (.ref 139), some (.int (nI r)), some (.int (nI a)), some (.int (nI (k + 1))), none]) ⟨Or.inr rfl, Or.inr rfl, Or.inr rfl, Or.inr rfl, Or.inl rfl, trivial⟩ ?_
                              exact ih85 (k + 1) (n3 + 1 + 1 + 1) (up (up (up g3 n3 (bd ((r * 4 + a) * 5 + k))) (n3 + 1) 39) (n3 + 1 + 1) (pt ((r * 4 + a) * 5 + k))) Mz1972 (Sm.trans (Sm.trans (Sm.trans s_85 hSz1952) hSz1964) hSz1970) hMMz1969.1 (hMMz1969.2 164 (by decide) (by decide)) (⟨by omega, by omega, by rw [lc_s]; first | exact hi85.2.2.w1 c112 (ite_tg c137) | exact hi85.2.2.w2 c112 (ite_tg1 c137) | exact hi85.2.2.w3 c112 (ite_tg c137) | exact hi85.2.2.w4 c112 (ite_tg1 c137)⟩) (by omega)
                    exact lp85 _ 0 (n2 + 1) (up g2 n2 47) Mz1923 (Sm.trans s_55 hSz1921) hMMz1920.1 (hMMz1920.2 164 (by decide) (by decide)) (⟨Nat.zero_le _, by omega, by show Lt _ _ (_ ++ []); rw [List.append_nil]; exact hi55.2.2.add _⟩) (Nat.lt_succ_self _)
                  · -- 70 to 73
                    refine zw_n 2 rfl ?_
                    refine zw_callV (as := [.int 58]) (rest := []) rfl rfl rfl f55_0 rfl rfl rfl (by decide) (m_puts M_55 (up (up o 0 0) 31 n2) (fset f 164 g2) (MM.of (o' := up (up o 0 0) 31 n2) (f' := fset f 164 g2) hM s_55 f55_0 (c1_skip (c1_cons f55_1 c1_nil)) (fs_k (fs_c fs_n))) 58 (by decide) (show n2 < 900 by omega)) (fun rz1977 Mz1978 hz1979 => ?_)
                    obtain ⟨hAz1974, hMMz1975, hSz1976⟩ := hz1979
                    rw [hAz1974]
                    show Zw 2 zm_MO_write 83 [some (.ref 139), some (.int (nI r)), some (.int (nI a)), none, none] [] Mz1978 _
                    refine zw_n 2 (ls' := [some (.ref 139), some (.int (nI r)), some (.int (nI a)), some (.int 0), none]) rfl ?_
                    have mz1980 : Mz1978[140]? = some (.inl (0, 590, .inl (ai (f 140)))) := Sm.at hSz1976 (by decide) (Sm.at s_55 (by decide) (hM.2 140 (by decide) (by decide)))
                    have lp85 : ∀ (n85 : Nat) (k : Nat) (n3 : Nat) (g3 : Nat → Nat) (M_85 : zM), Sm Mq M_85 [139, 164] → M_85[139]? = some (.inr (12, [.int 0, .ref 140, .ref 141, .ref 142, .ref 143, .int (nI (o 5)), .ref 144, .int (nI (o 7)), .int (nI (o 8)), .int (nI (o 9)), .int (nI (o 10)), .ref 145, .ref 146, .ref 147, .ref 148, .ref 149, .ref 150, .ref 151, .ref 152, .ref 153, .ref 154, .ref 155, .ref 156, .ref 157, .ref 158, .ref 159, .ref 160, .ref 161, .ref 162, .ref 163, .ref 164, .int (nI n3), .ref 165, .int (nI (o 33)), .ref 166, .ref 167, .ref 168, .ref 169, .int (nI (o 38)), .ref 170, .ref 171, .ref 172, .ref 173, .ref 174, .ref 175, .int (nI (o 45)), .int (nI (o 46)), .int (nI (o 47)), .long (lN (o 48)), .ref 176])) → M_85[164]? = some (.inl (2, 900, .inl (ai g3))) → (k ≤ it (r * 4 + a) ∧ n3 ≤ 67 * r + 3 + 16 * a + 3 * k ∧ Lt n3 g3 (lc (wrR gn al_ it pt tg bd) r ++ [] ++ [gn r] ++ wrM it pt tg bd r a ++ [58] ++ lc (fun k => wrI pt tg bd ((r * 4 + a) * 5 + k)) k)) → it (r * 4 + a) - k < n85 → Zw 2 zm_MO_write 85 [some (.ref 139), some (.int (nI r)), some (.int (nI a)), some (.int (nI k)), none] [] M_85 (fun r9 M1 => r9 = some (.int (nI (wrG n gn al_ it pt tg bd).length)) ∧ ∃ n9 g9, MM M1 (up (up o 0 0) 31 n9) (fset f 164 g9) ∧ Sm Mq M1 [139, 164] ∧ Lt n9 g9 (wrG n gn al_ it pt tg bd) ∧ n9 ≤ 820) := by
                      intro n85
                      induction n85 with
                      | zero => intro k n3 g3 M_85 _ _ _ _ h; exact absurd h (Nat.not_lt_zero _)
                      | succ n85 ih85 =>
                        intro k n3 g3 M_85 s_85 f85_0 f85_1 hi85 hm85
                        have hi5 := hG.2.2.2.1 (r * 4 + a)
                        have hbx := hG.2.2.2.2.2.2 ((r * 4 + a) * 5 + k)
                        refine zw_n 4 rfl ?_
                        refine zw_callV (as := [.int (nI r), .int (nI a)]) (rest := [.int (nI k)]) rfl rfl rfl f85_0 rfl rfl rfl (by decide) (m_items M_85 (up (up o 0 0) 31 n3) (fset f 164 g3) (MM.of (o' := up (up o 0 0) 31 n3) (f' := fset f 164 g3) hM s_85 f85_0 (c1_skip (c1_cons f85_1 c1_nil)) (fs_k (fs_c fs_n))) n gn al_ it pt tg bd hg hG hF r a (by omega) (by omega)) (fun rz1981 Mz1982 hz1983 => ?_)
                        rw [hz1983.1, hz1983.2]
                        show Zw 2 zm_MO_write 92 [some (.ref 139), some (.int (nI r)), some (.int (nI a)), some (.int (nI k)), none] [.int (nI (it (r * 4 + a))), .int (nI k)] M_85 _
                        refine zw_igeN (a := k) (b := it (r * 4 + a)) rfl rfl rfl (by omega) (by omega) (fun c92 => ?_) (fun c92 => ?_)
                        · -- 92 to 163
                          refine zw_inc rfl (x' := (nI (a + 1))) (ls' := [some (.ref 139), some (.int (nI r)), some (.int (nI (a + 1))), some (.int (nI k)), none]) rfl (na (a := a) (b := 1) rfl rfl) rfl ?_
                          refine zw_n 1 rfl ?_
                          refine zw_ls (ls' := [some (.ref 139), some (.int (nI r)), some (.int (nI (a + 1))), none, none]) ⟨Or.inr rfl, Or.inr rfl, Or.inr rfl, Or.inl rfl, Or.inl rfl, trivial⟩ ?_
                          exact ih55 (a + 1) n3 g3 M_85 s_85 f85_0 f85_1 (⟨by omega, by omega, by rw [wrM_s0 (show a = 0 by omega), wrA, ← show k = it (r * 4 + a) by omega]; exact hi85.2.2⟩) (by omega)
                        · -- 92 to 95
                          refine zw_n 3 rfl ?_
                          refine zw_callS (as := [.int (nI r), .int (nI a), .int (nI k)]) (rest := []) rfl rfl rfl rfl rfl rfl (by decide) (m_itemAt _ r a k) (fun rz1984 Mz1985 hz1986 => ?_)
                          rw [hz1986.1, hz1986.2]
                          show Zw 2 zm_MO_write 101 [some (.ref 139), some (.int (nI r)), some (.int (nI a)), some (.int (nI k)), none] [.int (nI (49 + 3 * ((r * 4 + a) * 5 + k)))] M_85 _
                          refine zw_n 2 (ls' := [some (.ref 139), some (.int (nI r)), some (.int (nI a)), some (.int (nI k)), some (.int (nI (49 + 3 * ((r * 4 + a) * 5 + k))))]) rfl ?_
                          refine zw_get (v := .ref 140) rfl f85_0 rfl ?_
                          refine zw_n 3 rfl ?_
                          refine zw_top (na (a := 49 + 3 * ((r * 4 + a) * 5 + k)) (b := 2) rfl rfl) ?_
                          refine zw_iald (f := ai (f 140)) (j := ((49 + 3 * ((r * 4 + a) * 5 + k)) + 2)) rfl (Sm.at s_85 (by decide) (hM.2 140 (by decide) (by decide))) rfl (by decide) (by omega) ?_
                          refine zw_top (x' := (nI (bd ((r * 4 + a) * 5 + k)))) (congrArg nI (hg.2.2.2.2 _ ⟨r, a, k, by omega, by omega, by omega, rfl⟩).2.2.1) ?_
                          refine zw_eq0N (a := bd ((r * 4 + a) * 5 + k)) rfl rfl (by omega) (fun c112 => ?_) (fun c112 => ?_)
                          · -- 112 to 128
                            refine zw_n 1 rfl ?_
                            refine zw_get (v := .ref 140) rfl f85_0 rfl ?_
                            refine zw_n 3 rfl ?_
                            refine zw_top (na (a := 49 + 3 * ((r * 4 + a) * 5 + k)) (b := 1) rfl rfl) ?_
                            refine zw_iald (f := ai (f 140)) (j := ((49 + 3 * ((r * 4 + a) * 5 + k)) + 1)) rfl (Sm.at s_85 (by decide) (hM.2 140 (by decide) (by decide))) rfl (by decide) (by omega) ?_
                            refine zw_top (x' := (nI (if tg ((r * 4 + a) * 5 + k) = NO then 0 else 1))) (congrArg nI (hg.2.2.2.2 _ ⟨r, a, k, by omega, by omega, by omega, rfl⟩).2.1) ?_
                            refine zw_ne0N (a := if tg ((r * 4 + a) * 5 + k) = NO then 0 else 1) rfl rfl (by split <;> decide) (fun c137 => ?_) (fun c137 => ?_)
                            · -- 137 to 146
                              refine zw_n 2 rfl ?_
                              refine zw_get (v := .ref 140) rfl f85_0 rfl ?_
                              refine zw_n 1 rfl ?_
                              refine zw_iald (f := ai (f 140)) (j := (49 + 3 * ((r * 4 + a) * 5 + k))) rfl (Sm.at s_85 (by decide) (hM.2 140 (by decide) (by decide))) rfl (by decide) (by omega) ?_
                              refine zw_top (x' := (nI (pt ((r * 4 + a) * 5 + k)))) (congrArg nI (hg.2.2.2.2 _ ⟨r, a, k, by omega, by omega, by omega, rfl⟩).1) ?_
                              refine zw_callV (as := [.int (nI (pt ((r * 4 + a) * 5 + k)))]) (rest := []) rfl rfl rfl f85_0 rfl rfl rfl (by decide) (m_puts M_85 (up (up o 0 0) 31 n3) (fset f 164 g3) (MM.of (o' := up (up o 0 0) 31 n3) (f' := fset f 164 g3) hM s_85 f85_0 (c1_skip (c1_cons f85_1 c1_nil)) (fs_k (fs_c fs_n))) (pt ((r * 4 + a) * 5 + k)) (hpb _ ⟨r, a, k, by omega, by omega, by omega, rfl⟩).1 (show n3 < 900 by omega)) (fun rz1990 Mz1991 hz1992 => ?_)
                              obtain ⟨hAz1987, hMMz1988, hSz1989⟩ := hz1992
                              rw [hAz1987]
                              show Zw 2 zm_MO_write 157 [some (.ref 139), some (.int (nI r)), some (.int (nI a)), some (.int (nI k)), some (.int (nI (49 + 3 * ((r * 4 + a) * 5 + k))))] [] Mz1991 _
                              refine zw_inc rfl (x' := (nI (k + 1))) (ls' := [some (.ref 139), some (.int (nI r)), some (.int (nI a)), some (.int (nI (k + 1))), some (.int (nI (49 + 3 * ((r * 4 + a) * 5 + k))))]) rfl (na (a := k) (b := 1) rfl rfl) rfl ?_
                              refine zw_n 1 rfl ?_
                              refine zw_ls (ls' := [some (.ref 139), some (.int (nI r)), some (.int (nI a)), some (.int (nI (k + 1))), none]) ⟨Or.inr rfl, Or.inr rfl, Or.inr rfl, Or.inr rfl, Or.inl rfl, trivial⟩ ?_
                              exact ih85 (k + 1) (n3 + 1) (up g3 n3 (pt ((r * 4 + a) * 5 + k))) Mz1991 (Sm.trans s_85 hSz1989) hMMz1988.1 (hMMz1988.2 164 (by decide) (by decide)) (⟨by omega, by omega, by rw [lc_s]; first | exact hi85.2.2.w1 c112 (ite_tg c137) | exact hi85.2.2.w2 c112 (ite_tg1 c137) | exact hi85.2.2.w3 c112 (ite_tg c137) | exact hi85.2.2.w4 c112 (ite_tg1 c137)⟩) (by omega)
                            · -- 137 to 140
                              refine zw_n 2 rfl ?_
                              refine zw_callV (as := [.int 39]) (rest := []) rfl rfl rfl f85_0 rfl rfl rfl (by decide) (m_puts M_85 (up (up o 0 0) 31 n3) (fset f 164 g3) (MM.of (o' := up (up o 0 0) 31 n3) (f' := fset f 164 g3) hM s_85 f85_0 (c1_skip (c1_cons f85_1 c1_nil)) (fs_k (fs_c fs_n))) 39 (by decide) (show n3 < 900 by omega)) (fun rz1996 Mz1997 hz1998 => ?_)
                              obtain ⟨hAz1993, hMMz1994, hSz1995⟩ := hz1998
                              rw [hAz1993]
                              show Zw 2 zm_MO_write 146 [some (.ref 139), some (.int (nI r)), some (.int (nI a)), some (.int (nI k)), some (.int (nI (49 + 3 * ((r * 4 + a) * 5 + k))))] [] Mz1997 _
                              refine zw_n 2 rfl ?_
                              refine zw_get (v := .ref 140) rfl hMMz1994.1 rfl ?_
                              refine zw_n 1 rfl ?_
                              refine zw_iald (f := ai (f 140)) (j := (49 + 3 * ((r * 4 + a) * 5 + k))) rfl (Sm.at hSz1995 (by decide) (Sm.at s_85 (by decide) (hM.2 140 (by decide) (by decide)))) rfl (by decide) (by omega) ?_
                              refine zw_top (x' := (nI (pt ((r * 4 + a) * 5 + k)))) (congrArg nI (hg.2.2.2.2 _ ⟨r, a, k, by omega, by omega, by omega, rfl⟩).1) ?_
                              refine zw_callV (as := [.int (nI (pt ((r * 4 + a) * 5 + k)))]) (rest := []) rfl rfl rfl hMMz1994.1 rfl rfl rfl (by decide) (m_puts Mz1997 (up (up o 0 0) 31 (n3 + 1)) (fset f 164 (up g3 n3 39)) (MM.of (o' := up (up o 0 0) 31 (n3 + 1)) (f' := fset f 164 (up g3 n3 39)) hM (Sm.trans s_85 hSz1995) hMMz1994.1 (c1_skip (c1_cons (hMMz1994.2 164 (by decide) (by decide)) c1_nil)) (fs_k (fs_c fs_n))) (pt ((r * 4 + a) * 5 + k)) (hpb _ ⟨r, a, k, by omega, by omega, by omega, rfl⟩).1 (show n3 + 1 < 900 by omega)) (fun rz2002 Mz2003 hz2004 => ?_)
                              obtain ⟨hAz1999, hMMz2000, hSz2001⟩ := hz2004
                              rw [hAz1999]
                              show Zw 2 zm_MO_write 157 [some (.ref 139), some (.int (nI r)), some (.int (nI a)), some (.int (nI k)), some (.int (nI (49 + 3 * ((r * 4 + a) * 5 + k))))] [] Mz2003 _
                              refine zw_inc rfl (x' := (nI (k + 1))) (ls' := [some (.ref 139), some (.int (nI r)), some (.int (nI a)), some (.int (nI (k + 1))), some (.int (nI (49 + 3 * ((r * 4 + a) * 5 + k))))]) rfl (na (a := k) (b := 1) rfl rfl) rfl ?_
                              refine zw_n 1 rfl ?_
                              refine zw_ls (ls' := [some (.ref 139), some (.int (nI r)), some (.int (nI a)), some (.int (nI (k + 1))), none]) ⟨Or.inr rfl, Or.inr rfl, Or.inr rfl, Or.inr rfl, Or.inl rfl, trivial⟩ ?_
                              exact ih85 (k + 1) (n3 + 1 + 1) (up (up g3 n3 39) (n3 + 1) (pt ((r * 4 + a) * 5 + k))) Mz2003 (Sm.trans (Sm.trans s_85 hSz1995) hSz2001) hMMz2000.1 (hMMz2000.2 164 (by decide) (by decide)) (⟨by omega, by omega, by rw [lc_s]; first | exact hi85.2.2.w1 c112 (ite_tg c137) | exact hi85.2.2.w2 c112 (ite_tg1 c137) | exact hi85.2.2.w3 c112 (ite_tg c137) | exact hi85.2.2.w4 c112 (ite_tg1 c137)⟩) (by omega)
                          · -- 112 to 115
                            refine zw_n 2 rfl ?_
                            refine zw_get (v := .ref 140) rfl f85_0 rfl ?_
                            refine zw_n 3 rfl ?_
                            refine zw_top (na (a := 49 + 3 * ((r * 4 + a) * 5 + k)) (b := 2) rfl rfl) ?_
                            refine zw_iald (f := ai (f 140)) (j := ((49 + 3 * ((r * 4 + a) * 5 + k)) + 2)) rfl (Sm.at s_85 (by decide) (hM.2 140 (by decide) (by decide))) rfl (by decide) (by omega) ?_
                            refine zw_top (x' := (nI (bd ((r * 4 + a) * 5 + k)))) (congrArg nI (hg.2.2.2.2 _ ⟨r, a, k, by omega, by omega, by omega, rfl⟩).2.2.1) ?_
                            refine zw_callV (as := [.int (nI (bd ((r * 4 + a) * 5 + k)))]) (rest := []) rfl rfl rfl f85_0 rfl rfl rfl (by decide) (m_puts M_85 (up (up o 0 0) 31 n3) (fset f 164 g3) (MM.of (o' := up (up o 0 0) 31 n3) (f' := fset f 164 g3) hM s_85 f85_0 (c1_skip (c1_cons f85_1 c1_nil)) (fs_k (fs_c fs_n))) (bd ((r * 4 + a) * 5 + k)) (hpb _ ⟨r, a, k, by omega, by omega, by omega, rfl⟩).2 (show n3 < 900 by omega)) (fun rz2008 Mz2009 hz2010 => ?_)
                            obtain ⟨hAz2005, hMMz2006, hSz2007⟩ := hz2010
                            rw [hAz2005]
                            show Zw 2 zm_MO_write 128 [some (.ref 139), some (.int (nI r)), some (.int (nI a)), some (.int (nI k)), some (.int (nI (49 + 3 * ((r * 4 + a) * 5 + k))))] [] Mz2009 _
                            refine zw_n 1 rfl ?_
                            refine zw_get (v := .ref 140) rfl hMMz2006.1 rfl ?_
                            refine zw_n 3 rfl ?_
                            refine zw_top (na (a := 49 + 3 * ((r * 4 + a) * 5 + k)) (b := 1) rfl rfl) ?_
                            refine zw_iald (f := ai (f 140)) (j := ((49 + 3 * ((r * 4 + a) * 5 + k)) + 1)) rfl (Sm.at hSz2007 (by decide) (Sm.at s_85 (by decide) (hM.2 140 (by decide) (by decide)))) rfl (by decide) (by omega) ?_
                            refine zw_top (x' := (nI (if tg ((r * 4 + a) * 5 + k) = NO then 0 else 1))) (congrArg nI (hg.2.2.2.2 _ ⟨r, a, k, by omega, by omega, by omega, rfl⟩).2.1) ?_
                            refine zw_ne0N (a := if tg ((r * 4 + a) * 5 + k) = NO then 0 else 1) rfl rfl (by split <;> decide) (fun c137 => ?_) (fun c137 => ?_)
                            · -- 137 to 146
                              refine zw_n 2 rfl ?_
                              refine zw_get (v := .ref 140) rfl hMMz2006.1 rfl ?_
                              refine zw_n 1 rfl ?_
                              refine zw_iald (f := ai (f 140)) (j := (49 + 3 * ((r * 4 + a) * 5 + k))) rfl (Sm.at hSz2007 (by decide) (Sm.at s_85 (by decide) (hM.2 140 (by decide) (by decide)))) rfl (by decide) (by omega) ?_
                              refine zw_top (x' := (nI (pt ((r * 4 + a) * 5 + k)))) (congrArg nI (hg.2.2.2.2 _ ⟨r, a, k, by omega, by omega, by omega, rfl⟩).1) ?_
                              refine zw_callV (as := [.int (nI (pt ((r * 4 + a) * 5 + k)))]) (rest := []) rfl rfl rfl hMMz2006.1 rfl rfl rfl (by decide) (m_puts Mz2009 (up (up o 0 0) 31 (n3 + 1)) (fset f 164 (up g3 n3 (bd ((r * 4 + a) * 5 + k)))) (MM.of (o' := up (up o 0 0) 31 (n3 + 1)) (f' := fset f 164 (up g3 n3 (bd ((r * 4 + a) * 5 + k)))) hM (Sm.trans s_85 hSz2007) hMMz2006.1 (c1_skip (c1_cons (hMMz2006.2 164 (by decide) (by decide)) c1_nil)) (fs_k (fs_c fs_n))) (pt ((r * 4 + a) * 5 + k)) (hpb _ ⟨r, a, k, by omega, by omega, by omega, rfl⟩).1 (show n3 + 1 < 900 by omega)) (fun rz2014 Mz2015 hz2016 => ?_)
                              obtain ⟨hAz2011, hMMz2012, hSz2013⟩ := hz2016
                              rw [hAz2011]
                              show Zw 2 zm_MO_write 157 [some (.ref 139), some (.int (nI r)), some (.int (nI a)), some (.int (nI k)), some (.int (nI (49 + 3 * ((r * 4 + a) * 5 + k))))] [] Mz2015 _
                              refine zw_inc rfl (x' := (nI (k + 1))) (ls' := [some (.ref 139), some (.int (nI r)), some (.int (nI a)), some (.int (nI (k + 1))), some (.int (nI (49 + 3 * ((r * 4 + a) * 5 + k))))]) rfl (na (a := k) (b := 1) rfl rfl) rfl ?_
                              refine zw_n 1 rfl ?_
                              refine zw_ls (ls' := [some (.ref 139), some (.int (nI r)), some (.int (nI a)), some (.int (nI (k + 1))), none]) ⟨Or.inr rfl, Or.inr rfl, Or.inr rfl, Or.inr rfl, Or.inl rfl, trivial⟩ ?_
                              exact ih85 (k + 1) (n3 + 1 + 1) (up (up g3 n3 (bd ((r * 4 + a) * 5 + k))) (n3 + 1) (pt ((r * 4 + a) * 5 + k))) Mz2015 (Sm.trans (Sm.trans s_85 hSz2007) hSz2013) hMMz2012.1 (hMMz2012.2 164 (by decide) (by decide)) (⟨by omega, by omega, by rw [lc_s]; first | exact hi85.2.2.w1 c112 (ite_tg c137) | exact hi85.2.2.w2 c112 (ite_tg1 c137) | exact hi85.2.2.w3 c112 (ite_tg c137) | exact hi85.2.2.w4 c112 (ite_tg1 c137)⟩) (by omega)
                            · -- 137 to 140
                              refine zw_n 2 rfl ?_
                              refine zw_callV (as := [.int 39]) (rest := []) rfl rfl rfl hMMz2006.1 rfl rfl rfl (by decide) (m_puts Mz2009 (up (up o 0 0) 31 (n3 + 1)) (fset f 164 (up g3 n3 (bd ((r * 4 + a) * 5 + k)))) (MM.of (o' := up (up o 0 0) 31 (n3 + 1)) (f' := fset f 164 (up g3 n3 (bd ((r * 4 + a) * 5 + k)))) hM (Sm.trans s_85 hSz2007) hMMz2006.1 (c1_skip (c1_cons (hMMz2006.2 164 (by decide) (by decide)) c1_nil)) (fs_k (fs_c fs_n))) 39 (by decide) (show n3 + 1 < 900 by omega)) (fun rz2020 Mz2021 hz2022 => ?_)
                              obtain ⟨hAz2017, hMMz2018, hSz2019⟩ := hz2022
                              rw [hAz2017]
                              show Zw 2 zm_MO_write 146 [some (.ref 139), some (.int (nI r)), some (.int (nI a)), some (.int (nI k)), some (.int (nI (49 + 3 * ((r * 4 + a) * 5 + k))))] [] Mz2021 _
                              refine zw_n 2 rfl ?_
                              refine zw_get (v := .ref 140) rfl hMMz2018.1 rfl ?_
                              refine zw_n 1 rfl ?_
                              refine zw_iald (f := ai (f 140)) (j := (49 + 3 * ((r * 4 + a) * 5 + k))) rfl (Sm.at hSz2019 (by decide) (Sm.at hSz2007 (by decide) (Sm.at s_85 (by decide) (hM.2 140 (by decide) (by decide))))) rfl (by decide) (by omega) ?_
                              refine zw_top (x' := (nI (pt ((r * 4 + a) * 5 + k)))) (congrArg nI (hg.2.2.2.2 _ ⟨r, a, k, by omega, by omega, by omega, rfl⟩).1) ?_
                              refine zw_callV (as := [.int (nI (pt ((r * 4 + a) * 5 + k)))]) (rest := []) rfl rfl rfl hMMz2018.1 rfl rfl rfl (by decide) (m_puts Mz2021 (up (up o 0 0) 31 (n3 + 1 + 1)) (fset f 164 (up (up g3 n3 (bd ((r * 4 + a) * 5 + k))) (n3 + 1) 39)) (MM.of (o' := up (up o 0 0) 31 (n3 + 1 + 1)) (f' := fset f 164 (up (up g3 n3 (bd ((r * 4 + a) * 5 + k))) (n3 + 1) 39)) hM (Sm.trans (Sm.trans s_85 hSz2007) hSz2019) hMMz2018.1 (c1_skip (c1_cons (hMMz2018.2 164 (by decide) (by decide)) c1_nil)) (fs_k (fs_c fs_n))) (pt ((r * 4 + a) * 5 + k)) (hpb _ ⟨r, a, k, by omega, by omega, by omega, rfl⟩).1 (show n3 + 1 + 1 < 900 by omega)) (fun rz2026 Mz2027 hz2028 => ?_)
                              obtain ⟨hAz2023, hMMz2024, hSz2025⟩ := hz2028
                              rw [hAz2023]
                              show Zw 2 zm_MO_write 157 [some (.ref 139), some (.int (nI r)), some (.int (nI a)), some (.int (nI k)), some (.int (nI (49 + 3 * ((r * 4 + a) * 5 + k))))] [] Mz2027 _
                              refine zw_inc rfl (x' := (nI (k + 1))) (ls' := [some (.ref 139), some (.int (nI r)), some (.int (nI a)), some (.int (nI (k + 1))), some (.int (nI (49 + 3 * ((r * 4 + a) * 5 + k))))]) rfl (na (a := k) (b := 1) rfl rfl) rfl ?_
                              refine zw_n 1 rfl ?_
                              refine zw_ls (ls' := [some (.ref 139), some (.int (nI r)), some (.int (nI a)), some (.int (nI (k + 1))), none]) ⟨Or.inr rfl, Or.inr rfl, Or.inr rfl, Or.inr rfl, Or.inl rfl, trivial⟩ ?_
                              exact ih85 (k + 1) (n3 + 1 + 1 + 1) (up (up (up g3 n3 (bd ((r * 4 + a) * 5 + k))) (n3 + 1) 39) (n3 + 1 + 1) (pt ((r * 4 + a) * 5 + k))) Mz2027 (Sm.trans (Sm.trans (Sm.trans s_85 hSz2007) hSz2019) hSz2025) hMMz2024.1 (hMMz2024.2 164 (by decide) (by decide)) (⟨by omega, by omega, by rw [lc_s]; first | exact hi85.2.2.w1 c112 (ite_tg c137) | exact hi85.2.2.w2 c112 (ite_tg1 c137) | exact hi85.2.2.w3 c112 (ite_tg c137) | exact hi85.2.2.w4 c112 (ite_tg1 c137)⟩) (by omega)
                    exact lp85 _ 0 (n2 + 1) (up g2 n2 58) Mz1978 (Sm.trans s_55 hSz1976) hMMz1975.1 (hMMz1975.2 164 (by decide) (by decide)) (⟨Nat.zero_le _, by omega, by show Lt _ _ (_ ++ []); rw [List.append_nil]; exact hi55.2.2.add _⟩) (Nat.lt_succ_self _)
            exact lp55 _ 0 (n1 + 1) (up g1 n1 (gn r)) Mz1916 (Sm.trans s_21 hSz1914) hMMz1913.1 (hMMz1913.2 164 (by decide) (by decide)) (⟨Nat.zero_le _, by omega, by rw [wrM_0]; exact (by rw [List.append_nil]; exact hi21.2.2.add _)⟩) (Nat.lt_succ_self _)
          · -- 32 to 35
            refine zw_n 2 rfl ?_
            refine zw_callV (as := [.int 59]) (rest := []) rfl rfl rfl f21_0 rfl rfl rfl (by decide) (m_puts M_21 (up (up o 0 0) 31 n1) (fset f 164 g1) (MM.of (o' := up (up o 0 0) 31 n1) (f' := fset f 164 g1) hM s_21 f21_0 (c1_skip (c1_cons f21_1 c1_nil)) (fs_k (fs_c fs_n))) 59 (by decide) (show n1 < 900 by omega)) (fun rz2032 Mz2033 hz2034 => ?_)
            obtain ⟨hAz2029, hMMz2030, hSz2031⟩ := hz2034
            rw [hAz2029]
            show Zw 2 zm_MO_write 41 [some (.ref 139), some (.int (nI r)), none, none, none] [] Mz2033 _
            refine zw_n 2 rfl ?_
            refine zw_get (v := .ref 140) rfl hMMz2030.1 rfl ?_
            refine zw_n 3 rfl ?_
            refine zw_top (na (a := 1) (b := r) rfl rfl) ?_
            refine zw_iald (f := ai (f 140)) (j := (1 + r)) rfl (Sm.at hSz2031 (by decide) (Sm.at s_21 (by decide) (hM.2 140 (by decide) (by decide)))) rfl (by decide) (by omega) ?_
            refine zw_top (x' := (nI (gn r))) (congrArg nI (hg.2.1 r (by omega))) ?_
            refine zw_callV (as := [.int (nI (gn r))]) (rest := []) rfl rfl rfl hMMz2030.1 rfl rfl rfl (by decide) (m_puts Mz2033 (up (up o 0 0) 31 (n1 + 1)) (fset f 164 (up g1 n1 59)) (MM.of (o' := up (up o 0 0) 31 (n1 + 1)) (f' := fset f 164 (up g1 n1 59)) hM (Sm.trans s_21 hSz2031) hMMz2030.1 (c1_skip (c1_cons (hMMz2030.2 164 (by decide) (by decide)) c1_nil)) (fs_k (fs_c fs_n))) (gn r) (hgn r (by omega)) (show n1 + 1 < 900 by omega)) (fun rz2038 Mz2039 hz2040 => ?_)
            obtain ⟨hAz2035, hMMz2036, hSz2037⟩ := hz2040
            rw [hAz2035]
            show Zw 2 zm_MO_write 53 [some (.ref 139), some (.int (nI r)), none, none, none] [] Mz2039 _
            refine zw_n 2 (ls' := [some (.ref 139), some (.int (nI r)), some (.int 0), none, none]) rfl ?_
            have mz2041 : Mz2039[140]? = some (.inl (0, 590, .inl (ai (f 140)))) := Sm.at hSz2037 (by decide) (Sm.at hSz2031 (by decide) (Sm.at s_21 (by decide) (hM.2 140 (by decide) (by decide))))
            have lp55 : ∀ (n55 : Nat) (a : Nat) (n2 : Nat) (g2 : Nat → Nat) (M_55 : zM), Sm Mq M_55 [139, 164] → M_55[139]? = some (.inr (12, [.int 0, .ref 140, .ref 141, .ref 142, .ref 143, .int (nI (o 5)), .ref 144, .int (nI (o 7)), .int (nI (o 8)), .int (nI (o 9)), .int (nI (o 10)), .ref 145, .ref 146, .ref 147, .ref 148, .ref 149, .ref 150, .ref 151, .ref 152, .ref 153, .ref 154, .ref 155, .ref 156, .ref 157, .ref 158, .ref 159, .ref 160, .ref 161, .ref 162, .ref 163, .ref 164, .int (nI n2), .ref 165, .int (nI (o 33)), .ref 166, .ref 167, .ref 168, .ref 169, .int (nI (o 38)), .ref 170, .ref 171, .ref 172, .ref 173, .ref 174, .ref 175, .int (nI (o 45)), .int (nI (o 46)), .int (nI (o 47)), .long (lN (o 48)), .ref 176])) → M_55[164]? = some (.inl (2, 900, .inl (ai g2))) → (a ≤ al_ r ∧ n2 ≤ 67 * r + 2 + 16 * a ∧ Lt n2 g2 (lc (wrR gn al_ it pt tg bd) r ++ [59] ++ [gn r] ++ wrM it pt tg bd r a)) → al_ r - a < n55 → Zw 2 zm_MO_write 55 [some (.ref 139), some (.int (nI r)), some (.int (nI a)), none, none] [] M_55 (fun r9 M1 => r9 = some (.int (nI (wrG n gn al_ it pt tg bd).length)) ∧ ∃ n9 g9, MM M1 (up (up o 0 0) 31 n9) (fset f 164 g9) ∧ Sm Mq M1 [139, 164] ∧ Lt n9 g9 (wrG n gn al_ it pt tg bd) ∧ n9 ≤ 820) := by
              intro n55
              induction n55 with
              | zero => intro a n2 g2 M_55 _ _ _ _ h; exact absurd h (Nat.not_lt_zero _)
              | succ n55 ih55 =>
                intro a n2 g2 M_55 s_55 f55_0 f55_1 hi55 hm55
                have ha4 := hG.2.2.1 r
                refine zw_n 2 rfl ?_
                refine zw_get (v := .ref 140) rfl f55_0 rfl ?_
                refine zw_n 3 rfl ?_
                refine zw_top (na (a := 9) (b := r) rfl rfl) ?_
                refine zw_iald (f := ai (f 140)) (j := (9 + r)) rfl (Sm.at s_55 (by decide) (hM.2 140 (by decide) (by decide))) rfl (by decide) (by omega) ?_
                refine zw_top (x' := (nI (al_ r))) (congrArg nI (hg.2.2.1 r (by omega))) ?_
                refine zw_igeN (a := a) (b := al_ r) rfl rfl rfl (by omega) (by omega) (fun c65 => ?_) (fun c65 => ?_)
                · -- 65 to 169
                  refine zw_inc rfl (x' := (nI (r + 1))) (ls' := [some (.ref 139), some (.int (nI (r + 1))), some (.int (nI a)), none, none]) rfl (na (a := r) (b := 1) rfl rfl) rfl ?_
                  refine zw_n 1 rfl ?_
                  refine zw_ls (ls' := [some (.ref 139), some (.int (nI (r + 1))), none, none, none]) ⟨Or.inr rfl, Or.inr rfl, Or.inl rfl, Or.inl rfl, Or.inl rfl, trivial⟩ ?_
                  exact ih21 (r + 1) n2 g2 M_55 s_55 f55_0 f55_1 (⟨by omega, by omega, by rw [lc_s0, wrR_M (hal r (by omega)), if_pos (by omega), ← show a = al_ r by omega]; exact hi55.2.2⟩) (by omega)
                · -- 65 to 68
                  refine zw_n 2 rfl ?_
                  refine zw_ne0N (a := a) rfl rfl (by omega) (fun c70 => ?_) (fun c70 => ?_)
                  · -- 70 to 78
                    refine zw_n 1 rfl ?_
                    refine zw_callV (as := [.int 47]) (rest := []) rfl rfl rfl f55_0 rfl rfl rfl (by decide) (m_puts M_55 (up (up o 0 0) 31 n2) (fset f 164 g2) (MM.of (o' := up (up o 0 0) 31 n2) (f' := fset f 164 g2) hM s_55 f55_0 (c1_skip (c1_cons f55_1 c1_nil)) (fs_k (fs_c fs_n))) 47 (by decide) (show n2 < 900 by omega)) (fun rz2045 Mz2046 hz2047 => ?_)
                    obtain ⟨hAz2042, hMMz2043, hSz2044⟩ := hz2047
                    rw [hAz2042]
                    show Zw 2 zm_MO_write 83 [some (.ref 139), some (.int (nI r)), some (.int (nI a)), none, none] [] Mz2046 _
                    refine zw_n 2 (ls' := [some (.ref 139), some (.int (nI r)), some (.int (nI a)), some (.int 0), none]) rfl ?_
                    have mz2048 : Mz2046[140]? = some (.inl (0, 590, .inl (ai (f 140)))) := Sm.at hSz2044 (by decide) (Sm.at s_55 (by decide) (hM.2 140 (by decide) (by decide)))
                    have lp85 : ∀ (n85 : Nat) (k : Nat) (n3 : Nat) (g3 : Nat → Nat) (M_85 : zM), Sm Mq M_85 [139, 164] → M_85[139]? = some (.inr (12, [.int 0, .ref 140, .ref 141, .ref 142, .ref 143, .int (nI (o 5)), .ref 144, .int (nI (o 7)), .int (nI (o 8)), .int (nI (o 9)), .int (nI (o 10)), .ref 145, .ref 146, .ref 147, .ref 148, .ref 149, .ref 150, .ref 151, .ref 152, .ref 153, .ref 154, .ref 155, .ref 156, .ref 157, .ref 158, .ref 159, .ref 160, .ref 161, .ref 162, .ref 163, .ref 164, .int (nI n3), .ref 165, .int (nI (o 33)), .ref 166, .ref 167, .ref 168, .ref 169, .int (nI (o 38)), .ref 170, .ref 171, .ref 172, .ref 173, .ref 174, .ref 175, .int (nI (o 45)), .int (nI (o 46)), .int (nI (o 47)), .long (lN (o 48)), .ref 176])) → M_85[164]? = some (.inl (2, 900, .inl (ai g3))) → (k ≤ it (r * 4 + a) ∧ n3 ≤ 67 * r + 3 + 16 * a + 3 * k ∧ Lt n3 g3 (lc (wrR gn al_ it pt tg bd) r ++ [59] ++ [gn r] ++ wrM it pt tg bd r a ++ [47] ++ lc (fun k => wrI pt tg bd ((r * 4 + a) * 5 + k)) k)) → it (r * 4 + a) - k < n85 → Zw 2 zm_MO_write 85 [some (.ref 139), some (.int (nI r)), some (.int (nI a)), some (.int (nI k)), none] [] M_85 (fun r9 M1 => r9 = some (.int (nI (wrG n gn al_ it pt tg bd).length)) ∧ ∃ n9 g9, MM M1 (up (up o 0 0) 31 n9) (fset f 164 g9) ∧ Sm Mq M1 [139, 164] ∧ Lt n9 g9 (wrG n gn al_ it pt tg bd) ∧ n9 ≤ 820) := by
                      intro n85
                      induction n85 with
                      | zero => intro k n3 g3 M_85 _ _ _ _ h; exact absurd h (Nat.not_lt_zero _)
                      | succ n85 ih85 =>
                        intro k n3 g3 M_85 s_85 f85_0 f85_1 hi85 hm85
                        have hi5 := hG.2.2.2.1 (r * 4 + a)
                        have hbx := hG.2.2.2.2.2.2 ((r * 4 + a) * 5 + k)
                        refine zw_n 4 rfl ?_
                        refine zw_callV (as := [.int (nI r), .int (nI a)]) (rest := [.int (nI k)]) rfl rfl rfl f85_0 rfl rfl rfl (by decide) (m_items M_85 (up (up o 0 0) 31 n3) (fset f 164 g3) (MM.of (o' := up (up o 0 0) 31 n3) (f' := fset f 164 g3) hM s_85 f85_0 (c1_skip (c1_cons f85_1 c1_nil)) (fs_k (fs_c fs_n))) n gn al_ it pt tg bd hg hG hF r a (by omega) (by omega)) (fun rz2049 Mz2050 hz2051 => ?_)
                        rw [hz2051.1, hz2051.2]
                        show Zw 2 zm_MO_write 92 [some (.ref 139), some (.int (nI r)), some (.int (nI a)), some (.int (nI k)), none] [.int (nI (it (r * 4 + a))), .int (nI k)] M_85 _
                        refine zw_igeN (a := k) (b := it (r * 4 + a)) rfl rfl rfl (by omega) (by omega) (fun c92 => ?_) (fun c92 => ?_)
                        · -- 92 to 163
                          refine zw_inc rfl (x' := (nI (a + 1))) (ls' := [some (.ref 139), some (.int (nI r)), some (.int (nI (a + 1))), some (.int (nI k)), none]) rfl (na (a := a) (b := 1) rfl rfl) rfl ?_
                          refine zw_n 1 rfl ?_
                          refine zw_ls (ls' := [some (.ref 139), some (.int (nI r)), some (.int (nI (a + 1))), none, none]) ⟨Or.inr rfl, Or.inr rfl, Or.inr rfl, Or.inl rfl, Or.inl rfl, trivial⟩ ?_
                          exact ih55 (a + 1) n3 g3 M_85 s_85 f85_0 f85_1 (⟨by omega, by omega, by rw [wrM_s1 (show ¬ a = 0 by omega), wrA, ← show k = it (r * 4 + a) by omega]; exact hi85.2.2⟩) (by omega)
                        · -- 92 to 95
                          refine zw_n 3 rfl ?_
                          refine zw_callS (as := [.int (nI r), .int (nI a), .int (nI k)]) (rest := []) rfl rfl rfl rfl rfl rfl (by decide) (m_itemAt _ r a k) (fun rz2052 Mz2053 hz2054 => ?_)
                          rw [hz2054.1, hz2054.2]
                          show Zw 2 zm_MO_write 101 [some (.ref 139), some (.int (nI r)), some (.int (nI a)), some (.int (nI k)), none] [.int (nI (49 + 3 * ((r * 4 + a) * 5 + k)))] M_85 _
                          refine zw_n 2 (ls' := [some (.ref 139), some (.int (nI r)), some (.int (nI a)), some (.int (nI k)), some (.int (nI (49 + 3 * ((r * 4 + a) * 5 + k))))]) rfl ?_
                          refine zw_get (v := .ref 140) rfl f85_0 rfl ?_
                          refine zw_n 3 rfl ?_
                          refine zw_top (na (a := 49 + 3 * ((r * 4 + a) * 5 + k)) (b := 2) rfl rfl) ?_
                          refine zw_iald (f := ai (f 140)) (j := ((49 + 3 * ((r * 4 + a) * 5 + k)) + 2)) rfl (Sm.at s_85 (by decide) (hM.2 140 (by decide) (by decide))) rfl (by decide) (by omega) ?_
                          refine zw_top (x' := (nI (bd ((r * 4 + a) * 5 + k)))) (congrArg nI (hg.2.2.2.2 _ ⟨r, a, k, by omega, by omega, by omega, rfl⟩).2.2.1) ?_
                          refine zw_eq0N (a := bd ((r * 4 + a) * 5 + k)) rfl rfl (by omega) (fun c112 => ?_) (fun c112 => ?_)
                          · -- 112 to 128
                            refine zw_n 1 rfl ?_
                            refine zw_get (v := .ref 140) rfl f85_0 rfl ?_
                            refine zw_n 3 rfl ?_
                            refine zw_top (na (a := 49 + 3 * ((r * 4 + a) * 5 + k)) (b := 1) rfl rfl) ?_
                            refine zw_iald (f := ai (f 140)) (j := ((49 + 3 * ((r * 4 + a) * 5 + k)) + 1)) rfl (Sm.at s_85 (by decide) (hM.2 140 (by decide) (by decide))) rfl (by decide) (by omega) ?_
                            refine zw_top (x' := (nI (if tg ((r * 4 + a) * 5 + k) = NO then 0 else 1))) (congrArg nI (hg.2.2.2.2 _ ⟨r, a, k, by omega, by omega, by omega, rfl⟩).2.1) ?_
                            refine zw_ne0N (a := if tg ((r * 4 + a) * 5 + k) = NO then 0 else 1) rfl rfl (by split <;> decide) (fun c137 => ?_) (fun c137 => ?_)
                            · -- 137 to 146
                              refine zw_n 2 rfl ?_
                              refine zw_get (v := .ref 140) rfl f85_0 rfl ?_
                              refine zw_n 1 rfl ?_
                              refine zw_iald (f := ai (f 140)) (j := (49 + 3 * ((r * 4 + a) * 5 + k))) rfl (Sm.at s_85 (by decide) (hM.2 140 (by decide) (by decide))) rfl (by decide) (by omega) ?_
                              refine zw_top (x' := (nI (pt ((r * 4 + a) * 5 + k)))) (congrArg nI (hg.2.2.2.2 _ ⟨r, a, k, by omega, by omega, by omega, rfl⟩).1) ?_
                              refine zw_callV (as := [.int (nI (pt ((r * 4 + a) * 5 + k)))]) (rest := []) rfl rfl rfl f85_0 rfl rfl rfl (by decide) (m_puts M_85 (up (up o 0 0) 31 n3) (fset f 164 g3) (MM.of (o' := up (up o 0 0) 31 n3) (f' := fset f 164 g3) hM s_85 f85_0 (c1_skip (c1_cons f85_1 c1_nil)) (fs_k (fs_c fs_n))) (pt ((r * 4 + a) * 5 + k)) (hpb _ ⟨r, a, k, by omega, by omega, by omega, rfl⟩).1 (show n3 < 900 by omega)) (fun rz2058 Mz2059 hz2060 => ?_)
                              obtain ⟨hAz2055, hMMz2056, hSz2057⟩ := hz2060
                              rw [hAz2055]
                              show Zw 2 zm_MO_write 157 [some (.ref 139), some (.int (nI r)), some (.int (nI a)), some (.int (nI k)), some (.int (nI (49 + 3 * ((r * 4 + a) * 5 + k))))] [] Mz2059 _
                              refine zw_inc rfl (x' := (nI (k + 1))) (ls' := [some (.ref 139), some (.int (nI r)), some (.int (nI a)), some (.int (nI (k + 1))), some (.int (nI (49 + 3 * ((r * 4 + a) * 5 + k))))]) rfl (na (a := k) (b := 1) rfl rfl) rfl ?_
                              refine zw_n 1 rfl ?_
                              refine zw_ls (ls' := [some (.ref 139), some (.int (nI r)), some (.int (nI a)), some (.int (nI (k + 1))), none]) ⟨Or.inr rfl, Or.inr rfl, Or.inr rfl, Or.inr rfl, Or.inl rfl, trivial⟩ ?_
                              exact ih85 (k + 1) (n3 + 1) (up g3 n3 (pt ((r * 4 + a) * 5 + k))) Mz2059 (Sm.trans s_85 hSz2057) hMMz2056.1 (hMMz2056.2 164 (by decide) (by decide)) (⟨by omega, by omega, by rw [lc_s]; first | exact hi85.2.2.w1 c112 (ite_tg c137) | exact hi85.2.2.w2 c112 (ite_tg1 c137) | exact hi85.2.2.w3 c112 (ite_tg c137) | exact hi85.2.2.w4 c112 (ite_tg1 c137)⟩) (by omega)
                            · -- 137 to 140
                              refine zw_n 2 rfl ?_
                              refine zw_callV (as := [.int 39]) (rest := []) rfl rfl rfl f85_0 rfl rfl rfl (by decide) (m_puts M_85 (up (up o 0 0) 31 n3) (fset f 164 g3) (MM.of (o' := up (up o 0 0) 31 n3) (f' := fset f 164 g3) hM s_85 f85_0 (c1_skip (c1_cons f85_1 c1_nil)) (fs_k (fs_c fs_n))) 39 (by decide) (show n3 < 900 by omega)) (fun rz2064 Mz2065 hz2066 => ?_)
                              obtain ⟨hAz2061, hMMz2062, hSz2063⟩ := hz2066
                              rw [hAz2061]
                              show Zw 2 zm_MO_write 146 [some (.ref 139), some (.int (nI r)), some (.int (nI a)), some (.int (nI k)), some (.int (nI (49 + 3 * ((r * 4 + a) * 5 + k))))] [] Mz2065 _
                              refine zw_n 2 rfl ?_
                              refine zw_get (v := .ref 140) rfl hMMz2062.1 rfl ?_
                              refine zw_n 1 rfl ?_
                              refine zw_iald (f := ai (f 140)) (j := (49 + 3 * ((r * 4 + a) * 5 + k))) rfl (Sm.at hSz2063 (by decide) (Sm.at s_85 (by decide) (hM.2 140 (by decide) (by decide)))) rfl (by decide) (by omega) ?_
                              refine zw_top (x' := (nI (pt ((r * 4 + a) * 5 + k)))) (congrArg nI (hg.2.2.2.2 _ ⟨r, a, k, by omega, by omega, by omega, rfl⟩).1) ?_
                              refine zw_callV (as := [.int (nI (pt ((r * 4 + a) * 5 + k)))]) (rest := []) rfl rfl rfl hMMz2062.1 rfl rfl rfl (by decide) (m_puts Mz2065 (up (up o 0 0) 31 (n3 + 1)) (fset f 164 (up g3 n3 39)) (MM.of (o' := up (up o 0 0) 31 (n3 + 1)) (f' := fset f 164 (up g3 n3 39)) hM (Sm.trans s_85 hSz2063) hMMz2062.1 (c1_skip (c1_cons (hMMz2062.2 164 (by decide) (by decide)) c1_nil)) (fs_k (fs_c fs_n))) (pt ((r * 4 + a) * 5 + k)) (hpb _ ⟨r, a, k, by omega, by omega, by omega, rfl⟩).1 (show n3 + 1 < 900 by omega)) (fun rz2070 Mz2071 hz2072 => ?_)
                              obtain ⟨hAz2067, hMMz2068, hSz2069⟩ := hz2072
                              rw [hAz2067]
                              show Zw 2 zm_MO_write 157 [some (.ref 139), some (.int (nI r)), some (.int (nI a)), some (.int (nI k)), some (.int (nI (49 + 3 * ((r * 4 + a) * 5 + k))))] [] Mz2071 _
                              refine zw_inc rfl (x' := (nI (k + 1))) (ls' := [some (.ref 139), some (.int (nI r)), some (.int (nI a)), some (.int (nI (k + 1))), some (.int (nI (49 + 3 * ((r * 4 + a) * 5 + k))))]) rfl (na (a := k) (b := 1) rfl rfl) rfl ?_
                              refine zw_n 1 rfl ?_
                              refine zw_ls (ls' := [some (.ref 139), some (.int (nI r)), some (.int (nI a)), some (.int (nI (k + 1))), none]) ⟨Or.inr rfl, Or.inr rfl, Or.inr rfl, Or.inr rfl, Or.inl rfl, trivial⟩ ?_
                              exact ih85 (k + 1) (n3 + 1 + 1) (up (up g3 n3 39) (n3 + 1) (pt ((r * 4 + a) * 5 + k))) Mz2071 (Sm.trans (Sm.trans s_85 hSz2063) hSz2069) hMMz2068.1 (hMMz2068.2 164 (by decide) (by decide)) (⟨by omega, by omega, by rw [lc_s]; first | exact hi85.2.2.w1 c112 (ite_tg c137) | exact hi85.2.2.w2 c112 (ite_tg1 c137) | exact hi85.2.2.w3 c112 (ite_tg c137) | exact hi85.2.2.w4 c112 (ite_tg1 c137)⟩) (by omega)
                          · -- 112 to 115
                            refine zw_n 2 rfl ?_
                            refine zw_get (v := .ref 140) rfl f85_0 rfl ?_
                            refine zw_n 3 rfl ?_
                            refine zw_top (na (a := 49 + 3 * ((r * 4 + a) * 5 + k)) (b := 2) rfl rfl) ?_
                            refine zw_iald (f := ai (f 140)) (j := ((49 + 3 * ((r * 4 + a) * 5 + k)) + 2)) rfl (Sm.at s_85 (by decide) (hM.2 140 (by decide) (by decide))) rfl (by decide) (by omega) ?_
                            refine zw_top (x' := (nI (bd ((r * 4 + a) * 5 + k)))) (congrArg nI (hg.2.2.2.2 _ ⟨r, a, k, by omega, by omega, by omega, rfl⟩).2.2.1) ?_
                            refine zw_callV (as := [.int (nI (bd ((r * 4 + a) * 5 + k)))]) (rest := []) rfl rfl rfl f85_0 rfl rfl rfl (by decide) (m_puts M_85 (up (up o 0 0) 31 n3) (fset f 164 g3) (MM.of (o' := up (up o 0 0) 31 n3) (f' := fset f 164 g3) hM s_85 f85_0 (c1_skip (c1_cons f85_1 c1_nil)) (fs_k (fs_c fs_n))) (bd ((r * 4 + a) * 5 + k)) (hpb _ ⟨r, a, k, by omega, by omega, by omega, rfl⟩).2 (show n3 < 900 by omega)) (fun rz2076 Mz2077 hz2078 => ?_)
                            obtain ⟨hAz2073, hMMz2074, hSz2075⟩ := hz2078
                            rw [hAz2073]
                            show Zw 2 zm_MO_write 128 [some (.ref 139), some (.int (nI r)), some (.int (nI a)), some (.int (nI k)), some (.int (nI (49 + 3 * ((r * 4 + a) * 5 + k))))] [] Mz2077 _
                            refine zw_n 1 rfl ?_
                            refine zw_get (v := .ref 140) rfl hMMz2074.1 rfl ?_
                            refine zw_n 3 rfl ?_
                            refine zw_top (na (a := 49 + 3 * ((r * 4 + a) * 5 + k)) (b := 1) rfl rfl) ?_
                            refine zw_iald (f := ai (f 140)) (j := ((49 + 3 * ((r * 4 + a) * 5 + k)) + 1)) rfl (Sm.at hSz2075 (by decide) (Sm.at s_85 (by decide) (hM.2 140 (by decide) (by decide)))) rfl (by decide) (by omega) ?_
                            refine zw_top (x' := (nI (if tg ((r * 4 + a) * 5 + k) = NO then 0 else 1))) (congrArg nI (hg.2.2.2.2 _ ⟨r, a, k, by omega, by omega, by omega, rfl⟩).2.1) ?_
                            refine zw_ne0N (a := if tg ((r * 4 + a) * 5 + k) = NO then 0 else 1) rfl rfl (by split <;> decide) (fun c137 => ?_) (fun c137 => ?_)
                            · -- 137 to 146
                              refine zw_n 2 rfl ?_
                              refine zw_get (v := .ref 140) rfl hMMz2074.1 rfl ?_
                              refine zw_n 1 rfl ?_
                              refine zw_iald (f := ai (f 140)) (j := (49 + 3 * ((r * 4 + a) * 5 + k))) rfl (Sm.at hSz2075 (by decide) (Sm.at s_85 (by decide) (hM.2 140 (by decide) (by decide)))) rfl (by decide) (by omega) ?_
                              refine zw_top (x' := (nI (pt ((r * 4 + a) * 5 + k)))) (congrArg nI (hg.2.2.2.2 _ ⟨r, a, k, by omega, by omega, by omega, rfl⟩).1) ?_
                              refine zw_callV (as := [.int (nI (pt ((r * 4 + a) * 5 + k)))]) (rest := []) rfl rfl rfl hMMz2074.1 rfl rfl rfl (by decide) (m_puts Mz2077 (up (up o 0 0) 31 (n3 + 1)) (fset f 164 (up g3 n3 (bd ((r * 4 + a) * 5 + k)))) (MM.of (o' := up (up o 0 0) 31 (n3 + 1)) (f' := fset f 164 (up g3 n3 (bd ((r * 4 + a) * 5 + k)))) hM (Sm.trans s_85 hSz2075) hMMz2074.1 (c1_skip (c1_cons (hMMz2074.2 164 (by decide) (by decide)) c1_nil)) (fs_k (fs_c fs_n))) (pt ((r * 4 + a) * 5 + k)) (hpb _ ⟨r, a, k, by omega, by omega, by omega, rfl⟩).1 (show n3 + 1 < 900 by omega)) (fun rz2082 Mz2083 hz2084 => ?_)
                              obtain ⟨hAz2079, hMMz2080, hSz2081⟩ := hz2084
                              rw [hAz2079]
                              show Zw 2 zm_MO_write 157 [some (.ref 139), some (.int (nI r)), some (.int (nI a)), some (.int (nI k)), some (.int (nI (49 + 3 * ((r * 4 + a) * 5 + k))))] [] Mz2083 _
                              refine zw_inc rfl (x' := (nI (k + 1))) (ls' := [some (.ref 139), some (.int (nI r)), some (.int (nI a)), some (.int (nI (k + 1))), some (.int (nI (49 + 3 * ((r * 4 + a) * 5 + k))))]) rfl (na (a := k) (b := 1) rfl rfl) rfl ?_
                              refine zw_n 1 rfl ?_
                              refine zw_ls (ls' := [some (.ref 139), some (.int (nI r)), some (.int (nI a)), some (.int (nI (k + 1))), none]) ⟨Or.inr rfl, Or.inr rfl, Or.inr rfl, Or.inr rfl, Or.inl rfl, trivial⟩ ?_
                              exact ih85 (k + 1) (n3 + 1 + 1) (up (up g3 n3 (bd ((r * 4 + a) * 5 + k))) (n3 + 1) (pt ((r * 4 + a) * 5 + k))) Mz2083 (Sm.trans (Sm.trans s_85 hSz2075) hSz2081) hMMz2080.1 (hMMz2080.2 164 (by decide) (by decide)) (⟨by omega, by omega, by rw [lc_s]; first | exact hi85.2.2.w1 c112 (ite_tg c137) | exact hi85.2.2.w2 c112 (ite_tg1 c137) | exact hi85.2.2.w3 c112 (ite_tg c137) | exact hi85.2.2.w4 c112 (ite_tg1 c137)⟩) (by omega)
                            · -- 137 to 140
                              refine zw_n 2 rfl ?_
                              refine zw_callV (as := [.int 39]) (rest := []) rfl rfl rfl hMMz2074.1 rfl rfl rfl (by decide) (m_puts Mz2077 (up (up o 0 0) 31 (n3 + 1)) (fset f 164 (up g3 n3 (bd ((r * 4 + a) * 5 + k)))) (MM.of (o' := up (up o 0 0) 31 (n3 + 1)) (f' := fset f 164 (up g3 n3 (bd ((r * 4 + a) * 5 + k)))) hM (Sm.trans s_85 hSz2075) hMMz2074.1 (c1_skip (c1_cons (hMMz2074.2 164 (by decide) (by decide)) c1_nil)) (fs_k (fs_c fs_n))) 39 (by decide) (show n3 + 1 < 900 by omega)) (fun rz2088 Mz2089 hz2090 => ?_)
                              obtain ⟨hAz2085, hMMz2086, hSz2087⟩ := hz2090
                              rw [hAz2085]
                              show Zw 2 zm_MO_write 146 [some (.ref 139), some (.int (nI r)), some (.int (nI a)), some (.int (nI k)), some (.int (nI (49 + 3 * ((r * 4 + a) * 5 + k))))] [] Mz2089 _
                              refine zw_n 2 rfl ?_
                              refine zw_get (v := .ref 140) rfl hMMz2086.1 rfl ?_
                              refine zw_n 1 rfl ?_
                              refine zw_iald (f := ai (f 140)) (j := (49 + 3 * ((r * 4 + a) * 5 + k))) rfl (Sm.at hSz2087 (by decide) (Sm.at hSz2075 (by decide) (Sm.at s_85 (by decide) (hM.2 140 (by decide) (by decide))))) rfl (by decide) (by omega) ?_
                              refine zw_top (x' := (nI (pt ((r * 4 + a) * 5 + k)))) (congrArg nI (hg.2.2.2.2 _ ⟨r, a, k, by omega, by omega, by omega, rfl⟩).1) ?_
                              refine zw_callV (as := [.int (nI (pt ((r * 4 + a) * 5 + k)))]) (rest := []) rfl rfl rfl hMMz2086.1 rfl rfl rfl (by decide) (m_puts Mz2089 (up (up o 0 0) 31 (n3 + 1 + 1)) (fset f 164 (up (up g3 n3 (bd ((r * 4 + a) * 5 + k))) (n3 + 1) 39)) (MM.of (o' := up (up o 0 0) 31 (n3 + 1 + 1)) (f' := fset f 164 (up (up g3 n3 (bd ((r * 4 + a) * 5 + k))) (n3 + 1) 39)) hM (Sm.trans (Sm.trans s_85 hSz2075) hSz2087) hMMz2086.1 (c1_skip (c1_cons (hMMz2086.2 164 (by decide) (by decide)) c1_nil)) (fs_k (fs_c fs_n))) (pt ((r * 4 + a) * 5 + k)) (hpb _ ⟨r, a, k, by omega, by omega, by omega, rfl⟩).1 (show n3 + 1 + 1 < 900 by omega)) (fun rz2094 Mz2095 hz2096 => ?_)
                              obtain ⟨hAz2091, hMMz2092, hSz2093⟩ := hz2096
                              rw [hAz2091]
                              show Zw 2 zm_MO_write 157 [some (.ref 139), some (.int (nI r)), some (.int (nI a)), some (.int (nI k)), some (.int (nI (49 + 3 * ((r * 4 + a) * 5 + k))))] [] Mz2095 _
                              refine zw_inc rfl (x' := (nI (k + 1))) (ls' := [some (.ref 139), some (.int (nI r)), some (.int (nI a)), some (.int (nI (k + 1))), some (.int (nI (49 + 3 * ((r * 4 + a) * 5 + k))))]) rfl (na (a := k) (b := 1) rfl rfl) rfl ?_
                              refine zw_n 1 rfl ?_
                              refine zw_ls (ls' := [some (.ref 139), some (.int (nI r)), some (.int (nI a)), some (.int (nI (k + 1))), none]) ⟨Or.inr rfl, Or.inr rfl, Or.inr rfl, Or.inr rfl, Or.inl rfl, trivial⟩ ?_
                              exact ih85 (k + 1) (n3 + 1 + 1 + 1) (up (up (up g3 n3 (bd ((r * 4 + a) * 5 + k))) (n3 + 1) 39) (n3 + 1 + 1) (pt ((r * 4 + a) * 5 + k))) Mz2095 (Sm.trans (Sm.trans (Sm.trans s_85 hSz2075) hSz2087) hSz2093) hMMz2092.1 (hMMz2092.2 164 (by decide) (by decide)) (⟨by omega, by omega, by rw [lc_s]; first | exact hi85.2.2.w1 c112 (ite_tg c137) | exact hi85.2.2.w2 c112 (ite_tg1 c137) | exact hi85.2.2.w3 c112 (ite_tg c137) | exact hi85.2.2.w4 c112 (ite_tg1 c137)⟩) (by omega)
                    exact lp85 _ 0 (n2 + 1) (up g2 n2 47) Mz2046 (Sm.trans s_55 hSz2044) hMMz2043.1 (hMMz2043.2 164 (by decide) (by decide)) (⟨Nat.zero_le _, by omega, by show Lt _ _ (_ ++ []); rw [List.append_nil]; exact hi55.2.2.add _⟩) (Nat.lt_succ_self _)
                  · -- 70 to 73
                    refine zw_n 2 rfl ?_
                    refine zw_callV (as := [.int 58]) (rest := []) rfl rfl rfl f55_0 rfl rfl rfl (by decide) (m_puts M_55 (up (up o 0 0) 31 n2) (fset f 164 g2) (MM.of (o' := up (up o 0 0) 31 n2) (f' := fset f 164 g2) hM s_55 f55_0 (c1_skip (c1_cons f55_1 c1_nil)) (fs_k (fs_c fs_n))) 58 (by decide) (show n2 < 900 by omega)) (fun rz2100 Mz2101 hz2102 => ?_)
                    obtain ⟨hAz2097, hMMz2098, hSz2099⟩ := hz2102
                    rw [hAz2097]
                    show Zw 2 zm_MO_write 83 [some (.ref 139), some (.int (nI r)), some (.int (nI a)), none, none] [] Mz2101 _
                    refine zw_n 2 (ls' := [some (.ref 139), some (.int (nI r)), some (.int (nI a)), some (.int 0), none]) rfl ?_
                    have mz2103 : Mz2101[140]? = some (.inl (0, 590, .inl (ai (f 140)))) := Sm.at hSz2099 (by decide) (Sm.at s_55 (by decide) (hM.2 140 (by decide) (by decide)))
                    have lp85 : ∀ (n85 : Nat) (k : Nat) (n3 : Nat) (g3 : Nat → Nat) (M_85 : zM), Sm Mq M_85 [139, 164] → M_85[139]? = some (.inr (12, [.int 0, .ref 140, .ref 141, .ref 142, .ref 143, .int (nI (o 5)), .ref 144, .int (nI (o 7)), .int (nI (o 8)), .int (nI (o 9)), .int (nI (o 10)), .ref 145, .ref 146, .ref 147, .ref 148, .ref 149, .ref 150, .ref 151, .ref 152, .ref 153, .ref 154, .ref 155, .ref 156, .ref 157, .ref 158, .ref 159, .ref 160, .ref 161, .ref 162, .ref 163, .ref 164, .int (nI n3), .ref 165, .int (nI (o 33)), .ref 166, .ref 167, .ref 168, .ref 169, .int (nI (o 38)), .ref 170, .ref 171, .ref 172, .ref 173, .ref 174, .ref 175, .int (nI (o 45)), .int (nI (o 46)), .int (nI (o 47)), .long (lN (o 48)), .ref 176])) → M_85[164]? = some (.inl (2, 900, .inl (ai g3))) → (k ≤ it (r * 4 + a) ∧ n3 ≤ 67 * r + 3 + 16 * a + 3 * k ∧ Lt n3 g3 (lc (wrR gn al_ it pt tg bd) r ++ [59] ++ [gn r] ++ wrM it pt tg bd r a ++ [58] ++ lc (fun k => wrI pt tg bd ((r * 4 + a) * 5 + k)) k)) → it (r * 4 + a) - k < n85 → Zw 2 zm_MO_write 85 [some (.ref 139), some (.int (nI r)), some (.int (nI a)), some (.int (nI k)), none] [] M_85 (fun r9 M1 => r9 = some (.int (nI (wrG n gn al_ it pt tg bd).length)) ∧ ∃ n9 g9, MM M1 (up (up o 0 0) 31 n9) (fset f 164 g9) ∧ Sm Mq M1 [139, 164] ∧ Lt n9 g9 (wrG n gn al_ it pt tg bd) ∧ n9 ≤ 820) := by
                      intro n85
                      induction n85 with
                      | zero => intro k n3 g3 M_85 _ _ _ _ h; exact absurd h (Nat.not_lt_zero _)
                      | succ n85 ih85 =>
                        intro k n3 g3 M_85 s_85 f85_0 f85_1 hi85 hm85
                        have hi5 := hG.2.2.2.1 (r * 4 + a)
                        have hbx := hG.2.2.2.2.2.2 ((r * 4 + a) * 5 + k)
                        refine zw_n 4 rfl ?_
                        refine zw_callV (as := [.int (nI r), .int (nI a)]) (rest := [.int (nI k)]) rfl rfl rfl f85_0 rfl rfl rfl (by decide) (m_items M_85 (up (up o 0 0) 31 n3) (fset f 164 g3) (MM.of (o' := up (up o 0 0) 31 n3) (f' := fset f 164 g3) hM s_85 f85_0 (c1_skip (c1_cons f85_1 c1_nil)) (fs_k (fs_c fs_n))) n gn al_ it pt tg bd hg hG hF r a (by omega) (by omega)) (fun rz2104 Mz2105 hz2106 => ?_)
                        rw [hz2106.1, hz2106.2]
                        show Zw 2 zm_MO_write 92 [some (.ref 139), some (.int (nI r)), some (.int (nI a)), some (.int (nI k)), none] [.int (nI (it (r * 4 + a))), .int (nI k)] M_85 _
                        refine zw_igeN (a := k) (b := it (r * 4 + a)) rfl rfl rfl (by omega) (by omega) (fun c92 => ?_) (fun c92 => ?_)
                        · -- 92 to 163
                          refine zw_inc rfl (x' := (nI (a + 1))) (ls' := [some (.ref 139), some (.int (nI r)), some (.int (nI (a + 1))), some (.int (nI k)), none]) rfl (na (a := a) (b := 1) rfl rfl) rfl ?_
                          refine zw_n 1 rfl ?_
                          refine zw_ls (ls' := [some (.ref 139), some (.int (nI r)), some (.int (nI (a + 1))), none, none]) ⟨Or.inr rfl, Or.inr rfl, Or.inr rfl, Or.inl rfl, Or.inl rfl, trivial⟩ ?_
                          exact ih55 (a + 1) n3 g3 M_85 s_85 f85_0 f85_1 (⟨by omega, by omega, by rw [wrM_s0 (show a = 0 by omega), wrA, ← show k = it (r * 4 + a) by omega]; exact hi85.2.2⟩) (by omega)
                        · -- 92 to 95
                          refine zw_n 3 rfl ?_
                          refine zw_callS (as := [.int (nI r), .int (nI a), .int (nI k)]) (rest := []) rfl rfl rfl rfl rfl rfl (by decide) (m_itemAt _ r a k) (fun rz2107 Mz2108 hz2109 => ?_)
                          rw [hz2109.1, hz2109.2]
                          show Zw 2 zm_MO_write 101 [some (.ref 139), some (.int (nI r)), some (.int (nI a)), some (.int (nI k)), none] [.int (nI (49 + 3 * ((r * 4 + a) * 5 + k)))] M_85 _
                          refine zw_n 2 (ls' := [some (.ref 139), some (.int (nI r)), some (.int (nI a)), some (.int (nI k)), some (.int (nI (49 + 3 * ((r * 4 + a) * 5 + k))))]) rfl ?_
                          refine zw_get (v := .ref 140) rfl f85_0 rfl ?_
                          refine zw_n 3 rfl ?_
                          refine zw_top (na (a := 49 + 3 * ((r * 4 + a) * 5 + k)) (b := 2) rfl rfl) ?_
                          refine zw_iald (f := ai (f 140)) (j := ((49 + 3 * ((r * 4 + a) * 5 + k)) + 2)) rfl (Sm.at s_85 (by decide) (hM.2 140 (by decide) (by decide))) rfl (by decide) (by omega) ?_
                          refine zw_top (x' := (nI (bd ((r * 4 + a) * 5 + k)))) (congrArg nI (hg.2.2.2.2 _ ⟨r, a, k, by omega, by omega, by omega, rfl⟩).2.2.1) ?_
                          refine zw_eq0N (a := bd ((r * 4 + a) * 5 + k)) rfl rfl (by omega) (fun c112 => ?_) (fun c112 => ?_)
                          · -- 112 to 128
                            refine zw_n 1 rfl ?_
                            refine zw_get (v := .ref 140) rfl f85_0 rfl ?_
                            refine zw_n 3 rfl ?_
                            refine zw_top (na (a := 49 + 3 * ((r * 4 + a) * 5 + k)) (b := 1) rfl rfl) ?_
                            refine zw_iald (f := ai (f 140)) (j := ((49 + 3 * ((r * 4 + a) * 5 + k)) + 1)) rfl (Sm.at s_85 (by decide) (hM.2 140 (by decide) (by decide))) rfl (by decide) (by omega) ?_
                            refine zw_top (x' := (nI (if tg ((r * 4 + a) * 5 + k) = NO then 0 else 1))) (congrArg nI (hg.2.2.2.2 _ ⟨r, a, k, by omega, by omega, by omega, rfl⟩).2.1) ?_
                            refine zw_ne0N (a := if tg ((r * 4 + a) * 5 + k) = NO then 0 else 1) rfl rfl (by split <;> decide) (fun c137 => ?_) (fun c137 => ?_)
                            · -- 137 to 146
                              refine zw_n 2 rfl ?_
                              refine zw_get (v := .ref 140) rfl f85_0 rfl ?_
                              refine zw_n 1 rfl ?_
                              refine zw_iald (f := ai (f 140)) (j := (49 + 3 * ((r * 4 + a) * 5 + k))) rfl (Sm.at s_85 (by decide) (hM.2 140 (by decide) (by decide))) rfl (by decide) (by omega) ?_
                              refine zw_top (x' := (nI (pt ((r * 4 + a) * 5 + k)))) (congrArg nI (hg.2.2.2.2 _ ⟨r, a, k, by omega, by omega, by omega, rfl⟩).1) ?_
                              refine zw_callV (as := [.int (nI (pt ((r * 4 + a) * 5 + k)))]) (rest := []) rfl rfl rfl f85_0 rfl rfl rfl (by decide) (m_puts M_85 (up (up o 0 0) 31 n3) (fset f 164 g3) (MM.of (o' := up (up o 0 0) 31 n3) (f' := fset f 164 g3) hM s_85 f85_0 (c1_skip (c1_cons f85_1 c1_nil)) (fs_k (fs_c fs_n))) (pt ((r * 4 + a) * 5 + k)) (hpb _ ⟨r, a, k, by omega, by omega, by omega, rfl⟩).1 (show n3 < 900 by omega)) (fun rz2113 Mz2114 hz2115 => ?_)
                              obtain ⟨hAz2110, hMMz2111, hSz2112⟩ := hz2115
                              rw [hAz2110]
                              show Zw 2 zm_MO_write 157 [some (.ref 139), some (.int (nI r)), some (.int (nI a)), some (.int (nI k)), some (.int (nI (49 + 3 * ((r * 4 + a) * 5 + k))))] [] Mz2114 _
                              refine zw_inc rfl (x' := (nI (k + 1))) (ls' := [some (.ref 139), some (.int (nI r)), some (.int (nI a)), some (.int (nI (k + 1))), some (.int (nI (49 + 3 * ((r * 4 + a) * 5 + k))))]) rfl (na (a := k) (b := 1) rfl rfl) rfl ?_
                              refine zw_n 1 rfl ?_
                              refine zw_ls (ls' := [some (.ref 139), some (.int (nI r)), some (.int (nI a)), some (.int (nI (k + 1))), none]) ⟨Or.inr rfl, Or.inr rfl, Or.inr rfl, Or.inr rfl, Or.inl rfl, trivial⟩ ?_
                              exact ih85 (k + 1) (n3 + 1) (up g3 n3 (pt ((r * 4 + a) * 5 + k))) Mz2114 (Sm.trans s_85 hSz2112) hMMz2111.1 (hMMz2111.2 164 (by decide) (by decide)) (⟨by omega, by omega, by rw [lc_s]; first | exact hi85.2.2.w1 c112 (ite_tg c137) | exact hi85.2.2.w2 c112 (ite_tg1 c137) | exact hi85.2.2.w3 c112 (ite_tg c137) | exact hi85.2.2.w4 c112 (ite_tg1 c137)⟩) (by omega)
                            · -- 137 to 140
                              refine zw_n 2 rfl ?_
                              refine zw_callV (as := [.int 39]) (rest := []) rfl rfl rfl f85_0 rfl rfl rfl (by decide) (m_puts M_85 (up (up o 0 0) 31 n3) (fset f 164 g3) (MM.of (o' := up (up o 0 0) 31 n3) (f' := fset f 164 g3) hM s_85 f85_0 (c1_skip (c1_cons f85_1 c1_nil)) (fs_k (fs_c fs_n))) 39 (by decide) (show n3 < 900 by omega)) (fun rz2119 Mz2120 hz2121 => ?_)
                              obtain ⟨hAz2116, hMMz2117, hSz2118⟩ := hz2121
                              rw [hAz2116]
                              show Zw 2 zm_MO_write 146 [some (.ref 139), some (.int (nI r)), some (.int (nI a)), some (.int (nI k)), some (.int (nI (49 + 3 * ((r * 4 + a) * 5 + k))))] [] Mz2120 _
                              refine zw_n 2 rfl ?_
                              refine zw_get (v := .ref 140) rfl hMMz2117.1 rfl ?_
                              refine zw_n 1 rfl ?_
                              refine zw_iald (f := ai (f 140)) (j := (49 + 3 * ((r * 4 + a) * 5 + k))) rfl (Sm.at hSz2118 (by decide) (Sm.at s_85 (by decide) (hM.2 140 (by decide) (by decide)))) rfl (by decide) (by omega) ?_
                              refine zw_top (x' := (nI (pt ((r * 4 + a) * 5 + k)))) (congrArg nI (hg.2.2.2.2 _ ⟨r, a, k, by omega, by omega, by omega, rfl⟩).1) ?_
                              refine zw_callV (as := [.int (nI (pt ((r * 4 + a) * 5 + k)))]) (rest := []) rfl rfl rfl hMMz2117.1 rfl rfl rfl (by decide) (m_puts Mz2120 (up (up o 0 0) 31 (n3 + 1)) (fset f 164 (up g3 n3 39)) (MM.of (o' := up (up o 0 0) 31 (n3 + 1)) (f' := fset f 164 (up g3 n3 39)) hM (Sm.trans s_85 hSz2118) hMMz2117.1 (c1_skip (c1_cons (hMMz2117.2 164 (by decide) (by decide)) c1_nil)) (fs_k (fs_c fs_n))) (pt ((r * 4 + a) * 5 + k)) (hpb _ ⟨r, a, k, by omega, by omega, by omega, rfl⟩).1 (show n3 + 1 < 900 by omega)) (fun rz2125 Mz2126 hz2127 => ?_)
                              obtain ⟨hAz2122, hMMz2123, hSz2124⟩ := hz2127
                              rw [hAz2122]
                              show Zw 2 zm_MO_write 157 [some (.ref 139), some (.int (nI r)), some (.int (nI a)), some (.int (nI k)), some (.int (nI (49 + 3 * ((r * 4 + a) * 5 + k))))] [] Mz2126 _
                              refine zw_inc rfl (x' := (nI (k + 1))) (ls' := [some (.ref 139), some (.int (nI r)), some (.int (nI a)), some (.int (nI (k + 1))), some (.int (nI (49 + 3 * ((r * 4 + a) * 5 + k))))]) rfl (na (a := k) (b := 1) rfl rfl) rfl ?_
                              refine zw_n 1 rfl ?_
                              refine zw_ls (ls' := [some (.ref 139), some (.int (nI r)), some (.int (nI a)), some (.int (nI (k + 1))), none]) ⟨Or.inr rfl, Or.inr rfl, Or.inr rfl, Or.inr rfl, Or.inl rfl, trivial⟩ ?_
                              exact ih85 (k + 1) (n3 + 1 + 1) (up (up g3 n3 39) (n3 + 1) (pt ((r * 4 + a) * 5 + k))) Mz2126 (Sm.trans (Sm.trans s_85 hSz2118) hSz2124) hMMz2123.1 (hMMz2123.2 164 (by decide) (by decide)) (⟨by omega, by omega, by rw [lc_s]; first | exact hi85.2.2.w1 c112 (ite_tg c137) | exact hi85.2.2.w2 c112 (ite_tg1 c137) | exact hi85.2.2.w3 c112 (ite_tg c137) | exact hi85.2.2.w4 c112 (ite_tg1 c137)⟩) (by omega)
                          · -- 112 to 115
                            refine zw_n 2 rfl ?_
                            refine zw_get (v := .ref 140) rfl f85_0 rfl ?_
                            refine zw_n 3 rfl ?_
                            refine zw_top (na (a := 49 + 3 * ((r * 4 + a) * 5 + k)) (b := 2) rfl rfl) ?_
                            refine zw_iald (f := ai (f 140)) (j := ((49 + 3 * ((r * 4 + a) * 5 + k)) + 2)) rfl (Sm.at s_85 (by decide) (hM.2 140 (by decide) (by decide))) rfl (by decide) (by omega) ?_
                            refine zw_top (x' := (nI (bd ((r * 4 + a) * 5 + k)))) (congrArg nI (hg.2.2.2.2 _ ⟨r, a, k, by omega, by omega, by omega, rfl⟩).2.2.1) ?_
                            refine zw_callV (as := [.int (nI (bd ((r * 4 + a) * 5 + k)))]) (rest := []) rfl rfl rfl f85_0 rfl rfl rfl (by decide) (m_puts M_85 (up (up o 0 0) 31 n3) (fset f 164 g3) (MM.of (o' := up (up o 0 0) 31 n3) (f' := fset f 164 g3) hM s_85 f85_0 (c1_skip (c1_cons f85_1 c1_nil)) (fs_k (fs_c fs_n))) (bd ((r * 4 + a) * 5 + k)) (hpb _ ⟨r, a, k, by omega, by omega, by omega, rfl⟩).2 (show n3 < 900 by omega)) (fun rz2131 Mz2132 hz2133 => ?_)
                            obtain ⟨hAz2128, hMMz2129, hSz2130⟩ := hz2133
                            rw [hAz2128]
                            show Zw 2 zm_MO_write 128 [some (.ref 139), some (.int (nI r)), some (.int (nI a)), some (.int (nI k)), some (.int (nI (49 + 3 * ((r * 4 + a) * 5 + k))))] [] Mz2132 _
                            refine zw_n 1 rfl ?_
                            refine zw_get (v := .ref 140) rfl hMMz2129.1 rfl ?_
                            refine zw_n 3 rfl ?_
                            refine zw_top (na (a := 49 + 3 * ((r * 4 + a) * 5 + k)) (b := 1) rfl rfl) ?_
                            refine zw_iald (f := ai (f 140)) (j := ((49 + 3 * ((r * 4 + a) * 5 + k)) + 1)) rfl (Sm.at hSz2130 (by decide) (Sm.at s_85 (by decide) (hM.2 140 (by decide) (by decide)))) rfl (by decide) (by omega) ?_
                            refine zw_top (x' := (nI (if tg ((r * 4 + a) * 5 + k) = NO then 0 else 1))) (congrArg nI (hg.2.2.2.2 _ ⟨r, a, k, by omega, by omega, by omega, rfl⟩).2.1) ?_
                            refine zw_ne0N (a := if tg ((r * 4 + a) * 5 + k) = NO then 0 else 1) rfl rfl (by split <;> decide) (fun c137 => ?_) (fun c137 => ?_)
                            · -- 137 to 146
                              refine zw_n 2 rfl ?_
                              refine zw_get (v := .ref 140) rfl hMMz2129.1 rfl ?_
                              refine zw_n 1 rfl ?_
                              refine zw_iald (f := ai (f 140)) (j := (49 + 3 * ((r * 4 + a) * 5 + k))) rfl (Sm.at hSz2130 (by decide) (Sm.at s_85 (by decide) (hM.2 140 (by decide) (by decide)))) rfl (by decide) (by omega) ?_
                              refine zw_top (x' := (nI (pt ((r * 4 + a) * 5 + k)))) (congrArg nI (hg.2.2.2.2 _ ⟨r, a, k, by omega, by omega, by omega, rfl⟩).1) ?_
                              refine zw_callV (as := [.int (nI (pt ((r * 4 + a) * 5 + k)))]) (rest := []) rfl rfl rfl hMMz2129.1 rfl rfl rfl (by decide) (m_puts Mz2132 (up (up o 0 0) 31 (n3 + 1)) (fset f 164 (up g3 n3 (bd ((r * 4 + a) * 5 + k)))) (MM.of (o' := up (up o 0 0) 31 (n3 + 1)) (f' := fset f 164 (up g3 n3 (bd ((r * 4 + a) * 5 + k)))) hM (Sm.trans s_85 hSz2130) hMMz2129.1 (c1_skip (c1_cons (hMMz2129.2 164 (by decide) (by decide)) c1_nil)) (fs_k (fs_c fs_n))) (pt ((r * 4 + a) * 5 + k)) (hpb _ ⟨r, a, k, by omega, by omega, by omega, rfl⟩).1 (show n3 + 1 < 900 by omega)) (fun rz2137 Mz2138 hz2139 => ?_)
                              obtain ⟨hAz2134, hMMz2135, hSz2136⟩ := hz2139
                              rw [hAz2134]
                              show Zw 2 zm_MO_write 157 [some (.ref 139), some (.int (nI r)), some (.int (nI a)), some (.int (nI k)), some (.int (nI (49 + 3 * ((r * 4 + a) * 5 + k))))] [] Mz2138 _
                              refine zw_inc rfl (x' := (nI (k + 1))) (ls' := [some (.ref 139), some (.int (nI r)), some (.int (nI a)), some (.int (nI (k + 1))), some (.int (nI (49 + 3 * ((r * 4 + a) * 5 + k))))]) rfl (na (a := k) (b := 1) rfl rfl) rfl ?_
                              refine zw_n 1 rfl ?_
                              refine zw_ls (ls' := [some (.ref 139), some (.int (nI r)), some (.int (nI a)), some (.int (nI (k + 1))), none]) ⟨Or.inr rfl, Or.inr rfl, Or.inr rfl, Or.inr rfl, Or.inl rfl, trivial⟩ ?_
                              exact ih85 (k + 1) (n3 + 1 + 1) (up (up g3 n3 (bd ((r * 4 + a) * 5 + k))) (n3 + 1) (pt ((r * 4 + a) * 5 + k))) Mz2138 (Sm.trans (Sm.trans s_85 hSz2130) hSz2136) hMMz2135.1 (hMMz2135.2 164 (by decide) (by decide)) (⟨by omega, by omega, by rw [lc_s]; first | exact hi85.2.2.w1 c112 (ite_tg c137) | exact hi85.2.2.w2 c112 (ite_tg1 c137) | exact hi85.2.2.w3 c112 (ite_tg c137) | exact hi85.2.2.w4 c112 (ite_tg1 c137)⟩) (by omega)
                            · -- 137 to 140
                              refine zw_n 2 rfl ?_
                              refine zw_callV (as := [.int 39]) (rest := []) rfl rfl rfl hMMz2129.1 rfl rfl rfl (by decide) (m_puts Mz2132 (up (up o 0 0) 31 (n3 + 1)) (fset f 164 (up g3 n3 (bd ((r * 4 + a) * 5 + k)))) (MM.of (o' := up (up o 0 0) 31 (n3 + 1)) (f' := fset f 164 (up g3 n3 (bd ((r * 4 + a) * 5 + k)))) hM (Sm.trans s_85 hSz2130) hMMz2129.1 (c1_skip (c1_cons (hMMz2129.2 164 (by decide) (by decide)) c1_nil)) (fs_k (fs_c fs_n))) 39 (by decide) (show n3 + 1 < 900 by omega)) (fun rz2143 Mz2144 hz2145 => ?_)
                              obtain ⟨hAz2140, hMMz2141, hSz2142⟩ := hz2145
                              rw [hAz2140]
                              show Zw 2 zm_MO_write 146 [some (.ref 139), some (.int (nI r)), some (.int (nI a)), some (.int (nI k)), some (.int (nI (49 + 3 * ((r * 4 + a) * 5 + k))))] [] Mz2144 _
                              refine zw_n 2 rfl ?_
                              refine zw_get (v := .ref 140) rfl hMMz2141.1 rfl ?_
                              refine zw_n 1 rfl ?_
                              refine zw_iald (f := ai (f 140)) (j := (49 + 3 * ((r * 4 + a) * 5 + k))) rfl (Sm.at hSz2142 (by decide) (Sm.at hSz2130 (by decide) (Sm.at s_85 (by decide) (hM.2 140 (by decide) (by decide))))) rfl (by decide) (by omega) ?_
                              refine zw_top (x' := (nI (pt ((r * 4 + a) * 5 + k)))) (congrArg nI (hg.2.2.2.2 _ ⟨r, a, k, by omega, by omega, by omega, rfl⟩).1) ?_
                              refine zw_callV (as := [.int (nI (pt ((r * 4 + a) * 5 + k)))]) (rest := []) rfl rfl rfl hMMz2141.1 rfl rfl rfl (by decide) (m_puts Mz2144 (up (up o 0 0) 31 (n3 + 1 + 1)) (fset f 164 (up (up g3 n3 (bd ((r * 4 + a) * 5 + k))) (n3 + 1) 39)) (MM.of (o' := up (up o 0 0) 31 (n3 + 1 + 1)) (f' := fset f 164 (up (up g3 n3 (bd ((r * 4 + a) * 5 + k))) (n3 + 1) 39)) hM (Sm.trans (Sm.trans s_85 hSz2130) hSz2142) hMMz2141.1 (c1_skip (c1_cons (hMMz2141.2 164 (by decide) (by decide)) c1_nil)) (fs_k (fs_c fs_n))) (pt ((r * 4 + a) * 5 + k)) (hpb _ ⟨r, a, k, by omega, by omega, by omega, rfl⟩).1 (show n3 + 1 + 1 < 900 by omega)) (fun rz2149 Mz2150 hz2151 => ?_)
                              obtain ⟨hAz2146, hMMz2147, hSz2148⟩ := hz2151
                              rw [hAz2146]
                              show Zw 2 zm_MO_write 157 [some (.ref 139), some (.int (nI r)), some (.int (nI a)), some (.int (nI k)), some (.int (nI (49 + 3 * ((r * 4 + a) * 5 + k))))] [] Mz2150 _
                              refine zw_inc rfl (x' := (nI (k + 1))) (ls' := [some (.ref 139), some (.int (nI r)), some (.int (nI a)), some (.int (nI (k + 1))), some (.int (nI (49 + 3 * ((r * 4 + a) * 5 + k))))]) rfl (na (a := k) (b := 1) rfl rfl) rfl ?_
                              refine zw_n 1 rfl ?_
                              refine zw_ls (ls' := [some (.ref 139), some (.int (nI r)), some (.int (nI a)), some (.int (nI (k + 1))), none]) ⟨Or.inr rfl, Or.inr rfl, Or.inr rfl, Or.inr rfl, Or.inl rfl, trivial⟩ ?_
                              exact ih85 (k + 1) (n3 + 1 + 1 + 1) (up (up (up g3 n3 (bd ((r * 4 + a) * 5 + k))) (n3 + 1) 39) (n3 + 1 + 1) (pt ((r * 4 + a) * 5 + k))) Mz2150 (Sm.trans (Sm.trans (Sm.trans s_85 hSz2130) hSz2142) hSz2148) hMMz2147.1 (hMMz2147.2 164 (by decide) (by decide)) (⟨by omega, by omega, by rw [lc_s]; first | exact hi85.2.2.w1 c112 (ite_tg c137) | exact hi85.2.2.w2 c112 (ite_tg1 c137) | exact hi85.2.2.w3 c112 (ite_tg c137) | exact hi85.2.2.w4 c112 (ite_tg1 c137)⟩) (by omega)
                    exact lp85 _ 0 (n2 + 1) (up g2 n2 58) Mz2101 (Sm.trans s_55 hSz2099) hMMz2098.1 (hMMz2098.2 164 (by decide) (by decide)) (⟨Nat.zero_le _, by omega, by show Lt _ _ (_ ++ []); rw [List.append_nil]; exact hi55.2.2.add _⟩) (Nat.lt_succ_self _)
            exact lp55 _ 0 (n1 + 1 + 1) (up (up g1 n1 59) (n1 + 1) (gn r)) Mz2039 (Sm.trans (Sm.trans s_21 hSz2031) hSz2037) hMMz2036.1 (hMMz2036.2 164 (by decide) (by decide)) (⟨Nat.zero_le _, by omega, by rw [wrM_0]; exact (hi21.2.2.add 59).add _⟩) (Nat.lt_succ_self _)
    exact lp21 _ 0 0 (f 164) Mz1907 sz1911 (zat_self ez1908 (zat_self ez1903 hM.1)) mz1910 (⟨Nat.zero_le _, Nat.le_refl _, Lt.nil⟩) (Nat.lt_succ_self _)
  · -- 9 to 12
    exfalso
    exact ite_eq0 c9 hn

set_option maxHeartbeats 4000000 in
set_option maxRecDepth 100000 in
theorem m_keep0 (Mq : zM) (o : Nat → Nat) (f : Nat → Nat → Nat) (hM : MM Mq o f) : Zm 1 zm_MO_keep [.ref 139, .int 0] Mq (fun r9 M1 => r9 = some (.int 1) ∧ ∃ K, MM M1 (up o 0 0) (fset (fset f 142 (up (f 142) 0 1)) 141 K) ∧ Sm Mq M1 [139, 141, 142] ∧ ∀ q, K q = if 0 ≤ q ∧ q < 0 + 590 then f 140 (q - 0) else f 141 q) := by
  show Zw 1 zm_MO_keep 0 [some (.ref 139), some (.int 0), none] [] Mq _
  refine zw_n 2 rfl ?_
  refine zw_put rfl hM.1 (rfl) (Nat.le_of_ble_eq_true rfl) ?_
  generalize ez2153 : List.set Mq 139 _ = Mz2152
  refine zw_n 4 rfl ?_
  refine zw_callS (as := [.long (Int32.toInt64 0), .long 0, .long 1]) (rest := []) rfl rfl rfl rfl rfl rfl (by decide) (m_in Mz2152 (Int32.toInt64 0) 0 1 0 0 1 (by decide) (by decide) (by decide)) (fun rz2154 Mz2155 hz2156 => ?_)
  rw [hz2156.1, hz2156.2]
  show Zw 1 zm_MO_keep 12 [some (.ref 139), some (.int 0), none] [.int (nI (if 0 ≤ 0 ∧ 0 ≤ 1 then 1 else 0))] Mz2152 _
  refine zw_ne0N (a := if 0 ≤ 0 ∧ 0 ≤ 1 then 1 else 0) rfl rfl (ite_b) (fun c12 => ?_) (fun c12 => ?_)
  · -- 12 to 17
    refine zw_n 2 (ls' := [some (.ref 139), some (.int 0), some (.int 0)]) rfl ?_
    have mz2157 : Mz2152[140]? = some (.inl (0, 590, .inl (ai (f 140)))) := zat_set ez2153 (by decide) (hM.2 140 (by decide) (by decide))
    have mz2158 : Mz2152[141]? = some (.inl (0, 1180, .inl (ai (f 141)))) := zat_set ez2153 (by decide) (hM.2 141 (by decide) (by decide))
    have mz2159 : Mz2152[142]? = some (.inl (3, 2, .inl (ai (f 142)))) := zat_set ez2153 (by decide) (hM.2 142 (by decide) (by decide))
    have lp19 : ∀ (n19 : Nat) (i : Nat) (K : Nat → Nat) (M_19 : zM), Sm Mq M_19 [139, 141, 142] → M_19[141]? = some (.inl (0, 1180, .inl (ai K))) → M_19[139]? = some (.inr (12, [.int 0, .ref 140, .ref 141, .ref 142, .ref 143, .int (nI (o 5)), .ref 144, .int (nI (o 7)), .int (nI (o 8)), .int (nI (o 9)), .int (nI (o 10)), .ref 145, .ref 146, .ref 147, .ref 148, .ref 149, .ref 150, .ref 151, .ref 152, .ref 153, .ref 154, .ref 155, .ref 156, .ref 157, .ref 158, .ref 159, .ref 160, .ref 161, .ref 162, .ref 163, .ref 164, .int (nI (o 31)), .ref 165, .int (nI (o 33)), .ref 166, .ref 167, .ref 168, .ref 169, .int (nI (o 38)), .ref 170, .ref 171, .ref 172, .ref 173, .ref 174, .ref 175, .int (nI (o 45)), .int (nI (o 46)), .int (nI (o 47)), .long (lN (o 48)), .ref 176])) → M_19[142]? = some (.inl (3, 2, .inl (ai (f 142)))) → (i ≤ 590 ∧ ∀ q, K q = if 0 ≤ q ∧ q < 0 + i then f 140 (q - 0) else f 141 q) → 590 - i < n19 → Zw 1 zm_MO_keep 19 [some (.ref 139), some (.int 0), some (.int (nI i))] [] M_19 (fun r9 M1 => r9 = some (.int 1) ∧ ∃ K, MM M1 (up o 0 0) (fset (fset f 142 (up (f 142) 0 1)) 141 K) ∧ Sm Mq M1 [139, 141, 142] ∧ ∀ q, K q = if 0 ≤ q ∧ q < 0 + 590 then f 140 (q - 0) else f 141 q) := by
      intro n19
      induction n19 with
      | zero => intro i K M_19 _ _ _ _ _ h; exact absurd h (Nat.not_lt_zero _)
      | succ n19 ih19 =>
        intro i K M_19 s_19 f19_0 f19_1 f19_2 hi19 hm19
        refine zw_n 2 rfl ?_
        refine zw_igeN (a := i) (b := 590) rfl rfl rfl (by omega) (by omega) (fun c23 => ?_) (fun c23 => ?_)
        · -- 23 to 50
          refine zw_n 1 rfl ?_
          refine zw_get (v := .ref 142) rfl f19_1 rfl ?_
          refine zw_n 2 rfl ?_
          refine zw_zastN (g := (f 142)) (j := 0) (v := 1) rfl f19_2 rfl (by decide) (by omega) (rfl) (by omega) ?_
          generalize ez2161 : List.set M_19 142 _ = Mz2160
          refine zw_n 1 rfl ?_
          exact zw_zret rfl rfl (Or.inr rfl) (⟨rfl, K, (MM.of (o' := up o 0 0) (f' := fset (fset f 142 (up (f 142) 0 1)) 141 K) hM (Sm.tset s_19 ez2161 (by decide)) (zat_set ez2161 (by decide) f19_1) (c1_skip (c1_cons (zat_set ez2161 (by decide) f19_0) (c1_cons (zat_self ez2161 f19_2) c1_nil))) (fs_k (fs_c (fs_c fs_n)))), Sm.tset s_19 ez2161 (by decide), fun q => by rw [hi19.2 q, show i = 590 by omega]⟩)
        · -- 23 to 26
          refine zw_n 1 rfl ?_
          refine zw_get (v := .ref 141) rfl f19_1 rfl ?_
          refine zw_n 3 rfl ?_
          refine zw_n 2 rfl ?_
          refine zw_top (na (a := 0) (b := i) rfl rfl) ?_
          refine zw_n 1 rfl ?_
          refine zw_get (v := .ref 140) rfl f19_1 rfl ?_
          refine zw_n 1 rfl ?_
          refine zw_iald (f := ai (f 140)) (j := i) rfl (Sm.at s_19 (by decide) (hM.2 140 (by decide) (by decide))) rfl (by decide) (by omega) ?_
          refine zw_iastN (g := K) (j := (0 + i)) (v := ((f 140) i)) rfl f19_0 rfl (by decide) (by omega) (rfl) ?_
          generalize ez2163 : List.set M_19 141 _ = Mz2162
          refine zw_inc rfl (x' := (nI (i + 1))) (ls' := [some (.ref 139), some (.int 0), some (.int (nI (i + 1)))]) rfl (na (a := i) (b := 1) rfl rfl) rfl ?_
          refine zw_n 1 rfl ?_
          exact ih19 (i + 1) (up K (0 + i) ((f 140) i)) Mz2162 (Sm.tset s_19 ez2163 (by decide)) (zat_self ez2163 f19_0) (zat_set ez2163 (by decide) f19_1) (zat_set ez2163 (by decide) f19_2) (⟨by omega, fun q => rg_up (v := f 140) hi19.2 q⟩) (by omega)
    exact lp19 _ 0 (f 141) Mz2152 (Sm.tset Sm.rf ez2153 (by decide)) mz2158 (zat_self ez2153 hM.1) mz2159 (⟨Nat.zero_le _, fun q => by rw [if_neg (by omega)]⟩) (Nat.lt_succ_self _)
  · -- 12 to 15
    exfalso
    exact ite_eq0 c12 (by decide)

set_option maxHeartbeats 4000000 in
set_option maxRecDepth 100000 in
theorem m_keep1 (Mq : zM) (o : Nat → Nat) (f : Nat → Nat → Nat) (hM : MM Mq o f) : Zm 1 zm_MO_keep [.ref 139, .int 1] Mq (fun r9 M1 => r9 = some (.int 1) ∧ ∃ K, MM M1 (up o 0 0) (fset (fset f 142 (up (f 142) 1 1)) 141 K) ∧ Sm Mq M1 [139, 141, 142] ∧ ∀ q, K q = if 590 ≤ q ∧ q < 590 + 590 then f 140 (q - 590) else f 141 q) := by
  show Zw 1 zm_MO_keep 0 [some (.ref 139), some (.int 1), none] [] Mq _
  refine zw_n 2 rfl ?_
  refine zw_put rfl hM.1 (rfl) (Nat.le_of_ble_eq_true rfl) ?_
  generalize ez2165 : List.set Mq 139 _ = Mz2164
  refine zw_n 4 rfl ?_
  refine zw_callS (as := [.long (Int32.toInt64 1), .long 0, .long 1]) (rest := []) rfl rfl rfl rfl rfl rfl (by decide) (m_in Mz2164 (Int32.toInt64 1) 0 1 1 0 1 (by decide) (by decide) (by decide)) (fun rz2166 Mz2167 hz2168 => ?_)
  rw [hz2168.1, hz2168.2]
  show Zw 1 zm_MO_keep 12 [some (.ref 139), some (.int 1), none] [.int (nI (if 0 ≤ 1 ∧ 1 ≤ 1 then 1 else 0))] Mz2164 _
  refine zw_ne0N (a := if 0 ≤ 1 ∧ 1 ≤ 1 then 1 else 0) rfl rfl (ite_b) (fun c12 => ?_) (fun c12 => ?_)
  · -- 12 to 17
    refine zw_n 2 (ls' := [some (.ref 139), some (.int 1), some (.int 0)]) rfl ?_
    have mz2169 : Mz2164[140]? = some (.inl (0, 590, .inl (ai (f 140)))) := zat_set ez2165 (by decide) (hM.2 140 (by decide) (by decide))
    have mz2170 : Mz2164[141]? = some (.inl (0, 1180, .inl (ai (f 141)))) := zat_set ez2165 (by decide) (hM.2 141 (by decide) (by decide))
    have mz2171 : Mz2164[142]? = some (.inl (3, 2, .inl (ai (f 142)))) := zat_set ez2165 (by decide) (hM.2 142 (by decide) (by decide))
    have lp19 : ∀ (n19 : Nat) (i : Nat) (K : Nat → Nat) (M_19 : zM), Sm Mq M_19 [139, 141, 142] → M_19[141]? = some (.inl (0, 1180, .inl (ai K))) → M_19[139]? = some (.inr (12, [.int 0, .ref 140, .ref 141, .ref 142, .ref 143, .int (nI (o 5)), .ref 144, .int (nI (o 7)), .int (nI (o 8)), .int (nI (o 9)), .int (nI (o 10)), .ref 145, .ref 146, .ref 147, .ref 148, .ref 149, .ref 150, .ref 151, .ref 152, .ref 153, .ref 154, .ref 155, .ref 156, .ref 157, .ref 158, .ref 159, .ref 160, .ref 161, .ref 162, .ref 163, .ref 164, .int (nI (o 31)), .ref 165, .int (nI (o 33)), .ref 166, .ref 167, .ref 168, .ref 169, .int (nI (o 38)), .ref 170, .ref 171, .ref 172, .ref 173, .ref 174, .ref 175, .int (nI (o 45)), .int (nI (o 46)), .int (nI (o 47)), .long (lN (o 48)), .ref 176])) → M_19[142]? = some (.inl (3, 2, .inl (ai (f 142)))) → (i ≤ 590 ∧ ∀ q, K q = if 590 ≤ q ∧ q < 590 + i then f 140 (q - 590) else f 141 q) → 590 - i < n19 → Zw 1 zm_MO_keep 19 [some (.ref 139), some (.int 1), some (.int (nI i))] [] M_19 (fun r9 M1 => r9 = some (.int 1) ∧ ∃ K, MM M1 (up o 0 0) (fset (fset f 142 (up (f 142) 1 1)) 141 K) ∧ Sm Mq M1 [139, 141, 142] ∧ ∀ q, K q = if 590 ≤ q ∧ q < 590 + 590 then f 140 (q - 590) else f 141 q) := by
      intro n19
      induction n19 with
      | zero => intro i K M_19 _ _ _ _ _ h; exact absurd h (Nat.not_lt_zero _)
      | succ n19 ih19 =>
        intro i K M_19 s_19 f19_0 f19_1 f19_2 hi19 hm19
        refine zw_n 2 rfl ?_
        refine zw_igeN (a := i) (b := 590) rfl rfl rfl (by omega) (by omega) (fun c23 => ?_) (fun c23 => ?_)
        · -- 23 to 50
          refine zw_n 1 rfl ?_
          refine zw_get (v := .ref 142) rfl f19_1 rfl ?_
          refine zw_n 2 rfl ?_
          refine zw_zastN (g := (f 142)) (j := 1) (v := 1) rfl f19_2 rfl (by decide) (by omega) (rfl) (by omega) ?_
          generalize ez2173 : List.set M_19 142 _ = Mz2172
          refine zw_n 1 rfl ?_
          exact zw_zret rfl rfl (Or.inr rfl) (⟨rfl, K, (MM.of (o' := up o 0 0) (f' := fset (fset f 142 (up (f 142) 1 1)) 141 K) hM (Sm.tset s_19 ez2173 (by decide)) (zat_set ez2173 (by decide) f19_1) (c1_skip (c1_cons (zat_set ez2173 (by decide) f19_0) (c1_cons (zat_self ez2173 f19_2) c1_nil))) (fs_k (fs_c (fs_c fs_n)))), Sm.tset s_19 ez2173 (by decide), fun q => by rw [hi19.2 q, show i = 590 by omega]⟩)
        · -- 23 to 26
          refine zw_n 1 rfl ?_
          refine zw_get (v := .ref 141) rfl f19_1 rfl ?_
          refine zw_n 3 rfl ?_
          refine zw_n 2 rfl ?_
          refine zw_top (na (a := 590) (b := i) rfl rfl) ?_
          refine zw_n 1 rfl ?_
          refine zw_get (v := .ref 140) rfl f19_1 rfl ?_
          refine zw_n 1 rfl ?_
          refine zw_iald (f := ai (f 140)) (j := i) rfl (Sm.at s_19 (by decide) (hM.2 140 (by decide) (by decide))) rfl (by decide) (by omega) ?_
          refine zw_iastN (g := K) (j := (590 + i)) (v := ((f 140) i)) rfl f19_0 rfl (by decide) (by omega) (rfl) ?_
          generalize ez2175 : List.set M_19 141 _ = Mz2174
          refine zw_inc rfl (x' := (nI (i + 1))) (ls' := [some (.ref 139), some (.int 1), some (.int (nI (i + 1)))]) rfl (na (a := i) (b := 1) rfl rfl) rfl ?_
          refine zw_n 1 rfl ?_
          exact ih19 (i + 1) (up K (590 + i) ((f 140) i)) Mz2174 (Sm.tset s_19 ez2175 (by decide)) (zat_self ez2175 f19_0) (zat_set ez2175 (by decide) f19_1) (zat_set ez2175 (by decide) f19_2) (⟨by omega, fun q => rg_up (v := f 140) hi19.2 q⟩) (by omega)
    exact lp19 _ 0 (f 141) Mz2164 (Sm.tset Sm.rf ez2165 (by decide)) mz2170 (zat_self ez2165 hM.1) mz2171 (⟨Nat.zero_le _, fun q => by rw [if_neg (by omega)]⟩) (Nat.lt_succ_self _)
  · -- 12 to 15
    exfalso
    exact ite_eq0 c12 (by decide)

set_option maxHeartbeats 4000000 in
set_option maxRecDepth 100000 in
theorem m_keepNo (Mq : zM) (o : Nat → Nat) (f : Nat → Nat → Nat) (hM : MM Mq o f) (x : Int32) (hx : ¬ (0 ≤ x.toInt ∧ x.toInt < 2)) : Zm 1 zm_MO_keep [.ref 139, .int x] Mq (fun r9 M1 => r9 = some (.int (0)) ∧ MM M1 (up o 0 0) f ∧ Sm Mq M1 [139]) := by
  show Zw 1 zm_MO_keep 0 [some (.ref 139), some (.int x), none] [] Mq _
  refine zw_n 2 rfl ?_
  refine zw_put rfl hM.1 (rfl) (Nat.le_of_ble_eq_true rfl) ?_
  generalize ez2177 : List.set Mq 139 _ = Mz2176
  refine zw_n 4 rfl ?_
  refine zw_callS (as := [.long (Int32.toInt64 x), .long 0, .long 1]) (rest := []) rfl rfl rfl rfl rfl rfl (by decide) (m_in Mz2176 (Int32.toInt64 x) 0 1 x.toInt 0 1 (Int32.toInt_toInt64 _) (by decide) (by decide)) (fun rz2178 Mz2179 hz2180 => ?_)
  rw [hz2180.1, hz2180.2]
  show Zw 1 zm_MO_keep 12 [some (.ref 139), some (.int x), none] [.int (nI (if 0 ≤ x.toInt ∧ x.toInt ≤ 1 then 1 else 0))] Mz2176 _
  refine zw_ne0N (a := if 0 ≤ x.toInt ∧ x.toInt ≤ 1 then 1 else 0) rfl rfl (ite_b) (fun c12 => ?_) (fun c12 => ?_)
  · -- 12 to 17
    exfalso
    have := ite_ne c12; omega
  · -- 12 to 15
    refine zw_n 1 rfl ?_
    exact zw_zret rfl rfl (Or.inl rfl) (⟨rfl, (MM.of (o' := up o 0 0) (f' := f) hM (Sm.tset Sm.rf ez2177 (by decide)) (zat_self ez2177 hM.1) (c1_skip c1_nil) (fs_k fs_n)), Sm.tset Sm.rf ez2177 (by decide)⟩)

set_option maxHeartbeats 4000000 in
set_option maxRecDepth 100000 in
theorem m_whereNo (Mq : zM) (o : Nat → Nat) (f : Nat → Nat → Nat) (hM : MM Mq o f)(n : Nat) (gn al_ it pt tg bd : Nat → Nat) (hg : RelG f n gn al_ it pt tg bd) (hG : SafeG n gn al_ it pt tg bd) (hF : SafeF f) (c : Nat) (sg li co : Nat → Nat) (ht : RelT f c sg li co) (hS : SafeT c sg li co) (x y z : Int32) (hx : ¬ (0 ≤ x.toInt ∧ x.toInt < n ∧ 0 ≤ y.toInt ∧ y.toInt ≤ z.toInt ∧ z.toInt ≤ c)) : Zm 7 zm_MO_where [.ref 139, .int x, .int y, .int z] Mq (fun r9 M1 => r9 = some (.long (lN 0)) ∧ MM M1 (up o 0 0) f ∧ Sm Mq M1 [139]) := by
  show Zw 7 zm_MO_where 0 [some (.ref 139), some (.int x), some (.int y), some (.int z)] [] Mq _
  have hn8 := hG.1
  have hc20 := hS.1
  have hli := hS.2.2.1
  have hco := hS.2.2.2
  refine zw_n 2 rfl ?_
  refine zw_put rfl hM.1 (rfl) (Nat.le_of_ble_eq_true rfl) ?_
  generalize ez2182 : List.set Mq 139 _ = Mz2181
  refine zw_n 2 rfl ?_
  refine zw_callV (as := [.int x]) (rest := []) rfl rfl rfl (zat_self ez2182 hM.1) rfl rfl rfl (by decide) (m_isRule Mz2181 (up o 0 0) f (MM.of (o' := up o 0 0) (f' := f) hM (Sm.tset Sm.rf ez2182 (by decide)) (zat_self ez2182 hM.1) (c1_skip c1_nil) (fs_k fs_n)) n hg.1 (by omega) x) (fun rz2183 Mz2184 hz2185 => ?_)
  rw [hz2185.1, hz2185.2]
  show Zw 7 zm_MO_where 10 [some (.ref 139), some (.int x), some (.int y), some (.int z)] [.int (nI (if 0 ≤ x.toInt ∧ x.toInt < n then 1 else 0))] Mz2181 _
  refine zw_eq0N (a := if 0 ≤ x.toInt ∧ x.toInt < n then 1 else 0) rfl rfl (ite_b) (fun c10 => ?_) (fun c10 => ?_)
  · -- 10 to 38
    refine zw_n 1 rfl ?_
    refine zw_topl (x' := lN 0) (by decide) ?_
    exact zw_lret rfl rfl (⟨rfl, (MM.of (o' := up o 0 0) (f' := f) hM (Sm.tset Sm.rf ez2182 (by decide)) (zat_self ez2182 hM.1) (c1_skip c1_nil) (fs_k fs_n)), Sm.tset Sm.rf ez2182 (by decide)⟩)
  · -- 10 to 13
    refine zw_n 4 rfl ?_
    refine zw_callV (as := []) (rest := [.long 0, .long (Int32.toInt64 z)]) rfl rfl rfl (zat_self ez2182 hM.1) rfl rfl rfl (by decide) (m_tok1 Mz2181 (up o 0 0) f (MM.of (o' := up o 0 0) (f' := f) hM (Sm.tset Sm.rf ez2182 (by decide)) (zat_self ez2182 hM.1) (c1_skip c1_nil) (fs_k fs_n)) c ht.1) (fun rz2186 Mz2187 hz2188 => ?_)
    rw [hz2188.1, hz2188.2]
    show Zw 7 zm_MO_where 20 [some (.ref 139), some (.int x), some (.int y), some (.int z)] [.int (nI c), .long 0, .long (Int32.toInt64 z)] Mz2181 _
    refine zw_n 1 rfl ?_
    refine zw_callS (as := [.long (Int32.toInt64 z), .long 0, .long (Int32.toInt64 (nI c))]) (rest := []) rfl rfl rfl rfl rfl rfl (by decide) (m_in Mz2181 (Int32.toInt64 z) 0 (Int32.toInt64 (nI c)) z.toInt 0 ((c : Nat) : Int) (Int32.toInt_toInt64 _) (by decide) (l_nI (by omega))) (fun rz2189 Mz2190 hz2191 => ?_)
    rw [hz2191.1, hz2191.2]
    show Zw 7 zm_MO_where 24 [some (.ref 139), some (.int x), some (.int y), some (.int z)] [.int (nI (if 0 ≤ z.toInt ∧ z.toInt ≤ ((c : Nat) : Int) then 1 else 0))] Mz2181 _
    refine zw_eq0N (a := if 0 ≤ z.toInt ∧ z.toInt ≤ ((c : Nat) : Int) then 1 else 0) rfl rfl (ite_b) (fun c24 => ?_) (fun c24 => ?_)
    · -- 24 to 38
      refine zw_n 1 rfl ?_
      refine zw_topl (x' := lN 0) (by decide) ?_
      exact zw_lret rfl rfl (⟨rfl, (MM.of (o' := up o 0 0) (f' := f) hM (Sm.tset Sm.rf ez2182 (by decide)) (zat_self ez2182 hM.1) (c1_skip c1_nil) (fs_k fs_n)), Sm.tset Sm.rf ez2182 (by decide)⟩)
    · -- 24 to 27
      refine zw_n 5 rfl ?_
      refine zw_callS (as := [.long (Int32.toInt64 y), .long 0, .long (Int32.toInt64 z)]) (rest := []) rfl rfl rfl rfl rfl rfl (by decide) (m_in Mz2181 (Int32.toInt64 y) 0 (Int32.toInt64 z) y.toInt 0 z.toInt (Int32.toInt_toInt64 _) (by decide) (Int32.toInt_toInt64 _)) (fun rz2192 Mz2193 hz2194 => ?_)
      rw [hz2194.1, hz2194.2]
      show Zw 7 zm_MO_where 35 [some (.ref 139), some (.int x), some (.int y), some (.int z)] [.int (nI (if 0 ≤ y.toInt ∧ y.toInt ≤ z.toInt then 1 else 0))] Mz2181 _
      refine zw_ne0N (a := if 0 ≤ y.toInt ∧ y.toInt ≤ z.toInt then 1 else 0) rfl rfl (ite_b) (fun c35 => ?_) (fun c35 => ?_)
      · -- 35 to 40
        exfalso
        have h1 := ite_ne c10; have h2 := ite_ne c24; have h3 := ite_ne c35; omega
      · -- 35 to 38
        refine zw_n 1 rfl ?_
        refine zw_topl (x' := lN 0) (by decide) ?_
        exact zw_lret rfl rfl (⟨rfl, (MM.of (o' := up o 0 0) (f' := f) hM (Sm.tset Sm.rf ez2182 (by decide)) (zat_self ez2182 hM.1) (c1_skip c1_nil) (fs_k fs_n)), Sm.tset Sm.rf ez2182 (by decide)⟩)

set_option maxHeartbeats 4000000 in
set_option maxRecDepth 100000 in
theorem m_whereOk (Mq : zM) (o : Nat → Nat) (f : Nat → Nat → Nat) (hM : MM Mq o f)(n : Nat) (gn al_ it pt tg bd : Nat → Nat) (hg : RelG f n gn al_ it pt tg bd) (hG : SafeG n gn al_ it pt tg bd) (hF : SafeF f) (c : Nat) (sg li co : Nat → Nat) (ht : RelT f c sg li co) (hS : SafeT c sg li co) (emp : Nat → Prop) (rk : Nat → Nat) (hA : Acyc (gE al_ it tg pt bd sg co) n emp rk) (r i j : Nat) (hr : r < n) (hi : i ≤ j) (hj : j ≤ c) : Zm 7 zm_MO_where [.ref 139, .int (nI r), .int (nI i), .int (nI j)] Mq (fun r9 M1 => r9 = some (.long (lN (wh (gE al_ it tg pt bd sg co) n r i j))) ∧ ∃ f9, MM M1 (up o 0 0) f9 ∧ Sm Mq M1 [139, 156, 157, 158, 159, 160] ∧ Fsame f f9 [139, 156, 157, 158, 159, 160] ∧ SafeF f9) := by
  show Zw 7 zm_MO_where 0 [some (.ref 139), some (.int (nI r)), some (.int (nI i)), some (.int (nI j))] [] Mq _
  have hn8 := hG.1
  have hc20 := hS.1
  have hli := hS.2.2.1
  have hco := hS.2.2.2
  refine zw_n 2 rfl ?_
  refine zw_put rfl hM.1 (rfl) (Nat.le_of_ble_eq_true rfl) ?_
  generalize ez2196 : List.set Mq 139 _ = Mz2195
  refine zw_n 2 rfl ?_
  refine zw_callV (as := [.int (nI r)]) (rest := []) rfl rfl rfl (zat_self ez2196 hM.1) rfl rfl rfl (by decide) (m_isRule Mz2195 (up o 0 0) f (MM.of (o' := up o 0 0) (f' := f) hM (Sm.tset Sm.rf ez2196 (by decide)) (zat_self ez2196 hM.1) (c1_skip (c1_cons (zat_set ez2196 (by decide) (hM.2 156 (by decide) (by decide))) (c1_cons (zat_set ez2196 (by decide) (hM.2 157 (by decide) (by decide))) (c1_cons (zat_set ez2196 (by decide) (hM.2 158 (by decide) (by decide))) (c1_cons (zat_set ez2196 (by decide) (hM.2 159 (by decide) (by decide))) (c1_cons (zat_set ez2196 (by decide) (hM.2 160 (by decide) (by decide))) c1_nil)))))) (fs_k (fs_k (fs_k (fs_k (fs_k (fs_k fs_n))))))) n hg.1 (by omega) (nI r)) (fun rz2197 Mz2198 hz2199 => ?_)
  rw [hz2199.1, hz2199.2]
  show Zw 7 zm_MO_where 10 [some (.ref 139), some (.int (nI r)), some (.int (nI i)), some (.int (nI j))] [.int (nI (if 0 ≤ (nI r).toInt ∧ (nI r).toInt < n then 1 else 0))] Mz2195 _
  refine zw_eq0N (a := if 0 ≤ (nI r).toInt ∧ (nI r).toInt < n then 1 else 0) rfl rfl (ite_b) (fun c10 => ?_) (fun c10 => ?_)
  · -- 10 to 38
    exfalso
    first | exact ite_eq0 c10 (by rw [nI_toInt (by omega)]; omega) | (have := ite_eq0 c24; omega) | (have := ite_eq0 c35; omega)
  · -- 10 to 13
    refine zw_n 4 rfl ?_
    refine zw_callV (as := []) (rest := [.long 0, .long (Int32.toInt64 (nI j))]) rfl rfl rfl (zat_self ez2196 hM.1) rfl rfl rfl (by decide) (m_tok1 Mz2195 (up o 0 0) f (MM.of (o' := up o 0 0) (f' := f) hM (Sm.tset Sm.rf ez2196 (by decide)) (zat_self ez2196 hM.1) (c1_skip (c1_cons (zat_set ez2196 (by decide) (hM.2 156 (by decide) (by decide))) (c1_cons (zat_set ez2196 (by decide) (hM.2 157 (by decide) (by decide))) (c1_cons (zat_set ez2196 (by decide) (hM.2 158 (by decide) (by decide))) (c1_cons (zat_set ez2196 (by decide) (hM.2 159 (by decide) (by decide))) (c1_cons (zat_set ez2196 (by decide) (hM.2 160 (by decide) (by decide))) c1_nil)))))) (fs_k (fs_k (fs_k (fs_k (fs_k (fs_k fs_n))))))) c ht.1) (fun rz2200 Mz2201 hz2202 => ?_)
    rw [hz2202.1, hz2202.2]
    show Zw 7 zm_MO_where 20 [some (.ref 139), some (.int (nI r)), some (.int (nI i)), some (.int (nI j))] [.int (nI c), .long 0, .long (Int32.toInt64 (nI j))] Mz2195 _
    refine zw_n 1 rfl ?_
    refine zw_callS (as := [.long (Int32.toInt64 (nI j)), .long 0, .long (Int32.toInt64 (nI c))]) (rest := []) rfl rfl rfl rfl rfl rfl (by decide) (m_in Mz2195 (Int32.toInt64 (nI j)) 0 (Int32.toInt64 (nI c)) ((j : Nat) : Int) 0 ((c : Nat) : Int) (l_nI (by omega)) (by decide) (l_nI (by omega))) (fun rz2203 Mz2204 hz2205 => ?_)
    rw [hz2205.1, hz2205.2]
    show Zw 7 zm_MO_where 24 [some (.ref 139), some (.int (nI r)), some (.int (nI i)), some (.int (nI j))] [.int (nI (if 0 ≤ ((j : Nat) : Int) ∧ ((j : Nat) : Int) ≤ ((c : Nat) : Int) then 1 else 0))] Mz2195 _
    refine zw_eq0N (a := if 0 ≤ ((j : Nat) : Int) ∧ ((j : Nat) : Int) ≤ ((c : Nat) : Int) then 1 else 0) rfl rfl (ite_b) (fun c24 => ?_) (fun c24 => ?_)
    · -- 24 to 38
      exfalso
      first | exact ite_eq0 c10 (by rw [nI_toInt (by omega)]; omega) | (have := ite_eq0 c24; omega) | (have := ite_eq0 c35; omega)
    · -- 24 to 27
      refine zw_n 5 rfl ?_
      refine zw_callS (as := [.long (Int32.toInt64 (nI i)), .long 0, .long (Int32.toInt64 (nI j))]) (rest := []) rfl rfl rfl rfl rfl rfl (by decide) (m_in Mz2195 (Int32.toInt64 (nI i)) 0 (Int32.toInt64 (nI j)) ((i : Nat) : Int) 0 ((j : Nat) : Int) (l_nI (by omega)) (by decide) (l_nI (by omega))) (fun rz2206 Mz2207 hz2208 => ?_)
      rw [hz2208.1, hz2208.2]
      show Zw 7 zm_MO_where 35 [some (.ref 139), some (.int (nI r)), some (.int (nI i)), some (.int (nI j))] [.int (nI (if 0 ≤ ((i : Nat) : Int) ∧ ((i : Nat) : Int) ≤ ((j : Nat) : Int) then 1 else 0))] Mz2195 _
      refine zw_ne0N (a := if 0 ≤ ((i : Nat) : Int) ∧ ((i : Nat) : Int) ≤ ((j : Nat) : Int) then 1 else 0) rfl rfl (ite_b) (fun c35 => ?_) (fun c35 => ?_)
      · -- 35 to 40
        refine zw_n 1 rfl ?_
        refine zw_callV (as := []) (rest := []) rfl rfl rfl (zat_self ez2196 hM.1) rfl rfl rfl (by decide) (m_layAll Mz2195 (up o 0 0) f (MM.of (o' := up o 0 0) (f' := f) hM (Sm.tset Sm.rf ez2196 (by decide)) (zat_self ez2196 hM.1) (c1_skip (c1_cons (zat_set ez2196 (by decide) (hM.2 156 (by decide) (by decide))) (c1_cons (zat_set ez2196 (by decide) (hM.2 157 (by decide) (by decide))) (c1_cons (zat_set ez2196 (by decide) (hM.2 158 (by decide) (by decide))) (c1_cons (zat_set ez2196 (by decide) (hM.2 159 (by decide) (by decide))) (c1_cons (zat_set ez2196 (by decide) (hM.2 160 (by decide) (by decide))) c1_nil)))))) (fs_k (fs_k (fs_k (fs_k (fs_k (fs_k fs_n))))))) n gn al_ it pt tg bd hg hG hF c sg li co ht hS emp rk hA) (fun rz2217 Mz2218 hz2219 => ?_)
        obtain ⟨hAz2210, fz2209, hMMz2211, hSz2212, hFsz2213, hSFz2214, hz2215, hz2216⟩ := hz2219
        rw [hAz2210]
        show Zw 7 zm_MO_where 44 [some (.ref 139), some (.int (nI r)), some (.int (nI i)), some (.int (nI j))] [] Mz2218 _
        refine zw_n 1 rfl ?_
        refine zw_get (v := .ref 158) rfl (Sm.at hSz2212 (by decide) (zat_self ez2196 hM.1)) rfl ?_
        refine zw_n 3 rfl ?_
        refine zw_callS (as := [.int (nI r), .int (nI i), .int (nI j)]) (rest := [.ref 158]) rfl rfl rfl rfl rfl rfl (by decide) (m_at _ r i j) (fun rz2220 Mz2221 hz2222 => ?_)
        rw [hz2222.1, hz2222.2]
        show Zw 7 zm_MO_where 54 [some (.ref 139), some (.int (nI r)), some (.int (nI i)), some (.int (nI j))] [.int (nI (22 * (22 * r + i) + j)), .ref 158] Mz2218 _
        refine zw_lald (f := al (fz2209 158)) (j := (22 * (22 * r + i) + j)) rfl (hMMz2211.2 158 (by decide) (by decide)) rfl (by decide) (by omega) ?_
        refine zw_topl (x' := (lN (wh (gE al_ it tg pt bd sg co) n r i j))) (congrArg lN (hz2216 r i j hr hi (by omega))) ?_
        exact zw_lret rfl rfl (⟨rfl, fset (fset (fset (fset (fset f 160 (fz2209 160)) 159 (fz2209 159)) 158 (fz2209 158)) 157 (fz2209 157)) 156 (fz2209 156), (MM.of (o' := up o 0 0) (f' := fset (fset (fset (fset (fset f 160 (fz2209 160)) 159 (fz2209 159)) 158 (fz2209 158)) 157 (fz2209 157)) 156 (fz2209 156)) hM (Sm.tw (Sm.tset Sm.rf ez2196 (by decide)) hSz2212 (by decide)) (Sm.at hSz2212 (by decide) (zat_self ez2196 hM.1)) (c1_skip (c1_cons (hMMz2211.2 156 (by decide) (by decide)) (c1_cons (hMMz2211.2 157 (by decide) (by decide)) (c1_cons (hMMz2211.2 158 (by decide) (by decide)) (c1_cons (hMMz2211.2 159 (by decide) (by decide)) (c1_cons (hMMz2211.2 160 (by decide) (by decide)) c1_nil)))))) (fs_k (fs_c (fs_c (fs_c (fs_c (fs_c fs_n))))))), Sm.tw (Sm.tset Sm.rf ez2196 (by decide)) hSz2212 (by decide), fs_k (fs_c (fs_c (fs_c (fs_c (fs_c fs_n))))), ⟨hF.1, hSFz2214.2.1, hSFz2214.2.2.1, hSFz2214.2.2.2.1, hSFz2214.2.2.2.2.1, hSFz2214.2.2.2.2.2⟩⟩)
      · -- 35 to 38
        exfalso
        first | exact ite_eq0 c10 (by rw [nI_toInt (by omega)]; omega) | (have := ite_eq0 c24; omega) | (have := ite_eq0 c35; omega)

set_option maxHeartbeats 4000000 in
set_option maxRecDepth 100000 in
theorem m_fitsNo (Mq : zM) (o : Nat → Nat) (f : Nat → Nat → Nat) (hM : MM Mq o f)(n : Nat) (gn al_ it pt tg bd : Nat → Nat) (hg : RelG f n gn al_ it pt tg bd) (hG : SafeG n gn al_ it pt tg bd) (hF : SafeF f) (hn : n = 0) : Zm 8 zm_MO_fits [.ref 139] Mq (fun r9 M1 => r9 = some (.int (-1)) ∧ MM M1 (up o 0 0) f ∧ Sm Mq M1 [139]) := by
  show Zw 8 zm_MO_fits 0 [some (.ref 139)] [] Mq _
  have hn8 := hG.1
  refine zw_n 2 rfl ?_
  refine zw_put rfl hM.1 (rfl) (Nat.le_of_ble_eq_true rfl) ?_
  generalize ez2224 : List.set Mq 139 _ = Mz2223
  refine zw_n 1 rfl ?_
  refine zw_callV (as := []) (rest := []) rfl rfl rfl (zat_self ez2224 hM.1) rfl rfl rfl (by decide) (m_isGrammar Mz2223 (up o 0 0) f (MM.of (o' := up o 0 0) (f' := f) hM (Sm.tset Sm.rf ez2224 (by decide)) (zat_self ez2224 hM.1) (c1_skip c1_nil) (fs_k fs_n)) n gn al_ it pt tg bd hg hG hF) (fun rz2225 Mz2226 hz2227 => ?_)
  rw [hz2227.1, hz2227.2]
  show Zw 8 zm_MO_fits 9 [some (.ref 139)] [.int (nI (if 0 < n then 1 else 0))] Mz2223 _
  refine zw_eq0N (a := if 0 < n then 1 else 0) rfl rfl (ite_b) (fun c9 => ?_) (fun c9 => ?_)
  · -- 9 to 27
    refine zw_n 1 rfl ?_
    exact zw_iret rfl rfl (⟨rfl, (MM.of (o' := up o 0 0) (f' := f) hM (Sm.tset Sm.rf ez2224 (by decide)) (zat_self ez2224 hM.1) (c1_skip c1_nil) (fs_k fs_n)), Sm.tset Sm.rf ez2224 (by decide)⟩)
  · -- 9 to 12
    exfalso
    have := ite_ne c9; omega

set_option maxHeartbeats 4000000 in
set_option maxRecDepth 100000 in
theorem m_fitsOk (Mq : zM) (o : Nat → Nat) (f : Nat → Nat → Nat) (hM : MM Mq o f)(n : Nat) (gn al_ it pt tg bd : Nat → Nat) (hg : RelG f n gn al_ it pt tg bd) (hG : SafeG n gn al_ it pt tg bd) (hF : SafeF f) (c : Nat) (sg li co : Nat → Nat) (ht : RelT f c sg li co) (hS : SafeT c sg li co) (emp : Nat → Prop) (rk : Nat → Nat) (hA : Acyc (gE al_ it tg pt bd sg co) n emp rk) (hn : 0 < n) : Zm 8 zm_MO_fits [.ref 139] Mq (fun r9 M1 => r9 = some (.int (nI (if wh (gE al_ it tg pt bd sg co) n 0 0 c ≠ 0 then 1 else 0))) ∧ ∃ f9, MM M1 (up o 0 0) f9 ∧ Sm Mq M1 [139, 156, 157, 158, 159, 160] ∧ Fsame f f9 [139, 156, 157, 158, 159, 160] ∧ SafeF f9) := by
  show Zw 8 zm_MO_fits 0 [some (.ref 139)] [] Mq _
  have hn8 := hG.1
  have hc20 := hS.1
  have hli := hS.2.2.1
  have hco := hS.2.2.2
  refine zw_n 2 rfl ?_
  refine zw_put rfl hM.1 (rfl) (Nat.le_of_ble_eq_true rfl) ?_
  generalize ez2229 : List.set Mq 139 _ = Mz2228
  refine zw_n 1 rfl ?_
  refine zw_callV (as := []) (rest := []) rfl rfl rfl (zat_self ez2229 hM.1) rfl rfl rfl (by decide) (m_isGrammar Mz2228 (up o 0 0) f (MM.of (o' := up o 0 0) (f' := f) hM (Sm.tset Sm.rf ez2229 (by decide)) (zat_self ez2229 hM.1) (c1_skip (c1_cons (zat_set ez2229 (by decide) (hM.2 156 (by decide) (by decide))) (c1_cons (zat_set ez2229 (by decide) (hM.2 157 (by decide) (by decide))) (c1_cons (zat_set ez2229 (by decide) (hM.2 158 (by decide) (by decide))) (c1_cons (zat_set ez2229 (by decide) (hM.2 159 (by decide) (by decide))) (c1_cons (zat_set ez2229 (by decide) (hM.2 160 (by decide) (by decide))) c1_nil)))))) (fs_k (fs_k (fs_k (fs_k (fs_k (fs_k fs_n))))))) n gn al_ it pt tg bd hg hG hF) (fun rz2230 Mz2231 hz2232 => ?_)
  rw [hz2232.1, hz2232.2]
  show Zw 8 zm_MO_fits 9 [some (.ref 139)] [.int (nI (if 0 < n then 1 else 0))] Mz2228 _
  refine zw_eq0N (a := if 0 < n then 1 else 0) rfl rfl (ite_b) (fun c9 => ?_) (fun c9 => ?_)
  · -- 9 to 27
    exfalso
    exact ite_eq0 c9 hn
  · -- 9 to 12
    refine zw_n 1 rfl ?_
    refine zw_callV (as := []) (rest := []) rfl rfl rfl (zat_self ez2229 hM.1) rfl rfl rfl (by decide) (m_isFitting Mz2228 (up o 0 0) f (MM.of (o' := up o 0 0) (f' := f) hM (Sm.tset Sm.rf ez2229 (by decide)) (zat_self ez2229 hM.1) (c1_skip (c1_cons (zat_set ez2229 (by decide) (hM.2 156 (by decide) (by decide))) (c1_cons (zat_set ez2229 (by decide) (hM.2 157 (by decide) (by decide))) (c1_cons (zat_set ez2229 (by decide) (hM.2 158 (by decide) (by decide))) (c1_cons (zat_set ez2229 (by decide) (hM.2 159 (by decide) (by decide))) (c1_cons (zat_set ez2229 (by decide) (hM.2 160 (by decide) (by decide))) c1_nil)))))) (fs_k (fs_k (fs_k (fs_k (fs_k (fs_k fs_n))))))) n gn al_ it pt tg bd hg hG hF c sg li co ht hS emp rk hA (by omega)) (fun rz2241 Mz2242 hz2243 => ?_)
    obtain ⟨hAz2234, fz2233, hMMz2235, hSz2236, hFsz2237, hSFz2238, hz2239, hz2240⟩ := hz2243
    rw [hAz2234]
    show Zw 8 zm_MO_fits 16 [some (.ref 139)] [.int (nI (if wh (gE al_ it tg pt bd sg co) n 0 0 c ≠ 0 then 1 else 0))] Mz2242 _
    refine zw_eq0N (a := if wh (gE al_ it tg pt bd sg co) n 0 0 c ≠ 0 then 1 else 0) rfl rfl (ite_b) (fun c16 => ?_) (fun c16 => ?_)
    · -- 16 to 23
      refine zw_n 2 rfl ?_
      refine zw_top (x' := nI 0) (by decide) ?_
      exact zw_iret rfl rfl (⟨by rw [if_neg (ite_eq0 c16)], fset (fset (fset (fset (fset f 160 (fz2233 160)) 159 (fz2233 159)) 158 (fz2233 158)) 157 (fz2233 157)) 156 (fz2233 156), (MM.of (o' := up o 0 0) (f' := fset (fset (fset (fset (fset f 160 (fz2233 160)) 159 (fz2233 159)) 158 (fz2233 158)) 157 (fz2233 157)) 156 (fz2233 156)) hM (Sm.tw (Sm.tset Sm.rf ez2229 (by decide)) hSz2236 (by decide)) (Sm.at hSz2236 (by decide) (zat_self ez2229 hM.1)) (c1_skip (c1_cons (hMMz2235.2 156 (by decide) (by decide)) (c1_cons (hMMz2235.2 157 (by decide) (by decide)) (c1_cons (hMMz2235.2 158 (by decide) (by decide)) (c1_cons (hMMz2235.2 159 (by decide) (by decide)) (c1_cons (hMMz2235.2 160 (by decide) (by decide)) c1_nil)))))) (fs_k (fs_c (fs_c (fs_c (fs_c (fs_c fs_n))))))), Sm.tw (Sm.tset Sm.rf ez2229 (by decide)) hSz2236 (by decide), fs_k (fs_c (fs_c (fs_c (fs_c (fs_c fs_n))))), ⟨hF.1, hSFz2238.2.1, hSFz2238.2.2.1, hSFz2238.2.2.2.1, hSFz2238.2.2.2.2.1, hSFz2238.2.2.2.2.2⟩⟩)
    · -- 16 to 19
      refine zw_n 2 rfl ?_
      refine zw_top (x' := nI 1) (by decide) ?_
      exact zw_iret rfl rfl (⟨by rw [if_pos (ite_ne c16)], fset (fset (fset (fset (fset f 160 (fz2233 160)) 159 (fz2233 159)) 158 (fz2233 158)) 157 (fz2233 157)) 156 (fz2233 156), (MM.of (o' := up o 0 0) (f' := fset (fset (fset (fset (fset f 160 (fz2233 160)) 159 (fz2233 159)) 158 (fz2233 158)) 157 (fz2233 157)) 156 (fz2233 156)) hM (Sm.tw (Sm.tset Sm.rf ez2229 (by decide)) hSz2236 (by decide)) (Sm.at hSz2236 (by decide) (zat_self ez2229 hM.1)) (c1_skip (c1_cons (hMMz2235.2 156 (by decide) (by decide)) (c1_cons (hMMz2235.2 157 (by decide) (by decide)) (c1_cons (hMMz2235.2 158 (by decide) (by decide)) (c1_cons (hMMz2235.2 159 (by decide) (by decide)) (c1_cons (hMMz2235.2 160 (by decide) (by decide)) c1_nil)))))) (fs_k (fs_c (fs_c (fs_c (fs_c (fs_c fs_n))))))), Sm.tw (Sm.tset Sm.rf ez2229 (by decide)) hSz2236 (by decide), fs_k (fs_c (fs_c (fs_c (fs_c (fs_c fs_n))))), ⟨hF.1, hSFz2238.2.1, hSFz2238.2.2.1, hSFz2238.2.2.2.1, hSFz2238.2.2.2.2.1, hSFz2238.2.2.2.2.2⟩⟩)
