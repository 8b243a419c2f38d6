set_option maxHeartbeats 4000000 in
set_option maxRecDepth 100000 in
theorem m_openItem (Mq : zM) (o : Nat → Nat) (f : Nat → Nat → Nat) (hM : MM Mq o f)(n : Nat) (gn al_ it pt tg bd : Nat → Nat) (hg : RelG f n gn al_ it pt tg bd) (hG : SafeG n gn al_ it pt tg bd) (hF : SafeF f) (x p m : Nat) (hx : Slt n al_ it x) (hx1 : x < 160) (hp : p ≤ m) (hm : m < 22) : Zm 2 zm_MO_openItem [.ref 139, .int (nI (49 + 3 * x)), .int (nI p), .int (nI m)] Mq (fun r9 M1 => r9 = some (.long (lN (oiV (gE al_ it tg pt bd (f 156) (f 157)) (v3 (f 158)) (f 161) m x p))) ∧ M1 = Mq) := by
  show Zw 2 zm_MO_openItem 0 [some (.ref 139), some (.int (nI (49 + 3 * x))), some (.int (nI p)), some (.int (nI m))] [] Mq _
  have htg := hG.2.2.2.2.2.1 x
  refine zw_n 2 rfl ?_
  refine zw_callV (as := [.int (nI (49 + 3 * x))]) (rest := []) rfl rfl rfl hM.1 rfl rfl rfl (by decide) (m_partOf Mq o f hM n gn al_ it pt tg bd hg hG hF x hx hx1) (fun rz3861 Mz3862 hz3863 => ?_)
  rw [hz3863.1, hz3863.2]
  show Zw 2 zm_MO_openItem 5 [some (.ref 139), some (.int (nI (49 + 3 * x))), some (.int (nI p)), some (.int (nI m))] [.int (nI (tg x))] Mq _
  refine zw_n 1 rfl ?_
  refine zw_ieqM (a := tg x) rfl rfl (by omega) (fun c6 => ?_) (fun c6 => ?_)
  · -- 6 to 25
    refine zw_n 2 rfl ?_
    refine zw_ineN (a := p) (b := m) rfl rfl rfl (by omega) (by omega) (fun c27 => ?_) (fun c27 => ?_)
    · -- 27 to 36
      refine zw_n 4 rfl ?_
      refine zw_top (ns (a := m) (b := 1) rfl rfl (by omega)) ?_
      refine zw_ineN (a := p) (b := m - 1) rfl rfl rfl (by omega) (by omega) (fun c40 => ?_) (fun c40 => ?_)
      · -- 40 to 53
        refine zw_n 1 rfl ?_
        refine zw_topl (x' := lN 0) (by decide) ?_
        exact zw_lret rfl rfl (⟨by unfold oiV; rw [if_neg (fun q => q (show (gE al_ it tg pt bd (f 156) (f 157)) 2 x = NO from c6)), if_neg c27, if_neg (by omega)]; try rfl, rfl⟩)
      · -- 40 to 43
        refine zw_n 4 rfl ?_
        refine zw_callV (as := [.int (nI (49 + 3 * x)), .int (nI p), .int (nI m)]) (rest := []) rfl rfl rfl hM.1 rfl rfl rfl (by decide) (m_whereItem Mq o f hM n gn al_ it pt tg bd hg hG hF x p m hx hx1 (by omega) (by omega)) (fun rz3864 Mz3865 hz3866 => ?_)
        rw [hz3866.1, hz3866.2]
        show Zw 2 zm_MO_openItem 50 [some (.ref 139), some (.int (nI (49 + 3 * x))), some (.int (nI p)), some (.int (nI m))] [.long (lN (itm (gE al_ it tg pt bd (f 156) (f 157)) (v3 (f 158)) x p m))] Mq _
        refine zw_n 1 rfl ?_
        exact zw_lret rfl rfl (⟨by unfold oiV; rw [if_neg (fun q => q (show (gE al_ it tg pt bd (f 156) (f 157)) 2 x = NO from c6)), if_neg c27, if_pos (by omega)]; try rfl, rfl⟩)
    · -- 27 to 30
      refine zw_n 2 rfl ?_
      refine zw_topl (x' := lN 1099511627775) (by decide) ?_
      exact zw_lret rfl rfl (⟨by unfold oiV; rw [if_neg (fun q => q (show (gE al_ it tg pt bd (f 156) (f 157)) 2 x = NO from c6)), if_pos c27]; try rfl, rfl⟩)
  · -- 6 to 9
    refine zw_n 1 rfl ?_
    refine zw_get (v := .ref 161) rfl hM.1 rfl ?_
    refine zw_n 3 rfl ?_
    refine zw_callV (as := [.int (nI (49 + 3 * x))]) (rest := [.int 22, .ref 161]) rfl rfl rfl hM.1 rfl rfl rfl (by decide) (m_partOf Mq o f hM n gn al_ it pt tg bd hg hG hF x hx hx1) (fun rz3867 Mz3868 hz3869 => ?_)
    rw [hz3869.1, hz3869.2]
    show Zw 2 zm_MO_openItem 20 [some (.ref 139), some (.int (nI (49 + 3 * x))), some (.int (nI p)), some (.int (nI m))] [.int (nI (tg x)), .int 22, .ref 161] Mq _
    refine zw_n 1 rfl ?_
    refine zw_top (nm (a := 22) (b := tg x) rfl rfl) ?_
    refine zw_n 2 rfl ?_
    refine zw_top (na (a := 22 * (tg x)) (b := p) rfl rfl) ?_
    refine zw_lald (f := al (f 161)) (j := ((22 * (tg x)) + p)) rfl (hM.2 161 (by decide) (by decide)) rfl (by decide) (by omega) ?_
    exact zw_lret rfl rfl (⟨by unfold oiV; rw [if_pos (show (gE al_ it tg pt bd (f 156) (f 157)) 2 x ≠ NO from c6)]; rfl, rfl⟩)

set_option maxHeartbeats 4000000 in
set_option maxRecDepth 100000 in
theorem m_openAlt (Mq : zM) (o : Nat → Nat) (f : Nat → Nat → Nat) (hM : MM Mq o f)(n : Nat) (gn al_ it pt tg bd : Nat → Nat) (hg : RelG f n gn al_ it pt tg bd) (hG : SafeG n gn al_ it pt tg bd) (hF : SafeF f) (h4 : SafeM (f 154)) (h5 : SafeM (f 155)) (hSO : SafeM (f 161)) (r a i m : Nat) (hr : r < n) (ha : a < al_ r) (him : i ≤ m) (hm : m < 22) : Zm 3 zm_MO_openAlt [.ref 139, .int (nI r), .int (nI a), .int (nI i), .int (nI m)] Mq (fun r9 M1 => r9 = some (.long (lN (oaV (gE al_ it tg pt bd (f 156) (f 157)) (v3 (f 158)) (f 154) (f 161) m (r * 4 + a) i))) ∧ ∃ A B, MM M1 o (fset (fset f 160 B) 159 A) ∧ Sm Mq M1 [159, 160] ∧ SafeM A ∧ SafeM B) := by
  show Zw 3 zm_MO_openAlt 0 [some (.ref 139), some (.int (nI r)), some (.int (nI a)), some (.int (nI i)), some (.int (nI m)), none, none, none, none, none, none, none] [] Mq _
  have hn8 := hG.1
  have ha4 := hG.2.2.1 r
  have hi5 := hG.2.2.2.1 (r * 4 + a)
  refine zw_n 5 (ls' := [some (.ref 139), some (.int (nI r)), some (.int (nI a)), some (.int (nI i)), some (.int (nI m)), some (.long 0), none, none, none, none, none, none]) rfl ?_
  refine zw_callV (as := [.int (nI i), .int (nI m)]) (rest := []) rfl rfl rfl hM.1 rfl rfl rfl (by decide) (m_startReach Mq o f hM i m (by omega) (by omega) hF.2.2.2.2.1) (fun rz3876 Mz3877 hz3878 => ?_)
  obtain ⟨hAz3871, Az3870, hMMz3872, hSz3873, hz3874, hz3875⟩ := hz3878
  rw [hAz3871]
  show Zw 3 zm_MO_openAlt 10 [some (.ref 139), some (.int (nI r)), some (.int (nI a)), some (.int (nI i)), some (.int (nI m)), some (.long 0), none, none, none, none, none, none] [] Mz3877 _
  refine zw_n 2 (ls' := [some (.ref 139), some (.int (nI r)), some (.int (nI a)), some (.int (nI i)), some (.int (nI m)), some (.long 0), none, some (.int 0), none, none, none, none]) rfl ?_
  have lp13 : ∀ (n13 : Nat) (its : Nat) (k : Nat) (A1 : Nat → Nat) (B1 : Nat → Nat) (M_13 : zM), Sm Mq M_13 [159, 160] → M_13[159]? = some (.inl (1, 22, .inr (.inl (al A1)))) → M_13[160]? = some (.inl (1, 22, .inr (.inl (al B1)))) → (k ≤ it (r * 4 + a) ∧ its = orR (oaK (gE al_ it tg pt bd (f 156) (f 157)) (v3 (f 158)) (f 154) (f 161) m (r * 4 + a) i) 0 k ∧ SafeM A1 ∧ SafeM B1 ∧ ∀ q, i ≤ q → q ≤ m → A1 q = rch (gE al_ it tg pt bd (f 156) (f 157)) (v3 (f 158)) i (r * 4 + a) k q) → it (r * 4 + a) - k < n13 → Zw 3 zm_MO_openAlt 13 [some (.ref 139), some (.int (nI r)), some (.int (nI a)), some (.int (nI i)), some (.int (nI m)), some (.long (lN its)), none, some (.int (nI k)), none, none, none, none] [] M_13 (fun r9 M1 => r9 = some (.long (lN (oaV (gE al_ it tg pt bd (f 156) (f 157)) (v3 (f 158)) (f 154) (f 161) m (r * 4 + a) i))) ∧ ∃ A B, MM M1 o (fset (fset f 160 B) 159 A) ∧ Sm Mq M1 [159, 160] ∧ SafeM A ∧ SafeM B) := by
    intro n13
    induction n13 with
    | zero => intro its k A1 B1 M_13 _ _ _ _ h; exact absurd h (Nat.not_lt_zero _)
    | succ n13 ih13 =>
      intro its k A1 B1 M_13 s_13 f13_0 f13_1 hi13 hm13
      refine zw_n 4 rfl ?_
      refine zw_callV (as := [.int (nI r), .int (nI a)]) (rest := [.int (nI k)]) rfl rfl rfl (Sm.at s_13 (by decide) hM.1) rfl rfl rfl (by decide) (m_items M_13 o (fset (fset f 160 B1) 159 A1) (MM.of (o' := o) (f' := fset (fset f 160 B1) 159 A1) hM s_13 (Sm.at s_13 (by decide) hM.1) (c1_cons f13_0 (c1_cons f13_1 c1_nil)) (fs_c (fs_c fs_n))) n gn al_ it pt tg bd hg hG (⟨hF.1, hF.2.1, hF.2.2.1, hF.2.2.2.1, hi13.2.2.1, hi13.2.2.2.1⟩) r a (by omega) (by omega)) (fun rz3879 Mz3880 hz3881 => ?_)
      rw [hz3881.1, hz3881.2]
      show Zw 3 zm_MO_openAlt 21 [some (.ref 139), some (.int (nI r)), some (.int (nI a)), some (.int (nI i)), some (.int (nI m)), some (.long (lN its)), none, some (.int (nI k)), none, none, none, none] [.int (nI (it (r * 4 + a))), .int (nI k)] M_13 _
      refine zw_igeN (a := k) (b := it (r * 4 + a)) rfl rfl rfl (by omega) (by omega) (fun c21 => ?_) (fun c21 => ?_)
      · -- 21 to 162
        refine zw_n 1 rfl ?_
        exact zw_lret rfl rfl (⟨by rw [hi13.2.1, show k = it (r * 4 + a) by omega]; rfl, A1, B1, (MM.of (o' := o) (f' := fset (fset f 160 B1) 159 A1) hM s_13 (Sm.at s_13 (by decide) hM.1) (c1_cons f13_0 (c1_cons f13_1 c1_nil)) (fs_c (fs_c fs_n))), s_13, hi13.2.2.1, hi13.2.2.2.1⟩)
      · -- 21 to 24
        refine zw_n 3 rfl ?_
        refine zw_callS (as := [.int (nI r), .int (nI a), .int (nI k)]) (rest := []) rfl rfl rfl rfl rfl rfl (by decide) (m_itemAt _ r a k) (fun rz3882 Mz3883 hz3884 => ?_)
        rw [hz3884.1, hz3884.2]
        show Zw 3 zm_MO_openAlt 31 [some (.ref 139), some (.int (nI r)), some (.int (nI a)), some (.int (nI i)), some (.int (nI m)), some (.long (lN its)), none, some (.int (nI k)), none, none, none, none] [.int (nI (49 + 3 * ((r * 4 + a) * 5 + k)))] M_13 _
        refine zw_n 6 (ls' := [some (.ref 139), some (.int (nI r)), some (.int (nI a)), some (.int (nI i)), some (.int (nI m)), some (.long (lN its)), none, some (.int (nI k)), some (.int (nI (49 + 3 * ((r * 4 + a) * 5 + k)))), some (.long 1099511627775), none, none]) rfl ?_
        refine zw_top (na (a := k) (b := 1) rfl rfl) ?_
        refine zw_n 1 (ls' := [some (.ref 139), some (.int (nI r)), some (.int (nI a)), some (.int (nI i)), some (.int (nI m)), some (.long (lN its)), none, some (.int (nI k)), some (.int (nI (49 + 3 * ((r * 4 + a) * 5 + k)))), some (.long 1099511627775), none, some (.int (nI (k + 1)))]) rfl ?_
        have lp44 : ∀ (n44 : Nat) (rs : Nat) (l : Nat), (k + 1 ≤ l ∧ l ≤ it (r * 4 + a) ∧ rs = andR (fun j => frI tg bd (f 154) ((r * 4 + a) * 5 + j)) (k + 1) (l - (k + 1))) → it (r * 4 + a) - l < n44 → Zw 3 zm_MO_openAlt 44 [some (.ref 139), some (.int (nI r)), some (.int (nI a)), some (.int (nI i)), some (.int (nI m)), some (.long (lN its)), none, some (.int (nI k)), some (.int (nI (49 + 3 * ((r * 4 + a) * 5 + k)))), some (.long (lN rs)), none, some (.int (nI l))] [] M_13 (fun r9 M1 => r9 = some (.long (lN (oaV (gE al_ it tg pt bd (f 156) (f 157)) (v3 (f 158)) (f 154) (f 161) m (r * 4 + a) i))) ∧ ∃ A B, MM M1 o (fset (fset f 160 B) 159 A) ∧ Sm Mq M1 [159, 160] ∧ SafeM A ∧ SafeM B) := by
          intro n44
          induction n44 with
          | zero => intro rs l _ h; exact absurd h (Nat.not_lt_zero _)
          | succ n44 ih44 =>
            intro rs l hi44 hm44
            refine zw_n 4 rfl ?_
            refine zw_callV (as := [.int (nI r), .int (nI a)]) (rest := [.int (nI l)]) rfl rfl rfl (Sm.at s_13 (by decide) hM.1) rfl rfl rfl (by decide) (m_items M_13 o (fset (fset f 160 B1) 159 A1) (MM.of (o' := o) (f' := fset (fset f 160 B1) 159 A1) hM s_13 (Sm.at s_13 (by decide) hM.1) (c1_cons f13_0 (c1_cons f13_1 c1_nil)) (fs_c (fs_c fs_n))) n gn al_ it pt tg bd hg hG (⟨hF.1, hF.2.1, hF.2.2.1, hF.2.2.2.1, hi13.2.2.1, hi13.2.2.2.1⟩) r a (by omega) (by omega)) (fun rz3885 Mz3886 hz3887 => ?_)
            rw [hz3887.1, hz3887.2]
            show Zw 3 zm_MO_openAlt 52 [some (.ref 139), some (.int (nI r)), some (.int (nI a)), some (.int (nI i)), some (.int (nI m)), some (.long (lN its)), none, some (.int (nI k)), some (.int (nI (49 + 3 * ((r * 4 + a) * 5 + k)))), some (.long (lN rs)), none, some (.int (nI l))] [.int (nI (it (r * 4 + a))), .int (nI l)] M_13 _
            refine zw_igeN (a := l) (b := it (r * 4 + a)) rfl rfl rfl (by omega) (by omega) (fun c52 => ?_) (fun c52 => ?_)
            · -- 52 to 77
              obtain rfl : rs = rst (gE al_ it tg pt bd (f 156) (f 157)) (f 154) (r * 4 + a) k := by rw [hi44.2.2, show l = it (r * 4 + a) by omega]; rfl
              have hbd9 := hG.2.2.2.2.2.2 ((r * 4 + a) * 5 + k)
              refine zw_n 2 (ls' := [some (.ref 139), some (.int (nI r)), some (.int (nI a)), some (.int (nI i)), some (.int (nI m)), some (.long (lN its)), none, some (.int (nI k)), some (.int (nI (49 + 3 * ((r * 4 + a) * 5 + k)))), some (.long (lN (rst (gE al_ it tg pt bd (f 156) (f 157)) (f 154) (r * 4 + a) k))), none, some (.int (nI i))]) rfl ?_
              have lp80 : ∀ (n80 : Nat) (it2 : Nat) (p : Nat), (i ≤ p ∧ p ≤ m + 1 ∧ it2 = its ||| orR (fun p => (rch (gE al_ it tg pt bd (f 156) (f 157)) (v3 (f 158)) i (r * 4 + a) k p &&& rst (gE al_ it tg pt bd (f 156) (f 157)) (f 154) (r * 4 + a) k) &&& letsN (bd ((r * 4 + a) * 5 + k)) (oiV (gE al_ it tg pt bd (f 156) (f 157)) (v3 (f 158)) (f 161) m ((r * 4 + a) * 5 + k) p)) i (p - i)) → m + 1 - p < n80 → Zw 3 zm_MO_openAlt 80 [some (.ref 139), some (.int (nI r)), some (.int (nI a)), some (.int (nI i)), some (.int (nI m)), some (.long (lN it2)), none, some (.int (nI k)), some (.int (nI (49 + 3 * ((r * 4 + a) * 5 + k)))), some (.long (lN (rst (gE al_ it tg pt bd (f 156) (f 157)) (f 154) (r * 4 + a) k))), none, some (.int (nI p))] [] M_13 (fun r9 M1 => r9 = some (.long (lN (oaV (gE al_ it tg pt bd (f 156) (f 157)) (v3 (f 158)) (f 154) (f 161) m (r * 4 + a) i))) ∧ ∃ A B, MM M1 o (fset (fset f 160 B) 159 A) ∧ Sm Mq M1 [159, 160] ∧ SafeM A ∧ SafeM B) := by
                intro n80
                induction n80 with
                | zero => intro it2 p _ h; exact absurd h (Nat.not_lt_zero _)
                | succ n80 ih80 =>
                  intro it2 p hi80 hm80
                  refine zw_n 2 rfl ?_
                  refine zw_igtN (a := p) (b := m) rfl rfl rfl (by omega) (by omega) (fun c84 => ?_) (fun c84 => ?_)
                  · -- 84 to 147
                    refine zw_n 4 rfl ?_
                    refine zw_callV (as := [.int (nI (49 + 3 * ((r * 4 + a) * 5 + k))), .int (nI i), .int (nI m)]) (rest := []) rfl rfl rfl (Sm.at s_13 (by decide) hM.1) rfl rfl rfl (by decide) (m_step M_13 o (fset (fset f 160 B1) 159 A1) (MM.of (o' := o) (f' := fset (fset f 160 B1) 159 A1) hM s_13 (Sm.at s_13 (by decide) hM.1) (c1_cons f13_0 (c1_cons f13_1 c1_nil)) (fs_c (fs_c fs_n))) n gn al_ it pt tg bd hg hG (⟨hF.1, hF.2.1, hF.2.2.1, hF.2.2.2.1, hi13.2.2.1, hi13.2.2.2.1⟩) ((r * 4 + a) * 5 + k) i m ⟨r, a, k, hr, ha, by omega, rfl⟩ (by omega) (by omega) (by omega)) (fun rz3896 Mz3897 hz3898 => ?_)
                    obtain ⟨hAz3890, Az3888, Az3889, hMMz3891, hSz3892, hz3893, hz3894, hz3895⟩ := hz3898
                    rw [hAz3890]
                    show Zw 3 zm_MO_openAlt 156 [some (.ref 139), some (.int (nI r)), some (.int (nI a)), some (.int (nI i)), some (.int (nI m)), some (.long (lN it2)), none, some (.int (nI k)), some (.int (nI (49 + 3 * ((r * 4 + a) * 5 + k)))), some (.long (lN (rst (gE al_ it tg pt bd (f 156) (f 157)) (f 154) (r * 4 + a) k))), none, some (.int (nI p))] [] Mz3897 _
                    refine zw_inc rfl (x' := (nI (k + 1))) (ls' := [some (.ref 139), some (.int (nI r)), some (.int (nI a)), some (.int (nI i)), some (.int (nI m)), some (.long (lN it2)), none, some (.int (nI (k + 1))), some (.int (nI (49 + 3 * ((r * 4 + a) * 5 + k)))), some (.long (lN (rst (gE al_ it tg pt bd (f 156) (f 157)) (f 154) (r * 4 + a) k))), none, some (.int (nI p))]) rfl (na (a := k) (b := 1) rfl rfl) rfl ?_
                    refine zw_n 1 rfl ?_
                    refine zw_ls (ls' := [some (.ref 139), some (.int (nI r)), some (.int (nI a)), some (.int (nI i)), some (.int (nI m)), some (.long (lN it2)), none, some (.int (nI (k + 1))), none, none, none, none]) ⟨Or.inr rfl, Or.inr rfl, Or.inr rfl, Or.inr rfl, Or.inr rfl, Or.inr rfl, Or.inl rfl, Or.inr rfl, Or.inl rfl, Or.inl rfl, Or.inl rfl, Or.inl rfl, trivial⟩ ?_
                    exact ih13 it2 (k + 1) Az3888 Az3889 Mz3897 (Sm.trans s_13 hSz3892) (hMMz3891.2 159 (by decide) (by decide)) (hMMz3891.2 160 (by decide) (by decide)) (⟨by omega, by rw [hi80.2.2, hi13.2.1, orR, Nat.zero_add, show p - i = m + 1 - i by omega]; rfl, hz3893, hz3894, fun q p1 p2 => (hz3895 q p1 p2).trans (stp_rch hi13.2.2.2.2 p2)⟩) (by omega)
                  · -- 84 to 87
                    refine zw_n 2 rfl ?_
                    refine zw_get (v := .ref 159) rfl (Sm.at s_13 (by decide) hM.1) rfl ?_
                    refine zw_n 1 rfl ?_
                    refine zw_lald (f := al A1) (j := p) rfl f13_0 rfl (by decide) (by omega) ?_
                    refine zw_topl (x' := (lN (rch (gE al_ it tg pt bd (f 156) (f 157)) (v3 (f 158)) i (r * 4 + a) k p))) (congrArg lN (hi13.2.2.2.2 p (by omega) (by omega))) ?_
                    refine zw_n 2 rfl ?_
                    refine zw_lneN (a := rch (gE al_ it tg pt bd (f 156) (f 157)) (v3 (f 158)) i (r * 4 + a) k p) (b := 0) rfl rfl rfl (by first | exact Nat.lt_trans (rch_lt _ _) (by decide) | decide) (by first | exact Nat.lt_trans (rch_lt _ _) (by decide) | decide) (fun c98 => ?_) (fun c98 => ?_)
                    · -- 98 to 105
                      refine zw_n 1 rfl ?_
                      refine zw_get (v := .ref 159) rfl (Sm.at s_13 (by decide) hM.1) rfl ?_
                      refine zw_n 1 rfl ?_
                      refine zw_lald (f := al A1) (j := p) rfl f13_0 rfl (by decide) (by omega) ?_
                      refine zw_topl (x' := (lN (rch (gE al_ it tg pt bd (f 156) (f 157)) (v3 (f 158)) i (r * 4 + a) k p))) (congrArg lN (hi13.2.2.2.2 p (by omega) (by omega))) ?_
                      refine zw_n 2 rfl ?_
                      refine zw_topl (lan (a := rch (gE al_ it tg pt bd (f 156) (f 157)) (v3 (f 158)) i (r * 4 + a) k p) (b := rst (gE al_ it tg pt bd (f 156) (f 157)) (f 154) (r * 4 + a) k) rfl rfl) ?_
                      refine zw_n 1 rfl ?_
                      refine zw_get (v := .ref 140) rfl (Sm.at s_13 (by decide) hM.1) rfl ?_
                      refine zw_n 3 rfl ?_
                      refine zw_top (na (a := 49 + 3 * ((r * 4 + a) * 5 + k)) (b := 2) rfl rfl) ?_
                      refine zw_iald (f := ai (f 140)) (j := ((49 + 3 * ((r * 4 + a) * 5 + k)) + 2)) rfl (Sm.at s_13 (by decide) (hM.2 140 (by decide) (by decide))) rfl (by decide) (by omega) ?_
                      refine zw_top (x' := (nI (bd ((r * 4 + a) * 5 + k)))) (congrArg nI (hg.2.2.2.2 ((r * 4 + a) * 5 + k) ⟨r, a, k, hr, ha, by omega, rfl⟩).2.2.1) ?_
                      refine zw_n 4 rfl ?_
                      refine zw_callV (as := [.int (nI (49 + 3 * ((r * 4 + a) * 5 + k))), .int (nI p), .int (nI m)]) (rest := [.int (nI (bd ((r * 4 + a) * 5 + k))), .long (lN ((rch (gE al_ it tg pt bd (f 156) (f 157)) (v3 (f 158)) i (r * 4 + a) k p) &&& (rst (gE al_ it tg pt bd (f 156) (f 157)) (f 154) (r * 4 + a) k))), .long (lN it2)]) rfl rfl rfl (Sm.at s_13 (by decide) hM.1) rfl rfl rfl (by decide) (m_openItem M_13 o (fset (fset f 160 B1) 159 A1) (MM.of (o' := o) (f' := fset (fset f 160 B1) 159 A1) hM s_13 (Sm.at s_13 (by decide) hM.1) (c1_cons f13_0 (c1_cons f13_1 c1_nil)) (fs_c (fs_c fs_n))) n gn al_ it pt tg bd hg hG (⟨hF.1, hF.2.1, hF.2.2.1, hF.2.2.2.1, hi13.2.2.1, hi13.2.2.2.1⟩) ((r * 4 + a) * 5 + k) p m ⟨r, a, k, hr, ha, by omega, rfl⟩ (by omega) (by omega) (by omega)) (fun rz3899 Mz3900 hz3901 => ?_)
                      rw [hz3901.1, hz3901.2]
                      show Zw 3 zm_MO_openAlt 134 [some (.ref 139), some (.int (nI r)), some (.int (nI a)), some (.int (nI i)), some (.int (nI m)), some (.long (lN it2)), none, some (.int (nI k)), some (.int (nI (49 + 3 * ((r * 4 + a) * 5 + k)))), some (.long (lN (rst (gE al_ it tg pt bd (f 156) (f 157)) (f 154) (r * 4 + a) k))), none, some (.int (nI p))] [.long (lN (oiV (gE al_ it tg pt bd (f 156) (f 157)) (v3 (f 158)) (f 161) m ((r * 4 + a) * 5 + k) p)), .int (nI (bd ((r * 4 + a) * 5 + k))), .long (lN ((rch (gE al_ it tg pt bd (f 156) (f 157)) (v3 (f 158)) i (r * 4 + a) k p) &&& (rst (gE al_ it tg pt bd (f 156) (f 157)) (f 154) (r * 4 + a) k))), .long (lN it2)] M_13 _
                      refine zw_callS (as := [.int (nI (bd ((r * 4 + a) * 5 + k))), .long (lN (oiV (gE al_ it tg pt bd (f 156) (f 157)) (v3 (f 158)) (f 161) m ((r * 4 + a) * 5 + k) p))]) (rest := [.long (lN ((rch (gE al_ it tg pt bd (f 156) (f 157)) (v3 (f 158)) i (r * 4 + a) k p) &&& (rst (gE al_ it tg pt bd (f 156) (f 157)) (f 154) (r * 4 + a) k))), .long (lN it2)]) rfl rfl rfl rfl rfl rfl (by decide) (m_lets _ _ _ (by omega) (oiV_lt hSO (fun _ _ _ => hF.2.2.2.1 _) (fun q => hF.2.2.1 q))) (fun rz3902 Mz3903 hz3904 => ?_)
                      rw [hz3904.1, hz3904.2]
                      show Zw 3 zm_MO_openAlt 137 [some (.ref 139), some (.int (nI r)), some (.int (nI a)), some (.int (nI i)), some (.int (nI m)), some (.long (lN it2)), none, some (.int (nI k)), some (.int (nI (49 + 3 * ((r * 4 + a) * 5 + k)))), some (.long (lN (rst (gE al_ it tg pt bd (f 156) (f 157)) (f 154) (r * 4 + a) k))), none, some (.int (nI p))] [.long (lN (letsN (bd ((r * 4 + a) * 5 + k)) (oiV (gE al_ it tg pt bd (f 156) (f 157)) (v3 (f 158)) (f 161) m ((r * 4 + a) * 5 + k) p))), .long (lN ((rch (gE al_ it tg pt bd (f 156) (f 157)) (v3 (f 158)) i (r * 4 + a) k p) &&& (rst (gE al_ it tg pt bd (f 156) (f 157)) (f 154) (r * 4 + a) k))), .long (lN it2)] M_13 _
                      refine zw_n 1 rfl ?_
                      refine zw_topl (lan (a := (rch (gE al_ it tg pt bd (f 156) (f 157)) (v3 (f 158)) i (r * 4 + a) k p) &&& (rst (gE al_ it tg pt bd (f 156) (f 157)) (f 154) (r * 4 + a) k)) (b := letsN (bd ((r * 4 + a) * 5 + k)) (oiV (gE al_ it tg pt bd (f 156) (f 157)) (v3 (f 158)) (f 161) m ((r * 4 + a) * 5 + k) p)) rfl rfl) ?_
                      refine zw_n 1 rfl ?_
                      refine zw_topl (lo (a := it2) (b := ((rch (gE al_ it tg pt bd (f 156) (f 157)) (v3 (f 158)) i (r * 4 + a) k p) &&& (rst (gE al_ it tg pt bd (f 156) (f 157)) (f 154) (r * 4 + a) k)) &&& (letsN (bd ((r * 4 + a) * 5 + k)) (oiV (gE al_ it tg pt bd (f 156) (f 157)) (v3 (f 158)) (f 161) m ((r * 4 + a) * 5 + k) p))) rfl rfl) ?_
                      refine zw_n 1 (ls' := [some (.ref 139), some (.int (nI r)), some (.int (nI a)), some (.int (nI i)), some (.int (nI m)), some (.long (lN (it2 ||| (((rch (gE al_ it tg pt bd (f 156) (f 157)) (v3 (f 158)) i (r * 4 + a) k p) &&& (rst (gE al_ it tg pt bd (f 156) (f 157)) (f 154) (r * 4 + a) k)) &&& (letsN (bd ((r * 4 + a) * 5 + k)) (oiV (gE al_ it tg pt bd (f 156) (f 157)) (v3 (f 158)) (f 161) m ((r * 4 + a) * 5 + k) p)))))), none, some (.int (nI k)), some (.int (nI (49 + 3 * ((r * 4 + a) * 5 + k)))), some (.long (lN (rst (gE al_ it tg pt bd (f 156) (f 157)) (f 154) (r * 4 + a) k))), none, some (.int (nI p))]) rfl ?_
                      refine zw_inc rfl (x' := (nI (p + 1))) (ls' := [some (.ref 139), some (.int (nI r)), some (.int (nI a)), some (.int (nI i)), some (.int (nI m)), some (.long (lN (it2 ||| (((rch (gE al_ it tg pt bd (f 156) (f 157)) (v3 (f 158)) i (r * 4 + a) k p) &&& (rst (gE al_ it tg pt bd (f 156) (f 157)) (f 154) (r * 4 + a) k)) &&& (letsN (bd ((r * 4 + a) * 5 + k)) (oiV (gE al_ it tg pt bd (f 156) (f 157)) (v3 (f 158)) (f 161) m ((r * 4 + a) * 5 + k) p)))))), none, some (.int (nI k)), some (.int (nI (49 + 3 * ((r * 4 + a) * 5 + k)))), some (.long (lN (rst (gE al_ it tg pt bd (f 156) (f 157)) (f 154) (r * 4 + a) k))), none, some (.int (nI (p + 1)))]) rfl (na (a := p) (b := 1) rfl rfl) rfl ?_
                      refine zw_n 1 rfl ?_
                      exact ih80 (it2 ||| (((rch (gE al_ it tg pt bd (f 156) (f 157)) (v3 (f 158)) i (r * 4 + a) k p) &&& (rst (gE al_ it tg pt bd (f 156) (f 157)) (f 154) (r * 4 + a) k)) &&& (letsN (bd ((r * 4 + a) * 5 + k)) (oiV (gE al_ it tg pt bd (f 156) (f 157)) (v3 (f 158)) (f 161) m ((r * 4 + a) * 5 + k) p)))) (p + 1) (⟨by omega, by omega, by rw [hi80.2.2, Nat.or_assoc]; congr 1; first | exact orR_s rfl hi80.1 rfl | exact orR_s rfl hi80.1 (show (rch (gE al_ it tg pt bd (f 156) (f 157)) (v3 (f 158)) i (r * 4 + a) k p &&& _) &&& _ = 0 by rw [c98, Nat.zero_and, Nat.zero_and])⟩) (by omega)
                    · -- 98 to 101
                      refine zw_n 3 rfl ?_
                      refine zw_topl (lo (a := it2) (b := 0) rfl rfl) ?_
                      refine zw_n 1 (ls' := [some (.ref 139), some (.int (nI r)), some (.int (nI a)), some (.int (nI i)), some (.int (nI m)), some (.long (lN (it2 ||| 0))), none, some (.int (nI k)), some (.int (nI (49 + 3 * ((r * 4 + a) * 5 + k)))), some (.long (lN (rst (gE al_ it tg pt bd (f 156) (f 157)) (f 154) (r * 4 + a) k))), none, some (.int (nI p))]) rfl ?_
                      refine zw_inc rfl (x' := (nI (p + 1))) (ls' := [some (.ref 139), some (.int (nI r)), some (.int (nI a)), some (.int (nI i)), some (.int (nI m)), some (.long (lN (it2 ||| 0))), none, some (.int (nI k)), some (.int (nI (49 + 3 * ((r * 4 + a) * 5 + k)))), some (.long (lN (rst (gE al_ it tg pt bd (f 156) (f 157)) (f 154) (r * 4 + a) k))), none, some (.int (nI (p + 1)))]) rfl (na (a := p) (b := 1) rfl rfl) rfl ?_
                      refine zw_n 1 rfl ?_
                      exact ih80 (it2 ||| 0) (p + 1) (⟨by omega, by omega, by rw [hi80.2.2, Nat.or_assoc]; congr 1; first | exact orR_s rfl hi80.1 rfl | exact orR_s rfl hi80.1 (show (rch (gE al_ it tg pt bd (f 156) (f 157)) (v3 (f 158)) i (r * 4 + a) k p &&& _) &&& _ = 0 by rw [c98, Nat.zero_and, Nat.zero_and])⟩) (by omega)
              exact lp80 _ its i (⟨Nat.le_refl _, by omega, by rw [Nat.sub_self]; exact (Nat.or_zero _).symm⟩) (Nat.lt_succ_self _)
            · -- 52 to 55
              refine zw_n 5 rfl ?_
              refine zw_callS (as := [.int (nI r), .int (nI a), .int (nI l)]) (rest := [.ref 139, .long (lN rs)]) rfl rfl rfl rfl rfl rfl (by decide) (m_itemAt _ r a l) (fun rz3905 Mz3906 hz3907 => ?_)
              rw [hz3907.1, hz3907.2]
              show Zw 3 zm_MO_openAlt 65 [some (.ref 139), some (.int (nI r)), some (.int (nI a)), some (.int (nI i)), some (.int (nI m)), some (.long (lN its)), none, some (.int (nI k)), some (.int (nI (49 + 3 * ((r * 4 + a) * 5 + k)))), some (.long (lN rs)), none, some (.int (nI l))] [.int (nI (49 + 3 * ((r * 4 + a) * 5 + l))), .ref 139, .long (lN rs)] M_13 _
              refine zw_callV (as := [.int (nI (49 + 3 * ((r * 4 + a) * 5 + l)))]) (rest := [.long (lN rs)]) rfl rfl rfl (Sm.at s_13 (by decide) hM.1) rfl rfl rfl (by decide) (m_freeItem M_13 o (fset (fset f 160 B1) 159 A1) (MM.of (o' := o) (f' := fset (fset f 160 B1) 159 A1) hM s_13 (Sm.at s_13 (by decide) hM.1) (c1_cons f13_0 (c1_cons f13_1 c1_nil)) (fs_c (fs_c fs_n))) n gn al_ it pt tg bd hg hG (⟨hF.1, hF.2.1, hF.2.2.1, hF.2.2.2.1, hi13.2.2.1, hi13.2.2.2.1⟩) h4 h5 ((r * 4 + a) * 5 + l) ⟨r, a, l, hr, ha, by omega, rfl⟩ (by omega)) (fun rz3908 Mz3909 hz3910 => ?_)
              rw [hz3910.1, hz3910.2]
              show Zw 3 zm_MO_openAlt 68 [some (.ref 139), some (.int (nI r)), some (.int (nI a)), some (.int (nI i)), some (.int (nI m)), some (.long (lN its)), none, some (.int (nI k)), some (.int (nI (49 + 3 * ((r * 4 + a) * 5 + k)))), some (.long (lN rs)), none, some (.int (nI l))] [.long (lN (frI tg bd (f 154) ((r * 4 + a) * 5 + l))), .long (lN rs)] M_13 _
              refine zw_n 1 rfl ?_
              refine zw_topl (lan (a := rs) (b := frI tg bd (f 154) ((r * 4 + a) * 5 + l)) rfl rfl) ?_
              refine zw_n 1 (ls' := [some (.ref 139), some (.int (nI r)), some (.int (nI a)), some (.int (nI i)), some (.int (nI m)), some (.long (lN its)), none, some (.int (nI k)), some (.int (nI (49 + 3 * ((r * 4 + a) * 5 + k)))), some (.long (lN (rs &&& (frI tg bd (f 154) ((r * 4 + a) * 5 + l))))), none, some (.int (nI l))]) rfl ?_
              refine zw_inc rfl (x' := (nI (l + 1))) (ls' := [some (.ref 139), some (.int (nI r)), some (.int (nI a)), some (.int (nI i)), some (.int (nI m)), some (.long (lN its)), none, some (.int (nI k)), some (.int (nI (49 + 3 * ((r * 4 + a) * 5 + k)))), some (.long (lN (rs &&& (frI tg bd (f 154) ((r * 4 + a) * 5 + l))))), none, some (.int (nI (l + 1)))]) rfl (na (a := l) (b := 1) rfl rfl) rfl ?_
              refine zw_n 1 rfl ?_
              exact ih44 (rs &&& (frI tg bd (f 154) ((r * 4 + a) * 5 + l))) (l + 1) (⟨by omega, by omega, by rw [show l + 1 - (k + 1) = (l - (k + 1)) + 1 by omega, andR, ← hi44.2.2, show k + 1 + (l - (k + 1)) = l by omega]⟩) (by omega)
        exact lp44 _ 1099511627775 (k + 1) (⟨Nat.le_refl _, by omega, by rw [Nat.sub_self]; rfl⟩) (Nat.lt_succ_self _)
  exact lp13 _ 0 0 Az3870 (f 160) Mz3877 (Sm.tw Sm.rf hSz3873 (by decide)) (hMMz3872.2 159 (by decide) (by decide)) (Sm.at hSz3873 (by decide) (hM.2 160 (by decide) (by decide))) (⟨Nat.zero_le _, rfl, hz3874, hF.2.2.2.2.2, fun q p1 p2 => hz3875 q p1 p2⟩) (Nat.lt_succ_self _)

set_option maxHeartbeats 4000000 in
set_option maxRecDepth 100000 in
theorem m_goes (Mq : zM) (o : Nat → Nat) (f : Nat → Nat → Nat) (hM : MM Mq o f)(n : Nat) (gn al_ it pt tg bd : Nat → Nat) (hg : RelG f n gn al_ it pt tg bd) (hG : SafeG n gn al_ it pt tg bd) (hF : SafeF f) (h4 : SafeM (f 154)) (h5 : SafeM (f 155)) (hSO : SafeM (f 161)) (hn : 0 < n) (hcl : Clo (gE al_ it tg pt bd (f 156) (f 157)) n) (m : Nat) (hm : m < 22) (hv : VAll (gE al_ it tg pt bd (f 156) (f 157)) n (m + 1) (f 158)) : Zm 4 zm_MO_goes [.ref 139, .int (nI m)] Mq (fun r9 M1 => ∃ b A B OP, r9 = some (.int (nI b)) ∧ MM M1 o (fset (fset (fset f 161 OP) 160 B) 159 A) ∧ Sm Mq M1 [159, 160, 161] ∧ SafeM A ∧ SafeM B ∧ SafeM OP ∧ b ≤ 1 ∧ (b = 1 ↔ ∃ c, c < 40 ∧ GoB (gE al_ it tg pt bd (f 156) (f 157)) n (f 154) m c)) := by
  show Zw 4 zm_MO_goes 0 [some (.ref 139), some (.int (nI m)), none, none, none, none, none, none, none, none] [] Mq _
  have hn8 := hG.1
  have hb9 : bOK (gE al_ it tg pt bd (f 156) (f 157)) n (v3 (f 158)) m := ⟨hcl, fun t p q h1 h2 h3 => hv t p q h1 h2 h3, fun _ _ _ => hF.2.2.2.1 _, fun q => hF.2.2.1 q, hm⟩
  refine zw_n 2 (ls' := [some (.ref 139), some (.int (nI m)), some (.int 0), none, none, none, none, none, none, none]) rfl ?_
  have lp2 : ∀ (n2 : Nat) (r : Nat) (O0 : Nat → Nat) (M_2 : zM), Sm Mq M_2 [159, 160, 161] → M_2[161]? = some (.inl (1, 176, .inr (.inl (al O0)))) → M_2[159]? = some (.inl (1, 22, .inr (.inl (al (f 159))))) → M_2[160]? = some (.inl (1, 22, .inr (.inl (al (f 160))))) → (r ≤ n ∧ SafeM O0 ∧ (∀ t, t < r → O0 (22 * t + m) = f 154 t) ∧ ∀ t p, t < r → p < m → O0 (22 * t + p) = 0) → n - r < n2 → Zw 4 zm_MO_goes 2 [some (.ref 139), some (.int (nI m)), some (.int (nI r)), none, none, none, none, none, none, none] [] M_2 (fun r9 M1 => ∃ b A B OP, r9 = some (.int (nI b)) ∧ MM M1 o (fset (fset (fset f 161 OP) 160 B) 159 A) ∧ Sm Mq M1 [159, 160, 161] ∧ SafeM A ∧ SafeM B ∧ SafeM OP ∧ b ≤ 1 ∧ (b = 1 ↔ ∃ c, c < 40 ∧ GoB (gE al_ it tg pt bd (f 156) (f 157)) n (f 154) m c)) := by
    intro n2
    induction n2 with
    | zero => intro r O0 M_2 _ _ _ _ _ h; exact absurd h (Nat.not_lt_zero _)
    | succ n2 ih2 =>
      intro r O0 M_2 s_2 f2_0 f2_1 f2_2 hi2 hm2
      refine zw_n 2 rfl ?_
      refine zw_get (v := .ref 140) rfl (Sm.at s_2 (by decide) hM.1) rfl ?_
      refine zw_n 1 rfl ?_
      refine zw_iald (f := ai (f 140)) (j := 0) rfl (Sm.at s_2 (by decide) (hM.2 140 (by decide) (by decide))) rfl (by decide) (by omega) ?_
      refine zw_top (x' := (nI n)) (congrArg nI hg.1) ?_
      refine zw_igeN (a := r) (b := n) rfl rfl rfl (by omega) (by omega) (fun c9 => ?_) (fun c9 => ?_)
      · -- 9 to 60
        refine zw_n 3 rfl ?_
        refine zw_n 1 (ls' := [some (.ref 139), some (.int (nI m)), some (.int (nI m - 1)), none, none, none, none, none, none, none]) rfl ?_
        have lp64 : ∀ (n64 : Nat) (x : Nat) (O2 : Nat → Nat) (A3 : Nat → Nat) (B3 : Nat → Nat) (M_64 : zM), Sm Mq M_64 [159, 160, 161] → M_64[159]? = some (.inl (1, 22, .inr (.inl (al A3)))) → M_64[160]? = some (.inl (1, 22, .inr (.inl (al B3)))) → M_64[161]? = some (.inl (1, 176, .inr (.inl (al O2)))) → (x ≤ m ∧ BpS (gE al_ it tg pt bd (f 156) (f 157)) n (v3 (f 158)) (f 154) m x O2 ∧ SafeM A3 ∧ SafeM B3) → x < n64 → Zw 4 zm_MO_goes 64 [some (.ref 139), some (.int (nI m)), some (.int (nI x - 1)), none, none, none, none, none, none, none] [] M_64 (fun r9 M1 => ∃ b A B OP, r9 = some (.int (nI b)) ∧ MM M1 o (fset (fset (fset f 161 OP) 160 B) 159 A) ∧ Sm Mq M1 [159, 160, 161] ∧ SafeM A ∧ SafeM B ∧ SafeM OP ∧ b ≤ 1 ∧ (b = 1 ↔ ∃ c, c < 40 ∧ GoB (gE al_ it tg pt bd (f 156) (f 157)) n (f 154) m c)) := by
          intro n64
          induction n64 with
          | zero => intro x O2 A3 B3 M_64 _ _ _ _ _ h; exact absurd h (Nat.not_lt_zero _)
          | succ n64 ih64 =>
            intro x O2 A3 B3 M_64 s_64 f64_0 f64_1 f64_2 hi64 hm64
            refine zw_n 1 rfl ?_
            refine zw_lt0Z (a := ((x : Nat) : Int) - 1) rfl (nP_toInt (by omega)) (fun c65 => ?_) (fun c65 => ?_)
            · -- 65 to 194
              refine zw_n 1 rfl ?_
              refine zw_get (v := .ref 161) rfl (Sm.at s_64 (by decide) hM.1) rfl ?_
              refine zw_n 1 rfl ?_
              refine zw_lald (f := al O2) (j := 0) rfl f64_2 rfl (by decide) (by omega) ?_
              refine zw_n 2 rfl ?_
              refine zw_leqN (a := O2 0) (b := 0) rfl rfl rfl (by first | exact Nat.lt_trans (hi64.2.1.sfo _) (by decide) | decide) (by first | exact Nat.lt_trans (hi64.2.1.sfo _) (by decide) | decide) (fun c202 => ?_) (fun c202 => ?_)
              · -- 202 to 209
                refine zw_n 1 rfl ?_
                exact zw_zret rfl rfl (Or.inl rfl) (⟨0, A3, B3, O2, rfl, (MM.of (o' := o) (f' := fset (fset (fset f 161 O2) 160 B3) 159 A3) hM s_64 (Sm.at s_64 (by decide) hM.1) (c1_cons f64_0 (c1_cons f64_1 (c1_cons f64_2 c1_nil))) (fs_c (fs_c (fs_c fs_n)))), s_64, hi64.2.2.1, hi64.2.2.2, hi64.2.1.sfo, by decide, (iff_of_false (by decide) (fun q9 => ((((show x = 0 by omega) ▸ hi64.2.1 : BpS (gE al_ it tg pt bd (f 156) (f 157)) n (v3 (f 158)) (f 154) m 0 O2)).goes hb9 hn).mpr q9 c202))⟩)
              · -- 202 to 205
                refine zw_n 2 rfl ?_
                exact zw_zret rfl rfl (Or.inr rfl) (⟨1, A3, B3, O2, rfl, (MM.of (o' := o) (f' := fset (fset (fset f 161 O2) 160 B3) 159 A3) hM s_64 (Sm.at s_64 (by decide) hM.1) (c1_cons f64_0 (c1_cons f64_1 (c1_cons f64_2 c1_nil))) (fs_c (fs_c (fs_c fs_n)))), s_64, hi64.2.2.1, hi64.2.2.2, hi64.2.1.sfo, by decide, (iff_of_true rfl ((((show x = 0 by omega) ▸ hi64.2.1 : BpS (gE al_ it tg pt bd (f 156) (f 157)) n (v3 (f 158)) (f 154) m 0 O2)).goes hb9 hn |>.mp c202))⟩)
            · -- 65 to 68
              rw [nP (show 0 < x by omega)]
              refine zw_n 2 (ls' := [some (.ref 139), some (.int (nI m)), some (.int (nI (x - 1))), some (.int 1), none, none, none, none, none, none]) rfl ?_
              have lp70 : ∀ (n70 : Nat) (mo : Nat) (O3 : Nat → Nat) (A4 : Nat → Nat) (B4 : Nat → Nat) (M_70 : zM), Sm Mq M_70 [159, 160, 161] → M_70[159]? = some (.inl (1, 22, .inr (.inl (al A4)))) → M_70[160]? = some (.inl (1, 22, .inr (.inl (al B4)))) → M_70[161]? = some (.inl (1, 176, .inr (.inl (al O3)))) → (BpS (gE al_ it tg pt bd (f 156) (f 157)) n (v3 (f 158)) (f 154) m (x - 1 + 1) O3 ∧ mo ≤ 1 ∧ (mo = 0 → BpS (gE al_ it tg pt bd (f 156) (f 157)) n (v3 (f 158)) (f 154) m (x - 1) O3) ∧ SafeM A4 ∧ SafeM B4) → (if mo = 0 then 0 else 322 - tb (fun r => O3 (22 * r + (x - 1))) n) < n70 → Zw 4 zm_MO_goes 70 [some (.ref 139), some (.int (nI m)), some (.int (nI (x - 1))), some (.int (nI mo)), none, none, none, none, none, none] [] M_70 (fun r9 M1 => ∃ b A B OP, r9 = some (.int (nI b)) ∧ MM M1 o (fset (fset (fset f 161 OP) 160 B) 159 A) ∧ Sm Mq M1 [159, 160, 161] ∧ SafeM A ∧ SafeM B ∧ SafeM OP ∧ b ≤ 1 ∧ (b = 1 ↔ ∃ c, c < 40 ∧ GoB (gE al_ it tg pt bd (f 156) (f 157)) n (f 154) m c)) := by
                intro n70
                induction n70 with
                | zero => intro mo O3 A4 B4 M_70 _ _ _ _ _ h; exact absurd h (Nat.not_lt_zero _)
                | succ n70 ih70 =>
                  intro mo O3 A4 B4 M_70 s_70 f70_0 f70_1 f70_2 hi70 hm70
                  have hmo1 := hi70.2.1
                  refine zw_n 1 rfl ?_
                  refine zw_eq0N (a := mo) rfl rfl (by omega) (fun c71 => ?_) (fun c71 => ?_)
                  · -- 71 to 188
                    refine zw_inc rfl (x' := (nI (x - 1) - 1)) (ls' := [some (.ref 139), some (.int (nI m)), some (.int (nI (x - 1) - 1)), some (.int (nI mo)), none, none, none, none, none, none]) rfl (nPd) rfl ?_
                    refine zw_n 1 rfl ?_
                    refine zw_ls (ls' := [some (.ref 139), some (.int (nI m)), some (.int (nI (x - 1) - 1)), none, none, none, none, none, none, none]) ⟨Or.inr rfl, Or.inr rfl, Or.inr rfl, Or.inl rfl, Or.inl rfl, Or.inl rfl, Or.inl rfl, Or.inl rfl, Or.inl rfl, Or.inl rfl, trivial⟩ ?_
                    exact ih64 (x - 1) O3 A4 B4 M_70 s_70 f70_0 f70_1 f70_2 (⟨by omega, hi70.2.2.1 (by omega), hi70.2.2.2.1, hi70.2.2.2.2⟩) (by omega)
                  · -- 71 to 74
                    refine zw_n 4 (ls' := [some (.ref 139), some (.int (nI m)), some (.int (nI (x - 1))), some (.int 0), some (.int 0), none, none, none, none, none]) rfl ?_
                    have lp79 : ∀ (n79 : Nat) (mp : Nat) (y : Nat) (O4 : Nat → Nat) (A5 : Nat → Nat) (B5 : Nat → Nat) (M_79 : zM), Sm Mq M_79 [159, 160, 161] → M_79[159]? = some (.inl (1, 22, .inr (.inl (al A5)))) → M_79[160]? = some (.inl (1, 22, .inr (.inl (al B5)))) → M_79[161]? = some (.inl (1, 176, .inr (.inl (al O4)))) → (BpI (gE al_ it tg pt bd (f 156) (f 157)) n (v3 (f 158)) (f 154) m (x - 1) O3 y mp O4 ∧ SafeM A5 ∧ SafeM B5) → n - y < n79 → Zw 4 zm_MO_goes 79 [some (.ref 139), some (.int (nI m)), some (.int (nI (x - 1))), some (.int (nI mp)), some (.int (nI y)), none, none, none, none, none] [] M_79 (fun r9 M1 => ∃ b A B OP, r9 = some (.int (nI b)) ∧ MM M1 o (fset (fset (fset f 161 OP) 160 B) 159 A) ∧ Sm Mq M1 [159, 160, 161] ∧ SafeM A ∧ SafeM B ∧ SafeM OP ∧ b ≤ 1 ∧ (b = 1 ↔ ∃ c, c < 40 ∧ GoB (gE al_ it tg pt bd (f 156) (f 157)) n (f 154) m c)) := by
                      intro n79
                      induction n79 with
                      | zero => intro mp y O4 A5 B5 M_79 _ _ _ _ _ h; exact absurd h (Nat.not_lt_zero _)
                      | succ n79 ih79 =>
                        intro mp y O4 A5 B5 M_79 s_79 f79_0 f79_1 f79_2 hi79 hm79
                        have hyn := hi79.1.yle
                        have hmp := hi79.1.mo1
                        refine zw_n 2 rfl ?_
                        refine zw_get (v := .ref 140) rfl (Sm.at s_79 (by decide) hM.1) rfl ?_
                        refine zw_n 1 rfl ?_
                        refine zw_iald (f := ai (f 140)) (j := 0) rfl (Sm.at s_79 (by decide) (hM.2 140 (by decide) (by decide))) rfl (by decide) (by omega) ?_
                        refine zw_top (x' := (nI n)) (congrArg nI hg.1) ?_
                        refine zw_igeN (a := y) (b := n) rfl rfl rfl (by omega) (by omega) (fun c87 => ?_) (fun c87 => ?_)
                        · -- 87 to 185
                          refine zw_n 1 rfl ?_
                          refine zw_ls (ls' := [some (.ref 139), some (.int (nI m)), some (.int (nI (x - 1))), some (.int (nI mp)), none, none, none, none, none, none]) ⟨Or.inr rfl, Or.inr rfl, Or.inr rfl, Or.inr rfl, Or.inl rfl, Or.inl rfl, Or.inl rfl, Or.inl rfl, Or.inl rfl, Or.inl rfl, trivial⟩ ?_
                          exact ih70 mp O4 A5 B5 M_79 s_79 f79_0 f79_1 f79_2 (⟨hi79.1.ops, hi79.1.mo1, fun q9 => BpI.fin ((show y = n by omega) ▸ hi79.1) q9, hi79.2.1, hi79.2.2⟩) (bp_meas hn8 c71 hm70 hi79.1.inc)
                        · -- 87 to 90
                          refine zw_n 1 rfl ?_
                          refine zw_get (v := .ref 161) rfl (Sm.at s_79 (by decide) hM.1) rfl ?_
                          refine zw_n 3 rfl ?_
                          refine zw_top (nm (a := 22) (b := y) rfl rfl) ?_
                          refine zw_n 2 rfl ?_
                          refine zw_top (na (a := 22 * y) (b := x - 1) rfl rfl) ?_
                          refine zw_lald (f := al O4) (j := ((22 * y) + (x - 1))) rfl f79_2 rfl (by decide) (by omega) ?_
                          refine zw_topl (x' := (lN (O4 (22 * y + (x - 1))))) (rfl) ?_
                          refine zw_n 5 (ls' := [some (.ref 139), some (.int (nI m)), some (.int (nI (x - 1))), some (.int (nI mp)), some (.int (nI y)), some (.long (lN (O4 (22 * y + (x - 1))))), none, some (.long (lN (O4 (22 * y + (x - 1))))), none, some (.int 0)]) rfl ?_
                          have lp111 : ∀ (n111 : Nat) (its : Nat) (a : Nat) (A6 : Nat → Nat) (B6 : Nat → Nat) (M_111 : zM), Sm Mq M_111 [159, 160, 161] → M_111[159]? = some (.inl (1, 22, .inr (.inl (al A6)))) → M_111[160]? = some (.inl (1, 22, .inr (.inl (al B6)))) → M_111[161]? = some (.inl (1, 176, .inr (.inl (al O4)))) → (a ≤ al_ y ∧ its = O4 (22 * y + (x - 1)) ||| orR (fun a => oaV (gE al_ it tg pt bd (f 156) (f 157)) (v3 (f 158)) (f 154) O4 m (y * 4 + a) (x - 1)) 0 a ∧ SafeM A6 ∧ SafeM B6) → al_ y - a < n111 → Zw 4 zm_MO_goes 111 [some (.ref 139), some (.int (nI m)), some (.int (nI (x - 1))), some (.int (nI mp)), some (.int (nI y)), some (.long (lN (O4 (22 * y + (x - 1))))), none, some (.long (lN its)), none, some (.int (nI a))] [] M_111 (fun r9 M1 => ∃ b A B OP, r9 = some (.int (nI b)) ∧ MM M1 o (fset (fset (fset f 161 OP) 160 B) 159 A) ∧ Sm Mq M1 [159, 160, 161] ∧ SafeM A ∧ SafeM B ∧ SafeM OP ∧ b ≤ 1 ∧ (b = 1 ↔ ∃ c, c < 40 ∧ GoB (gE al_ it tg pt bd (f 156) (f 157)) n (f 154) m c)) := by
                            intro n111
                            induction n111 with
                            | zero => intro its a A6 B6 M_111 _ _ _ _ _ h; exact absurd h (Nat.not_lt_zero _)
                            | succ n111 ih111 =>
                              intro its a A6 B6 M_111 s_111 f111_0 f111_1 f111_2 hi111 hm111
                              have hay4 := hG.2.2.1 y
                              refine zw_n 2 rfl ?_
                              refine zw_get (v := .ref 140) rfl (Sm.at s_111 (by decide) hM.1) rfl ?_
                              refine zw_n 3 rfl ?_
                              refine zw_top (na (a := 9) (b := y) rfl rfl) ?_
                              refine zw_iald (f := ai (f 140)) (j := (9 + y)) rfl (Sm.at s_111 (by decide) (hM.2 140 (by decide) (by decide))) rfl (by decide) (by omega) ?_
                              refine zw_top (x' := (nI (al_ y))) (congrArg nI (hg.2.2.1 y (by omega))) ?_
                              refine zw_igeN (a := a) (b := al_ y) rfl rfl rfl (by omega) (by omega) (fun c123 => ?_) (fun c123 => ?_)
                              · -- 123 to 147
                                obtain rfl : its = O4 (22 * y + (x - 1)) ||| oaR (gE al_ it tg pt bd (f 156) (f 157)) (v3 (f 158)) (f 154) O4 m y (x - 1) := by rw [hi111.2.1, show a = al_ y by omega]; rfl
                                refine zw_n 1 rfl ?_
                                refine zw_get (v := .ref 161) rfl (Sm.at s_111 (by decide) hM.1) rfl ?_
                                refine zw_n 3 rfl ?_
                                refine zw_top (nm (a := 22) (b := y) rfl rfl) ?_
                                refine zw_n 2 rfl ?_
                                refine zw_top (na (a := 22 * y) (b := x - 1) rfl rfl) ?_
                                refine zw_n 1 rfl ?_
                                refine zw_lastN (g := O4) (j := ((22 * y) + (x - 1))) (v := (O4 (22 * y + (x - 1)) ||| oaR (gE al_ it tg pt bd (f 156) (f 157)) (v3 (f 158)) (f 154) O4 m y (x - 1))) rfl f111_2 rfl (by decide) (by omega) (rfl) ?_
                                generalize ez3912 : List.set M_111 161 _ = Mz3911
                                have j161 : Zw 4 zm_MO_goes 178 [some (.ref 139), some (.int (nI m)), some (.int (nI (x - 1))), some (.int (nI mp)), some (.int (nI y)), some (.long (lN (O4 (22 * y + (x - 1))))), none, some (.long (lN (O4 (22 * y + (x - 1)) ||| oaR (gE al_ it tg pt bd (f 156) (f 157)) (v3 (f 158)) (f 154) O4 m y (x - 1)))), none, some (.int (nI a))] [.int (nI (if mp ≠ 0 ∨ O4 (22 * y + (x - 1)) ||| oaR (gE al_ it tg pt bd (f 156) (f 157)) (v3 (f 158)) (f 154) O4 m y (x - 1) ≠ O4 (22 * y + (x - 1)) then 1 else 0))] Mz3911 (fun r9 M1 => ∃ b A B OP, r9 = some (.int (nI b)) ∧ MM M1 o (fset (fset (fset f 161 OP) 160 B) 159 A) ∧ Sm Mq M1 [159, 160, 161] ∧ SafeM A ∧ SafeM B ∧ SafeM OP ∧ b ≤ 1 ∧ (b = 1 ↔ ∃ c, c < 40 ∧ GoB (gE al_ it tg pt bd (f 156) (f 157)) n (f 154) m c)) := by
                                  refine zw_n 1 (ls' := [some (.ref 139), some (.int (nI m)), some (.int (nI (x - 1))), some (.int (nI (if mp ≠ 0 ∨ O4 (22 * y + (x - 1)) ||| oaR (gE al_ it tg pt bd (f 156) (f 157)) (v3 (f 158)) (f 154) O4 m y (x - 1) ≠ O4 (22 * y + (x - 1)) then 1 else 0))), some (.int (nI y)), some (.long (lN (O4 (22 * y + (x - 1))))), none, some (.long (lN (O4 (22 * y + (x - 1)) ||| oaR (gE al_ it tg pt bd (f 156) (f 157)) (v3 (f 158)) (f 154) O4 m y (x - 1)))), none, some (.int (nI a))]) rfl ?_
                                  refine zw_inc rfl (x' := (nI (y + 1))) (ls' := [some (.ref 139), some (.int (nI m)), some (.int (nI (x - 1))), some (.int (nI (if mp ≠ 0 ∨ O4 (22 * y + (x - 1)) ||| oaR (gE al_ it tg pt bd (f 156) (f 157)) (v3 (f 158)) (f 154) O4 m y (x - 1) ≠ O4 (22 * y + (x - 1)) then 1 else 0))), some (.int (nI (y + 1))), some (.long (lN (O4 (22 * y + (x - 1))))), none, some (.long (lN (O4 (22 * y + (x - 1)) ||| oaR (gE al_ it tg pt bd (f 156) (f 157)) (v3 (f 158)) (f 154) O4 m y (x - 1)))), none, some (.int (nI a))]) rfl (na (a := y) (b := 1) rfl rfl) rfl ?_
                                  refine zw_n 1 rfl ?_
                                  refine zw_ls (ls' := [some (.ref 139), some (.int (nI m)), some (.int (nI (x - 1))), some (.int (nI (if mp ≠ 0 ∨ O4 (22 * y + (x - 1)) ||| oaR (gE al_ it tg pt bd (f 156) (f 157)) (v3 (f 158)) (f 154) O4 m y (x - 1) ≠ O4 (22 * y + (x - 1)) then 1 else 0))), some (.int (nI (y + 1))), none, none, none, none, none]) ⟨Or.inr rfl, Or.inr rfl, Or.inr rfl, Or.inr rfl, Or.inr rfl, Or.inl rfl, Or.inl rfl, Or.inl rfl, Or.inl rfl, Or.inl rfl, trivial⟩ ?_
                                  exact ih79 (if mp ≠ 0 ∨ O4 (22 * y + (x - 1)) ||| oaR (gE al_ it tg pt bd (f 156) (f 157)) (v3 (f 158)) (f 154) O4 m y (x - 1) ≠ O4 (22 * y + (x - 1)) then 1 else 0) (y + 1) (up O4 ((22 * y) + (x - 1)) (O4 (22 * y + (x - 1)) ||| oaR (gE al_ it tg pt bd (f 156) (f 157)) (v3 (f 158)) (f 154) O4 m y (x - 1))) A6 B6 Mz3911 (Sm.tset s_111 ez3912 (by decide)) (zat_set ez3912 (by decide) f111_0) (zat_set ez3912 (by decide) f111_1) (zat_self ez3912 f111_2) (⟨BpI.step hb9 hi79.1 (by omega) (by omega), hi111.2.2.1, hi111.2.2.2⟩) (by omega)
                                refine zw_n 1 rfl ?_
                                refine zw_ne0N (a := mp) rfl rfl (by omega) (fun c162 => ?_) (fun c162 => ?_)
                                · -- 162 to 173
                                  refine zw_n 2 rfl ?_
                                  refine zw_top (x' := nI (if mp ≠ 0 ∨ O4 (22 * y + (x - 1)) ||| oaR (gE al_ it tg pt bd (f 156) (f 157)) (v3 (f 158)) (f 154) O4 m y (x - 1) ≠ O4 (22 * y + (x - 1)) then 1 else 0)) (show nI 1 = nI (if mp ≠ 0 ∨ O4 (22 * y + (x - 1)) ||| oaR (gE al_ it tg pt bd (f 156) (f 157)) (v3 (f 158)) (f 154) O4 m y (x - 1) ≠ O4 (22 * y + (x - 1)) then 1 else 0) by rw [if_pos (by first | exact Or.inl (by omega) | exact Or.inr c170)]) ?_
                                  exact j161
                                · -- 162 to 165
                                  refine zw_n 3 rfl ?_
                                  refine zw_leqN (a := O4 (22 * y + (x - 1)) ||| oaR (gE al_ it tg pt bd (f 156) (f 157)) (v3 (f 158)) (f 154) O4 m y (x - 1)) (b := O4 (22 * y + (x - 1))) rfl rfl rfl (by first | exact Nat.lt_trans (or_lt40 (hi79.1.ops.sfo _) oaR_lt) (by decide) | exact Nat.lt_trans (hi79.1.ops.sfo _) (by decide)) (by first | exact Nat.lt_trans (or_lt40 (hi79.1.ops.sfo _) oaR_lt) (by decide) | exact Nat.lt_trans (hi79.1.ops.sfo _) (by decide)) (fun c170 => ?_) (fun c170 => ?_)
                                  · -- 170 to 177
                                    refine zw_n 1 rfl ?_
                                    refine zw_top (x' := nI (if mp ≠ 0 ∨ O4 (22 * y + (x - 1)) ||| oaR (gE al_ it tg pt bd (f 156) (f 157)) (v3 (f 158)) (f 154) O4 m y (x - 1) ≠ O4 (22 * y + (x - 1)) then 1 else 0)) (show nI 0 = nI (if mp ≠ 0 ∨ O4 (22 * y + (x - 1)) ||| oaR (gE al_ it tg pt bd (f 156) (f 157)) (v3 (f 158)) (f 154) O4 m y (x - 1) ≠ O4 (22 * y + (x - 1)) then 1 else 0) by rw [if_neg (by rintro (q | q) <;> first | exact q c162 | exact q c170)]) ?_
                                    exact j161
                                  · -- 170 to 173
                                    refine zw_n 2 rfl ?_
                                    refine zw_top (x' := nI (if mp ≠ 0 ∨ O4 (22 * y + (x - 1)) ||| oaR (gE al_ it tg pt bd (f 156) (f 157)) (v3 (f 158)) (f 154) O4 m y (x - 1) ≠ O4 (22 * y + (x - 1)) then 1 else 0)) (show nI 1 = nI (if mp ≠ 0 ∨ O4 (22 * y + (x - 1)) ||| oaR (gE al_ it tg pt bd (f 156) (f 157)) (v3 (f 158)) (f 154) O4 m y (x - 1) ≠ O4 (22 * y + (x - 1)) then 1 else 0) by rw [if_pos (by first | exact Or.inl (by omega) | exact Or.inr c170)]) ?_
                                    exact j161
                              · -- 123 to 126
                                refine zw_n 6 rfl ?_
                                refine zw_callV (as := [.int (nI y), .int (nI a), .int (nI (x - 1)), .int (nI m)]) (rest := [.long (lN its)]) rfl rfl rfl (Sm.at s_111 (by decide) hM.1) rfl rfl rfl (by decide) (m_openAlt M_111 o (fset (fset (fset f 161 O4) 160 B6) 159 A6) (MM.of (o' := o) (f' := fset (fset (fset f 161 O4) 160 B6) 159 A6) hM s_111 (Sm.at s_111 (by decide) hM.1) (c1_cons f111_0 (c1_cons f111_1 (c1_cons f111_2 c1_nil))) (fs_c (fs_c (fs_c fs_n)))) n gn al_ it pt tg bd hg hG (⟨hF.1, hF.2.1, hF.2.2.1, hF.2.2.2.1, hi111.2.2.1, hi111.2.2.2⟩) h4 h5 hi79.1.ops.sfo  y a (x - 1) m (by omega) (by omega) (by omega) (by omega)) (fun rz3920 Mz3921 hz3922 => ?_)
                                obtain ⟨hAz3915, Az3913, Az3914, hMMz3916, hSz3917, hz3918, hz3919⟩ := hz3922
                                rw [hAz3915]
                                show Zw 4 zm_MO_goes 138 [some (.ref 139), some (.int (nI m)), some (.int (nI (x - 1))), some (.int (nI mp)), some (.int (nI y)), some (.long (lN (O4 (22 * y + (x - 1))))), none, some (.long (lN its)), none, some (.int (nI a))] [.long (lN (oaV (gE al_ it tg pt bd (f 156) (f 157)) (v3 (f 158)) (f 154) O4 m (y * 4 + a) (x - 1))), .long (lN its)] Mz3921 _
                                refine zw_n 1 rfl ?_
                                refine zw_topl (lo (a := its) (b := oaV (gE al_ it tg pt bd (f 156) (f 157)) (v3 (f 158)) (f 154) O4 m (y * 4 + a) (x - 1)) rfl rfl) ?_
                                refine zw_n 1 (ls' := [some (.ref 139), some (.int (nI m)), some (.int (nI (x - 1))), some (.int (nI mp)), some (.int (nI y)), some (.long (lN (O4 (22 * y + (x - 1))))), none, some (.long (lN (its ||| (oaV (gE al_ it tg pt bd (f 156) (f 157)) (v3 (f 158)) (f 154) O4 m (y * 4 + a) (x - 1))))), none, some (.int (nI a))]) rfl ?_
                                refine zw_inc rfl (x' := (nI (a + 1))) (ls' := [some (.ref 139), some (.int (nI m)), some (.int (nI (x - 1))), some (.int (nI mp)), some (.int (nI y)), some (.long (lN (O4 (22 * y + (x - 1))))), none, some (.long (lN (its ||| (oaV (gE al_ it tg pt bd (f 156) (f 157)) (v3 (f 158)) (f 154) O4 m (y * 4 + a) (x - 1))))), none, some (.int (nI (a + 1)))]) rfl (na (a := a) (b := 1) rfl rfl) rfl ?_
                                refine zw_n 1 rfl ?_
                                exact ih111 (its ||| (oaV (gE al_ it tg pt bd (f 156) (f 157)) (v3 (f 158)) (f 154) O4 m (y * 4 + a) (x - 1))) (a + 1) Az3913 Az3914 Mz3921 (Sm.tw s_111 hSz3917 (by decide)) (hMMz3916.2 159 (by decide) (by decide)) (hMMz3916.2 160 (by decide) (by decide)) (Sm.at hSz3917 (by decide) f111_2) (⟨by omega, by rw [orR, ← Nat.or_assoc, ← hi111.2.1, Nat.zero_add], hz3918, hz3919⟩) (by omega)
                          exact lp111 _ (O4 (22 * y + (x - 1))) 0 A5 B5 M_79 s_79 f79_0 f79_1 f79_2 (⟨Nat.zero_le _, (Nat.or_zero _).symm, hi79.2.1, hi79.2.2⟩) (Nat.lt_succ_self _)
                    exact lp79 _ 0 0 O3 A4 B4 M_70 s_70 f70_0 f70_1 f70_2 (⟨BpI.start hi70.1, hi70.2.2.2.1, hi70.2.2.2.2⟩) (Nat.lt_succ_self _)
              exact lp70 _ 1 O2 A3 B3 M_64 s_64 f64_0 f64_1 f64_2 (⟨(show x - 1 + 1 = x by omega).symm ▸ hi64.2.1, Nat.le_refl _, fun q => by omega, hi64.2.2.1, hi64.2.2.2⟩) (Nat.lt_succ_self _)
        exact lp64 _ m O0 (f 159) (f 160) M_2 s_2 f2_1 f2_2 f2_0 (⟨Nat.le_refl _, BpS.to1 hi2.2.1 (fun t (ht : t < n) => hi2.2.2.1 t (by omega)) (fun t p (ht : t < n) hp => hi2.2.2.2 t p (by omega) hp), hF.2.2.2.2.1, hF.2.2.2.2.2⟩) (Nat.lt_succ_self _)
      · -- 9 to 12
        refine zw_n 2 (ls' := [some (.ref 139), some (.int (nI m)), some (.int (nI r)), some (.int 0), none, none, none, none, none, none]) rfl ?_
        have lp14 : ∀ (n14 : Nat) (j : Nat) (O1 : Nat → Nat) (M_14 : zM), Sm Mq M_14 [159, 160, 161] → M_14[161]? = some (.inl (1, 176, .inr (.inl (al O1)))) → M_14[159]? = some (.inl (1, 22, .inr (.inl (al (f 159))))) → M_14[160]? = some (.inl (1, 22, .inr (.inl (al (f 160))))) → (j ≤ m ∧ SafeM O1 ∧ (∀ t, t < r → O1 (22 * t + m) = f 154 t) ∧ (∀ t p, t < r → p < m → O1 (22 * t + p) = 0) ∧ ∀ p, p < j → O1 (22 * r + p) = 0) → m - j < n14 → Zw 4 zm_MO_goes 14 [some (.ref 139), some (.int (nI m)), some (.int (nI r)), some (.int (nI j)), none, none, none, none, none, none] [] M_14 (fun r9 M1 => ∃ b A B OP, r9 = some (.int (nI b)) ∧ MM M1 o (fset (fset (fset f 161 OP) 160 B) 159 A) ∧ Sm Mq M1 [159, 160, 161] ∧ SafeM A ∧ SafeM B ∧ SafeM OP ∧ b ≤ 1 ∧ (b = 1 ↔ ∃ c, c < 40 ∧ GoB (gE al_ it tg pt bd (f 156) (f 157)) n (f 154) m c)) := by
          intro n14
          induction n14 with
          | zero => intro j O1 M_14 _ _ _ _ _ h; exact absurd h (Nat.not_lt_zero _)
          | succ n14 ih14 =>
            intro j O1 M_14 s_14 f14_0 f14_1 f14_2 hi14 hm14
            refine zw_n 2 rfl ?_
            refine zw_igeN (a := j) (b := m) rfl rfl rfl (by omega) (by omega) (fun c16 => ?_) (fun c16 => ?_)
            · -- 16 to 37
              refine zw_n 1 rfl ?_
              refine zw_get (v := .ref 161) rfl (Sm.at s_14 (by decide) hM.1) rfl ?_
              refine zw_n 3 rfl ?_
              refine zw_top (nm (a := 22) (b := r) rfl rfl) ?_
              refine zw_n 2 rfl ?_
              refine zw_top (na (a := 22 * r) (b := m) rfl rfl) ?_
              refine zw_n 1 rfl ?_
              refine zw_get (v := .ref 154) rfl (Sm.at s_14 (by decide) hM.1) rfl ?_
              refine zw_n 1 rfl ?_
              refine zw_lald (f := al (f 154)) (j := r) rfl (Sm.at s_14 (by decide) (hM.2 154 (by decide) (by decide))) rfl (by decide) (by omega) ?_
              refine zw_lastN (g := O1) (j := ((22 * r) + m)) (v := ((f 154) r)) rfl f14_0 rfl (by decide) (by omega) (rfl) ?_
              generalize ez3924 : List.set M_14 161 _ = Mz3923
              refine zw_inc rfl (x' := (nI (r + 1))) (ls' := [some (.ref 139), some (.int (nI m)), some (.int (nI (r + 1))), some (.int (nI j)), none, none, none, none, none, none]) rfl (na (a := r) (b := 1) rfl rfl) rfl ?_
              refine zw_n 1 rfl ?_
              refine zw_ls (ls' := [some (.ref 139), some (.int (nI m)), some (.int (nI (r + 1))), none, none, none, none, none, none, none]) ⟨Or.inr rfl, Or.inr rfl, Or.inr rfl, Or.inl rfl, Or.inl rfl, Or.inl rfl, Or.inl rfl, Or.inl rfl, Or.inl rfl, Or.inl rfl, trivial⟩ ?_
              exact ih2 (r + 1) (up O1 ((22 * r) + m) ((f 154) r)) Mz3923 (Sm.tset s_14 ez3924 (by decide)) (zat_self ez3924 f14_0) (zat_set ez3924 (by decide) f14_1) (zat_set ez3924 (by decide) f14_2) (⟨by omega, safe_up hi14.2.1 (h4 _), fun t ht => if e : t = r then by rw [e, up_s] else (up_n (by omega)).trans (hi14.2.2.1 t (by omega)), fun t p ht hp => (up_n (by omega)).trans (if e : t = r then by rw [e]; exact hi14.2.2.2.2 p (by omega) else hi14.2.2.2.1 t p (by omega) hp)⟩) (by omega)
            · -- 16 to 19
              refine zw_n 1 rfl ?_
              refine zw_get (v := .ref 161) rfl (Sm.at s_14 (by decide) hM.1) rfl ?_
              refine zw_n 3 rfl ?_
              refine zw_top (nm (a := 22) (b := r) rfl rfl) ?_
              refine zw_n 2 rfl ?_
              refine zw_top (na (a := 22 * r) (b := j) rfl rfl) ?_
              refine zw_n 1 rfl ?_
              refine zw_lastN (g := O1) (j := ((22 * r) + j)) (v := 0) rfl f14_0 rfl (by decide) (by omega) (rfl) ?_
              generalize ez3926 : List.set M_14 161 _ = Mz3925
              refine zw_inc rfl (x' := (nI (j + 1))) (ls' := [some (.ref 139), some (.int (nI m)), some (.int (nI r)), some (.int (nI (j + 1))), none, none, none, none, none, none]) rfl (na (a := j) (b := 1) rfl rfl) rfl ?_
              refine zw_n 1 rfl ?_
              exact ih14 (j + 1) (up O1 ((22 * r) + j) 0) Mz3925 (Sm.tset s_14 ez3926 (by decide)) (zat_self ez3926 f14_0) (zat_set ez3926 (by decide) f14_1) (zat_set ez3926 (by decide) f14_2) (⟨by omega, safe_up hi14.2.1 (by decide), fun t ht => (up_n (by omega)).trans (hi14.2.2.1 t ht), fun t p ht hp => (up_n (by omega)).trans (hi14.2.2.2.1 t p ht hp), fun p hp => if e : p = j then by rw [e, up_s] else (up_n (by omega)).trans (hi14.2.2.2.2 p (by omega))⟩) (by omega)
        exact lp14 _ 0 O0 M_2 s_2 f2_0 f2_1 f2_2 (⟨Nat.zero_le _, hi2.2.1, hi2.2.2.1, hi2.2.2.2, fun p hp => absurd hp (Nat.not_lt_zero _)⟩) (Nat.lt_succ_self _)
  exact lp2 _ 0 (f 161) Mq Sm.rf (hM.2 161 (by decide) (by decide)) (hM.2 159 (by decide) (by decide)) (hM.2 160 (by decide) (by decide)) (⟨Nat.zero_le _, hSO, fun t ht => absurd ht (Nat.not_lt_zero _), fun t p ht => absurd ht (Nat.not_lt_zero _)⟩) (Nat.lt_succ_self _)

set_option maxHeartbeats 4000000 in
set_option maxRecDepth 100000 in
theorem m_columnsFor (Mq : zM) (o : Nat → Nat) (f : Nat → Nat → Nat) (hM : MM Mq o f)(n : Nat) (gn al_ it pt tg bd : Nat → Nat) (hg : RelG f n gn al_ it pt tg bd) (hG : SafeG n gn al_ it pt tg bd) (hF : SafeF f) (c : Nat) (sg li co : Nat → Nat) (ht : RelT f c sg li co) (hS : SafeT c sg li co) (emp : Nat → Prop) (rk : Nat → Nat) (hA : Acyc (gE al_ it tg pt bd sg co) n emp rk) (h4 : SafeM (f 154)) (h5 : SafeM (f 155)) (hSO : SafeM (f 161)) (hn : 0 < n) (hL : IsLfp n (frR al_ it tg bd) (f 154)) (m v s0 : Nat) (hmc : m ≤ c) (hv : v < 128) (hs : ∀ w, (s0 = 0 ∨ w = s0) ↔ (v = w ∨ v = 1)) : Zm 6 zm_MO_columnsFor [.ref 139, .int (nI m), .int (nI v)] Mq (fun r9 M1 => ∃ F f9, r9 = some (.long (lN F)) ∧ MM M1 o f9 ∧ Sm Mq M1 [156, 157, 158, 159, 160, 161] ∧ Fsame f f9 [156, 157, 158, 159, 160, 161] ∧ SafeF f9 ∧ SafeM (f9 161) ∧ F < 1099511627776 ∧ ∀ d, F.testBit d = true ↔ Fnd (gE al_ it tg pt bd sg co) n (f 154) m s0 0 d) := by
  show Zw 6 zm_MO_columnsFor 0 [some (.ref 139), some (.int (nI m)), some (.int (nI v)), none, none, none] [] Mq _
  have hc20 := hS.1
  refine zw_n 1 rfl ?_
  refine zw_callV (as := []) (rest := []) rfl rfl rfl hM.1 rfl rfl rfl (by decide) (m_takeTokens Mq o f hM c sg li co ht hS hF) (fun rz3935 Mz3936 hz3937 => ?_)
  obtain ⟨hAz3929, Az3927, Az3928, hMMz3930, hSz3931, hz3932, hz3933, hz3934⟩ := hz3937
  rw [hAz3929]
  show Zw 6 zm_MO_columnsFor 4 [some (.ref 139), some (.int (nI m)), some (.int (nI v)), none, none, none] [] Mz3936 _
  refine zw_n 2 rfl ?_
  refine zw_callV (as := [.int (nI m)]) (rest := []) rfl rfl rfl (Sm.at hSz3931 (by decide) hM.1) rfl rfl rfl (by decide) (m_layWhere Mz3936 o (fset (fset f 157 Az3928) 156 Az3927) (MM.of (o' := o) (f' := fset (fset f 157 Az3928) 156 Az3927) hM (Sm.tw Sm.rf hSz3931 (by decide)) (Sm.at hSz3931 (by decide) hM.1) (c1_cons (hMMz3930.2 156 (by decide) (by decide)) (c1_cons (hMMz3930.2 157 (by decide) (by decide)) (c1_cons (Sm.at hSz3931 (by decide) (hM.2 158 (by decide) (by decide))) (c1_cons (Sm.at hSz3931 (by decide) (hM.2 159 (by decide) (by decide))) (c1_cons (Sm.at hSz3931 (by decide) (hM.2 160 (by decide) (by decide))) (c1_cons (Sm.at hSz3931 (by decide) (hM.2 161 (by decide) (by decide))) c1_nil)))))) (fs_c (fs_c (fs_k (fs_k (fs_k (fs_k fs_n))))))) n gn al_ it pt tg bd hg hG (⟨hF.1, hz3932, hz3933, hF.2.2.2.1, hF.2.2.2.2.1, hF.2.2.2.2.2⟩) emp rk hA m (by omega)) (fun rz3948 Mz3949 hz3950 => ?_)
  obtain ⟨hAz3941, Az3938, Az3939, Az3940, hMMz3942, hSz3943, hz3944, hz3945, hz3946, hz3947⟩ := hz3950
  rw [hAz3941]
  show Zw 6 zm_MO_columnsFor 9 [some (.ref 139), some (.int (nI m)), some (.int (nI v)), none, none, none] [] Mz3949 _
  refine zw_n 4 (ls' := [some (.ref 139), some (.int (nI m)), some (.int (nI v)), some (.long 0), none, some (.int 0)]) rfl ?_
  have mz3951 : Mz3949[140]? = some (.inl (0, 590, .inl (ai (f 140)))) := Sm.at hSz3943 (by decide) (Sm.at hSz3931 (by decide) (hM.2 140 (by decide) (by decide)))
  have mz3952 : Mz3949[156]? = some (.inl (0, 21, .inl (ai Az3927))) := Sm.at hSz3943 (by decide) (hMMz3930.2 156 (by decide) (by decide))
  have mz3953 : Mz3949[157]? = some (.inl (0, 21, .inl (ai Az3928))) := Sm.at hSz3943 (by decide) (hMMz3930.2 157 (by decide) (by decide))
  have mz3954 : Mz3949[161]? = some (.inl (1, 176, .inr (.inl (al (f 161))))) := Sm.at hSz3943 (by decide) (Sm.at hSz3931 (by decide) (hM.2 161 (by decide) (by decide)))
  have mz3955 : Mz3949[153]? = some (.inl (0, 160, .inl (ai (f 153)))) := Sm.at hSz3943 (by decide) (Sm.at hSz3931 (by decide) (hM.2 153 (by decide) (by decide)))
  have mz3956 : Mz3949[154]? = some (.inl (1, 8, .inr (.inl (al (f 154))))) := Sm.at hSz3943 (by decide) (Sm.at hSz3931 (by decide) (hM.2 154 (by decide) (by decide)))
  have mz3957 : Mz3949[155]? = some (.inl (1, 8, .inr (.inl (al (f 155))))) := Sm.at hSz3943 (by decide) (Sm.at hSz3931 (by decide) (hM.2 155 (by decide) (by decide)))
  have lp14 : ∀ (n14 : Nat) (its : Nat) (d : Nat) (A0 : Nat → Nat) (B0 : Nat → Nat) (V0 : Nat → Nat) (A2 : Nat → Nat) (B2 : Nat → Nat) (O2c : Nat → Nat) (M_14 : zM), Sm Mq M_14 [156, 157, 158, 159, 160, 161] → M_14[156]? = some (.inl (0, 21, .inl (ai A0))) → M_14[157]? = some (.inl (0, 21, .inl (ai B0))) → M_14[158]? = some (.inl (1, 3872, .inr (.inl (al V0)))) → M_14[159]? = some (.inl (1, 22, .inr (.inl (al A2)))) → M_14[160]? = some (.inl (1, 22, .inr (.inl (al B2)))) → M_14[161]? = some (.inl (1, 176, .inr (.inl (al O2c)))) → (d ≤ 40 ∧ (its < 1099511627776 ∧ ∀ e, its.testBit e = true ↔ e < d ∧ (fun d => Fnd (gE al_ it tg pt bd sg co) n (f 154) m s0 0 d) e) ∧ (∀ q, A0 q < 2147483648) ∧ (∀ q, B0 q < 40) ∧ SafeM V0 ∧ SafeM A2 ∧ SafeM B2 ∧ SafeM O2c ∧ (∀ p, p < m → A0 p = sg p ∧ B0 p = co p) ∧ VAll (gE al_ it tg pt bd A0 B0) n (m + 1) V0) → 40 - d < n14 → Zw 6 zm_MO_columnsFor 14 [some (.ref 139), some (.int (nI m)), some (.int (nI v)), some (.long (lN its)), none, some (.int (nI d))] [] M_14 (fun r9 M1 => ∃ F f9, r9 = some (.long (lN F)) ∧ MM M1 o f9 ∧ Sm Mq M1 [156, 157, 158, 159, 160, 161] ∧ Fsame f f9 [156, 157, 158, 159, 160, 161] ∧ SafeF f9 ∧ SafeM (f9 161) ∧ F < 1099511627776 ∧ ∀ d, F.testBit d = true ↔ Fnd (gE al_ it tg pt bd sg co) n (f 154) m s0 0 d) := by
    intro n14
    induction n14 with
    | zero => intro its d A0 B0 V0 A2 B2 O2c M_14 _ _ _ _ _ _ _ _ h; exact absurd h (Nat.not_lt_zero _)
    | succ n14 ih14 =>
      intro its d A0 B0 V0 A2 B2 O2c M_14 s_14 f14_0 f14_1 f14_2 f14_3 f14_4 f14_5 hi14 hm14
      refine zw_n 2 rfl ?_
      refine zw_igtN (a := d) (b := 39) rfl rfl rfl (by omega) (by omega) (fun c18 => ?_) (fun c18 => ?_)
      · -- 18 to 70
        refine zw_n 1 rfl ?_
        exact zw_lret rfl rfl (⟨its, fset (fset (fset (fset (fset (fset f 161 O2c) 160 B2) 159 A2) 158 V0) 157 B0) 156 A0, rfl, (MM.of (o' := o) (f' := fset (fset (fset (fset (fset (fset f 161 O2c) 160 B2) 159 A2) 158 V0) 157 B0) 156 A0) hM s_14 (Sm.at s_14 (by decide) hM.1) (c1_cons f14_0 (c1_cons f14_1 (c1_cons f14_2 (c1_cons f14_3 (c1_cons f14_4 (c1_cons f14_5 c1_nil)))))) (fs_c (fs_c (fs_c (fs_c (fs_c (fs_c fs_n))))))), s_14, fs_c (fs_c (fs_c (fs_c (fs_c (fs_c fs_n))))), ⟨hF.1, hi14.2.2.1, hi14.2.2.2.1, hi14.2.2.2.2.1, hi14.2.2.2.2.2.1, hi14.2.2.2.2.2.2.1⟩, hi14.2.2.2.2.2.2.2.1, hi14.2.1.1, fun e => (hi14.2.1.2 e).trans ⟨fun q => q.2, fun q => ⟨by have := q.d40; omega, q⟩⟩⟩)
      · -- 18 to 21
        refine zw_n 1 rfl ?_
        refine zw_get (v := .ref 156) rfl (Sm.at s_14 (by decide) hM.1) rfl ?_
        refine zw_n 2 rfl ?_
        refine zw_iastN (g := A0) (j := m) (v := v) rfl f14_0 rfl (by decide) (by omega) (rfl) ?_
        generalize ez3959 : List.set M_14 156 _ = Mz3958
        refine zw_n 1 rfl ?_
        refine zw_get (v := .ref 157) rfl (zat_set ez3959 (by decide) (Sm.at s_14 (by decide) hM.1)) rfl ?_
        refine zw_n 2 rfl ?_
        refine zw_iastN (g := B0) (j := m) (v := d) rfl (zat_set ez3959 (by decide) f14_1) rfl (by decide) (by omega) (rfl) ?_
        generalize ez3961 : List.set Mz3958 157 _ = Mz3960
        have hsa : ∀ q, up A0 m v q < 2147483648 := up_lt hi14.2.2.1 (by omega)
        have hsb : ∀ q, up B0 m d q < 40 := up_lt hi14.2.2.2.1 (by omega)
        have hve : VAll (gE al_ it tg pt bd (up A0 m v) (up B0 m d)) n (m + 1) V0 := VAll.congE hi14.2.2.2.2.2.2.2.2.2 (fun p hp => ⟨(up_n (by omega)).symm, (up_n (by omega)).symm⟩)
        refine zw_n 4 rfl ?_
        refine zw_top (na (a := m) (b := 1) rfl rfl) ?_
        refine zw_callV (as := [.int (nI (m + 1))]) (rest := []) rfl rfl rfl (zat_set ez3961 (by decide) (zat_set ez3959 (by decide) (Sm.at s_14 (by decide) hM.1))) rfl rfl rfl (by decide) (m_layEnd Mz3960 o (fset (fset (fset (fset (fset (fset f 161 O2c) 160 B2) 159 A2) 158 V0) 157 (up B0 m d)) 156 (up A0 m v)) (MM.of (o' := o) (f' := fset (fset (fset (fset (fset (fset f 161 O2c) 160 B2) 159 A2) 158 V0) 157 (up B0 m d)) 156 (up A0 m v)) hM (Sm.tset (Sm.tset s_14 ez3959 (by decide)) ez3961 (by decide)) (zat_set ez3961 (by decide) (zat_set ez3959 (by decide) (Sm.at s_14 (by decide) hM.1))) (c1_cons (zat_set ez3961 (by decide) (zat_self ez3959 f14_0)) (c1_cons (zat_self ez3961 (zat_set ez3959 (by decide) f14_1)) (c1_cons (zat_set ez3961 (by decide) (zat_set ez3959 (by decide) f14_2)) (c1_cons (zat_set ez3961 (by decide) (zat_set ez3959 (by decide) f14_3)) (c1_cons (zat_set ez3961 (by decide) (zat_set ez3959 (by decide) f14_4)) (c1_cons (zat_set ez3961 (by decide) (zat_set ez3959 (by decide) f14_5)) c1_nil)))))) (fs_c (fs_c (fs_c (fs_c (fs_c (fs_c fs_n))))))) n gn al_ it pt tg bd hg hG (⟨hF.1, hsa, hsb, hi14.2.2.2.2.1, hi14.2.2.2.2.2.1, hi14.2.2.2.2.2.2.1⟩) emp rk hA (m + 1) (by omega) (hve)) (fun rz3972 Mz3973 hz3974 => ?_)
        obtain ⟨hAz3965, Az3962, Az3963, Az3964, hMMz3966, hSz3967, hz3968, hz3969, hz3970, hz3971⟩ := hz3974
        rw [hAz3965]
        show Zw 6 zm_MO_columnsFor 43 [some (.ref 139), some (.int (nI m)), some (.int (nI v)), some (.long (lN its)), none, some (.int (nI d))] [] Mz3973 _
        refine zw_n 5 rfl ?_
        refine zw_top (na (a := m) (b := 1) rfl rfl) ?_
        refine zw_callV (as := [.int (nI (m + 1))]) (rest := [.long (lN its)]) rfl rfl rfl (Sm.at hSz3967 (by decide) (zat_set ez3961 (by decide) (zat_set ez3959 (by decide) (Sm.at s_14 (by decide) hM.1)))) rfl rfl rfl (by decide) (m_goes Mz3973 o (fset (fset (fset (fset (fset (fset f 161 O2c) 160 Az3964) 159 Az3963) 158 Az3962) 157 (up B0 m d)) 156 (up A0 m v)) (MM.of (o' := o) (f' := fset (fset (fset (fset (fset (fset f 161 O2c) 160 Az3964) 159 Az3963) 158 Az3962) 157 (up B0 m d)) 156 (up A0 m v)) hM (Sm.tw (Sm.tset (Sm.tset s_14 ez3959 (by decide)) ez3961 (by decide)) hSz3967 (by decide)) (Sm.at hSz3967 (by decide) (zat_set ez3961 (by decide) (zat_set ez3959 (by decide) (Sm.at s_14 (by decide) hM.1)))) (c1_cons (Sm.at hSz3967 (by decide) (zat_set ez3961 (by decide) (zat_self ez3959 f14_0))) (c1_cons (Sm.at hSz3967 (by decide) (zat_self ez3961 (zat_set ez3959 (by decide) f14_1))) (c1_cons (hMMz3966.2 158 (by decide) (by decide)) (c1_cons (hMMz3966.2 159 (by decide) (by decide)) (c1_cons (hMMz3966.2 160 (by decide) (by decide)) (c1_cons (Sm.at hSz3967 (by decide) (zat_set ez3961 (by decide) (zat_set ez3959 (by decide) f14_5))) c1_nil)))))) (fs_c (fs_c (fs_c (fs_c (fs_c (fs_c fs_n))))))) n gn al_ it pt tg bd hg hG (⟨hF.1, hsa, hsb, hz3968, hz3969, hz3970⟩) h4 h5 hi14.2.2.2.2.2.2.2.1 hn hA.1 (m + 1) (by omega) (hz3971)) (fun rz3987 Mz3988 hz3989 => ?_)
        obtain ⟨bz3975, Az3976, Bz3977, OPz3978, hAz3979, hMMz3980, hSz3981, sAz3982, sBz3983, sOz3984, hb1z3985, hbz3986⟩ := hz3989
        rw [hAz3979]
        show Zw 6 zm_MO_columnsFor 51 [some (.ref 139), some (.int (nI m)), some (.int (nI v)), some (.long (lN its)), none, some (.int (nI d))] [.int (nI bz3975), .long (lN its)] Mz3988 _
        have hfn : bz3975 = 1 ↔ Fnd (gE al_ it tg pt bd sg co) n (f 154) m s0 0 d := hbz3986.trans ((fnd_bk (E := (gE al_ it tg pt bd sg co)) (E' := (gE al_ it tg pt bd (up A0 m v) (up B0 m d))) ⟨⟨emp, rk, hA⟩, hsb, h4, hL.1⟩ hA.1 gE_0 (fun p hp => ⟨((up_n (by omega)).trans (hi14.2.2.2.2.2.2.2.2.1 p hp).1).symm, ((up_n (by omega)).trans (hi14.2.2.2.2.2.2.2.2.1 p hp).2).symm⟩) (up_s ..) (by rw [show (gE al_ it tg pt bd (up A0 m v) (up B0 m d)) 5 m = v from up_s ..]; exact hs)).symm)
        refine zw_eq0N (a := bz3975) rfl rfl (by omega) (fun c51 => ?_) (fun c51 => ?_)
        · -- 51 to 61
          refine zw_n 2 rfl ?_
          refine zw_topl (lo (a := its) (b := 0) rfl rfl) ?_
          refine zw_n 1 (ls' := [some (.ref 139), some (.int (nI m)), some (.int (nI v)), some (.long (lN (its ||| 0))), none, some (.int (nI d))]) rfl ?_
          refine zw_inc rfl (x' := (nI (d + 1))) (ls' := [some (.ref 139), some (.int (nI m)), some (.int (nI v)), some (.long (lN (its ||| 0))), none, some (.int (nI (d + 1)))]) rfl (na (a := d) (b := 1) rfl rfl) rfl ?_
          refine zw_n 1 rfl ?_
          exact ih14 (its ||| 0) (d + 1) (up A0 m v) (up B0 m d) Az3962 Az3976 Bz3977 OPz3978 Mz3988 (Sm.tw (Sm.tw (Sm.tset (Sm.tset s_14 ez3959 (by decide)) ez3961 (by decide)) hSz3967 (by decide)) hSz3981 (by decide)) (Sm.at hSz3981 (by decide) (Sm.at hSz3967 (by decide) (zat_set ez3961 (by decide) (zat_self ez3959 f14_0)))) (Sm.at hSz3981 (by decide) (Sm.at hSz3967 (by decide) (zat_self ez3961 (zat_set ez3959 (by decide) f14_1)))) (Sm.at hSz3981 (by decide) (hMMz3966.2 158 (by decide) (by decide))) (hMMz3980.2 159 (by decide) (by decide)) (hMMz3980.2 160 (by decide) (by decide)) (hMMz3980.2 161 (by decide) (by decide)) (⟨by omega, ⟨or_lt40 hi14.2.1.1 (by decide), cf_step hi14.2.1.2 hfn (by rw [if_neg (by omega)])⟩, hsa, hsb, hz3968, sAz3982, sBz3983, sOz3984, fun p hp => ⟨(up_n (by omega)).trans (hi14.2.2.2.2.2.2.2.2.1 p hp).1, (up_n (by omega)).trans (hi14.2.2.2.2.2.2.2.2.1 p hp).2⟩, fun t p q h1 h2 h3 => hz3971 t p q h1 h2 (by omega)⟩) (by omega)
        · -- 51 to 54
          refine zw_n 3 rfl ?_
          refine zw_topl (x' := (lN (2 ^ d))) ((lsl (m := 1) (k := d) rfl rfl (by omega)).trans (by rw [Nat.one_mul])) ?_
          refine zw_n 2 rfl ?_
          refine zw_topl (lo (a := its) (b := 2 ^ d) rfl rfl) ?_
          refine zw_n 1 (ls' := [some (.ref 139), some (.int (nI m)), some (.int (nI v)), some (.long (lN (its ||| (2 ^ d)))), none, some (.int (nI d))]) rfl ?_
          refine zw_inc rfl (x' := (nI (d + 1))) (ls' := [some (.ref 139), some (.int (nI m)), some (.int (nI v)), some (.long (lN (its ||| (2 ^ d)))), none, some (.int (nI (d + 1)))]) rfl (na (a := d) (b := 1) rfl rfl) rfl ?_
          refine zw_n 1 rfl ?_
          exact ih14 (its ||| (2 ^ d)) (d + 1) (up A0 m v) (up B0 m d) Az3962 Az3976 Bz3977 OPz3978 Mz3988 (Sm.tw (Sm.tw (Sm.tset (Sm.tset s_14 ez3959 (by decide)) ez3961 (by decide)) hSz3967 (by decide)) hSz3981 (by decide)) (Sm.at hSz3981 (by decide) (Sm.at hSz3967 (by decide) (zat_set ez3961 (by decide) (zat_self ez3959 f14_0)))) (Sm.at hSz3981 (by decide) (Sm.at hSz3967 (by decide) (zat_self ez3961 (zat_set ez3959 (by decide) f14_1)))) (Sm.at hSz3981 (by decide) (hMMz3966.2 158 (by decide) (by decide))) (hMMz3980.2 159 (by decide) (by decide)) (hMMz3980.2 160 (by decide) (by decide)) (hMMz3980.2 161 (by decide) (by decide)) (⟨by omega, ⟨or_lt40 hi14.2.1.1 (Nat.pow_lt_pow_right (by decide) (show d < 40 by omega)), cf_step hi14.2.1.2 hfn (by rw [if_pos (by omega)])⟩, hsa, hsb, hz3968, sAz3982, sBz3983, sOz3984, fun p hp => ⟨(up_n (by omega)).trans (hi14.2.2.2.2.2.2.2.2.1 p hp).1, (up_n (by omega)).trans (hi14.2.2.2.2.2.2.2.2.1 p hp).2⟩, fun t p q h1 h2 h3 => hz3971 t p q h1 h2 (by omega)⟩) (by omega)
  exact lp14 _ 0 0 Az3927 Az3928 Az3938 Az3939 Az3940 (f 161) Mz3949 (Sm.tw (Sm.tw Sm.rf hSz3931 (by decide)) hSz3943 (by decide)) mz3952 mz3953 (hMMz3942.2 158 (by decide) (by decide)) (hMMz3942.2 159 (by decide) (by decide)) (hMMz3942.2 160 (by decide) (by decide)) mz3954 (⟨by decide, ⟨by decide, fun e => ⟨fun q => by simp at q, fun q => absurd q.1 (Nat.not_lt_zero _)⟩⟩, hz3932, hz3933, hz3944, hz3945, hz3946, hSO, fun p hp => hz3934 p (by omega), hz3947⟩) (Nat.lt_succ_self _)
