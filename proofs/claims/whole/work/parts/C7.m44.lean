set_option maxHeartbeats 4000000 in
set_option maxRecDepth 100000 in
theorem m_ones (Mq : zM) (m : Nat) (hm : m < 1099511627776) : Zm 0 zm_MO_ones [.long (lN m)] Mq (fun r M1 => r = some (.int (nI (bc m))) ∧ M1 = Mq) := by
  show Zw 0 zm_MO_ones 0 [some (.long (lN m)), none, none, none, none] [] Mq _
  refine zw_n 4 (ls' := [some (.long (lN m)), none, some (.int 0), some (.long (lN m)), none]) rfl ?_
  have lp4 : ∀ (n4 : Nat) (k : Nat) (v : Nat), (v < 1099511627776 ∧ k + bc v = bc m) → bc v < n4 → Zw 0 zm_MO_ones 4 [some (.long (lN m)), none, some (.int (nI k)), some (.long (lN v)), none] [] Mq (fun r M1 => r = some (.int (nI (bc m))) ∧ M1 = Mq) := by
    intro n4
    induction n4 with
    | zero => intro k v _ h; exact absurd h (Nat.not_lt_zero _)
    | succ n4 ih4 =>
      intro k v hi4 hm4
      have hbm := bc_lt m
      refine zw_n 3 rfl ?_
      refine zw_leqN (a := v) (b := 0) rfl rfl rfl (by omega) (by omega) (fun c7 => ?_) (fun c7 => ?_)
      · -- 7 to 22
        refine zw_n 1 rfl ?_
        exact zw_iret rfl rfl (⟨by have h9 := hi4.2; rw [c7, bc_0, Nat.add_zero] at h9; rw [h9], rfl⟩)
      · -- 7 to 10
        refine zw_inc rfl (x' := (nI (k + 1))) (ls' := [some (.long (lN m)), none, some (.int (nI (k + 1))), some (.long (lN v)), none]) rfl (na (a := k) (b := 1) rfl rfl) rfl ?_
        refine zw_n 4 rfl ?_
        refine zw_topl (x' := (lN (v - 1))) (lsub2 (a := v) (b := 1) (by omega)) ?_
        refine zw_n 1 rfl ?_
        refine zw_topl (lan (a := v) (b := v - 1) rfl rfl) ?_
        refine zw_n 2 (ls' := [some (.long (lN m)), none, some (.int (nI (k + 1))), some (.long (lN (v &&& (v - 1)))), none]) rfl ?_
        exact ih4 (k + 1) (v &&& (v - 1)) (⟨and_lt40 hi4.1, by have := bc_clear c7 hi4.1; omega⟩) (by have := bc_clear c7 hi4.1; omega)
  exact lp4 _ 0 m (⟨hm, Nat.zero_add _⟩) (Nat.lt_succ_self _)

set_option maxHeartbeats 4000000 in
set_option maxRecDepth 100000 in
theorem m_leastOf (Mq : zM) (m : Nat) (h0 : m ≠ 0) (hm : m < 1099511627776) : Zm 0 zm_MO_leastOf [.long (lN m)] Mq (fun r M1 => r = some (.int (nI (lsb m))) ∧ M1 = Mq) := by
  show Zw 0 zm_MO_leastOf 0 [some (.long (lN m)), none, none] [] Mq _
  obtain ⟨hl1, hl2, hl3⟩ := lsb_sp h0 hm
  refine zw_n 2 (ls' := [some (.long (lN m)), none, some (.int 0)]) rfl ?_
  have lp2 : ∀ (n2 : Nat) (d : Nat), (d ≤ lsb m) → lsb m - d < n2 → Zw 0 zm_MO_leastOf 2 [some (.long (lN m)), none, some (.int (nI d))] [] Mq (fun r M1 => r = some (.int (nI (lsb m))) ∧ M1 = Mq) := by
    intro n2
    induction n2 with
    | zero => intro d _ h; exact absurd h (Nat.not_lt_zero _)
    | succ n2 ih2 =>
      intro d hi2 hm2
      refine zw_n 3 rfl ?_
      refine zw_topl (x' := (lN (m / 2 ^ d))) (lsr rfl rfl (by omega) (by omega)) ?_
      refine zw_n 2 rfl ?_
      refine zw_topl (lan (a := m / 2 ^ d) (b := 1) rfl rfl) ?_
      refine zw_topl (x' := (lN (m / 2 ^ d % 2))) (congrArg lN (Nat.and_one_is_mod _)) ?_
      refine zw_n 2 rfl ?_
      refine zw_lneN (a := m / 2 ^ d % 2) (b := 0) rfl rfl rfl (by omega) (by omega) (fun c9 => ?_) (fun c9 => ?_)
      · -- 9 to 18
        refine zw_n 1 rfl ?_
        exact zw_iret rfl rfl (⟨by rw [bit_and1] at c9; have h9 := ite_ne c9; by_cases e9 : d = lsb m; rw [e9]; (exfalso; rw [hl3 d (by omega)] at h9; cases h9), rfl⟩)
      · -- 9 to 12
        refine zw_inc rfl (x' := (nI (d + 1))) (ls' := [some (.long (lN m)), none, some (.int (nI (d + 1)))]) rfl (na (a := d) (b := 1) rfl rfl) rfl ?_
        refine zw_n 1 rfl ?_
        exact ih2 (d + 1) (by rw [bit_and1] at c9; have h9 := ite_eq0 c9; by_cases e9 : d = lsb m; exact absurd (e9 ▸ hl2) h9; omega) (by rw [bit_and1] at c9; have h9 := ite_eq0 c9; by_cases e9 : d = lsb m; exact absurd (e9 ▸ hl2) h9; omega)
  exact lp2 _ 0 (Nat.zero_le _) (Nat.lt_succ_self _)

set_option maxHeartbeats 4000000 in
set_option maxRecDepth 100000 in
theorem m_beginsAlt (Mq : zM) (o : Nat → Nat) (f : Nat → Nat → Nat) (hM : MM Mq o f)(n : Nat) (gn al_ it pt tg bd : Nat → Nat) (hg : RelG f n gn al_ it pt tg bd) (hG : SafeG n gn al_ it pt tg bd) (hF : SafeF f) (h4 : SafeM (f 154)) (h5 : SafeM (f 155)) (hSB : SafeM (f 163)) (r a s : Nat) (hr : r < n) (ha : a < al_ r) (hs : s < 128) : Zm 3 zm_MO_beginsAlt [.ref 139, .int (nI r), .int (nI a), .int (nI s)] Mq (fun r9 M1 => r9 = some (.long (lN (bgA (gE al_ it tg pt bd (f 156) (f 157)) (f 154) (f 155) s (f 163) (r * 4 + a)))) ∧ M1 = Mq) := by
  show Zw 3 zm_MO_beginsAlt 0 [some (.ref 139), some (.int (nI r)), some (.int (nI a)), some (.int (nI s)), none, none, none, none, none, none, none, none, none, none] [] Mq _
  have hn8 := hG.1
  have ha4 := hG.2.2.1 r
  have hi5 := hG.2.2.2.1 (r * 4 + a)
  refine zw_n 6 (ls' := [some (.ref 139), some (.int (nI r)), some (.int (nI a)), some (.int (nI s)), some (.long 0), none, some (.long 1099511627775), none, some (.int 0), none, none, none, none, none]) rfl ?_
  have lp11 : ∀ (n11 : Nat) (its : Nat) (ah : Nat) (k : Nat), (k ≤ it (r * 4 + a) ∧ its = orR (bgK (gE al_ it tg pt bd (f 156) (f 157)) (f 154) (f 155) s (f 163) (r * 4 + a)) 0 k ∧ ah = andR (fun j => brI tg bd (f 155) ((r * 4 + a) * 5 + j)) 0 k) → it (r * 4 + a) - k < n11 → Zw 3 zm_MO_beginsAlt 11 [some (.ref 139), some (.int (nI r)), some (.int (nI a)), some (.int (nI s)), some (.long (lN its)), none, some (.long (lN ah)), none, some (.int (nI k)), none, none, none, none, none] [] Mq (fun r9 M1 => r9 = some (.long (lN (bgA (gE al_ it tg pt bd (f 156) (f 157)) (f 154) (f 155) s (f 163) (r * 4 + a)))) ∧ M1 = Mq) := by
    intro n11
    induction n11 with
    | zero => intro its ah k _ h; exact absurd h (Nat.not_lt_zero _)
    | succ n11 ih11 =>
      intro its ah k hi11 hm11
      refine zw_n 4 rfl ?_
      refine zw_callV (as := [.int (nI r), .int (nI a)]) (rest := [.int (nI k)]) rfl rfl rfl hM.1 rfl rfl rfl (by decide) (m_items Mq o f hM n gn al_ it pt tg bd hg hG hF r a (by omega) (by omega)) (fun rz3990 Mz3991 hz3992 => ?_)
      rw [hz3992.1, hz3992.2]
      show Zw 3 zm_MO_beginsAlt 19 [some (.ref 139), some (.int (nI r)), some (.int (nI a)), some (.int (nI s)), some (.long (lN its)), none, some (.long (lN ah)), none, some (.int (nI k)), none, none, none, none, none] [.int (nI (it (r * 4 + a))), .int (nI k)] Mq _
      refine zw_igeN (a := k) (b := it (r * 4 + a)) rfl rfl rfl (by omega) (by omega) (fun c19 => ?_) (fun c19 => ?_)
      · -- 19 to 161
        refine zw_n 1 rfl ?_
        exact zw_lret rfl rfl (⟨by rw [hi11.2.1, show k = it (r * 4 + a) by omega]; rfl, rfl⟩)
      · -- 19 to 22
        refine zw_n 3 rfl ?_
        refine zw_callS (as := [.int (nI r), .int (nI a), .int (nI k)]) (rest := []) rfl rfl rfl rfl rfl rfl (by decide) (m_itemAt _ r a k) (fun rz3993 Mz3994 hz3995 => ?_)
        rw [hz3995.1, hz3995.2]
        show Zw 3 zm_MO_beginsAlt 29 [some (.ref 139), some (.int (nI r)), some (.int (nI a)), some (.int (nI s)), some (.long (lN its)), none, some (.long (lN ah)), none, some (.int (nI k)), none, none, none, none, none] [.int (nI (49 + 3 * ((r * 4 + a) * 5 + k)))] Mq _
        refine zw_n 6 (ls' := [some (.ref 139), some (.int (nI r)), some (.int (nI a)), some (.int (nI s)), some (.long (lN its)), none, some (.long (lN ah)), none, some (.int (nI k)), some (.int (nI (49 + 3 * ((r * 4 + a) * 5 + k)))), some (.long 1099511627775), none, none, none]) rfl ?_
        refine zw_top (na (a := k) (b := 1) rfl rfl) ?_
        refine zw_n 1 (ls' := [some (.ref 139), some (.int (nI r)), some (.int (nI a)), some (.int (nI s)), some (.long (lN its)), none, some (.long (lN ah)), none, some (.int (nI k)), some (.int (nI (49 + 3 * ((r * 4 + a) * 5 + k)))), some (.long 1099511627775), none, some (.int (nI (k + 1))), none]) rfl ?_
        have lp42 : ∀ (n42 : Nat) (rs : Nat) (l : Nat), (k + 1 ≤ l ∧ l ≤ it (r * 4 + a) ∧ rs = andR (fun j => frI tg bd (f 154) ((r * 4 + a) * 5 + j)) (k + 1) (l - (k + 1))) → it (r * 4 + a) - l < n42 → Zw 3 zm_MO_beginsAlt 42 [some (.ref 139), some (.int (nI r)), some (.int (nI a)), some (.int (nI s)), some (.long (lN its)), none, some (.long (lN ah)), none, some (.int (nI k)), some (.int (nI (49 + 3 * ((r * 4 + a) * 5 + k)))), some (.long (lN rs)), none, some (.int (nI l)), none] [] Mq (fun r9 M1 => r9 = some (.long (lN (bgA (gE al_ it tg pt bd (f 156) (f 157)) (f 154) (f 155) s (f 163) (r * 4 + a)))) ∧ M1 = Mq) := by
          intro n42
          induction n42 with
          | zero => intro rs l _ h; exact absurd h (Nat.not_lt_zero _)
          | succ n42 ih42 =>
            intro rs l hi42 hm42
            refine zw_n 4 rfl ?_
            refine zw_callV (as := [.int (nI r), .int (nI a)]) (rest := [.int (nI l)]) rfl rfl rfl hM.1 rfl rfl rfl (by decide) (m_items Mq o f hM n gn al_ it pt tg bd hg hG hF r a (by omega) (by omega)) (fun rz3996 Mz3997 hz3998 => ?_)
            rw [hz3998.1, hz3998.2]
            show Zw 3 zm_MO_beginsAlt 50 [some (.ref 139), some (.int (nI r)), some (.int (nI a)), some (.int (nI s)), some (.long (lN its)), none, some (.long (lN ah)), none, some (.int (nI k)), some (.int (nI (49 + 3 * ((r * 4 + a) * 5 + k)))), some (.long (lN rs)), none, some (.int (nI l)), none] [.int (nI (it (r * 4 + a))), .int (nI l)] Mq _
            refine zw_igeN (a := l) (b := it (r * 4 + a)) rfl rfl rfl (by omega) (by omega) (fun c50 => ?_) (fun c50 => ?_)
            · -- 50 to 75
              obtain rfl : rs = rst (gE al_ it tg pt bd (f 156) (f 157)) (f 154) (r * 4 + a) k := by rw [hi42.2.2, show l = it (r * 4 + a) by omega]; rfl
              have hbd9 := hG.2.2.2.2.2.2 ((r * 4 + a) * 5 + k)
              have hpt9 := hG.2.2.2.2.1 ((r * 4 + a) * 5 + k)
              have htg9 := hG.2.2.2.2.2.1 ((r * 4 + a) * 5 + k)
              refine zw_n 2 rfl ?_
              refine zw_callV (as := [.int (nI (49 + 3 * ((r * 4 + a) * 5 + k)))]) (rest := []) rfl rfl rfl hM.1 rfl rfl rfl (by decide) (m_partOf Mq o f hM n gn al_ it pt tg bd hg hG hF ((r * 4 + a) * 5 + k) ⟨r, a, k, hr, ha, by omega, rfl⟩ (by omega)) (fun rz3999 Mz4000 hz4001 => ?_)
              rw [hz4001.1, hz4001.2]
              show Zw 3 zm_MO_beginsAlt 81 [some (.ref 139), some (.int (nI r)), some (.int (nI a)), some (.int (nI s)), some (.long (lN its)), none, some (.long (lN ah)), none, some (.int (nI k)), some (.int (nI (49 + 3 * ((r * 4 + a) * 5 + k)))), some (.long (lN (rst (gE al_ it tg pt bd (f 156) (f 157)) (f 154) (r * 4 + a) k))), none, some (.int (nI l)), none] [.int (nI (tg ((r * 4 + a) * 5 + k)))] Mq _
              refine zw_n 1 rfl ?_
              refine zw_ineM (a := tg ((r * 4 + a) * 5 + k)) rfl rfl (by omega) (fun c82 => ?_) (fun c82 => ?_)
              · -- 82 to 106
                refine zw_n 1 rfl ?_
                refine zw_get (v := .ref 163) rfl hM.1 rfl ?_
                refine zw_n 2 rfl ?_
                refine zw_callV (as := [.int (nI (49 + 3 * ((r * 4 + a) * 5 + k)))]) (rest := [.ref 163]) rfl rfl rfl hM.1 rfl rfl rfl (by decide) (m_partOf Mq o f hM n gn al_ it pt tg bd hg hG hF ((r * 4 + a) * 5 + k) ⟨r, a, k, hr, ha, by omega, rfl⟩ (by omega)) (fun rz4002 Mz4003 hz4004 => ?_)
                rw [hz4004.1, hz4004.2]
                show Zw 3 zm_MO_beginsAlt 116 [some (.ref 139), some (.int (nI r)), some (.int (nI a)), some (.int (nI s)), some (.long (lN its)), none, some (.long (lN ah)), none, some (.int (nI k)), some (.int (nI (49 + 3 * ((r * 4 + a) * 5 + k)))), some (.long (lN (rst (gE al_ it tg pt bd (f 156) (f 157)) (f 154) (r * 4 + a) k))), none, some (.int (nI l)), none] [.int (nI (tg ((r * 4 + a) * 5 + k))), .ref 163] Mq _
                refine zw_lald (f := al (f 163)) (j := (tg ((r * 4 + a) * 5 + k))) rfl (hM.2 163 (by decide) (by decide)) rfl (by decide) (by omega) ?_
                refine zw_n 5 (ls' := [some (.ref 139), some (.int (nI r)), some (.int (nI a)), some (.int (nI s)), some (.long (lN its)), none, some (.long (lN ah)), none, some (.int (nI k)), some (.int (nI (49 + 3 * ((r * 4 + a) * 5 + k)))), some (.long (lN (rst (gE al_ it tg pt bd (f 156) (f 157)) (f 154) (r * 4 + a) k))), none, some (.long (lN ((f 163) (tg ((r * 4 + a) * 5 + k))))), none]) rfl ?_
                refine zw_topl (lan (a := ah) (b := rst (gE al_ it tg pt bd (f 156) (f 157)) (f 154) (r * 4 + a) k) rfl rfl) ?_
                refine zw_n 1 rfl ?_
                refine zw_get (v := .ref 140) rfl hM.1 rfl ?_
                refine zw_n 3 rfl ?_
                refine zw_top (na (a := 49 + 3 * ((r * 4 + a) * 5 + k)) (b := 2) rfl rfl) ?_
                refine zw_iald (f := ai (f 140)) (j := ((49 + 3 * ((r * 4 + a) * 5 + k)) + 2)) rfl (hM.2 140 (by decide) (by decide)) rfl (by decide) (by omega) ?_
                refine zw_top (x' := (nI (bd ((r * 4 + a) * 5 + k)))) (congrArg nI (hg.2.2.2.2 ((r * 4 + a) * 5 + k) ⟨r, a, k, hr, ha, by omega, rfl⟩).2.2.1) ?_
                refine zw_n 1 rfl ?_
                refine zw_callS (as := [.int (nI (bd ((r * 4 + a) * 5 + k))), .long (lN ((f 163) (tg ((r * 4 + a) * 5 + k))))]) (rest := [.long (lN (ah &&& (rst (gE al_ it tg pt bd (f 156) (f 157)) (f 154) (r * 4 + a) k))), .long (lN its)]) rfl rfl rfl rfl rfl rfl (by decide) (m_lets _ _ _ (by omega) (by first | exact hSB _ | decide)) (fun rz4005 Mz4006 hz4007 => ?_)
                rw [hz4007.1, hz4007.2]
                show Zw 3 zm_MO_beginsAlt 140 [some (.ref 139), some (.int (nI r)), some (.int (nI a)), some (.int (nI s)), some (.long (lN its)), none, some (.long (lN ah)), none, some (.int (nI k)), some (.int (nI (49 + 3 * ((r * 4 + a) * 5 + k)))), some (.long (lN (rst (gE al_ it tg pt bd (f 156) (f 157)) (f 154) (r * 4 + a) k))), none, some (.long (lN ((f 163) (tg ((r * 4 + a) * 5 + k))))), none] [.long (lN (letsN (bd ((r * 4 + a) * 5 + k)) ((f 163) (tg ((r * 4 + a) * 5 + k))))), .long (lN (ah &&& (rst (gE al_ it tg pt bd (f 156) (f 157)) (f 154) (r * 4 + a) k))), .long (lN its)] Mq _
                refine zw_n 1 rfl ?_
                refine zw_topl (lan (a := ah &&& (rst (gE al_ it tg pt bd (f 156) (f 157)) (f 154) (r * 4 + a) k)) (b := letsN (bd ((r * 4 + a) * 5 + k)) ((f 163) (tg ((r * 4 + a) * 5 + k)))) rfl rfl) ?_
                refine zw_n 1 rfl ?_
                refine zw_topl (lo (a := its) (b := (ah &&& (rst (gE al_ it tg pt bd (f 156) (f 157)) (f 154) (r * 4 + a) k)) &&& (letsN (bd ((r * 4 + a) * 5 + k)) ((f 163) (tg ((r * 4 + a) * 5 + k))))) rfl rfl) ?_
                refine zw_n 4 (ls' := [some (.ref 139), some (.int (nI r)), some (.int (nI a)), some (.int (nI s)), some (.long (lN (its ||| ((ah &&& (rst (gE al_ it tg pt bd (f 156) (f 157)) (f 154) (r * 4 + a) k)) &&& (letsN (bd ((r * 4 + a) * 5 + k)) ((f 163) (tg ((r * 4 + a) * 5 + k)))))))), none, some (.long (lN ah)), none, some (.int (nI k)), some (.int (nI (49 + 3 * ((r * 4 + a) * 5 + k)))), some (.long (lN (rst (gE al_ it tg pt bd (f 156) (f 157)) (f 154) (r * 4 + a) k))), none, some (.long (lN ((f 163) (tg ((r * 4 + a) * 5 + k))))), none]) rfl ?_
                refine zw_callV (as := [.int (nI (49 + 3 * ((r * 4 + a) * 5 + k)))]) (rest := [.long (lN ah)]) rfl rfl rfl hM.1 rfl rfl rfl (by decide) (m_bareItem Mq o f hM n gn al_ it pt tg bd hg hG hF h4 h5 ((r * 4 + a) * 5 + k) ⟨r, a, k, hr, ha, by omega, rfl⟩ (by omega)) (fun rz4008 Mz4009 hz4010 => ?_)
                rw [hz4010.1, hz4010.2]
                show Zw 3 zm_MO_beginsAlt 152 [some (.ref 139), some (.int (nI r)), some (.int (nI a)), some (.int (nI s)), some (.long (lN (its ||| ((ah &&& (rst (gE al_ it tg pt bd (f 156) (f 157)) (f 154) (r * 4 + a) k)) &&& (letsN (bd ((r * 4 + a) * 5 + k)) ((f 163) (tg ((r * 4 + a) * 5 + k)))))))), none, some (.long (lN ah)), none, some (.int (nI k)), some (.int (nI (49 + 3 * ((r * 4 + a) * 5 + k)))), some (.long (lN (rst (gE al_ it tg pt bd (f 156) (f 157)) (f 154) (r * 4 + a) k))), none, some (.long (lN ((f 163) (tg ((r * 4 + a) * 5 + k))))), none] [.long (lN (brI tg bd (f 155) ((r * 4 + a) * 5 + k))), .long (lN ah)] Mq _
                refine zw_n 1 rfl ?_
                refine zw_topl (lan (a := ah) (b := brI tg bd (f 155) ((r * 4 + a) * 5 + k)) rfl rfl) ?_
                refine zw_n 1 (ls' := [some (.ref 139), some (.int (nI r)), some (.int (nI a)), some (.int (nI s)), some (.long (lN (its ||| ((ah &&& (rst (gE al_ it tg pt bd (f 156) (f 157)) (f 154) (r * 4 + a) k)) &&& (letsN (bd ((r * 4 + a) * 5 + k)) ((f 163) (tg ((r * 4 + a) * 5 + k)))))))), none, some (.long (lN (ah &&& (brI tg bd (f 155) ((r * 4 + a) * 5 + k))))), none, some (.int (nI k)), some (.int (nI (49 + 3 * ((r * 4 + a) * 5 + k)))), some (.long (lN (rst (gE al_ it tg pt bd (f 156) (f 157)) (f 154) (r * 4 + a) k))), none, some (.long (lN ((f 163) (tg ((r * 4 + a) * 5 + k))))), none]) rfl ?_
                refine zw_inc rfl (x' := (nI (k + 1))) (ls' := [some (.ref 139), some (.int (nI r)), some (.int (nI a)), some (.int (nI s)), some (.long (lN (its ||| ((ah &&& (rst (gE al_ it tg pt bd (f 156) (f 157)) (f 154) (r * 4 + a) k)) &&& (letsN (bd ((r * 4 + a) * 5 + k)) ((f 163) (tg ((r * 4 + a) * 5 + k)))))))), none, some (.long (lN (ah &&& (brI tg bd (f 155) ((r * 4 + a) * 5 + k))))), none, some (.int (nI (k + 1))), some (.int (nI (49 + 3 * ((r * 4 + a) * 5 + k)))), some (.long (lN (rst (gE al_ it tg pt bd (f 156) (f 157)) (f 154) (r * 4 + a) k))), none, some (.long (lN ((f 163) (tg ((r * 4 + a) * 5 + k))))), none]) rfl (na (a := k) (b := 1) rfl rfl) rfl ?_
                refine zw_n 1 rfl ?_
                refine zw_ls (ls' := [some (.ref 139), some (.int (nI r)), some (.int (nI a)), some (.int (nI s)), some (.long (lN (its ||| ((ah &&& (rst (gE al_ it tg pt bd (f 156) (f 157)) (f 154) (r * 4 + a) k)) &&& (letsN (bd ((r * 4 + a) * 5 + k)) ((f 163) (tg ((r * 4 + a) * 5 + k)))))))), none, some (.long (lN (ah &&& (brI tg bd (f 155) ((r * 4 + a) * 5 + k))))), none, some (.int (nI (k + 1))), none, none, none, none, none]) ⟨Or.inr rfl, Or.inr rfl, Or.inr rfl, Or.inr rfl, Or.inr rfl, Or.inl rfl, Or.inr rfl, Or.inl rfl, Or.inr rfl, Or.inl rfl, Or.inl rfl, Or.inl rfl, Or.inl rfl, Or.inl rfl, trivial⟩ ?_
                exact ih11 (its ||| ((ah &&& (rst (gE al_ it tg pt bd (f 156) (f 157)) (f 154) (r * 4 + a) k)) &&& (letsN (bd ((r * 4 + a) * 5 + k)) ((f 163) (tg ((r * 4 + a) * 5 + k)))))) (ah &&& (brI tg bd (f 155) ((r * 4 + a) * 5 + k))) (k + 1) (⟨by omega, by rw [orR, ← hi11.2.1, Nat.zero_add]; exact congrArg (fun z => its ||| z) (bgK_eq (E := (gE al_ it tg pt bd (f 156) (f 157))) hi11.2.2 (by unfold bgO; first | exact if_neg (show ¬ tg ((r * 4 + a) * 5 + k) = NO from c82) | exact (if_pos (show tg ((r * 4 + a) * 5 + k) = NO from c82)).trans (if_pos (show pt ((r * 4 + a) * 5 + k) = s from c93)) | exact (if_pos (show tg ((r * 4 + a) * 5 + k) = NO from c82)).trans (if_neg (show ¬ pt ((r * 4 + a) * 5 + k) = s from c93)))), by rw [andR, ← hi11.2.2, Nat.zero_add]⟩) (by omega)
              · -- 82 to 85
                refine zw_n 1 rfl ?_
                refine zw_get (v := .ref 140) rfl hM.1 rfl ?_
                refine zw_n 1 rfl ?_
                refine zw_iald (f := ai (f 140)) (j := (49 + 3 * ((r * 4 + a) * 5 + k))) rfl (hM.2 140 (by decide) (by decide)) rfl (by decide) (by omega) ?_
                refine zw_top (x' := (nI (pt ((r * 4 + a) * 5 + k)))) (congrArg nI (hg.2.2.2.2 ((r * 4 + a) * 5 + k) ⟨r, a, k, hr, ha, by omega, rfl⟩).1) ?_
                refine zw_n 1 rfl ?_
                refine zw_ineN (a := pt ((r * 4 + a) * 5 + k)) (b := s) rfl rfl rfl (by omega) (by omega) (fun c93 => ?_) (fun c93 => ?_)
                · -- 93 to 102
                  refine zw_n 7 (ls' := [some (.ref 139), some (.int (nI r)), some (.int (nI a)), some (.int (nI s)), some (.long (lN its)), none, some (.long (lN ah)), none, some (.int (nI k)), some (.int (nI (49 + 3 * ((r * 4 + a) * 5 + k)))), some (.long (lN (rst (gE al_ it tg pt bd (f 156) (f 157)) (f 154) (r * 4 + a) k))), none, some (.long 0), none]) rfl ?_
                  refine zw_topl (lan (a := ah) (b := rst (gE al_ it tg pt bd (f 156) (f 157)) (f 154) (r * 4 + a) k) rfl rfl) ?_
                  refine zw_n 1 rfl ?_
                  refine zw_get (v := .ref 140) rfl hM.1 rfl ?_
                  refine zw_n 3 rfl ?_
                  refine zw_top (na (a := 49 + 3 * ((r * 4 + a) * 5 + k)) (b := 2) rfl rfl) ?_
                  refine zw_iald (f := ai (f 140)) (j := ((49 + 3 * ((r * 4 + a) * 5 + k)) + 2)) rfl (hM.2 140 (by decide) (by decide)) rfl (by decide) (by omega) ?_
                  refine zw_top (x' := (nI (bd ((r * 4 + a) * 5 + k)))) (congrArg nI (hg.2.2.2.2 ((r * 4 + a) * 5 + k) ⟨r, a, k, hr, ha, by omega, rfl⟩).2.2.1) ?_
                  refine zw_n 1 rfl ?_
                  refine zw_callS (as := [.int (nI (bd ((r * 4 + a) * 5 + k))), .long 0]) (rest := [.long (lN (ah &&& (rst (gE al_ it tg pt bd (f 156) (f 157)) (f 154) (r * 4 + a) k))), .long (lN its)]) rfl rfl rfl rfl rfl rfl (by decide) (m_lets _ _ _ (by omega) (by first | exact hSB _ | decide)) (fun rz4011 Mz4012 hz4013 => ?_)
                  rw [hz4013.1, hz4013.2]
                  show Zw 3 zm_MO_beginsAlt 140 [some (.ref 139), some (.int (nI r)), some (.int (nI a)), some (.int (nI s)), some (.long (lN its)), none, some (.long (lN ah)), none, some (.int (nI k)), some (.int (nI (49 + 3 * ((r * 4 + a) * 5 + k)))), some (.long (lN (rst (gE al_ it tg pt bd (f 156) (f 157)) (f 154) (r * 4 + a) k))), none, some (.long 0), none] [.long (lN (letsN (bd ((r * 4 + a) * 5 + k)) 0)), .long (lN (ah &&& (rst (gE al_ it tg pt bd (f 156) (f 157)) (f 154) (r * 4 + a) k))), .long (lN its)] Mq _
                  refine zw_n 1 rfl ?_
                  refine zw_topl (lan (a := ah &&& (rst (gE al_ it tg pt bd (f 156) (f 157)) (f 154) (r * 4 + a) k)) (b := letsN (bd ((r * 4 + a) * 5 + k)) 0) rfl rfl) ?_
                  refine zw_n 1 rfl ?_
                  refine zw_topl (lo (a := its) (b := (ah &&& (rst (gE al_ it tg pt bd (f 156) (f 157)) (f 154) (r * 4 + a) k)) &&& (letsN (bd ((r * 4 + a) * 5 + k)) 0)) rfl rfl) ?_
                  refine zw_n 4 (ls' := [some (.ref 139), some (.int (nI r)), some (.int (nI a)), some (.int (nI s)), some (.long (lN (its ||| ((ah &&& (rst (gE al_ it tg pt bd (f 156) (f 157)) (f 154) (r * 4 + a) k)) &&& (letsN (bd ((r * 4 + a) * 5 + k)) 0))))), none, some (.long (lN ah)), none, some (.int (nI k)), some (.int (nI (49 + 3 * ((r * 4 + a) * 5 + k)))), some (.long (lN (rst (gE al_ it tg pt bd (f 156) (f 157)) (f 154) (r * 4 + a) k))), none, some (.long 0), none]) rfl ?_
                  refine zw_callV (as := [.int (nI (49 + 3 * ((r * 4 + a) * 5 + k)))]) (rest := [.long (lN ah)]) rfl rfl rfl hM.1 rfl rfl rfl (by decide) (m_bareItem Mq o f hM n gn al_ it pt tg bd hg hG hF h4 h5 ((r * 4 + a) * 5 + k) ⟨r, a, k, hr, ha, by omega, rfl⟩ (by omega)) (fun rz4014 Mz4015 hz4016 => ?_)
                  rw [hz4016.1, hz4016.2]
                  show Zw 3 zm_MO_beginsAlt 152 [some (.ref 139), some (.int (nI r)), some (.int (nI a)), some (.int (nI s)), some (.long (lN (its ||| ((ah &&& (rst (gE al_ it tg pt bd (f 156) (f 157)) (f 154) (r * 4 + a) k)) &&& (letsN (bd ((r * 4 + a) * 5 + k)) 0))))), none, some (.long (lN ah)), none, some (.int (nI k)), some (.int (nI (49 + 3 * ((r * 4 + a) * 5 + k)))), some (.long (lN (rst (gE al_ it tg pt bd (f 156) (f 157)) (f 154) (r * 4 + a) k))), none, some (.long 0), none] [.long (lN (brI tg bd (f 155) ((r * 4 + a) * 5 + k))), .long (lN ah)] Mq _
                  refine zw_n 1 rfl ?_
                  refine zw_topl (lan (a := ah) (b := brI tg bd (f 155) ((r * 4 + a) * 5 + k)) rfl rfl) ?_
                  refine zw_n 1 (ls' := [some (.ref 139), some (.int (nI r)), some (.int (nI a)), some (.int (nI s)), some (.long (lN (its ||| ((ah &&& (rst (gE al_ it tg pt bd (f 156) (f 157)) (f 154) (r * 4 + a) k)) &&& (letsN (bd ((r * 4 + a) * 5 + k)) 0))))), none, some (.long (lN (ah &&& (brI tg bd (f 155) ((r * 4 + a) * 5 + k))))), none, some (.int (nI k)), some (.int (nI (49 + 3 * ((r * 4 + a) * 5 + k)))), some (.long (lN (rst (gE al_ it tg pt bd (f 156) (f 157)) (f 154) (r * 4 + a) k))), none, some (.long 0), none]) rfl ?_
                  refine zw_inc rfl (x' := (nI (k + 1))) (ls' := [some (.ref 139), some (.int (nI r)), some (.int (nI a)), some (.int (nI s)), some (.long (lN (its ||| ((ah &&& (rst (gE al_ it tg pt bd (f 156) (f 157)) (f 154) (r * 4 + a) k)) &&& (letsN (bd ((r * 4 + a) * 5 + k)) 0))))), none, some (.long (lN (ah &&& (brI tg bd (f 155) ((r * 4 + a) * 5 + k))))), none, some (.int (nI (k + 1))), some (.int (nI (49 + 3 * ((r * 4 + a) * 5 + k)))), some (.long (lN (rst (gE al_ it tg pt bd (f 156) (f 157)) (f 154) (r * 4 + a) k))), none, some (.long 0), none]) rfl (na (a := k) (b := 1) rfl rfl) rfl ?_
                  refine zw_n 1 rfl ?_
                  refine zw_ls (ls' := [some (.ref 139), some (.int (nI r)), some (.int (nI a)), some (.int (nI s)), some (.long (lN (its ||| ((ah &&& (rst (gE al_ it tg pt bd (f 156) (f 157)) (f 154) (r * 4 + a) k)) &&& (letsN (bd ((r * 4 + a) * 5 + k)) 0))))), none, some (.long (lN (ah &&& (brI tg bd (f 155) ((r * 4 + a) * 5 + k))))), none, some (.int (nI (k + 1))), none, none, none, none, none]) ⟨Or.inr rfl, Or.inr rfl, Or.inr rfl, Or.inr rfl, Or.inr rfl, Or.inl rfl, Or.inr rfl, Or.inl rfl, Or.inr rfl, Or.inl rfl, Or.inl rfl, Or.inl rfl, Or.inl rfl, Or.inl rfl, trivial⟩ ?_
                  exact ih11 (its ||| ((ah &&& (rst (gE al_ it tg pt bd (f 156) (f 157)) (f 154) (r * 4 + a) k)) &&& (letsN (bd ((r * 4 + a) * 5 + k)) 0))) (ah &&& (brI tg bd (f 155) ((r * 4 + a) * 5 + k))) (k + 1) (⟨by omega, by rw [orR, ← hi11.2.1, Nat.zero_add]; exact congrArg (fun z => its ||| z) (bgK_eq (E := (gE al_ it tg pt bd (f 156) (f 157))) hi11.2.2 (by unfold bgO; first | exact if_neg (show ¬ tg ((r * 4 + a) * 5 + k) = NO from c82) | exact (if_pos (show tg ((r * 4 + a) * 5 + k) = NO from c82)).trans (if_pos (show pt ((r * 4 + a) * 5 + k) = s from c93)) | exact (if_pos (show tg ((r * 4 + a) * 5 + k) = NO from c82)).trans (if_neg (show ¬ pt ((r * 4 + a) * 5 + k) = s from c93)))), by rw [andR, ← hi11.2.2, Nat.zero_add]⟩) (by omega)
                · -- 93 to 96
                  refine zw_n 7 (ls' := [some (.ref 139), some (.int (nI r)), some (.int (nI a)), some (.int (nI s)), some (.long (lN its)), none, some (.long (lN ah)), none, some (.int (nI k)), some (.int (nI (49 + 3 * ((r * 4 + a) * 5 + k)))), some (.long (lN (rst (gE al_ it tg pt bd (f 156) (f 157)) (f 154) (r * 4 + a) k))), none, some (.long 1099511627775), none]) rfl ?_
                  refine zw_topl (lan (a := ah) (b := rst (gE al_ it tg pt bd (f 156) (f 157)) (f 154) (r * 4 + a) k) rfl rfl) ?_
                  refine zw_n 1 rfl ?_
                  refine zw_get (v := .ref 140) rfl hM.1 rfl ?_
                  refine zw_n 3 rfl ?_
                  refine zw_top (na (a := 49 + 3 * ((r * 4 + a) * 5 + k)) (b := 2) rfl rfl) ?_
                  refine zw_iald (f := ai (f 140)) (j := ((49 + 3 * ((r * 4 + a) * 5 + k)) + 2)) rfl (hM.2 140 (by decide) (by decide)) rfl (by decide) (by omega) ?_
                  refine zw_top (x' := (nI (bd ((r * 4 + a) * 5 + k)))) (congrArg nI (hg.2.2.2.2 ((r * 4 + a) * 5 + k) ⟨r, a, k, hr, ha, by omega, rfl⟩).2.2.1) ?_
                  refine zw_n 1 rfl ?_
                  refine zw_callS (as := [.int (nI (bd ((r * 4 + a) * 5 + k))), .long 1099511627775]) (rest := [.long (lN (ah &&& (rst (gE al_ it tg pt bd (f 156) (f 157)) (f 154) (r * 4 + a) k))), .long (lN its)]) rfl rfl rfl rfl rfl rfl (by decide) (m_lets _ _ _ (by omega) (by first | exact hSB _ | decide)) (fun rz4017 Mz4018 hz4019 => ?_)
                  rw [hz4019.1, hz4019.2]
                  show Zw 3 zm_MO_beginsAlt 140 [some (.ref 139), some (.int (nI r)), some (.int (nI a)), some (.int (nI s)), some (.long (lN its)), none, some (.long (lN ah)), none, some (.int (nI k)), some (.int (nI (49 + 3 * ((r * 4 + a) * 5 + k)))), some (.long (lN (rst (gE al_ it tg pt bd (f 156) (f 157)) (f 154) (r * 4 + a) k))), none, some (.long 1099511627775), none] [.long (lN (letsN (bd ((r * 4 + a) * 5 + k)) 1099511627775)), .long (lN (ah &&& (rst (gE al_ it tg pt bd (f 156) (f 157)) (f 154) (r * 4 + a) k))), .long (lN its)] Mq _
                  refine zw_n 1 rfl ?_
                  refine zw_topl (lan (a := ah &&& (rst (gE al_ it tg pt bd (f 156) (f 157)) (f 154) (r * 4 + a) k)) (b := letsN (bd ((r * 4 + a) * 5 + k)) 1099511627775) rfl rfl) ?_
                  refine zw_n 1 rfl ?_
                  refine zw_topl (lo (a := its) (b := (ah &&& (rst (gE al_ it tg pt bd (f 156) (f 157)) (f 154) (r * 4 + a) k)) &&& (letsN (bd ((r * 4 + a) * 5 + k)) 1099511627775)) rfl rfl) ?_
                  refine zw_n 4 (ls' := [some (.ref 139), some (.int (nI r)), some (.int (nI a)), some (.int (nI s)), some (.long (lN (its ||| ((ah &&& (rst (gE al_ it tg pt bd (f 156) (f 157)) (f 154) (r * 4 + a) k)) &&& (letsN (bd ((r * 4 + a) * 5 + k)) 1099511627775))))), none, some (.long (lN ah)), none, some (.int (nI k)), some (.int (nI (49 + 3 * ((r * 4 + a) * 5 + k)))), some (.long (lN (rst (gE al_ it tg pt bd (f 156) (f 157)) (f 154) (r * 4 + a) k))), none, some (.long 1099511627775), none]) rfl ?_
                  refine zw_callV (as := [.int (nI (49 + 3 * ((r * 4 + a) * 5 + k)))]) (rest := [.long (lN ah)]) rfl rfl rfl hM.1 rfl rfl rfl (by decide) (m_bareItem Mq o f hM n gn al_ it pt tg bd hg hG hF h4 h5 ((r * 4 + a) * 5 + k) ⟨r, a, k, hr, ha, by omega, rfl⟩ (by omega)) (fun rz4020 Mz4021 hz4022 => ?_)
                  rw [hz4022.1, hz4022.2]
                  show Zw 3 zm_MO_beginsAlt 152 [some (.ref 139), some (.int (nI r)), some (.int (nI a)), some (.int (nI s)), some (.long (lN (its ||| ((ah &&& (rst (gE al_ it tg pt bd (f 156) (f 157)) (f 154) (r * 4 + a) k)) &&& (letsN (bd ((r * 4 + a) * 5 + k)) 1099511627775))))), none, some (.long (lN ah)), none, some (.int (nI k)), some (.int (nI (49 + 3 * ((r * 4 + a) * 5 + k)))), some (.long (lN (rst (gE al_ it tg pt bd (f 156) (f 157)) (f 154) (r * 4 + a) k))), none, some (.long 1099511627775), none] [.long (lN (brI tg bd (f 155) ((r * 4 + a) * 5 + k))), .long (lN ah)] Mq _
                  refine zw_n 1 rfl ?_
                  refine zw_topl (lan (a := ah) (b := brI tg bd (f 155) ((r * 4 + a) * 5 + k)) rfl rfl) ?_
                  refine zw_n 1 (ls' := [some (.ref 139), some (.int (nI r)), some (.int (nI a)), some (.int (nI s)), some (.long (lN (its ||| ((ah &&& (rst (gE al_ it tg pt bd (f 156) (f 157)) (f 154) (r * 4 + a) k)) &&& (letsN (bd ((r * 4 + a) * 5 + k)) 1099511627775))))), none, some (.long (lN (ah &&& (brI tg bd (f 155) ((r * 4 + a) * 5 + k))))), none, some (.int (nI k)), some (.int (nI (49 + 3 * ((r * 4 + a) * 5 + k)))), some (.long (lN (rst (gE al_ it tg pt bd (f 156) (f 157)) (f 154) (r * 4 + a) k))), none, some (.long 1099511627775), none]) rfl ?_
                  refine zw_inc rfl (x' := (nI (k + 1))) (ls' := [some (.ref 139), some (.int (nI r)), some (.int (nI a)), some (.int (nI s)), some (.long (lN (its ||| ((ah &&& (rst (gE al_ it tg pt bd (f 156) (f 157)) (f 154) (r * 4 + a) k)) &&& (letsN (bd ((r * 4 + a) * 5 + k)) 1099511627775))))), none, some (.long (lN (ah &&& (brI tg bd (f 155) ((r * 4 + a) * 5 + k))))), none, some (.int (nI (k + 1))), some (.int (nI (49 + 3 * ((r * 4 + a) * 5 + k)))), some (.long (lN (rst (gE al_ it tg pt bd (f 156) (f 157)) (f 154) (r * 4 + a) k))), none, some (.long 1099511627775), none]) rfl (na (a := k) (b := 1) rfl rfl) rfl ?_
                  refine zw_n 1 rfl ?_
                  refine zw_ls (ls' := [some (.ref 139), some (.int (nI r)), some (.int (nI a)), some (.int (nI s)), some (.long (lN (its ||| ((ah &&& (rst (gE al_ it tg pt bd (f 156) (f 157)) (f 154) (r * 4 + a) k)) &&& (letsN (bd ((r * 4 + a) * 5 + k)) 1099511627775))))), none, some (.long (lN (ah &&& (brI tg bd (f 155) ((r * 4 + a) * 5 + k))))), none, some (.int (nI (k + 1))), none, none, none, none, none]) ⟨Or.inr rfl, Or.inr rfl, Or.inr rfl, Or.inr rfl, Or.inr rfl, Or.inl rfl, Or.inr rfl, Or.inl rfl, Or.inr rfl, Or.inl rfl, Or.inl rfl, Or.inl rfl, Or.inl rfl, Or.inl rfl, trivial⟩ ?_
                  exact ih11 (its ||| ((ah &&& (rst (gE al_ it tg pt bd (f 156) (f 157)) (f 154) (r * 4 + a) k)) &&& (letsN (bd ((r * 4 + a) * 5 + k)) 1099511627775))) (ah &&& (brI tg bd (f 155) ((r * 4 + a) * 5 + k))) (k + 1) (⟨by omega, by rw [orR, ← hi11.2.1, Nat.zero_add]; exact congrArg (fun z => its ||| z) (bgK_eq (E := (gE al_ it tg pt bd (f 156) (f 157))) hi11.2.2 (by unfold bgO; first | exact if_neg (show ¬ tg ((r * 4 + a) * 5 + k) = NO from c82) | exact (if_pos (show tg ((r * 4 + a) * 5 + k) = NO from c82)).trans (if_pos (show pt ((r * 4 + a) * 5 + k) = s from c93)) | exact (if_pos (show tg ((r * 4 + a) * 5 + k) = NO from c82)).trans (if_neg (show ¬ pt ((r * 4 + a) * 5 + k) = s from c93)))), by rw [andR, ← hi11.2.2, Nat.zero_add]⟩) (by omega)
            · -- 50 to 53
              refine zw_n 5 rfl ?_
              refine zw_callS (as := [.int (nI r), .int (nI a), .int (nI l)]) (rest := [.ref 139, .long (lN rs)]) rfl rfl rfl rfl rfl rfl (by decide) (m_itemAt _ r a l) (fun rz4023 Mz4024 hz4025 => ?_)
              rw [hz4025.1, hz4025.2]
              show Zw 3 zm_MO_beginsAlt 63 [some (.ref 139), some (.int (nI r)), some (.int (nI a)), some (.int (nI s)), some (.long (lN its)), none, some (.long (lN ah)), none, some (.int (nI k)), some (.int (nI (49 + 3 * ((r * 4 + a) * 5 + k)))), some (.long (lN rs)), none, some (.int (nI l)), none] [.int (nI (49 + 3 * ((r * 4 + a) * 5 + l))), .ref 139, .long (lN rs)] Mq _
              refine zw_callV (as := [.int (nI (49 + 3 * ((r * 4 + a) * 5 + l)))]) (rest := [.long (lN rs)]) rfl rfl rfl hM.1 rfl rfl rfl (by decide) (m_freeItem Mq o f hM n gn al_ it pt tg bd hg hG hF h4 h5 ((r * 4 + a) * 5 + l) ⟨r, a, l, hr, ha, by omega, rfl⟩ (by omega)) (fun rz4026 Mz4027 hz4028 => ?_)
              rw [hz4028.1, hz4028.2]
              show Zw 3 zm_MO_beginsAlt 66 [some (.ref 139), some (.int (nI r)), some (.int (nI a)), some (.int (nI s)), some (.long (lN its)), none, some (.long (lN ah)), none, some (.int (nI k)), some (.int (nI (49 + 3 * ((r * 4 + a) * 5 + k)))), some (.long (lN rs)), none, some (.int (nI l)), none] [.long (lN (frI tg bd (f 154) ((r * 4 + a) * 5 + l))), .long (lN rs)] Mq _
              refine zw_n 1 rfl ?_
              refine zw_topl (lan (a := rs) (b := frI tg bd (f 154) ((r * 4 + a) * 5 + l)) rfl rfl) ?_
              refine zw_n 1 (ls' := [some (.ref 139), some (.int (nI r)), some (.int (nI a)), some (.int (nI s)), some (.long (lN its)), none, some (.long (lN ah)), none, some (.int (nI k)), some (.int (nI (49 + 3 * ((r * 4 + a) * 5 + k)))), some (.long (lN (rs &&& (frI tg bd (f 154) ((r * 4 + a) * 5 + l))))), none, some (.int (nI l)), none]) rfl ?_
              refine zw_inc rfl (x' := (nI (l + 1))) (ls' := [some (.ref 139), some (.int (nI r)), some (.int (nI a)), some (.int (nI s)), some (.long (lN its)), none, some (.long (lN ah)), none, some (.int (nI k)), some (.int (nI (49 + 3 * ((r * 4 + a) * 5 + k)))), some (.long (lN (rs &&& (frI tg bd (f 154) ((r * 4 + a) * 5 + l))))), none, some (.int (nI (l + 1))), none]) rfl (na (a := l) (b := 1) rfl rfl) rfl ?_
              refine zw_n 1 rfl ?_
              exact ih42 (rs &&& (frI tg bd (f 154) ((r * 4 + a) * 5 + l))) (l + 1) (⟨by omega, by omega, by rw [show l + 1 - (k + 1) = (l - (k + 1)) + 1 by omega, andR, ← hi42.2.2, show k + 1 + (l - (k + 1)) = l by omega]⟩) (by omega)
        exact lp42 _ 1099511627775 (k + 1) (⟨Nat.le_refl _, by omega, by rw [Nat.sub_self]; rfl⟩) (Nat.lt_succ_self _)
  exact lp11 _ 0 1099511627775 0 (⟨Nat.zero_le _, rfl, rfl⟩) (Nat.lt_succ_self _)

set_option maxHeartbeats 4000000 in
set_option maxRecDepth 100000 in
theorem m_canBegin (Mq : zM) (o : Nat → Nat) (f : Nat → Nat → Nat) (hM : MM Mq o f)(n : Nat) (gn al_ it pt tg bd : Nat → Nat) (hg : RelG f n gn al_ it pt tg bd) (hG : SafeG n gn al_ it pt tg bd) (hF : SafeF f) (h4 : SafeM (f 154)) (h5 : SafeM (f 155)) (hSB : SafeM (f 163)) (hcl : Clo (gE al_ it tg pt bd (f 156) (f 157)) n) (x s : Nat) (hx : x < n) (hs : s < 128) : Zm 4 zm_MO_canBegin [.ref 139, .int (nI x), .int (nI s)] Mq (fun r9 M1 => ∃ b BG, r9 = some (.int (nI b)) ∧ MM M1 o (fset f 163 BG) ∧ Sm Mq M1 [163] ∧ SafeM BG ∧ b ≤ 1 ∧ (b = 1 ↔ ∃ c, c < 40 ∧ Bg (gE al_ it tg pt bd (f 156) (f 157)) n (f 154) (f 155) s x c)) := by
  show Zw 4 zm_MO_canBegin 0 [some (.ref 139), some (.int (nI x)), some (.int (nI s)), none, none, none, none, none] [] Mq _
  have hn8 := hG.1
  have hmo9 : gMo n al_ (fun bg y => bgA (gE al_ it tg pt bd (f 156) (f 157)) (f 154) (f 155) s bg y) := bgA_mo hcl
  refine zw_n 2 (ls' := [some (.ref 139), some (.int (nI x)), some (.int (nI s)), some (.int 0), none, none, none, none]) rfl ?_
  have lp2 : ∀ (n2 : Nat) (r : Nat) (F0 : Nat → Nat) (M_2 : zM), Sm Mq M_2 [163] → M_2[163]? = some (.inl (1, 8, .inr (.inl (al F0)))) → (r ≤ n ∧ SafeM F0 ∧ ∀ q, q < r → F0 q = 0) → n - r < n2 → Zw 4 zm_MO_canBegin 2 [some (.ref 139), some (.int (nI x)), some (.int (nI s)), some (.int (nI r)), none, none, none, none] [] M_2 (fun r9 M1 => ∃ b BG, r9 = some (.int (nI b)) ∧ MM M1 o (fset f 163 BG) ∧ Sm Mq M1 [163] ∧ SafeM BG ∧ b ≤ 1 ∧ (b = 1 ↔ ∃ c, c < 40 ∧ Bg (gE al_ it tg pt bd (f 156) (f 157)) n (f 154) (f 155) s x c)) := by
    intro n2
    induction n2 with
    | zero => intro r F0 M_2 _ _ _ h; exact absurd h (Nat.not_lt_zero _)
    | succ n2 ih2 =>
      intro r F0 M_2 s_2 f2_0 hi2 hm2
      refine zw_n 2 rfl ?_
      refine zw_get (v := .ref 140) rfl (Sm.at s_2 (by decide) hM.1) rfl ?_
      refine zw_n 1 rfl ?_
      refine zw_iald (f := ai (f 140)) (j := 0) rfl (Sm.at s_2 (by decide) (hM.2 140 (by decide) (by decide))) rfl (by decide) (by omega) ?_
      refine zw_top (x' := (nI n)) (congrArg nI hg.1) ?_
      refine zw_igeN (a := r) (b := n) rfl rfl rfl (by omega) (by omega) (fun c9 => ?_) (fun c9 => ?_)
      · -- 9 to 25
        refine zw_n 2 (ls' := [some (.ref 139), some (.int (nI x)), some (.int (nI s)), some (.int 1), none, none, none, none]) rfl ?_
        have lp27 : ∀ (n27 : Nat) (mo : Nat) (F1g : Nat → Nat) (M_27 : zM), Sm Mq M_27 [163] → M_27[163]? = some (.inl (1, 8, .inr (.inl (al F1g)))) → (bgP n al_ (fun bg y => bgA (gE al_ it tg pt bd (f 156) (f 157)) (f 154) (f 155) s bg y) mo F1g) → (if mo = 0 then 0 else 322 - tb F1g n) < n27 → Zw 4 zm_MO_canBegin 27 [some (.ref 139), some (.int (nI x)), some (.int (nI s)), some (.int (nI mo)), none, none, none, none] [] M_27 (fun r9 M1 => ∃ b BG, r9 = some (.int (nI b)) ∧ MM M1 o (fset f 163 BG) ∧ Sm Mq M1 [163] ∧ SafeM BG ∧ b ≤ 1 ∧ (b = 1 ↔ ∃ c, c < 40 ∧ Bg (gE al_ it tg pt bd (f 156) (f 157)) n (f 154) (f 155) s x c)) := by
          intro n27
          induction n27 with
          | zero => intro mo F1g M_27 _ _ _ h; exact absurd h (Nat.not_lt_zero _)
          | succ n27 ih27 =>
            intro mo F1g M_27 s_27 f27_0 hi27 hm27
            have hmo := hi27.1
            refine zw_n 1 rfl ?_
            refine zw_eq0N (a := mo) rfl rfl (by omega) (fun c28 => ?_) (fun c28 => ?_)
            · -- 28 to 131
              refine zw_n 1 rfl ?_
              refine zw_get (v := .ref 163) rfl (Sm.at s_27 (by decide) hM.1) rfl ?_
              refine zw_n 1 rfl ?_
              refine zw_lald (f := al F1g) (j := x) rfl f27_0 rfl (by decide) (by omega) ?_
              refine zw_n 2 rfl ?_
              refine zw_leqN (a := F1g x) (b := 0) rfl rfl rfl (by first | exact Nat.lt_trans (hi27.2.1 _) (by decide) | decide) (by first | exact Nat.lt_trans (hi27.2.1 _) (by decide) | decide) (fun c139 => ?_) (fun c139 => ?_)
              · -- 139 to 146
                refine zw_n 1 rfl ?_
                exact zw_zret rfl rfl (Or.inl rfl) (⟨0, F1g, rfl, (MM.of (o' := o) (f' := fset f 163 F1g) hM s_27 (Sm.at s_27 (by decide) hM.1) (c1_cons f27_0 c1_nil) (fs_c fs_n)), s_27, hi27.2.1, by decide, iff_of_false (by decide) (fun ⟨c9, _, h9⟩ => bit_ne0 ((bg_iff hcl hi27.2.1 (hi27.2.2.2 c28) hx).mpr h9) c139)⟩)
              · -- 139 to 142
                refine zw_n 2 rfl ?_
                exact zw_zret rfl rfl (Or.inr rfl) (⟨1, F1g, rfl, (MM.of (o' := o) (f' := fset f 163 F1g) hM s_27 (Sm.at s_27 (by decide) hM.1) (c1_cons f27_0 c1_nil) (fs_c fs_n)), s_27, hi27.2.1, by decide, iff_of_true rfl (by obtain ⟨c9, h9⟩ := Nat.exists_testBit_of_ne_zero c139; exact ⟨c9, bit_lt40 (hi27.2.1 _) h9, (bg_iff hcl hi27.2.1 (hi27.2.2.2 c28) hx).mp h9⟩)⟩)
            · -- 28 to 31
              refine zw_n 4 (ls' := [some (.ref 139), some (.int (nI x)), some (.int (nI s)), some (.int 0), some (.int 0), none, none, none]) rfl ?_
              have lp36 : ∀ (n36 : Nat) (mp : Nat) (y : Nat) (F2g : Nat → Nat) (M_36 : zM), Sm Mq M_36 [163] → M_36[163]? = some (.inl (1, 8, .inr (.inl (al F2g)))) → (bgI n al_ (fun bg y => bgA (gE al_ it tg pt bd (f 156) (f 157)) (f 154) (f 155) s bg y) F1g y mp F2g) → n - y < n36 → Zw 4 zm_MO_canBegin 36 [some (.ref 139), some (.int (nI x)), some (.int (nI s)), some (.int (nI mp)), some (.int (nI y)), none, none, none] [] M_36 (fun r9 M1 => ∃ b BG, r9 = some (.int (nI b)) ∧ MM M1 o (fset f 163 BG) ∧ Sm Mq M1 [163] ∧ SafeM BG ∧ b ≤ 1 ∧ (b = 1 ↔ ∃ c, c < 40 ∧ Bg (gE al_ it tg pt bd (f 156) (f 157)) n (f 154) (f 155) s x c)) := by
                intro n36
                induction n36 with
                | zero => intro mp y F2g M_36 _ _ _ h; exact absurd h (Nat.not_lt_zero _)
                | succ n36 ih36 =>
                  intro mp y F2g M_36 s_36 f36_0 hi36 hm36
                  have hyn := hi36.1
                  have hmp := hi36.2.1
                  refine zw_n 2 rfl ?_
                  refine zw_get (v := .ref 140) rfl (Sm.at s_36 (by decide) hM.1) rfl ?_
                  refine zw_n 1 rfl ?_
                  refine zw_iald (f := ai (f 140)) (j := 0) rfl (Sm.at s_36 (by decide) (hM.2 140 (by decide) (by decide))) rfl (by decide) (by omega) ?_
                  refine zw_top (x' := (nI n)) (congrArg nI hg.1) ?_
                  refine zw_igeN (a := y) (b := n) rfl rfl rfl (by omega) (by omega) (fun c44 => ?_) (fun c44 => ?_)
                  · -- 44 to 128
                    refine zw_n 1 rfl ?_
                    refine zw_ls (ls' := [some (.ref 139), some (.int (nI x)), some (.int (nI s)), some (.int (nI mp)), none, none, none, none]) ⟨Or.inr rfl, Or.inr rfl, Or.inr rfl, Or.inr rfl, Or.inl rfl, Or.inl rfl, Or.inl rfl, Or.inl rfl, trivial⟩ ?_
                    exact ih27 mp F2g M_36 s_36 f36_0 (bgI.fin hmo9 ((show y = n by omega) ▸ hi36)) (bg_meas hn8 c28 hm27 hi36.2.2.2.2)
                  · -- 44 to 47
                    refine zw_n 1 rfl ?_
                    refine zw_get (v := .ref 163) rfl (Sm.at s_36 (by decide) hM.1) rfl ?_
                    refine zw_n 1 rfl ?_
                    refine zw_lald (f := al F2g) (j := y) rfl f36_0 rfl (by decide) (by omega) ?_
                    refine zw_topl (x' := (lN (F2g y))) (rfl) ?_
                    refine zw_n 3 (ls' := [some (.ref 139), some (.int (nI x)), some (.int (nI s)), some (.int (nI mp)), some (.int (nI y)), some (.long (lN (F2g y))), none, some (.int 0)]) rfl ?_
                    have lp59 : ∀ (n59 : Nat) (a : Nat) (F3g : Nat → Nat) (M_59 : zM), Sm Mq M_59 [163] → M_59[163]? = some (.inl (1, 8, .inr (.inl (al F3g)))) → (a ≤ al_ y ∧ AlI n al_ (fun bg y => bgA (gE al_ it tg pt bd (f 156) (f 157)) (f 154) (f 155) s bg y) F2g y a F3g) → al_ y - a < n59 → Zw 4 zm_MO_canBegin 59 [some (.ref 139), some (.int (nI x)), some (.int (nI s)), some (.int (nI mp)), some (.int (nI y)), some (.long (lN (F2g y))), none, some (.int (nI a))] [] M_59 (fun r9 M1 => ∃ b BG, r9 = some (.int (nI b)) ∧ MM M1 o (fset f 163 BG) ∧ Sm Mq M1 [163] ∧ SafeM BG ∧ b ≤ 1 ∧ (b = 1 ↔ ∃ c, c < 40 ∧ Bg (gE al_ it tg pt bd (f 156) (f 157)) n (f 154) (f 155) s x c)) := by
                      intro n59
                      induction n59 with
                      | zero => intro a F3g M_59 _ _ _ h; exact absurd h (Nat.not_lt_zero _)
                      | succ n59 ih59 =>
                        intro a F3g M_59 s_59 f59_0 hi59 hm59
                        have hal4 := hG.2.2.1 y
                        refine zw_n 2 rfl ?_
                        refine zw_get (v := .ref 140) rfl (Sm.at s_59 (by decide) hM.1) rfl ?_
                        refine zw_n 3 rfl ?_
                        refine zw_top (na (a := 9) (b := y) rfl rfl) ?_
                        refine zw_iald (f := ai (f 140)) (j := (9 + y)) rfl (Sm.at s_59 (by decide) (hM.2 140 (by decide) (by decide))) rfl (by decide) (by omega) ?_
                        refine zw_top (x' := (nI (al_ y))) (congrArg nI (hg.2.2.1 y (by omega))) ?_
                        refine zw_igeN (a := a) (b := al_ y) rfl rfl rfl (by omega) (by omega) (fun c71 => ?_) (fun c71 => ?_)
                        · -- 71 to 99
                          have j99 : Zw 4 zm_MO_canBegin 121 [some (.ref 139), some (.int (nI x)), some (.int (nI s)), some (.int (nI mp)), some (.int (nI y)), some (.long (lN (F2g y))), none, some (.int (nI a))] [.int (nI (if mp ≠ 0 ∨ F3g y ≠ F2g y then 1 else 0))] M_59 (fun r9 M1 => ∃ b BG, r9 = some (.int (nI b)) ∧ MM M1 o (fset f 163 BG) ∧ Sm Mq M1 [163] ∧ SafeM BG ∧ b ≤ 1 ∧ (b = 1 ↔ ∃ c, c < 40 ∧ Bg (gE al_ it tg pt bd (f 156) (f 157)) n (f 154) (f 155) s x c)) := by
                            refine zw_n 1 (ls' := [some (.ref 139), some (.int (nI x)), some (.int (nI s)), some (.int (nI (if mp ≠ 0 ∨ F3g y ≠ F2g y then 1 else 0))), some (.int (nI y)), some (.long (lN (F2g y))), none, some (.int (nI a))]) rfl ?_
                            refine zw_inc rfl (x' := (nI (y + 1))) (ls' := [some (.ref 139), some (.int (nI x)), some (.int (nI s)), some (.int (nI (if mp ≠ 0 ∨ F3g y ≠ F2g y then 1 else 0))), some (.int (nI (y + 1))), some (.long (lN (F2g y))), none, some (.int (nI a))]) rfl (na (a := y) (b := 1) rfl rfl) rfl ?_
                            refine zw_n 1 rfl ?_
                            refine zw_ls (ls' := [some (.ref 139), some (.int (nI x)), some (.int (nI s)), some (.int (nI (if mp ≠ 0 ∨ F3g y ≠ F2g y then 1 else 0))), some (.int (nI (y + 1))), none, none, none]) ⟨Or.inr rfl, Or.inr rfl, Or.inr rfl, Or.inr rfl, Or.inr rfl, Or.inl rfl, Or.inl rfl, Or.inl rfl, trivial⟩ ?_
                            exact ih36 (if mp ≠ 0 ∨ F3g y ≠ F2g y then 1 else 0) (y + 1) F3g M_59 s_59 f59_0 (hi36.step (by omega) hi59.2 (by omega)) (by omega)
                          refine zw_n 1 rfl ?_
                          refine zw_ne0N (a := mp) rfl rfl (by omega) (fun c100 => ?_) (fun c100 => ?_)
                          · -- 100 to 116
                            refine zw_n 2 rfl ?_
                            refine zw_top (x' := nI (if mp ≠ 0 ∨ F3g y ≠ F2g y then 1 else 0)) (show nI 1 = nI (if mp ≠ 0 ∨ F3g y ≠ F2g y then 1 else 0) by rw [if_pos (by first | exact Or.inl (by omega) | exact Or.inr c113)]) ?_
                            exact j99
                          · -- 100 to 103
                            refine zw_n 1 rfl ?_
                            refine zw_get (v := .ref 163) rfl (Sm.at s_59 (by decide) hM.1) rfl ?_
                            refine zw_n 1 rfl ?_
                            refine zw_lald (f := al F3g) (j := y) rfl f59_0 rfl (by decide) (by omega) ?_
                            refine zw_n 2 rfl ?_
                            refine zw_leqN (a := F3g y) (b := F2g y) rfl rfl rfl (by first | exact Nat.lt_trans (hi59.2.sfr _) (by decide) | exact Nat.lt_trans (hi36.2.2.1.sfr _) (by decide)) (by first | exact Nat.lt_trans (hi59.2.sfr _) (by decide) | exact Nat.lt_trans (hi36.2.2.1.sfr _) (by decide)) (fun c113 => ?_) (fun c113 => ?_)
                            · -- 113 to 120
                              refine zw_n 1 rfl ?_
                              refine zw_top (x' := nI (if mp ≠ 0 ∨ F3g y ≠ F2g y then 1 else 0)) (show nI 0 = nI (if mp ≠ 0 ∨ F3g y ≠ F2g y then 1 else 0) by rw [if_neg (by rintro (q | q) <;> first | exact q c100 | exact q c113)]) ?_
                              exact j99
                            · -- 113 to 116
                              refine zw_n 2 rfl ?_
                              refine zw_top (x' := nI (if mp ≠ 0 ∨ F3g y ≠ F2g y then 1 else 0)) (show nI 1 = nI (if mp ≠ 0 ∨ F3g y ≠ F2g y then 1 else 0) by rw [if_pos (by first | exact Or.inl (by omega) | exact Or.inr c113)]) ?_
                              exact j99
                        · -- 71 to 74
                          refine zw_n 1 rfl ?_
                          refine zw_get (v := .ref 163) rfl (Sm.at s_59 (by decide) hM.1) rfl ?_
                          refine zw_n 2 rfl ?_
                          refine zw_lald (f := al F3g) (j := y) rfl f59_0 rfl (by decide) (by omega) ?_
                          refine zw_n 4 rfl ?_
                          refine zw_callV (as := [.int (nI y), .int (nI a), .int (nI s)]) (rest := [.long (lN (F3g y)), .int (nI y), .ref 163]) rfl rfl rfl (Sm.at s_59 (by decide) hM.1) rfl rfl rfl (by decide) (m_beginsAlt M_59 o (fset f 163 F3g) (MM.of (o' := o) (f' := fset f 163 F3g) hM s_59 (Sm.at s_59 (by decide) hM.1) (c1_cons f59_0 c1_nil) (fs_c fs_n)) n gn al_ it pt tg bd hg hG hF h4 h5 hi59.2.sfr y a s (by omega) (by omega) (by omega)) (fun rz4029 Mz4030 hz4031 => ?_)
                          rw [hz4031.1, hz4031.2]
                          show Zw 4 zm_MO_canBegin 91 [some (.ref 139), some (.int (nI x)), some (.int (nI s)), some (.int (nI mp)), some (.int (nI y)), some (.long (lN (F2g y))), none, some (.int (nI a))] [.long (lN (bgA (gE al_ it tg pt bd (f 156) (f 157)) (f 154) (f 155) s F3g (y * 4 + a))), .long (lN (F3g y)), .int (nI y), .ref 163] M_59 _
                          refine zw_n 1 rfl ?_
                          refine zw_topl (lo (a := F3g y) (b := bgA (gE al_ it tg pt bd (f 156) (f 157)) (f 154) (f 155) s F3g (y * 4 + a)) rfl rfl) ?_
                          refine zw_lastN (g := F3g) (j := y) (v := ((F3g y) ||| (bgA (gE al_ it tg pt bd (f 156) (f 157)) (f 154) (f 155) s F3g (y * 4 + a)))) rfl f59_0 rfl (by decide) (by omega) (rfl) ?_
                          generalize ez4033 : List.set M_59 163 _ = Mz4032
                          refine zw_inc rfl (x' := (nI (a + 1))) (ls' := [some (.ref 139), some (.int (nI x)), some (.int (nI s)), some (.int (nI mp)), some (.int (nI y)), some (.long (lN (F2g y))), none, some (.int (nI (a + 1)))]) rfl (na (a := a) (b := 1) rfl rfl) rfl ?_
                          refine zw_n 1 rfl ?_
                          exact ih59 (a + 1) (up F3g y ((F3g y) ||| (bgA (gE al_ it tg pt bd (f 156) (f 157)) (f 154) (f 155) s F3g (y * 4 + a)))) Mz4032 (Sm.tset s_59 ez4033 (by decide)) (zat_self ez4033 f59_0) (⟨by omega, hi59.2.step hmo9 (by omega) (by omega)⟩) (by omega)
                    exact lp59 _ 0 F2g M_36 s_36 f36_0 (⟨Nat.zero_le _, AlI.start hi36.2.2.1.sfr hi36.2.2.1.lst⟩) (Nat.lt_succ_self _)
              exact lp36 _ 0 0 F1g M_27 s_27 f27_0 (hi27.go) (Nat.lt_succ_self _)
        exact lp27 _ 1 F0 M_2 s_2 f2_0 (bgP.start hi2.2.1 (fun q (hq : q < n) => hi2.2.2 q (by omega))) (Nat.lt_succ_self _)
      · -- 9 to 12
        refine zw_n 1 rfl ?_
        refine zw_get (v := .ref 163) rfl (Sm.at s_2 (by decide) hM.1) rfl ?_
        refine zw_n 2 rfl ?_
        refine zw_lastN (g := F0) (j := r) (v := 0) rfl f2_0 rfl (by decide) (by omega) (rfl) ?_
        generalize ez4035 : List.set M_2 163 _ = Mz4034
        refine zw_inc rfl (x' := (nI (r + 1))) (ls' := [some (.ref 139), some (.int (nI x)), some (.int (nI s)), some (.int (nI (r + 1))), none, none, none, none]) rfl (na (a := r) (b := 1) rfl rfl) rfl ?_
        refine zw_n 1 rfl ?_
        exact ih2 (r + 1) (up F0 r 0) Mz4034 (Sm.tset s_2 ez4035 (by decide)) (zat_self ez4035 f2_0) (⟨by omega, safe_up hi2.2.1 (by decide), fun q hq => by unfold up; split <;> first | rfl | exact hi2.2.2 q (by omega)⟩) (by omega)
  exact lp2 _ 0 (f 163) Mq Sm.rf (hM.2 163 (by decide) (by decide)) (⟨Nat.zero_le _, hSB, fun q hq => absurd hq (Nat.not_lt_zero _)⟩) (Nat.lt_succ_self _)

set_option maxHeartbeats 4000000 in
set_option maxRecDepth 100000 in
theorem m_firstNo (Mq : zM) (o : Nat → Nat) (f : Nat → Nat → Nat) (hM : MM Mq o f) (n : Nat) (hn0 : f 140 0 = n) (hn8 : n ≤ 8) (x w : Int32) (hx : ¬ (0 ≤ x.toInt ∧ x.toInt < n) ∨ w.toInt < -1) : Zm 5 zm_MO_first [.ref 139, .int x, .int w] Mq (fun r9 M1 => r9 = some (.int (-1)) ∧ MM M1 (up o 0 0) f ∧ Sm Mq M1 [139]) := by
  show Zw 5 zm_MO_first 0 [some (.ref 139), some (.int x), some (.int w), none, none] [] Mq _
  refine zw_n 2 rfl ?_
  refine zw_put rfl hM.1 (rfl) (Nat.le_of_ble_eq_true rfl) ?_
  generalize ez4037 : List.set Mq 139 _ = Mz4036
  refine zw_n 2 rfl ?_
  refine zw_callV (as := [.int x]) (rest := []) rfl rfl rfl (zat_self ez4037 hM.1) rfl rfl rfl (by decide) (m_isRule Mz4036 (up o 0 0) f (MM.of (o' := up o 0 0) (f' := f) hM (Sm.tset Sm.rf ez4037 (by decide)) (zat_self ez4037 hM.1) (c1_skip c1_nil) (fs_k fs_n)) n hn0 (by omega) x) (fun rz4038 Mz4039 hz4040 => ?_)
  rw [hz4040.1, hz4040.2]
  show Zw 5 zm_MO_first 10 [some (.ref 139), some (.int x), some (.int w), none, none] [.int (nI (if 0 ≤ x.toInt ∧ x.toInt < n then 1 else 0))] Mz4036 _
  refine zw_eq0N (a := if 0 ≤ x.toInt ∧ x.toInt < n then 1 else 0) rfl rfl (ite_b) (fun c10 => ?_) (fun c10 => ?_)
  · -- 10 to 18
    refine zw_n 1 rfl ?_
    exact zw_iret rfl rfl (⟨rfl, (MM.of (o' := up o 0 0) (f' := f) hM (Sm.tset Sm.rf ez4037 (by decide)) (zat_self ez4037 hM.1) (c1_skip c1_nil) (fs_k fs_n)), Sm.tset Sm.rf ez4037 (by decide)⟩)
  · -- 10 to 13
    refine zw_n 2 rfl ?_
    refine zw_igeZ (a := w.toInt) (b := (-1)) rfl (rfl) (by decide) (fun c15 => ?_) (fun c15 => ?_)
    · -- 15 to 20
      exfalso
      first | (rcases hx with q9 | q9; exact q9 (ite_ne c10); omega)
    · -- 15 to 18
      refine zw_n 1 rfl ?_
      exact zw_iret rfl rfl (⟨rfl, (MM.of (o' := up o 0 0) (f' := f) hM (Sm.tset Sm.rf ez4037 (by decide)) (zat_self ez4037 hM.1) (c1_skip c1_nil) (fs_k fs_n)), Sm.tset Sm.rf ez4037 (by decide)⟩)

set_option maxHeartbeats 4000000 in
set_option maxRecDepth 100000 in
theorem m_firstOk (Mq : zM) (o : Nat → Nat) (f : Nat → Nat → Nat) (hM : MM Mq o f)(n : Nat) (gn al_ it pt tg bd : Nat → Nat) (hg : RelG f n gn al_ it pt tg bd) (hG : SafeG n gn al_ it pt tg bd) (hF : SafeF f) (c : Nat) (sg li co : Nat → Nat) (ht : RelT f c sg li co) (hS : SafeT c sg li co) (emp : Nat → Prop) (rk : Nat → Nat) (hA : Acyc (gE al_ it tg pt bd sg co) n emp rk) (h4 : SafeM (f 154)) (h5 : SafeM (f 155)) (hSB : SafeM (f 163)) (hbr : ∀ t, t < n → f 155 t = wh (gE al_ it tg pt bd sg co) n t 0 0) (r : Nat) (x : Int32) (h_r : r < n) (hx : -1 ≤ x.toInt) : Zm 5 zm_MO_first [.ref 139, .int (nI r), .int x] Mq (fun r9 M1 => r9 = some (.int (fsV (fsQ (gE al_ it tg pt bd sg co) n (f 154) r) x 94 33 0)) ∧ ∃ BG, MM M1 (up o 0 0) (fset f 163 BG) ∧ Sm Mq M1 [139, 163] ∧ SafeM BG) := by
  show Zw 5 zm_MO_first 0 [some (.ref 139), some (.int (nI r)), some (.int x), none, none] [] Mq _
  have hn8 := hG.1
  refine zw_n 2 rfl ?_
  refine zw_put rfl hM.1 (rfl) (Nat.le_of_ble_eq_true rfl) ?_
  generalize ez4042 : List.set Mq 139 _ = Mz4041
  refine zw_n 2 rfl ?_
  refine zw_callV (as := [.int (nI r)]) (rest := []) rfl rfl rfl (zat_self ez4042 hM.1) rfl rfl rfl (by decide) (m_isRule Mz4041 (up o 0 0) f (MM.of (o' := up o 0 0) (f' := f) hM (Sm.tset Sm.rf ez4042 (by decide)) (zat_self ez4042 hM.1) (c1_skip (c1_cons (zat_set ez4042 (by decide) (hM.2 163 (by decide) (by decide))) c1_nil)) (fs_k (fs_k fs_n))) n hg.1 (by omega) (nI r)) (fun rz4043 Mz4044 hz4045 => ?_)
  rw [hz4045.1, hz4045.2]
  show Zw 5 zm_MO_first 10 [some (.ref 139), some (.int (nI r)), some (.int x), none, none] [.int (nI (if 0 ≤ (nI r).toInt ∧ (nI r).toInt < n then 1 else 0))] Mz4041 _
  refine zw_eq0N (a := if 0 ≤ (nI r).toInt ∧ (nI r).toInt < n then 1 else 0) rfl rfl (ite_b) (fun c10 => ?_) (fun c10 => ?_)
  · -- 10 to 18
    exfalso
    first | exact ite_eq0 c10 (by rw [nI_toInt (by omega)]; omega) | omega
  · -- 10 to 13
    refine zw_n 2 rfl ?_
    refine zw_igeZ (a := x.toInt) (b := (-1)) rfl (rfl) (by decide) (fun c15 => ?_) (fun c15 => ?_)
    · -- 15 to 20
      refine zw_n 4 (ls' := [some (.ref 139), some (.int (nI r)), some (.int x), some (.int 0), some (.int 33)]) rfl ?_
      have mz4046 : Mz4041[140]? = some (.inl (0, 590, .inl (ai (f 140)))) := zat_set ez4042 (by decide) (hM.2 140 (by decide) (by decide))
      have mz4047 : Mz4041[153]? = some (.inl (0, 160, .inl (ai (f 153)))) := zat_set ez4042 (by decide) (hM.2 153 (by decide) (by decide))
      have mz4048 : Mz4041[154]? = some (.inl (1, 8, .inr (.inl (al (f 154))))) := zat_set ez4042 (by decide) (hM.2 154 (by decide) (by decide))
      have mz4049 : Mz4041[155]? = some (.inl (1, 8, .inr (.inl (al (f 155))))) := zat_set ez4042 (by decide) (hM.2 155 (by decide) (by decide))
      have mz4050 : Mz4041[163]? = some (.inl (1, 8, .inr (.inl (al (f 163))))) := zat_set ez4042 (by decide) (hM.2 163 (by decide) (by decide))
      have lp26 : ∀ (n26 : Nat) (k : Nat) (e : Nat) (Bq : Nat → Nat) (M_26 : zM), Sm Mq M_26 [139, 163] → M_26[163]? = some (.inl (1, 8, .inr (.inl (al Bq)))) → M_26[139]? = some (.inr (12, [.int 0, .ref 140, .ref 141, .ref 142, .ref 143, .int (nI (o 5)), .ref 144, .int (nI (o 7)), .int (nI (o 8)), .int (nI (o 9)), .int (nI (o 10)), .ref 145, .ref 146, .ref 147, .ref 148, .ref 149, .ref 150, .ref 151, .ref 152, .ref 153, .ref 154, .ref 155, .ref 156, .ref 157, .ref 158, .ref 159, .ref 160, .ref 161, .ref 162, .ref 163, .ref 164, .int (nI (o 31)), .ref 165, .int (nI (o 33)), .ref 166, .ref 167, .ref 168, .ref 169, .int (nI (o 38)), .ref 170, .ref 171, .ref 172, .ref 173, .ref 174, .ref 175, .int (nI (o 45)), .int (nI (o 46)), .int (nI (o 47)), .long (lN (o 48)), .ref 176])) → ((33 ≤ e ∧ e ≤ 127 ∧ k + 33 ≤ e) ∧ SafeM Bq ∧ fsV (fsQ (gE al_ it tg pt bd sg co) n (f 154) r) x 94 33 0 = fsV (fsQ (gE al_ it tg pt bd sg co) n (f 154) r) x (127 - e) e k) → 127 - e < n26 → Zw 5 zm_MO_first 26 [some (.ref 139), some (.int (nI r)), some (.int x), some (.int (nI k)), some (.int (nI e))] [] M_26 (fun r9 M1 => r9 = some (.int (fsV (fsQ (gE al_ it tg pt bd sg co) n (f 154) r) x 94 33 0)) ∧ ∃ BG, MM M1 (up o 0 0) (fset f 163 BG) ∧ Sm Mq M1 [139, 163] ∧ SafeM BG) := by
        intro n26
        induction n26 with
        | zero => intro k e Bq M_26 _ _ _ _ h; exact absurd h (Nat.not_lt_zero _)
        | succ n26 ih26 =>
          intro k e Bq M_26 s_26 f26_0 f26_1 hi26 hm26
          refine zw_n 2 rfl ?_
          refine zw_igtN (a := e) (b := 126) rfl rfl rfl (by omega) (by omega) (fun c30 => ?_) (fun c30 => ?_)
          · -- 30 to 60
            refine zw_n 2 rfl ?_
            refine zw_ine rfl (fun c62 => ?_) (fun c62 => ?_)
            · -- 62 to 69
              refine zw_n 1 rfl ?_
              exact zw_iret rfl rfl (⟨by rw [hi26.2.2, show 127 - e = 0 by omega]; show _ = some (Value.int (if x = -1 then nI k else -1)); rw [if_neg c62], Bq, (MM.of (o' := up o 0 0) (f' := fset f 163 Bq) hM s_26 f26_1 (c1_skip (c1_cons f26_0 c1_nil)) (fs_k (fs_c fs_n))), s_26, hi26.2.1⟩)
            · -- 62 to 65
              refine zw_n 2 rfl ?_
              exact zw_iret rfl rfl (⟨by rw [hi26.2.2, show 127 - e = 0 by omega]; show _ = some (Value.int (if x = -1 then nI k else -1)); rw [if_pos c62], Bq, (MM.of (o' := up o 0 0) (f' := fset f 163 Bq) hM s_26 f26_1 (c1_skip (c1_cons f26_0 c1_nil)) (fs_k (fs_c fs_n))), s_26, hi26.2.1⟩)
          · -- 30 to 33
            refine zw_n 3 rfl ?_
            refine zw_callV (as := [.int (nI r), .int (nI e)]) (rest := []) rfl rfl rfl f26_1 rfl rfl rfl (by decide) (m_canBegin M_26 (up o 0 0) (fset f 163 Bq) (MM.of (o' := up o 0 0) (f' := fset f 163 Bq) hM s_26 f26_1 (c1_skip (c1_cons f26_0 c1_nil)) (fs_k (fs_c fs_n))) n gn al_ it pt tg bd hg hG hF h4 h5 hi26.2.1 hA.1 r e h_r (by omega)) (fun rz4059 Mz4060 hz4061 => ?_)
            obtain ⟨bz4051, BGz4052, hAz4053, hMMz4054, hSz4055, sBz4056, hb1z4057, hbz4058⟩ := hz4061
            rw [hAz4053]
            have hfq : bz4051 = 1 ↔ fsQ (gE al_ it tg pt bd sg co) n (f 154) r e = true := hbz4058.trans ((fnd_bg hA.1 hbr (by omega)).symm.trans fsQ_iff.symm)
            show Zw 5 zm_MO_first 40 [some (.ref 139), some (.int (nI r)), some (.int x), some (.int (nI k)), some (.int (nI e))] [.int (nI bz4051)] Mz4060 _
            refine zw_eq0N (a := bz4051) rfl rfl (by omega) (fun c40 => ?_) (fun c40 => ?_)
            · -- 40 to 54
              refine zw_inc rfl (x' := (nI (e + 1))) (ls' := [some (.ref 139), some (.int (nI r)), some (.int x), some (.int (nI k)), some (.int (nI (e + 1)))]) rfl (na (a := e) (b := 1) rfl rfl) rfl ?_
              refine zw_n 1 rfl ?_
              exact ih26 k (e + 1) BGz4052 Mz4060 (Sm.tw s_26 hSz4055 (by decide)) (hMMz4054.2 163 (by decide) (by decide)) (Sm.at hSz4055 (by decide) f26_1) (⟨by omega, sBz4056, by rw [hi26.2.2, show 127 - (e + 1) = 127 - e - 1 by omega]; first | exact fsV_n (by omega) (hfq.mp (by omega)) c45 | exact fsV_o (by omega) (fun q9 => by have := hfq.mpr q9; omega)⟩) (by omega)
            · -- 40 to 43
              refine zw_n 2 rfl ?_
              refine zw_ine rfl (fun c45 => ?_) (fun c45 => ?_)
              · -- 45 to 51
                refine zw_inc rfl (x' := (nI (k + 1))) (ls' := [some (.ref 139), some (.int (nI r)), some (.int x), some (.int (nI (k + 1))), some (.int (nI e))]) rfl (na (a := k) (b := 1) rfl rfl) rfl ?_
                refine zw_inc rfl (x' := (nI (e + 1))) (ls' := [some (.ref 139), some (.int (nI r)), some (.int x), some (.int (nI (k + 1))), some (.int (nI (e + 1)))]) rfl (na (a := e) (b := 1) rfl rfl) rfl ?_
                refine zw_n 1 rfl ?_
                exact ih26 (k + 1) (e + 1) BGz4052 Mz4060 (Sm.tw s_26 hSz4055 (by decide)) (hMMz4054.2 163 (by decide) (by decide)) (Sm.at hSz4055 (by decide) f26_1) (⟨by omega, sBz4056, by rw [hi26.2.2, show 127 - (e + 1) = 127 - e - 1 by omega]; first | exact fsV_n (by omega) (hfq.mp (by omega)) c45 | exact fsV_o (by omega) (fun q9 => by have := hfq.mpr q9; omega)⟩) (by omega)
              · -- 45 to 48
                refine zw_n 1 rfl ?_
                exact zw_iret rfl rfl (⟨by rw [hi26.2.2, fsV_y (by omega) (hfq.mp (by omega)) c45], BGz4052, (MM.of (o' := up o 0 0) (f' := fset f 163 BGz4052) hM (Sm.tw s_26 hSz4055 (by decide)) (Sm.at hSz4055 (by decide) f26_1) (c1_skip (c1_cons (hMMz4054.2 163 (by decide) (by decide)) c1_nil)) (fs_k (fs_c fs_n))), Sm.tw s_26 hSz4055 (by decide), sBz4056⟩)
      exact lp26 _ 0 33 (f 163) Mz4041 (Sm.tset Sm.rf ez4042 (by decide)) mz4050 (zat_self ez4042 hM.1) (⟨by decide, hSB, rfl⟩) (Nat.lt_succ_self _)
    · -- 15 to 18
      exfalso
      first | exact ite_eq0 c10 (by rw [nI_toInt (by omega)]; omega) | omega
