set_option maxHeartbeats 4000000 in
set_option maxRecDepth 100000 in
theorem m_below (Mq : zM) (o : Nat → Nat) (f : Nat → Nat → Nat) (hM : MM Mq o f)(n : Nat) (gn al_ it pt tg bd : Nat → Nat) (hg : RelG f n gn al_ it pt tg bd) (hG : SafeG n gn al_ it pt tg bd) (hF : SafeF f) (c : Nat) (sg li co : Nat → Nat) (hS : SafeT c sg li co) (h5 : ∀ p, p < c → f 156 p = sg p ∧ f 157 p = co p) (hv : VAll (gE al_ it tg pt bd sg co) n (c + 1) (f 158)) (hcl : Clo (gE al_ it tg pt bd sg co) n) (emp : Nat → Prop) (rk : Nat → Nat) (hA : Acyc (gE al_ it tg pt bd sg co) n emp rk) (q r a i j d lv : Nat) (s0 s9 : tS) (hq : q < 400) (hr : r < n) (ha : a < al_ r) (hij2 : i < j) (hjc : j ≤ c) (hd : d < 40) (hlv : lv ≤ q) (hf0 : f 165 (q * 8 + 0) = r) (hf1 : f 165 (q * 8 + 1) = a) (hf2 : f 165 (q * 8 + 2) = i) (hf3 : f 165 (q * 8 + 3) = j) (hf4 : f 165 (q * 8 + 4) = d) (hf6 : f 165 (q * 8 + 6) = lv) (hC1 : tC (gE al_ it tg pt bd sg co) n (r * 4 + a) j d (it (r * 4 + a)) i = true) (hwt : o 38 = s0.1) (hV : WtV (f 167) s0) (hO : tO (gE al_ it tg pt bd sg co) n c rk q (r * 4 + a) i j d lv s9 (it (r * 4 + a)) s0) : Zm 5 zm_MO_below [.ref 139, .int (nI (8 * q))] Mq (fun r9 M1 => r9 = none ∧ ∃ wt9 V9 E9 C9, MM M1 (up o 38 wt9) (fset (fset (fset f 169 C9) 168 E9) 167 V9) ∧ Sm Mq M1 [139, 167, 168, 169] ∧ wt9 = s9.1 ∧ WtV V9 s9) := by
  show Zw 5 zm_MO_below 0 [some (.ref 139), some (.int (nI (8 * q))), none, none, none, none, none, none] [] Mq _
  have hn8 := hG.1
  have ha4 := hG.2.2.1 r
  have hi5 := hG.2.2.2.1 (r * 4 + a)
  have hc20 := hS.1
  have hij : i ≤ j := Nat.le_of_lt hij2
  refine zw_n 1 rfl ?_
  refine zw_get (v := .ref 165) rfl hM.1 rfl ?_
  refine zw_n 1 rfl ?_
  refine zw_iald (f := ai (f 165)) (j := (q * 8 + 0)) rfl (hM.2 165 (by decide) (by decide)) (congrArg nI (by omega)) (by decide) (by omega) ?_
  refine zw_top (x' := (nI r)) (congrArg nI hf0) ?_
  refine zw_n 2 (ls' := [some (.ref 139), some (.int (nI (8 * q))), some (.int (nI r)), none, none, none, none, none]) rfl ?_
  refine zw_get (v := .ref 165) rfl hM.1 rfl ?_
  refine zw_n 3 rfl ?_
  refine zw_top (na (a := 8 * q) (b := 1) rfl rfl) ?_
  refine zw_iald (f := ai (f 165)) (j := (q * 8 + 1)) rfl (hM.2 165 (by decide) (by decide)) (congrArg nI (by omega)) (by decide) (by omega) ?_
  refine zw_top (x' := (nI a)) (congrArg nI hf1) ?_
  refine zw_n 2 (ls' := [some (.ref 139), some (.int (nI (8 * q))), some (.int (nI r)), some (.int (nI a)), none, none, none, none]) rfl ?_
  refine zw_get (v := .ref 165) rfl hM.1 rfl ?_
  refine zw_n 3 rfl ?_
  refine zw_top (na (a := 8 * q) (b := 4) rfl rfl) ?_
  refine zw_iald (f := ai (f 165)) (j := (q * 8 + 4)) rfl (hM.2 165 (by decide) (by decide)) (congrArg nI (by omega)) (by decide) (by omega) ?_
  refine zw_top (x' := (nI d)) (congrArg nI hf4) ?_
  refine zw_n 5 (ls' := [some (.ref 139), some (.int (nI (8 * q))), some (.int (nI r)), some (.int (nI a)), some (.int (nI d)), none, none, none]) rfl ?_
  refine zw_get (v := .ref 165) rfl hM.1 rfl ?_
  refine zw_n 3 rfl ?_
  refine zw_top (na (a := 8 * q) (b := 2) rfl rfl) ?_
  refine zw_iald (f := ai (f 165)) (j := (q * 8 + 2)) rfl (hM.2 165 (by decide) (by decide)) (congrArg nI (by omega)) (by decide) (by omega) ?_
  refine zw_top (x' := (nI i)) (congrArg nI hf2) ?_
  refine zw_n 1 rfl ?_
  refine zw_get (v := .ref 165) rfl hM.1 rfl ?_
  refine zw_n 3 rfl ?_
  refine zw_top (na (a := 8 * q) (b := 3) rfl rfl) ?_
  refine zw_iald (f := ai (f 165)) (j := (q * 8 + 3)) rfl (hM.2 165 (by decide) (by decide)) (congrArg nI (by omega)) (by decide) (by omega) ?_
  refine zw_top (x' := (nI j)) (congrArg nI hf3) ?_
  refine zw_n 1 rfl ?_
  refine zw_callV (as := [.int (nI r), .int (nI a), .int (nI i), .int (nI j), .int (nI d)]) (rest := []) rfl rfl rfl hM.1 rfl rfl rfl (by decide) (m_layEnds Mq o f hM n gn al_ it pt tg bd hg hG hF c sg li co hS h5 hv hcl r a i j d (by omega) (by omega) (by omega) (by omega) (by omega) hC1) (fun rz5300 Mz5301 hz5302 => ?_)
  obtain ⟨hAz5296, Az5294, Az5295, hMMz5297, hSz5298, hz5299⟩ := hz5302
  rw [hAz5296]
  show Zw 5 zm_MO_below 50 [some (.ref 139), some (.int (nI (8 * q))), some (.int (nI r)), some (.int (nI a)), some (.int (nI d)), none, none, none] [] Mz5301 _
  refine zw_n 3 rfl ?_
  refine zw_callV (as := [.int (nI r), .int (nI a)]) (rest := []) rfl rfl rfl (Sm.at hSz5298 (by decide) hM.1) rfl rfl rfl (by decide) (m_items Mz5301 o (fset (fset f 169 Az5295) 168 Az5294) (MM.of (o' := o) (f' := fset (fset f 169 Az5295) 168 Az5294) hM (Sm.tw Sm.rf hSz5298 (by decide)) (Sm.at hSz5298 (by decide) hM.1) (c1_skip (c1_cons (Sm.at hSz5298 (by decide) (hM.2 167 (by decide) (by decide))) (c1_cons (hMMz5297.2 168 (by decide) (by decide)) (c1_cons (hMMz5297.2 169 (by decide) (by decide)) c1_nil)))) (fs_k (fs_k (fs_c (fs_c fs_n))))) n gn al_ it pt tg bd hg hG hF r a (by omega) (by omega)) (fun rz5303 Mz5304 hz5305 => ?_)
  rw [hz5305.1, hz5305.2]
  show Zw 5 zm_MO_below 56 [some (.ref 139), some (.int (nI (8 * q))), some (.int (nI r)), some (.int (nI a)), some (.int (nI d)), none, none, none] [.int (nI (it (r * 4 + a)))] Mz5301 _
  refine zw_n 2 rfl ?_
  refine zw_n 1 (ls' := [some (.ref 139), some (.int (nI (8 * q))), some (.int (nI r)), some (.int (nI a)), some (.int (nI d)), some (.int (nI (it (r * 4 + a)) - 1)), none, none]) rfl ?_
  have lp60 : ∀ (n60 : Nat) (m9 : Nat) (s1 : tS) (wt1 : Nat) (V1 : Nat → Nat) (M_60 : zM), Sm Mq M_60 [139, 167, 168, 169] → M_60[139]? = some (.inr (12, [.int (nI (o 0)), .ref 140, .ref 141, .ref 142, .ref 143, .int (nI (o 5)), .ref 144, .int (nI (o 7)), .int (nI (o 8)), .int (nI (o 9)), .int (nI (o 10)), .ref 145, .ref 146, .ref 147, .ref 148, .ref 149, .ref 150, .ref 151, .ref 152, .ref 153, .ref 154, .ref 155, .ref 156, .ref 157, .ref 158, .ref 159, .ref 160, .ref 161, .ref 162, .ref 163, .ref 164, .int (nI (o 31)), .ref 165, .int (nI (o 33)), .ref 166, .ref 167, .ref 168, .ref 169, .int (nI wt1), .ref 170, .ref 171, .ref 172, .ref 173, .ref 174, .ref 175, .int (nI (o 45)), .int (nI (o 46)), .int (nI (o 47)), .long (lN (o 48)), .ref 176])) → M_60[167]? = some (.inl (0, 3200, .inl (ai V1))) → M_60[168]? = some (.inl (0, 6, .inl (ai Az5294))) → M_60[169]? = some (.inl (3, 126, .inl (ai Az5295))) → (m9 ≤ it (r * 4 + a) ∧ wt1 = s1.1 ∧ tO (gE al_ it tg pt bd sg co) n c rk q (r * 4 + a) i j d lv s9 m9 s1 ∧ WtV V1 s1) → m9 < n60 → Zw 5 zm_MO_below 60 [some (.ref 139), some (.int (nI (8 * q))), some (.int (nI r)), some (.int (nI a)), some (.int (nI d)), some (.int (nI m9 - 1)), none, none] [] M_60 (fun r9 M1 => r9 = none ∧ ∃ wt9 V9 E9 C9, MM M1 (up o 38 wt9) (fset (fset (fset f 169 C9) 168 E9) 167 V9) ∧ Sm Mq M1 [139, 167, 168, 169] ∧ wt9 = s9.1 ∧ WtV V9 s9) := by
    intro n60
    induction n60 with
    | zero => intro m9 s1 wt1 V1 M_60 _ _ _ _ _ _ h; exact absurd h (Nat.not_lt_zero _)
    | succ n60 ih60 =>
      intro m9 s1 wt1 V1 M_60 s_60 f60_0 f60_1 f60_2 f60_3 hi60 hm60
      have hsm := hi60.2.2.1.sum
      have hge := @tSum_ge n rk s1
      refine zw_n 1 rfl ?_
      refine zw_lt0Z (a := ((m9 : Nat) : Int) - 1) rfl (nP_toInt (by omega)) (fun c62 => ?_) (fun c62 => ?_)
      · -- 62 to 204
        have hend : s1 = s9 := by have h9 := hi60.2.2.1.end_; rw [show m9 = 0 by omega, tQ] at h9; exact h9
        exact zw_vret rfl rfl (⟨rfl, wt1, V1, Az5294, Az5295, (MM.of (o' := up o 38 wt1) (f' := fset (fset (fset f 169 Az5295) 168 Az5294) 167 V1) hM s_60 f60_0 (c1_skip (c1_cons f60_1 (c1_cons f60_2 (c1_cons f60_3 c1_nil)))) (fs_k (fs_c (fs_c (fs_c fs_n))))), s_60, hend ▸ hi60.2.1, hend ▸ hi60.2.2.2⟩)
      · -- 62 to 65
        rw [nP (show 0 < m9 by omega)]
        refine zw_n 3 rfl ?_
        refine zw_callS (as := [.int (nI r), .int (nI a), .int (nI (m9 - 1))]) (rest := []) rfl rfl rfl rfl rfl rfl (by decide) (m_itemAt _ r a (m9 - 1)) (fun rz5306 Mz5307 hz5308 => ?_)
        rw [hz5308.1, hz5308.2]
        show Zw 5 zm_MO_below 72 [some (.ref 139), some (.int (nI (8 * q))), some (.int (nI r)), some (.int (nI a)), some (.int (nI d)), some (.int (nI (m9 - 1))), none, none] [.int (nI (49 + 3 * ((r * 4 + a) * 5 + (m9 - 1))))] M_60 _
        refine zw_n 1 (ls' := [some (.ref 139), some (.int (nI (8 * q))), some (.int (nI r)), some (.int (nI a)), some (.int (nI d)), some (.int (nI (m9 - 1))), some (.int (nI (49 + 3 * ((r * 4 + a) * 5 + (m9 - 1))))), none]) rfl ?_
        have j74 : Zw 5 zm_MO_below 99 [some (.ref 139), some (.int (nI (8 * q))), some (.int (nI r)), some (.int (nI a)), some (.int (nI d)), some (.int (nI (m9 - 1))), some (.int (nI (49 + 3 * ((r * 4 + a) * 5 + (m9 - 1))))), none] [.int (nI (if m9 - 1 = 0 then i else Az5294 (m9 - 1 - 1)))] M_60 (fun r9 M1 => r9 = none ∧ ∃ wt9 V9 E9 C9, MM M1 (up o 38 wt9) (fset (fset (fset f 169 C9) 168 E9) 167 V9) ∧ Sm Mq M1 [139, 167, 168, 169] ∧ wt9 = s9.1 ∧ WtV V9 s9) := by
          refine zw_top (x' := nI (tP (gE al_ it tg pt bd sg co) n (r * 4 + a) i j d (m9 - 1))) (congrArg nI (by
            split
            · rename_i e9; rw [e9]; rfl
            · rw [hz5299 (m9 - 1 - 1) (by omega), show m9 - 1 - 1 + 1 = m9 - 1 by omega])) ?_
          refine zw_n 1 (ls' := [some (.ref 139), some (.int (nI (8 * q))), some (.int (nI r)), some (.int (nI a)), some (.int (nI d)), some (.int (nI (m9 - 1))), some (.int (nI (49 + 3 * ((r * 4 + a) * 5 + (m9 - 1))))), some (.int (nI (tP (gE al_ it tg pt bd sg co) n (r * 4 + a) i j d (m9 - 1))))]) rfl ?_
          have hq0 := tP_ok (show j < 4294967295 by omega) hij hC1 (m9 - 1) (show m9 - 1 ≤ it (r * 4 + a) by omega)
          have hq1 := tP_ok (show j < 4294967295 by omega) hij hC1 (m9 - 1 + 1) (show m9 - 1 + 1 ≤ it (r * 4 + a) by omega)
          have htg9 := hG.2.2.2.2.2.1 ((r * 4 + a) * 5 + (m9 - 1))
          refine zw_n 2 rfl ?_
          refine zw_callV (as := [.int (nI (49 + 3 * ((r * 4 + a) * 5 + (m9 - 1))))]) (rest := []) rfl rfl rfl f60_0 rfl rfl rfl (by decide) (m_partOf M_60 (up o 38 wt1) (fset (fset (fset f 169 Az5295) 168 Az5294) 167 V1) (MM.of (o' := up o 38 wt1) (f' := fset (fset (fset f 169 Az5295) 168 Az5294) 167 V1) hM s_60 f60_0 (c1_skip (c1_cons f60_1 (c1_cons f60_2 (c1_cons f60_3 c1_nil)))) (fs_k (fs_c (fs_c (fs_c fs_n))))) n gn al_ it pt tg bd hg hG hF ((r * 4 + a) * 5 + (m9 - 1)) ⟨r, a, m9 - 1, hr, ha, by omega, rfl⟩ (by omega)) (fun rz5309 Mz5310 hz5311 => ?_)
          rw [hz5311.1, hz5311.2]
          show Zw 5 zm_MO_below 107 [some (.ref 139), some (.int (nI (8 * q))), some (.int (nI r)), some (.int (nI a)), some (.int (nI d)), some (.int (nI (m9 - 1))), some (.int (nI (49 + 3 * ((r * 4 + a) * 5 + (m9 - 1))))), some (.int (nI (tP (gE al_ it tg pt bd sg co) n (r * 4 + a) i j d (m9 - 1))))] [.int (nI (tg ((r * 4 + a) * 5 + (m9 - 1))))] M_60 _
          refine zw_n 1 rfl ?_
          have htg9 := hG.2.2.2.2.2.1 ((r * 4 + a) * 5 + (m9 - 1))
          refine zw_ieqM (a := tg ((r * 4 + a) * 5 + (m9 - 1))) rfl rfl (by omega) (fun c108 => ?_) (fun c108 => ?_)
          · -- 108 to 198
            refine zw_inc rfl (x' := (nI (m9 - 1) - 1)) (ls' := [some (.ref 139), some (.int (nI (8 * q))), some (.int (nI r)), some (.int (nI a)), some (.int (nI d)), some (.int (nI (m9 - 1) - 1)), some (.int (nI (49 + 3 * ((r * 4 + a) * 5 + (m9 - 1))))), some (.int (nI (tP (gE al_ it tg pt bd sg co) n (r * 4 + a) i j d (m9 - 1))))]) rfl (nPd) rfl ?_
            refine zw_n 1 rfl ?_
            refine zw_ls (ls' := [some (.ref 139), some (.int (nI (8 * q))), some (.int (nI r)), some (.int (nI a)), some (.int (nI d)), some (.int (nI (m9 - 1) - 1)), none, none]) ⟨Or.inr rfl, Or.inr rfl, Or.inr rfl, Or.inr rfl, Or.inr rfl, Or.inr rfl, Or.inl rfl, Or.inl rfl, trivial⟩ ?_
            exact ih60 (m9 - 1) s1 wt1 V1 M_60 s_60 f60_0 f60_1 f60_2 f60_3 (⟨by omega, hi60.2.1, (by have h9 := (tO.step (k := m9 - 1) hA hS.2.2.2 hG.2.2.2.2.2.2 hr hij2 hjc (by omega) hd ha hC1 hlv (show m9 - 1 < it (r * 4 + a) by omega) ((show m9 = m9 - 1 + 1 by omega) ▸ hi60.2.2.1)); rw [show tW (gE al_ it tg pt bd sg co) n (r * 4 + a) i j d q lv (m9 - 1) s1 = s1 from tW_no (by first | exact Or.inl c108 | exact Or.inr (by omega))] at h9; exact h9), hi60.2.2.2⟩) (by omega)
          · -- 108 to 111
            refine zw_n 1 rfl ?_
            refine zw_get (v := .ref 168) rfl f60_0 rfl ?_
            refine zw_n 1 rfl ?_
            refine zw_iald (f := ai Az5294) (j := (m9 - 1)) rfl f60_2 rfl (by decide) (by omega) ?_
            refine zw_top (x' := (nI (tP (gE al_ it tg pt bd sg co) n (r * 4 + a) i j d (m9 - 1 + 1)))) (congrArg nI (hz5299 (m9 - 1) (by omega))) ?_
            refine zw_n 1 rfl ?_
            refine zw_ileN (a := tP (gE al_ it tg pt bd sg co) n (r * 4 + a) i j d (m9 - 1 + 1)) (b := tP (gE al_ it tg pt bd sg co) n (r * 4 + a) i j d (m9 - 1)) rfl rfl rfl (by omega) (by omega) (fun c120 => ?_) (fun c120 => ?_)
            · -- 120 to 198
              refine zw_inc rfl (x' := (nI (m9 - 1) - 1)) (ls' := [some (.ref 139), some (.int (nI (8 * q))), some (.int (nI r)), some (.int (nI a)), some (.int (nI d)), some (.int (nI (m9 - 1) - 1)), some (.int (nI (49 + 3 * ((r * 4 + a) * 5 + (m9 - 1))))), some (.int (nI (tP (gE al_ it tg pt bd sg co) n (r * 4 + a) i j d (m9 - 1))))]) rfl (nPd) rfl ?_
              refine zw_n 1 rfl ?_
              refine zw_ls (ls' := [some (.ref 139), some (.int (nI (8 * q))), some (.int (nI r)), some (.int (nI a)), some (.int (nI d)), some (.int (nI (m9 - 1) - 1)), none, none]) ⟨Or.inr rfl, Or.inr rfl, Or.inr rfl, Or.inr rfl, Or.inr rfl, Or.inr rfl, Or.inl rfl, Or.inl rfl, trivial⟩ ?_
              exact ih60 (m9 - 1) s1 wt1 V1 M_60 s_60 f60_0 f60_1 f60_2 f60_3 (⟨by omega, hi60.2.1, (by have h9 := (tO.step (k := m9 - 1) hA hS.2.2.2 hG.2.2.2.2.2.2 hr hij2 hjc (by omega) hd ha hC1 hlv (show m9 - 1 < it (r * 4 + a) by omega) ((show m9 = m9 - 1 + 1 by omega) ▸ hi60.2.2.1)); rw [show tW (gE al_ it tg pt bd sg co) n (r * 4 + a) i j d q lv (m9 - 1) s1 = s1 from tW_no (by first | exact Or.inl c108 | exact Or.inr (by omega))] at h9; exact h9), hi60.2.2.2⟩) (by omega)
            · -- 120 to 123
              have hst := tP_st (show j < 4294967295 by omega) (Nat.le_of_lt hij2) hC1 (show m9 - 1 < it (r * 4 + a) by omega)
              have hne9 : itm (gE al_ it tg pt bd sg co) (wh (gE al_ it tg pt bd sg co) n) ((r * 4 + a) * 5 + (m9 - 1)) (tP (gE al_ it tg pt bd sg co) n (r * 4 + a) i j d (m9 - 1)) (tP (gE al_ it tg pt bd sg co) n (r * 4 + a) i j d (m9 - 1 + 1)) &&& prtN (bd ((r * 4 + a) * 5 + (m9 - 1))) (2 ^ d) ≠ 0 := (tH_fit hS.2.2.2 hd).mp hst.2.1
              have htw : tW (gE al_ it tg pt bd sg co) n (r * 4 + a) i j d q lv (m9 - 1) s1 = (s1.1 + 1, fun w => if w = s1.1 then tN (tg ((r * 4 + a) * 5 + (m9 - 1))) (tP (gE al_ it tg pt bd sg co) n (r * 4 + a) i j d (m9 - 1)) (tP (gE al_ it tg pt bd sg co) n (r * 4 + a) i j d (m9 - 1 + 1)) (lsb (itm (gE al_ it tg pt bd sg co) (wh (gE al_ it tg pt bd sg co) n) ((r * 4 + a) * 5 + (m9 - 1)) (tP (gE al_ it tg pt bd sg co) n (r * 4 + a) i j d (m9 - 1)) (tP (gE al_ it tg pt bd sg co) n (r * 4 + a) i j d (m9 - 1 + 1)) &&& prtN (bd ((r * 4 + a) * 5 + (m9 - 1))) (2 ^ d))) q (lv + 1) (bd ((r * 4 + a) * 5 + (m9 - 1))) else s1.2 w) := tW_yes rfl rfl rfl c108 (by omega)
              have hbd9 := hG.2.2.2.2.2.2 ((r * 4 + a) * 5 + (m9 - 1))
              refine zw_n 3 rfl ?_
              refine zw_callV (as := [.int (nI (49 + 3 * ((r * 4 + a) * 5 + (m9 - 1))))]) (rest := [.ref 139]) rfl rfl rfl f60_0 rfl rfl rfl (by decide) (m_partOf M_60 (up o 38 wt1) (fset (fset (fset f 169 Az5295) 168 Az5294) 167 V1) (MM.of (o' := up o 38 wt1) (f' := fset (fset (fset f 169 Az5295) 168 Az5294) 167 V1) hM s_60 f60_0 (c1_skip (c1_cons f60_1 (c1_cons f60_2 (c1_cons f60_3 c1_nil)))) (fs_k (fs_c (fs_c (fs_c fs_n))))) n gn al_ it pt tg bd hg hG hF ((r * 4 + a) * 5 + (m9 - 1)) ⟨r, a, m9 - 1, hr, ha, by omega, rfl⟩ (by omega)) (fun rz5312 Mz5313 hz5314 => ?_)
              rw [hz5314.1, hz5314.2]
              show Zw 5 zm_MO_below 130 [some (.ref 139), some (.int (nI (8 * q))), some (.int (nI r)), some (.int (nI a)), some (.int (nI d)), some (.int (nI (m9 - 1))), some (.int (nI (49 + 3 * ((r * 4 + a) * 5 + (m9 - 1))))), some (.int (nI (tP (gE al_ it tg pt bd sg co) n (r * 4 + a) i j d (m9 - 1))))] [.int (nI (tg ((r * 4 + a) * 5 + (m9 - 1)))), .ref 139] M_60 _
              refine zw_n 2 rfl ?_
              refine zw_get (v := .ref 168) rfl f60_0 rfl ?_
              refine zw_n 1 rfl ?_
              refine zw_iald (f := ai Az5294) (j := (m9 - 1)) rfl f60_2 rfl (by decide) (by omega) ?_
              refine zw_top (x' := (nI (tP (gE al_ it tg pt bd sg co) n (r * 4 + a) i j d (m9 - 1 + 1)))) (congrArg nI (hz5299 (m9 - 1) (by omega))) ?_
              refine zw_n 1 rfl ?_
              refine zw_get (v := .ref 140) rfl f60_0 rfl ?_
              refine zw_n 3 rfl ?_
              refine zw_top (na (a := 49 + 3 * ((r * 4 + a) * 5 + (m9 - 1))) (b := 2) rfl rfl) ?_
              refine zw_iald (f := ai (f 140)) (j := ((49 + 3 * ((r * 4 + a) * 5 + (m9 - 1))) + 2)) rfl (Sm.at s_60 (by decide) (hM.2 140 (by decide) (by decide))) rfl (by decide) (by omega) ?_
              refine zw_top (x' := (nI (bd ((r * 4 + a) * 5 + (m9 - 1))))) (congrArg nI (hg.2.2.2.2 ((r * 4 + a) * 5 + (m9 - 1)) ⟨r, a, m9 - 1, hr, ha, by omega, rfl⟩).2.2.1) ?_
              refine zw_n 4 rfl ?_
              refine zw_get (v := .ref 168) rfl f60_0 rfl ?_
              refine zw_n 1 rfl ?_
              refine zw_iald (f := ai Az5294) (j := (m9 - 1)) rfl f60_2 rfl (by decide) (by omega) ?_
              refine zw_top (x' := (nI (tP (gE al_ it tg pt bd sg co) n (r * 4 + a) i j d (m9 - 1 + 1)))) (congrArg nI (hz5299 (m9 - 1) (by omega))) ?_
              refine zw_callV (as := [.int (nI (49 + 3 * ((r * 4 + a) * 5 + (m9 - 1)))), .int (nI (tP (gE al_ it tg pt bd sg co) n (r * 4 + a) i j d (m9 - 1))), .int (nI (tP (gE al_ it tg pt bd sg co) n (r * 4 + a) i j d (m9 - 1 + 1)))]) (rest := [.int (nI (bd ((r * 4 + a) * 5 + (m9 - 1)))), .int (nI (tP (gE al_ it tg pt bd sg co) n (r * 4 + a) i j d (m9 - 1 + 1))), .int (nI (tP (gE al_ it tg pt bd sg co) n (r * 4 + a) i j d (m9 - 1))), .int (nI (tg ((r * 4 + a) * 5 + (m9 - 1)))), .ref 139]) rfl rfl rfl f60_0 rfl rfl rfl (by decide) (m_whereItem M_60 (up o 38 wt1) (fset (fset (fset f 169 Az5295) 168 Az5294) 167 V1) (MM.of (o' := up o 38 wt1) (f' := fset (fset (fset f 169 Az5295) 168 Az5294) 167 V1) hM s_60 f60_0 (c1_skip (c1_cons f60_1 (c1_cons f60_2 (c1_cons f60_3 c1_nil)))) (fs_k (fs_c (fs_c (fs_c fs_n))))) n gn al_ it pt tg bd hg hG hF ((r * 4 + a) * 5 + (m9 - 1)) (tP (gE al_ it tg pt bd sg co) n (r * 4 + a) i j d (m9 - 1)) (tP (gE al_ it tg pt bd sg co) n (r * 4 + a) i j d (m9 - 1 + 1)) ⟨r, a, m9 - 1, hr, ha, by omega, rfl⟩ (by omega) (by omega) (by omega)) (fun rz5315 Mz5316 hz5317 => ?_)
              rw [hz5317.1, hz5317.2]
              show Zw 5 zm_MO_below 163 [some (.ref 139), some (.int (nI (8 * q))), some (.int (nI r)), some (.int (nI a)), some (.int (nI d)), some (.int (nI (m9 - 1))), some (.int (nI (49 + 3 * ((r * 4 + a) * 5 + (m9 - 1))))), some (.int (nI (tP (gE al_ it tg pt bd sg co) n (r * 4 + a) i j d (m9 - 1))))] [.long (lN (itm (gE al_ it tg pt bd (f 156) (f 157)) (v3 (f 158)) ((r * 4 + a) * 5 + (m9 - 1)) (tP (gE al_ it tg pt bd sg co) n (r * 4 + a) i j d (m9 - 1)) (tP (gE al_ it tg pt bd sg co) n (r * 4 + a) i j d (m9 - 1 + 1)))), .int (nI (bd ((r * 4 + a) * 5 + (m9 - 1)))), .int (nI (tP (gE al_ it tg pt bd sg co) n (r * 4 + a) i j d (m9 - 1 + 1))), .int (nI (tP (gE al_ it tg pt bd sg co) n (r * 4 + a) i j d (m9 - 1))), .int (nI (tg ((r * 4 + a) * 5 + (m9 - 1)))), .ref 139] M_60 _
              refine zw_topl (x' := lN (itm (gE al_ it tg pt bd sg co) (wh (gE al_ it tg pt bd sg co) n) ((r * 4 + a) * 5 + (m9 - 1)) (tP (gE al_ it tg pt bd sg co) n (r * 4 + a) i j d (m9 - 1)) (tP (gE al_ it tg pt bd sg co) n (r * 4 + a) i j d (m9 - 1 + 1)))) (congrArg lN (itm_m h5 hv (hcl r hr a ha (m9 - 1) (show m9 - 1 < it (r * 4 + a) by omega)) (by omega) (by omega))) ?_
              refine zw_n 1 rfl ?_
              refine zw_callS (as := [.int (nI (bd ((r * 4 + a) * 5 + (m9 - 1)))), .long (lN (itm (gE al_ it tg pt bd sg co) (wh (gE al_ it tg pt bd sg co) n) ((r * 4 + a) * 5 + (m9 - 1)) (tP (gE al_ it tg pt bd sg co) n (r * 4 + a) i j d (m9 - 1)) (tP (gE al_ it tg pt bd sg co) n (r * 4 + a) i j d (m9 - 1 + 1)))), .int (nI d)]) (rest := [.int (nI (tP (gE al_ it tg pt bd sg co) n (r * 4 + a) i j d (m9 - 1 + 1))), .int (nI (tP (gE al_ it tg pt bd sg co) n (r * 4 + a) i j d (m9 - 1))), .int (nI (tg ((r * 4 + a) * 5 + (m9 - 1)))), .ref 139]) rfl rfl rfl rfl rfl rfl (by decide) (m_fits2 _ (bd ((r * 4 + a) * 5 + (m9 - 1))) (itm (gE al_ it tg pt bd sg co) (wh (gE al_ it tg pt bd sg co) n) ((r * 4 + a) * 5 + (m9 - 1)) (tP (gE al_ it tg pt bd sg co) n (r * 4 + a) i j d (m9 - 1)) (tP (gE al_ it tg pt bd sg co) n (r * 4 + a) i j d (m9 - 1 + 1))) d (by omega) (itm_lt2 hS.2.2.2) (by omega)) (fun rz5318 Mz5319 hz5320 => ?_)
              rw [hz5320.1, hz5320.2]
              show Zw 5 zm_MO_below 168 [some (.ref 139), some (.int (nI (8 * q))), some (.int (nI r)), some (.int (nI a)), some (.int (nI d)), some (.int (nI (m9 - 1))), some (.int (nI (49 + 3 * ((r * 4 + a) * 5 + (m9 - 1))))), some (.int (nI (tP (gE al_ it tg pt bd sg co) n (r * 4 + a) i j d (m9 - 1))))] [.long (lN ((itm (gE al_ it tg pt bd sg co) (wh (gE al_ it tg pt bd sg co) n) ((r * 4 + a) * 5 + (m9 - 1)) (tP (gE al_ it tg pt bd sg co) n (r * 4 + a) i j d (m9 - 1)) (tP (gE al_ it tg pt bd sg co) n (r * 4 + a) i j d (m9 - 1 + 1))) &&& prtN (bd ((r * 4 + a) * 5 + (m9 - 1))) (2 ^ d))), .int (nI (tP (gE al_ it tg pt bd sg co) n (r * 4 + a) i j d (m9 - 1 + 1))), .int (nI (tP (gE al_ it tg pt bd sg co) n (r * 4 + a) i j d (m9 - 1))), .int (nI (tg ((r * 4 + a) * 5 + (m9 - 1)))), .ref 139] M_60 _
              refine zw_callS (as := [.long (lN ((itm (gE al_ it tg pt bd sg co) (wh (gE al_ it tg pt bd sg co) n) ((r * 4 + a) * 5 + (m9 - 1)) (tP (gE al_ it tg pt bd sg co) n (r * 4 + a) i j d (m9 - 1)) (tP (gE al_ it tg pt bd sg co) n (r * 4 + a) i j d (m9 - 1 + 1))) &&& prtN (bd ((r * 4 + a) * 5 + (m9 - 1))) (2 ^ d)))]) (rest := [.int (nI (tP (gE al_ it tg pt bd sg co) n (r * 4 + a) i j d (m9 - 1 + 1))), .int (nI (tP (gE al_ it tg pt bd sg co) n (r * 4 + a) i j d (m9 - 1))), .int (nI (tg ((r * 4 + a) * 5 + (m9 - 1)))), .ref 139]) rfl rfl rfl rfl rfl rfl (by decide) (m_leastOf _ _ (hne9) (Nat.lt_of_le_of_lt Nat.and_le_left (itm_lt2 hS.2.2.2))) (fun rz5321 Mz5322 hz5323 => ?_)
              rw [hz5323.1, hz5323.2]
              show Zw 5 zm_MO_below 171 [some (.ref 139), some (.int (nI (8 * q))), some (.int (nI r)), some (.int (nI a)), some (.int (nI d)), some (.int (nI (m9 - 1))), some (.int (nI (49 + 3 * ((r * 4 + a) * 5 + (m9 - 1))))), some (.int (nI (tP (gE al_ it tg pt bd sg co) n (r * 4 + a) i j d (m9 - 1))))] [.int (nI (lsb ((itm (gE al_ it tg pt bd sg co) (wh (gE al_ it tg pt bd sg co) n) ((r * 4 + a) * 5 + (m9 - 1)) (tP (gE al_ it tg pt bd sg co) n (r * 4 + a) i j d (m9 - 1)) (tP (gE al_ it tg pt bd sg co) n (r * 4 + a) i j d (m9 - 1 + 1))) &&& prtN (bd ((r * 4 + a) * 5 + (m9 - 1))) (2 ^ d)))), .int (nI (tP (gE al_ it tg pt bd sg co) n (r * 4 + a) i j d (m9 - 1 + 1))), .int (nI (tP (gE al_ it tg pt bd sg co) n (r * 4 + a) i j d (m9 - 1))), .int (nI (tg ((r * 4 + a) * 5 + (m9 - 1)))), .ref 139] M_60 _
              refine zw_n 3 rfl ?_
              refine zw_top (x' := (nI q)) ((ndiv (a := 8 * q) (b := 8) rfl rfl (by omega) (by decide) (by decide)).trans (congrArg nI (by omega))) ?_
              refine zw_n 1 rfl ?_
              refine zw_get (v := .ref 165) rfl f60_0 rfl ?_
              refine zw_n 3 rfl ?_
              refine zw_top (na (a := 8 * q) (b := 6) rfl rfl) ?_
              refine zw_iald (f := ai (f 165)) (j := (q * 8 + 6)) rfl (Sm.at s_60 (by decide) (hM.2 165 (by decide) (by decide))) (congrArg nI (by omega)) (by decide) (by omega) ?_
              refine zw_top (x' := (nI lv)) (congrArg nI hf6) ?_
              refine zw_n 2 rfl ?_
              refine zw_top (na (a := lv) (b := 1) rfl rfl) ?_
              refine zw_n 1 rfl ?_
              refine zw_get (v := .ref 140) rfl f60_0 rfl ?_
              refine zw_n 3 rfl ?_
              refine zw_top (na (a := 49 + 3 * ((r * 4 + a) * 5 + (m9 - 1))) (b := 2) rfl rfl) ?_
              refine zw_iald (f := ai (f 140)) (j := ((49 + 3 * ((r * 4 + a) * 5 + (m9 - 1))) + 2)) rfl (Sm.at s_60 (by decide) (hM.2 140 (by decide) (by decide))) rfl (by decide) (by omega) ?_
              refine zw_top (x' := (nI (bd ((r * 4 + a) * 5 + (m9 - 1))))) (congrArg nI (hg.2.2.2.2 ((r * 4 + a) * 5 + (m9 - 1)) ⟨r, a, m9 - 1, hr, ha, by omega, rfl⟩).2.2.1) ?_
              refine zw_callV (as := [.int (nI (tg ((r * 4 + a) * 5 + (m9 - 1)))), .int (nI (tP (gE al_ it tg pt bd sg co) n (r * 4 + a) i j d (m9 - 1))), .int (nI (tP (gE al_ it tg pt bd sg co) n (r * 4 + a) i j d (m9 - 1 + 1))), .int (nI (lsb ((itm (gE al_ it tg pt bd sg co) (wh (gE al_ it tg pt bd sg co) n) ((r * 4 + a) * 5 + (m9 - 1)) (tP (gE al_ it tg pt bd sg co) n (r * 4 + a) i j d (m9 - 1)) (tP (gE al_ it tg pt bd sg co) n (r * 4 + a) i j d (m9 - 1 + 1))) &&& prtN (bd ((r * 4 + a) * 5 + (m9 - 1))) (2 ^ d)))), .int (nI q), .int (nI (lv + 1)), .int (nI (bd ((r * 4 + a) * 5 + (m9 - 1))))]) (rest := []) rfl rfl rfl f60_0 rfl rfl rfl (by decide) (m_waits M_60 (up o 38 wt1) (fset (fset (fset f 169 Az5295) 168 Az5294) 167 V1) (MM.of (o' := up o 38 wt1) (f' := fset (fset (fset f 169 Az5295) 168 Az5294) 167 V1) hM s_60 f60_0 (c1_skip (c1_cons f60_1 (c1_cons f60_2 (c1_cons f60_3 c1_nil)))) (fs_k (fs_c (fs_c (fs_c fs_n))))) (show _ < 400 by show wt1 < 400; omega) (tg ((r * 4 + a) * 5 + (m9 - 1))) (tP (gE al_ it tg pt bd sg co) n (r * 4 + a) i j d (m9 - 1)) (tP (gE al_ it tg pt bd sg co) n (r * 4 + a) i j d (m9 - 1 + 1)) (lsb ((itm (gE al_ it tg pt bd sg co) (wh (gE al_ it tg pt bd sg co) n) ((r * 4 + a) * 5 + (m9 - 1)) (tP (gE al_ it tg pt bd sg co) n (r * 4 + a) i j d (m9 - 1)) (tP (gE al_ it tg pt bd sg co) n (r * 4 + a) i j d (m9 - 1 + 1))) &&& prtN (bd ((r * 4 + a) * 5 + (m9 - 1))) (2 ^ d))) q (lv + 1) (bd ((r * 4 + a) * 5 + (m9 - 1)))) (fun rz5327 Mz5328 hz5329 => ?_)
              obtain ⟨hAz5324, hMz5325, hSz5326⟩ := hz5329
              rw [hAz5324]
              show Zw 5 zm_MO_below 198 [some (.ref 139), some (.int (nI (8 * q))), some (.int (nI r)), some (.int (nI a)), some (.int (nI d)), some (.int (nI (m9 - 1))), some (.int (nI (49 + 3 * ((r * 4 + a) * 5 + (m9 - 1))))), some (.int (nI (tP (gE al_ it tg pt bd sg co) n (r * 4 + a) i j d (m9 - 1))))] [] Mz5328 _
              refine zw_inc rfl (x' := (nI (m9 - 1) - 1)) (ls' := [some (.ref 139), some (.int (nI (8 * q))), some (.int (nI r)), some (.int (nI a)), some (.int (nI d)), some (.int (nI (m9 - 1) - 1)), some (.int (nI (49 + 3 * ((r * 4 + a) * 5 + (m9 - 1))))), some (.int (nI (tP (gE al_ it tg pt bd sg co) n (r * 4 + a) i j d (m9 - 1))))]) rfl (nPd) rfl ?_
              refine zw_n 1 rfl ?_
              refine zw_ls (ls' := [some (.ref 139), some (.int (nI (8 * q))), some (.int (nI r)), some (.int (nI a)), some (.int (nI d)), some (.int (nI (m9 - 1) - 1)), none, none]) ⟨Or.inr rfl, Or.inr rfl, Or.inr rfl, Or.inr rfl, Or.inr rfl, Or.inr rfl, Or.inl rfl, Or.inl rfl, trivial⟩ ?_
              exact ih60 (m9 - 1) (s1.1 + 1, fun w => if w = s1.1 then tN (tg ((r * 4 + a) * 5 + (m9 - 1))) (tP (gE al_ it tg pt bd sg co) n (r * 4 + a) i j d (m9 - 1)) (tP (gE al_ it tg pt bd sg co) n (r * 4 + a) i j d (m9 - 1 + 1)) (lsb (itm (gE al_ it tg pt bd sg co) (wh (gE al_ it tg pt bd sg co) n) ((r * 4 + a) * 5 + (m9 - 1)) (tP (gE al_ it tg pt bd sg co) n (r * 4 + a) i j d (m9 - 1)) (tP (gE al_ it tg pt bd sg co) n (r * 4 + a) i j d (m9 - 1 + 1)) &&& prtN (bd ((r * 4 + a) * 5 + (m9 - 1))) (2 ^ d))) q (lv + 1) (bd ((r * 4 + a) * 5 + (m9 - 1))) else s1.2 w) (wt1 + 1) (pu8 V1 wt1 (tg ((r * 4 + a) * 5 + (m9 - 1))) (tP (gE al_ it tg pt bd sg co) n (r * 4 + a) i j d (m9 - 1)) (tP (gE al_ it tg pt bd sg co) n (r * 4 + a) i j d (m9 - 1 + 1)) (lsb ((itm (gE al_ it tg pt bd sg co) (wh (gE al_ it tg pt bd sg co) n) ((r * 4 + a) * 5 + (m9 - 1)) (tP (gE al_ it tg pt bd sg co) n (r * 4 + a) i j d (m9 - 1)) (tP (gE al_ it tg pt bd sg co) n (r * 4 + a) i j d (m9 - 1 + 1))) &&& prtN (bd ((r * 4 + a) * 5 + (m9 - 1))) (2 ^ d))) q (lv + 1) (bd ((r * 4 + a) * 5 + (m9 - 1)))) Mz5328 (Sm.tw s_60 hSz5326 (by decide)) hMz5325.1 (hMz5325.2 167 (by decide) (by decide)) (Sm.at hSz5326 (by decide) f60_2) (Sm.at hSz5326 (by decide) f60_3) (⟨by omega, congrArg (· + 1) hi60.2.1, (by have h9 := (tO.step (k := m9 - 1) hA hS.2.2.2 hG.2.2.2.2.2.2 hr hij2 hjc (by omega) hd ha hC1 hlv (show m9 - 1 < it (r * 4 + a) by omega) ((show m9 = m9 - 1 + 1 by omega) ▸ hi60.2.2.1)); rw [htw] at h9; exact h9), WtV.pu hi60.2.2.2 hi60.2.1⟩) (by omega)
        refine zw_n 1 rfl ?_
        refine zw_ne0N (a := m9 - 1) rfl rfl (by omega) (fun c76 => ?_) (fun c76 => ?_)
        · -- 76 to 90
          refine zw_n 1 rfl ?_
          refine zw_get (v := .ref 168) rfl f60_0 rfl ?_
          refine zw_n 3 rfl ?_
          refine zw_top (ns (a := m9 - 1) (b := 1) rfl rfl (by omega)) ?_
          refine zw_iald (f := ai Az5294) (j := ((m9 - 1) - 1)) rfl f60_2 rfl (by decide) (by omega) ?_
          refine zw_top (x' := nI (if m9 - 1 = 0 then i else Az5294 (m9 - 1 - 1))) (show nI (Az5294 (m9 - 1 - 1)) = nI (if m9 - 1 = 0 then i else Az5294 (m9 - 1 - 1)) by rw [if_neg (by omega)]) ?_
          exact j74
        · -- 76 to 79
          refine zw_n 1 rfl ?_
          refine zw_get (v := .ref 165) rfl f60_0 rfl ?_
          refine zw_n 3 rfl ?_
          refine zw_top (na (a := 8 * q) (b := 2) rfl rfl) ?_
          refine zw_iald (f := ai (f 165)) (j := (q * 8 + 2)) rfl (Sm.at s_60 (by decide) (hM.2 165 (by decide) (by decide))) (congrArg nI (by omega)) (by decide) (by omega) ?_
          refine zw_top (x' := (nI i)) (congrArg nI hf2) ?_
          refine zw_n 1 rfl ?_
          refine zw_top (x' := nI (if m9 - 1 = 0 then i else Az5294 (m9 - 1 - 1))) (show nI i = nI (if m9 - 1 = 0 then i else Az5294 (m9 - 1 - 1)) by rw [if_pos (by omega)]) ?_
          exact j74
  exact lp60 _ (it (r * 4 + a)) s0 (o 38) (f 167) Mz5301 (Sm.tw Sm.rf hSz5298 (by decide)) (Sm.at hSz5298 (by decide) hM.1) (Sm.at hSz5298 (by decide) (hM.2 167 (by decide) (by decide))) (hMMz5297.2 168 (by decide) (by decide)) (hMMz5297.2 169 (by decide) (by decide)) (⟨Nat.le_refl _, hwt, hO, hV⟩) (Nat.lt_succ_self _)
