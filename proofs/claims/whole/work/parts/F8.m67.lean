set_option maxHeartbeats 4000000 in
set_option maxRecDepth 100000 in
theorem c_growItem (Mq : zM) (L LI u ab : Nat) (n em : Nat) (gn al_ it pt tg bd fr af fb : Nat → Nat) (hR : Seg Mq 16 (rulL 16 (n, gn, al_, it, pt, tg, bd, em, fr, af, fb))) (hG : SafeG n gn al_ it pt tg bd) (hfr : SafeM fr) (haf : SafeM af) (hp : ∀ x, Slt n al_ it x → (tg x = NO → 33 ≤ pt x ∧ pt x ≤ 126) ∧ (tg x ≠ NO → tg x < n)) (hal : ∀ r, r < n → 1 ≤ al_ r) (hL : 240 < L) (s : gS) (sg li co : Nat → Nat) (hH : grH Mq L s sg li co) (x d : Nat) (hx : Slt n al_ it x) (hx1 : x < 160) (hd : d < 40) (hab : ab < 2147483647) (hrec : ∀ (M2 : zM) (s2 : gS) (sg2 li2 co2 : Nat → Nat) (r2 d2 : Nat), grH M2 L s2 sg2 li2 co2 → Seg M2 16 (rulL 16 (n, gn, al_, it, pt, tg, bd, em, fr, af, fb)) → r2 < n → d2 < 40 → Zm LI zm_Grower_growNode [.ref 45, .int (nI r2), .int (nI d2), .int (nI (ab + 1))] M2 (grP M2 L (grN (gE al_ it tg pt bd fr af) u r2 d2 s2))) : Zm (LI + 2) zm_Grower_growItem [.ref 45, .int (nI x), .int (nI d), .int (nI ab)] Mq (grP Mq L (grI (gE al_ it tg pt bd fr af) (grN (gE al_ it tg pt bd fr af) u) x d s)) := by
  show Zw (LI + 2) zm_Grower_growItem 0 [some (.ref 45), some (.int (nI x)), some (.int (nI d)), some (.int (nI ab)), none, none, none, none] [] Mq _
  obtain ⟨h45, h46, hS, hl, hq, hW⟩ := hH
  have hc20 := hS.1
  have hn8 := hG.1
  have hsd := hW.1
  refine zw_n 1 rfl ?_
  refine zw_get (v := .ref 16) rfl h45 rfl ?_
  refine zw_get (v := .ref 21) rfl (hR.get 0 rfl) rfl ?_
  refine zw_n 1 rfl ?_
  refine zw_iald (f := ai tg) (j := x) rfl (hR.get 5 rfl) rfl (by decide) (by omega) ?_
  have bz5865 := hG.2.2.2.2.2.1 x
  refine zw_n 2 (ls' := [some (.ref 45), some (.int (nI x)), some (.int (nI d)), some (.int (nI ab)), some (.int (nI (tg x))), none, none, none]) rfl ?_
  refine zw_get (v := .ref 16) rfl h45 rfl ?_
  refine zw_get (v := .ref 22) rfl (hR.get 0 rfl) rfl ?_
  refine zw_n 1 rfl ?_
  refine zw_iald (f := ai bd) (j := x) rfl (hR.get 6 rfl) rfl (by decide) (by omega) ?_
  have bz5866 := hG.2.2.2.2.2.2 x
  refine zw_n 3 rfl ?_
  refine zw_topl (x' := (lN (2 ^ d))) ((lsl (m := 1) (k := d) rfl rfl (by omega)).trans (by rw [Nat.one_mul])) ?_
  refine zw_callS (as := [.int (nI (bd x)), .long (lN (2 ^ d))]) (rest := []) rfl rfl rfl rfl rfl rfl (by omega) (c_partsOf _ _ _ (by omega) (show 2 ^ d < 2 ^ 40 from Nat.pow_lt_pow_right (by decide) hd)) (fun rz5867 Mz5868 hz5869 => ?_)
  rw [hz5869.1, hz5869.2]
  show Zw (LI + 2) zm_Grower_growItem 26 [some (.ref 45), some (.int (nI x)), some (.int (nI d)), some (.int (nI ab)), some (.int (nI (tg x))), none, none, none] [.long (lN (prtN (bd x) (2 ^ d)))] Mq _
  refine zw_n 3 (ls' := [some (.ref 45), some (.int (nI x)), some (.int (nI d)), some (.int (nI ab)), some (.int (nI (tg x))), some (.long (lN (prtN (bd x) (2 ^ d)))), none, none]) rfl ?_
  refine zw_ieqM (a := tg x) rfl rfl (by omega) (fun c31 => ?_) (fun c31 => ?_)
  · -- 31 to 49
    refine zw_lse (ls' := [some (.ref 45), some (.int (nI x)), some (.int (nI d)), some (.int (nI ab)), some (.int (nI (tg x))), some (.long (lN (grM (gE al_ it tg pt bd fr af) x d))), none, none]) (by rw [show prtN (bd x) (2 ^ d) = grM (gE al_ it tg pt bd fr af) x d from grM_no (G := (gE al_ it tg pt bd fr af)) hd c31]) ?_
    refine zw_n 2 rfl ?_
    refine zw_callV (as := [.long (lN (grM (gE al_ it tg pt bd fr af) x d))]) (rest := []) rfl rfl rfl h45 rfl rfl rfl (by omega) (c_drawColumn Mq s.1 h45 (by omega) (grM (gE al_ it tg pt bd fr af) x d) (grM_lt hd)) (fun rz5873 Mz5874 hz5875 => ?_)
    obtain ⟨hAz5870, hBz5871, hSz5872⟩ := hz5875
    rw [hAz5870]
    show Zw (LI + 2) zm_Grower_growItem 55 [some (.ref 45), some (.int (nI x)), some (.int (nI d)), some (.int (nI ab)), some (.int (nI (tg x))), some (.long (lN (grM (gE al_ it tg pt bd fr af) x d))), none, none] [.int (nI (grC (grM (gE al_ it tg pt bd fr af) x d) s.1))] Mz5874 _
    refine zw_n 3 (ls' := [some (.ref 45), some (.int (nI x)), some (.int (nI d)), some (.int (nI ab)), some (.int (nI (tg x))), some (.long (lN (grM (gE al_ it tg pt bd fr af) x d))), none, some (.int (nI (grC (grM (gE al_ it tg pt bd fr af) x d) s.1)))]) rfl ?_
    refine zw_ieqM (a := tg x) rfl rfl (by omega) (fun c60 => ?_) (fun c60 => ?_)
    · -- 60 to 75
      by_cases sp75 : s.2.1 < 20
      · skip
        refine zw_n 1 rfl ?_
        refine zw_get (v := .ref 46) rfl hBz5871 rfl ?_
        refine zw_n 1 rfl ?_
        refine zw_get (v := .ref 16) rfl hBz5871 rfl ?_
        refine zw_get (v := .ref 20) rfl (Sm.at hSz5872 (by decide) (hR.get 0 rfl)) rfl ?_
        refine zw_n 1 rfl ?_
        refine zw_iald (f := ai pt) (j := x) rfl (Sm.at hSz5872 (by decide) (hR.get 4 rfl)) rfl (by decide) (by omega) ?_
        have bz5876 := hG.2.2.2.2.1 x
        refine zw_n 2 rfl ?_
        refine zw_callV (as := [.int (nI (grC (grM (gE al_ it tg pt bd fr af) x d) s.1))]) (rest := [.int (nI (pt x)), .ref 46]) rfl rfl rfl hBz5871 rfl rfl rfl (by omega) (c_lineFor Mz5874 (drN s.1) hBz5871 (drN_lt _) s.2.1 sg li co (seg4 (Sm.at hSz5872 (by decide) (h46.get 0 rfl)) (Sm.at hSz5872 (by decide) (h46.get 1 rfl)) (Sm.at hSz5872 (by decide) (h46.get 2 rfl)) (Sm.at hSz5872 (by decide) (h46.get 3 rfl))) hS (grC (grM (gE al_ it tg pt bd fr af) x d) s.1) (grC_lt _ _)) (fun rz5877 Mz5878 hz5879 => ?_)
        rw [hz5879.1, hz5879.2]
        show Zw (LI + 2) zm_Grower_growItem 94 [some (.ref 45), some (.int (nI x)), some (.int (nI d)), some (.int (nI ab)), some (.int (nI (tg x))), some (.long (lN (grM (gE al_ it tg pt bd fr af) x d))), none, some (.int (nI (grC (grM (gE al_ it tg pt bd fr af) x d) s.1)))] [.int (nI (if s.2.1 = 0 then 0 else li (s.2.1 - 1) + if co (s.2.1 - 1) < (grC (grM (gE al_ it tg pt bd fr af) x d) s.1) then 0 else 1)), .int (nI (pt x)), .ref 46] Mz5874 _
        refine zw_n 1 rfl ?_
        refine zw_callV (as := [.int (nI (pt x)), .int (nI (if s.2.1 = 0 then 0 else li (s.2.1 - 1) + if co (s.2.1 - 1) < (grC (grM (gE al_ it tg pt bd fr af) x d) s.1) then 0 else 1)), .int (nI (grC (grM (gE al_ it tg pt bd fr af) x d) s.1))]) (rest := []) rfl rfl rfl (Sm.at hSz5872 (by decide) (h46.get 0 rfl)) rfl rfl rfl (by omega) (c_addTok Mz5874 46 s.2.1 sg li co (seg4 (Sm.at hSz5872 (by decide) (h46.get 0 rfl)) (Sm.at hSz5872 (by decide) (h46.get 1 rfl)) (Sm.at hSz5872 (by decide) (h46.get 2 rfl)) (Sm.at hSz5872 (by decide) (h46.get 3 rfl))) hS (pt x) (if s.2.1 = 0 then 0 else li (s.2.1 - 1) + if co (s.2.1 - 1) < (grC (grM (gE al_ it tg pt bd fr af) x d) s.1) then 0 else 1) (grC (grM (gE al_ it tg pt bd fr af) x d) s.1) (by omega)) (fun rz5883 Mz5884 hz5885 => ?_)
        obtain ⟨hAz5880, hBz5881, hSz5882⟩ := hz5885
        rw [hAz5880]
        show Zw (LI + 2) zm_Grower_growItem 99 [some (.ref 45), some (.int (nI x)), some (.int (nI d)), some (.int (nI ab)), some (.int (nI (tg x))), some (.long (lN (grM (gE al_ it tg pt bd fr af) x d))), none, some (.int (nI (grC (grM (gE al_ it tg pt bd fr af) x d) s.1)))] [.int 1] Mz5884 _
        exact zw_zret rfl rfl (Or.inr rfl) ((by
    obtain ⟨t9, e9, hH9⟩ := grH_add (s := (drN s.1, s.2)) hW.dr hS hl hq hL ((hp x hx).1 c31) (grC_lt _ _) sp75 (Sm.at hSz5882 (by decide) hBz5871) (seg4 (hBz5881.get 0 rfl) (hBz5881.get 1 rfl) (hBz5881.get 2 rfl) (hBz5881.get 3 rfl))
    exact Or.inl ⟨t9, _, _, _, (if_pos (show (gE al_ it tg pt bd fr af) 2 x = NO from c31)).trans e9, rfl, hH9, Sm.tw (Sm.tw Sm.rf hSz5872 (by decide)) hSz5882 (by decide)⟩))
      · skip
        refine zw_n 1 rfl ?_
        refine zw_get (v := .ref 46) rfl hBz5871 rfl ?_
        refine zw_n 1 rfl ?_
        refine zw_get (v := .ref 16) rfl hBz5871 rfl ?_
        refine zw_get (v := .ref 20) rfl (Sm.at hSz5872 (by decide) (hR.get 0 rfl)) rfl ?_
        refine zw_n 1 rfl ?_
        refine zw_iald (f := ai pt) (j := x) rfl (Sm.at hSz5872 (by decide) (hR.get 4 rfl)) rfl (by decide) (by omega) ?_
        have bz5886 := hG.2.2.2.2.1 x
        refine zw_n 2 rfl ?_
        refine zw_callV (as := [.int (nI (grC (grM (gE al_ it tg pt bd fr af) x d) s.1))]) (rest := [.int (nI (pt x)), .ref 46]) rfl rfl rfl hBz5871 rfl rfl rfl (by omega) (c_lineFor Mz5874 (drN s.1) hBz5871 (drN_lt _) s.2.1 sg li co (seg4 (Sm.at hSz5872 (by decide) (h46.get 0 rfl)) (Sm.at hSz5872 (by decide) (h46.get 1 rfl)) (Sm.at hSz5872 (by decide) (h46.get 2 rfl)) (Sm.at hSz5872 (by decide) (h46.get 3 rfl))) hS (grC (grM (gE al_ it tg pt bd fr af) x d) s.1) (grC_lt _ _)) (fun rz5887 Mz5888 hz5889 => ?_)
        rw [hz5889.1, hz5889.2]
        show Zw (LI + 2) zm_Grower_growItem 94 [some (.ref 45), some (.int (nI x)), some (.int (nI d)), some (.int (nI ab)), some (.int (nI (tg x))), some (.long (lN (grM (gE al_ it tg pt bd fr af) x d))), none, some (.int (nI (grC (grM (gE al_ it tg pt bd fr af) x d) s.1)))] [.int (nI (if s.2.1 = 0 then 0 else li (s.2.1 - 1) + if co (s.2.1 - 1) < (grC (grM (gE al_ it tg pt bd fr af) x d) s.1) then 0 else 1)), .int (nI (pt x)), .ref 46] Mz5874 _
        refine zw_n 1 rfl ?_
        refine zw_callV (as := [.int (nI (pt x)), .int (nI (if s.2.1 = 0 then 0 else li (s.2.1 - 1) + if co (s.2.1 - 1) < (grC (grM (gE al_ it tg pt bd fr af) x d) s.1) then 0 else 1)), .int (nI (grC (grM (gE al_ it tg pt bd fr af) x d) s.1))]) (rest := []) rfl rfl rfl (Sm.at hSz5872 (by decide) (h46.get 0 rfl)) rfl rfl rfl (by omega) (c_addFull Mz5874 46 s.2.1 sg li co (seg4 (Sm.at hSz5872 (by decide) (h46.get 0 rfl)) (Sm.at hSz5872 (by decide) (h46.get 1 rfl)) (Sm.at hSz5872 (by decide) (h46.get 2 rfl)) (Sm.at hSz5872 (by decide) (h46.get 3 rfl))) hS (pt x) (if s.2.1 = 0 then 0 else li (s.2.1 - 1) + if co (s.2.1 - 1) < (grC (grM (gE al_ it tg pt bd fr af) x d) s.1) then 0 else 1) (grC (grM (gE al_ it tg pt bd fr af) x d) s.1) (by omega)) (fun rz5893 Mz5894 hz5895 => ?_)
        rw [hz5895.1, hz5895.2]
        show Zw (LI + 2) zm_Grower_growItem 99 [some (.ref 45), some (.int (nI x)), some (.int (nI d)), some (.int (nI ab)), some (.int (nI (tg x))), some (.long (lN (grM (gE al_ it tg pt bd fr af) x d))), none, some (.int (nI (grC (grM (gE al_ it tg pt bd fr af) x d) s.1)))] [.int 0] Mz5874 _
        exact zw_zret rfl rfl (Or.inl rfl) (Or.inr ⟨(drN s.1, s.2), sg, li, co, (if_pos (show (gE al_ it tg pt bd fr af) 2 x = NO from c31)).trans (if_pos (show s.2.1 = 20 by omega)), rfl, ⟨hBz5871, (seg4 (Sm.at hSz5872 (by decide) (h46.get 0 rfl)) (Sm.at hSz5872 (by decide) (h46.get 1 rfl)) (Sm.at hSz5872 (by decide) (h46.get 2 rfl)) (Sm.at hSz5872 (by decide) (h46.get 3 rfl))), hS, hl, hq, hW.dr⟩, Sm.tw Sm.rf hSz5872 (by decide)⟩)
    · -- 60 to 63
      exfalso
      exact c60 c31
  · -- 31 to 34
    refine zw_n 2 rfl ?_
    refine zw_get (v := .ref 16) rfl h45 rfl ?_
    refine zw_get (v := .ref 23) rfl (hR.get 0 rfl) rfl ?_
    refine zw_n 1 rfl ?_
    refine zw_lald (f := al fr) (j := (tg x)) rfl (hR.get 7 rfl) rfl (by decide) (by omega) ?_
    have bz5896 := hfr (tg x)
    refine zw_n 1 rfl ?_
    refine zw_topl (lan (a := prtN (bd x) (2 ^ d)) (b := fr (tg x)) rfl rfl) ?_
    refine zw_n 1 (ls' := [some (.ref 45), some (.int (nI x)), some (.int (nI d)), some (.int (nI ab)), some (.int (nI (tg x))), some (.long (lN ((prtN (bd x) (2 ^ d)) &&& (fr (tg x))))), none, none]) rfl ?_
    refine zw_lse (ls' := [some (.ref 45), some (.int (nI x)), some (.int (nI d)), some (.int (nI ab)), some (.int (nI (tg x))), some (.long (lN (grM (gE al_ it tg pt bd fr af) x d))), none, none]) (by rw [show prtN (bd x) (2 ^ d) &&& fr (tg x) = grM (gE al_ it tg pt bd fr af) x d from grM_nn (G := (gE al_ it tg pt bd fr af)) c31]) ?_
    refine zw_n 2 rfl ?_
    refine zw_callV (as := [.long (lN (grM (gE al_ it tg pt bd fr af) x d))]) (rest := []) rfl rfl rfl h45 rfl rfl rfl (by omega) (c_drawColumn Mq s.1 h45 (by omega) (grM (gE al_ it tg pt bd fr af) x d) (grM_lt hd)) (fun rz5900 Mz5901 hz5902 => ?_)
    obtain ⟨hAz5897, hBz5898, hSz5899⟩ := hz5902
    rw [hAz5897]
    show Zw (LI + 2) zm_Grower_growItem 55 [some (.ref 45), some (.int (nI x)), some (.int (nI d)), some (.int (nI ab)), some (.int (nI (tg x))), some (.long (lN (grM (gE al_ it tg pt bd fr af) x d))), none, none] [.int (nI (grC (grM (gE al_ it tg pt bd fr af) x d) s.1))] Mz5901 _
    refine zw_n 3 (ls' := [some (.ref 45), some (.int (nI x)), some (.int (nI d)), some (.int (nI ab)), some (.int (nI (tg x))), some (.long (lN (grM (gE al_ it tg pt bd fr af) x d))), none, some (.int (nI (grC (grM (gE al_ it tg pt bd fr af) x d) s.1)))]) rfl ?_
    refine zw_ieqM (a := tg x) rfl rfl (by omega) (fun c60 => ?_) (fun c60 => ?_)
    · -- 60 to 75
      exfalso
      exact c31 c60
    · -- 60 to 63
      refine zw_n 6 rfl ?_
      refine zw_top (na (a := ab) (b := 1) rfl rfl) ?_
      refine zw_callV (as := [.int (nI (tg x)), .int (nI (grC (grM (gE al_ it tg pt bd fr af) x d) s.1)), .int (nI (ab + 1))]) (rest := []) rfl rfl rfl hBz5898 rfl rfl rfl (by omega) (hrec Mz5901 (drN s.1, s.2) sg li co (tg x) (grC (grM (gE al_ it tg pt bd fr af) x d) s.1) ⟨hBz5898, (seg4 (Sm.at hSz5899 (by decide) (h46.get 0 rfl)) (Sm.at hSz5899 (by decide) (h46.get 1 rfl)) (Sm.at hSz5899 (by decide) (h46.get 2 rfl)) (Sm.at hSz5899 (by decide) (h46.get 3 rfl))), hS, hl, hq, hW.dr⟩ (seg10 (Sm.at hSz5899 (by decide) (hR.get 0 rfl)) (Sm.at hSz5899 (by decide) (hR.get 1 rfl)) (Sm.at hSz5899 (by decide) (hR.get 2 rfl)) (Sm.at hSz5899 (by decide) (hR.get 3 rfl)) (Sm.at hSz5899 (by decide) (hR.get 4 rfl)) (Sm.at hSz5899 (by decide) (hR.get 5 rfl)) (Sm.at hSz5899 (by decide) (hR.get 6 rfl)) (Sm.at hSz5899 (by decide) (hR.get 7 rfl)) (Sm.at hSz5899 (by decide) (hR.get 8 rfl)) (Sm.at hSz5899 (by decide) (hR.get 9 rfl))) ((hp x hx).2 c31) (grC_lt _ _)) (fun rz5919 Mz5920 hz5921 => ?_)
      rcases hz5921 with hz5921a | hz5921b
      · skip
        obtain ⟨tz5903, sgz5904, liz5905, coz5906, hRz5907, hAz5908, hHz5909, hSz5910⟩ := hz5921a
        rw [hAz5908]
        show Zw (LI + 2) zm_Grower_growItem 74 [some (.ref 45), some (.int (nI x)), some (.int (nI d)), some (.int (nI ab)), some (.int (nI (tg x))), some (.long (lN (grM (gE al_ it tg pt bd fr af) x d))), none, some (.int (nI (grC (grM (gE al_ it tg pt bd fr af) x d) s.1)))] [.int 1] Mz5920 _
        exact zw_zret rfl rfl (Or.inr rfl) (Or.inl ⟨tz5903, sgz5904, liz5905, coz5906, (if_neg (show ¬ (gE al_ it tg pt bd fr af) 2 x = NO from c31)).trans hRz5907, rfl, hHz5909, Sm.trans (Sm.tw Sm.rf hSz5899 (by decide)) hSz5910⟩)
      · skip
        obtain ⟨tz5911, sgz5912, liz5913, coz5914, hRz5915, hAz5916, hHz5917, hSz5918⟩ := hz5921b
        rw [hAz5916]
        show Zw (LI + 2) zm_Grower_growItem 74 [some (.ref 45), some (.int (nI x)), some (.int (nI d)), some (.int (nI ab)), some (.int (nI (tg x))), some (.long (lN (grM (gE al_ it tg pt bd fr af) x d))), none, some (.int (nI (grC (grM (gE al_ it tg pt bd fr af) x d) s.1)))] [.int 0] Mz5920 _
        exact zw_zret rfl rfl (Or.inl rfl) (Or.inr ⟨tz5911, sgz5912, liz5913, coz5914, (if_neg (show ¬ (gE al_ it tg pt bd fr af) 2 x = NO from c31)).trans hRz5915, rfl, hHz5917, Sm.trans (Sm.tw Sm.rf hSz5899 (by decide)) hSz5918⟩)

set_option maxHeartbeats 4000000 in
set_option maxRecDepth 100000 in
theorem c_growNode0 (Mq : zM) (L LI ab : Nat) (s : gS) (sg li co : Nat → Nat) (hH : grH Mq L s sg li co) (r d : Nat) (hab : 30 < ab) (hab2 : ab < 2147483648) : Zm (LI) zm_Grower_growNode [.ref 45, .int (nI r), .int (nI d), .int (nI ab)] Mq (grP Mq L none) := by
  show Zw (LI) zm_Grower_growNode 0 [some (.ref 45), some (.int (nI r)), some (.int (nI d)), some (.int (nI ab)), none, none] [] Mq _
  refine zw_n 2 rfl ?_
  refine zw_ileN (a := ab) (b := 30) rfl rfl rfl (by omega) (by omega) (fun c3 => ?_) (fun c3 => ?_)
  · -- 3 to 8
    exfalso
    omega
  · -- 3 to 6
    refine zw_n 1 rfl ?_
    exact zw_zret rfl rfl (Or.inl rfl) (Or.inr ⟨s, sg, li, co, rfl, rfl, hH, Sm.rf⟩)

set_option maxHeartbeats 4000000 in
set_option maxRecDepth 100000 in
theorem c_growNodeS (Mq : zM) (L LI u ab : Nat) (n em : Nat) (gn al_ it pt tg bd fr af fb : Nat → Nat) (hR : Seg Mq 16 (rulL 16 (n, gn, al_, it, pt, tg, bd, em, fr, af, fb))) (hG : SafeG n gn al_ it pt tg bd) (hfr : SafeM fr) (haf : SafeM af) (hp : ∀ x, Slt n al_ it x → (tg x = NO → 33 ≤ pt x ∧ pt x ≤ 126) ∧ (tg x ≠ NO → tg x < n)) (hal : ∀ r, r < n → 1 ≤ al_ r) (hL : 240 < L) (s : gS) (sg li co : Nat → Nat) (hH : grH Mq L s sg li co) (r d : Nat) (hr : r < n) (hd : d < 40) (hab : ab ≤ 30) (hLI : 1 < LI) (hrec : ∀ (M2 : zM) (s2 : gS) (sg2 li2 co2 : Nat → Nat) (x2 : Nat), grH M2 L s2 sg2 li2 co2 → Seg M2 16 (rulL 16 (n, gn, al_, it, pt, tg, bd, em, fr, af, fb)) → Slt n al_ it x2 → x2 < 160 → Zm LI zm_Grower_growItem [.ref 45, .int (nI x2), .int (nI d), .int (nI ab)] M2 (grP M2 L (grI (gE al_ it tg pt bd fr af) (grN (gE al_ it tg pt bd fr af) u) x2 d s2))) : Zm (LI + 1) zm_Grower_growNode [.ref 45, .int (nI r), .int (nI d), .int (nI ab)] Mq (grP Mq L (grN (gE al_ it tg pt bd fr af) (u + 1) r d s)) := by
  show Zw (LI + 1) zm_Grower_growNode 0 [some (.ref 45), some (.int (nI r)), some (.int (nI d)), some (.int (nI ab)), none, none] [] Mq _
  obtain ⟨h45, h46, hS, hl, hq, hW⟩ := hH
  have hc20 := hS.1
  have hn8 := hG.1
  have hsd := hW.1
  have hal4 := hG.2.2.1 r
  have hA9 : grA (gE al_ it tg pt bd fr af) r d s.1 < al_ r := grA_lt (G := (gE al_ it tg pt bd fr af)) (hal r hr)
  refine zw_n 2 rfl ?_
  refine zw_ileN (a := ab) (b := 30) rfl rfl rfl (by omega) (by omega) (fun c3 => ?_) (fun c3 => ?_)
  · -- 3 to 8
    refine zw_n 3 rfl ?_
    refine zw_callV (as := [.int (nI r), .int (nI d)]) (rest := []) rfl rfl rfl h45 rfl rfl rfl (by omega) (c_drawAlt Mq s.1 h45 (by omega) n em gn al_ it pt tg bd fr af fb (seg10 (hR.get 0 rfl) (hR.get 1 rfl) (hR.get 2 rfl) (hR.get 3 rfl) (hR.get 4 rfl) (hR.get 5 rfl) (hR.get 6 rfl) (hR.get 7 rfl) (hR.get 8 rfl) (hR.get 9 rfl)) hG haf r d (by omega) hd) (fun rz5925 Mz5926 hz5927 => ?_)
    obtain ⟨hAz5922, hBz5923, hSz5924⟩ := hz5927
    rw [hAz5922]
    show Zw (LI + 1) zm_Grower_growNode 14 [some (.ref 45), some (.int (nI r)), some (.int (nI d)), some (.int (nI ab)), none, none] [.int (nI (r * 4 + grA (gE al_ it tg pt bd fr af) r d s.1))] Mz5926 _
    refine zw_n 3 (ls' := [some (.ref 45), some (.int (nI r)), some (.int (nI d)), some (.int (nI ab)), some (.int (nI (r * 4 + grA (gE al_ it tg pt bd fr af) r d s.1))), some (.int 0)]) rfl ?_
    have lp19 : ∀ (n19 : Nat) (k : Nat) (t : gS) (sg1 : Nat → Nat) (li1 : Nat → Nat) (co1 : Nat → Nat) (M_19 : zM), Sm Mq M_19 [45, 46, 47, 48, 49] → M_19[45]? = some (.inr (2, [.ref 46, .ref 16, .int (nI t.1)])) → M_19[46]? = some (.inr (9, [.int (nI t.2.1), .ref 47, .ref 48, .ref 49])) → M_19[47]? = some (.inl (0, 20, .inl (ai sg1))) → M_19[48]? = some (.inl (0, 20, .inl (ai li1))) → M_19[49]? = some (.inl (0, 20, .inl (ai co1))) → (k ≤ it (r * 4 + grA (gE al_ it tg pt bd fr af) r d s.1) ∧ SafeT t.2.1 sg1 li1 co1 ∧ (∀ q, li1 q < L) ∧ (∀ q, q < t.2.1 → sg1 q = t.2.2.1 q ∧ li1 q = t.2.2.2.1 q ∧ co1 q = t.2.2.2.2 q) ∧ grW t ∧ grN (gE al_ it tg pt bd fr af) (u + 1) r d s = grK (fun k t => grI (gE al_ it tg pt bd fr af) (grN (gE al_ it tg pt bd fr af) u) ((r * 4 + grA (gE al_ it tg pt bd fr af) r d s.1) * 5 + k) d t) k (it (r * 4 + grA (gE al_ it tg pt bd fr af) r d s.1) - k) t) → it (r * 4 + grA (gE al_ it tg pt bd fr af) r d s.1) - k < n19 → Zw (LI + 1) zm_Grower_growNode 19 [some (.ref 45), some (.int (nI r)), some (.int (nI d)), some (.int (nI ab)), some (.int (nI (r * 4 + grA (gE al_ it tg pt bd fr af) r d s.1))), some (.int (nI k))] [] M_19 (grP Mq L (grN (gE al_ it tg pt bd fr af) (u + 1) r d s)) := by
      intro n19
      induction n19 with
      | zero => intro k t sg1 li1 co1 M_19 _ _ _ _ _ _ _ h; exact absurd h (Nat.not_lt_zero _)
      | succ n19 ih19 =>
        intro k t sg1 li1 co1 M_19 s_19 f19_0 f19_1 f19_2 f19_3 f19_4 hi19 hm19
        obtain ⟨hk9, hS1, hl1, hq1, hW1, hN⟩ := hi19
        have hit5 := hG.2.2.2.1 (r * 4 + grA (gE al_ it tg pt bd fr af) r d s.1)
        refine zw_n 2 rfl ?_
        refine zw_get (v := .ref 16) rfl f19_0 rfl ?_
        refine zw_get (v := .ref 19) rfl (Sm.at s_19 (by decide) (hR.get 0 rfl)) rfl ?_
        refine zw_n 1 rfl ?_
        refine zw_iald (f := ai it) (j := (r * 4 + grA (gE al_ it tg pt bd fr af) r d s.1)) rfl (Sm.at s_19 (by decide) (hR.get 3 rfl)) rfl (by decide) (by omega) ?_
        have bz5928 := hG.2.2.2.1 (r * 4 + grA (gE al_ it tg pt bd fr af) r d s.1)
        refine zw_igeN (a := k) (b := it (r * 4 + grA (gE al_ it tg pt bd fr af) r d s.1)) rfl rfl rfl (by omega) (by omega) (fun c31 => ?_) (fun c31 => ?_)
        · -- 31 to 58
          refine zw_n 1 rfl ?_
          exact zw_zret rfl rfl (Or.inr rfl) (Or.inl ⟨t, sg1, li1, co1, hN.trans (grK_0 (by omega)), rfl, ⟨f19_0, (seg4 f19_1 f19_2 f19_3 f19_4), hS1, hl1, hq1, hW1⟩, s_19⟩)
        · -- 31 to 34
          refine zw_n 4 rfl ?_
          refine zw_top (nm (a := r * 4 + grA (gE al_ it tg pt bd fr af) r d s.1) (b := 5) rfl rfl) ?_
          refine zw_n 2 rfl ?_
          refine zw_top (na (a := (r * 4 + grA (gE al_ it tg pt bd fr af) r d s.1) * 5) (b := k) rfl rfl) ?_
          refine zw_n 2 rfl ?_
          refine zw_callV (as := [.int (nI (((r * 4 + grA (gE al_ it tg pt bd fr af) r d s.1) * 5) + k)), .int (nI d), .int (nI ab)]) (rest := []) rfl rfl rfl f19_0 rfl rfl rfl (by omega) (hrec M_19 t sg1 li1 co1 (((r * 4 + grA (gE al_ it tg pt bd fr af) r d s.1) * 5) + k) ⟨f19_0, (seg4 f19_1 f19_2 f19_3 f19_4), hS1, hl1, hq1, hW1⟩ (seg10 (Sm.at s_19 (by decide) (hR.get 0 rfl)) (Sm.at s_19 (by decide) (hR.get 1 rfl)) (Sm.at s_19 (by decide) (hR.get 2 rfl)) (Sm.at s_19 (by decide) (hR.get 3 rfl)) (Sm.at s_19 (by decide) (hR.get 4 rfl)) (Sm.at s_19 (by decide) (hR.get 5 rfl)) (Sm.at s_19 (by decide) (hR.get 6 rfl)) (Sm.at s_19 (by decide) (hR.get 7 rfl)) (Sm.at s_19 (by decide) (hR.get 8 rfl)) (Sm.at s_19 (by decide) (hR.get 9 rfl))) ⟨r, grA (gE al_ it tg pt bd fr af) r d s.1, k, hr, hA9, by omega, rfl⟩ (by omega)) (fun rz5945 Mz5946 hz5947 => ?_)
          rcases hz5947 with hz5947a | hz5947b
          · skip
            obtain ⟨tz5929, sgz5930, liz5931, coz5932, hRz5933, hAz5934, hHz5935, hSz5936⟩ := hz5947a
            rw [hAz5934]
            show Zw (LI + 1) zm_Grower_growNode 47 [some (.ref 45), some (.int (nI r)), some (.int (nI d)), some (.int (nI ab)), some (.int (nI (r * 4 + grA (gE al_ it tg pt bd fr af) r d s.1))), some (.int (nI k))] [.int 1] Mz5946 _
            refine zw_if rfl ?_
            show Zw (LI + 1) zm_Grower_growNode 52 [some (.ref 45), some (.int (nI r)), some (.int (nI d)), some (.int (nI ab)), some (.int (nI (r * 4 + grA (gE al_ it tg pt bd fr af) r d s.1))), some (.int (nI k))] [] Mz5946 _
            refine zw_inc rfl (x' := (nI (k + 1))) (ls' := [some (.ref 45), some (.int (nI r)), some (.int (nI d)), some (.int (nI ab)), some (.int (nI (r * 4 + grA (gE al_ it tg pt bd fr af) r d s.1))), some (.int (nI (k + 1)))]) rfl (na (a := k) (b := 1) rfl rfl) rfl ?_
            refine zw_n 1 rfl ?_
            exact ih19 (k + 1) tz5929 sgz5930 liz5931 coz5932 Mz5946 (Sm.trans s_19 hSz5936) hHz5935.1 (hHz5935.2.1.get 0 rfl) (hHz5935.2.1.get 1 rfl) (hHz5935.2.1.get 2 rfl) (hHz5935.2.1.get 3 rfl) (⟨by omega, hHz5935.2.2.1, hHz5935.2.2.2.1, hHz5935.2.2.2.2.1, hHz5935.2.2.2.2.2, hN.trans ((grK_s (f := (fun k t => grI (gE al_ it tg pt bd fr af) (grN (gE al_ it tg pt bd fr af) u) ((r * 4 + grA (gE al_ it tg pt bd fr af) r d s.1) * 5 + k) d t)) (by omega) hRz5933).trans (by rw [Nat.sub_sub]))⟩) (by omega)
          · skip
            obtain ⟨tz5937, sgz5938, liz5939, coz5940, hRz5941, hAz5942, hHz5943, hSz5944⟩ := hz5947b
            rw [hAz5942]
            show Zw (LI + 1) zm_Grower_growNode 47 [some (.ref 45), some (.int (nI r)), some (.int (nI d)), some (.int (nI ab)), some (.int (nI (r * 4 + grA (gE al_ it tg pt bd fr af) r d s.1))), some (.int (nI k))] [.int 0] Mz5946 _
            refine zw_if rfl ?_
            show Zw (LI + 1) zm_Grower_growNode 50 [some (.ref 45), some (.int (nI r)), some (.int (nI d)), some (.int (nI ab)), some (.int (nI (r * 4 + grA (gE al_ it tg pt bd fr af) r d s.1))), some (.int (nI k))] [] Mz5946 _
            refine zw_n 1 rfl ?_
            exact zw_zret rfl rfl (Or.inl rfl) (Or.inr ⟨tz5937, sgz5938, liz5939, coz5940, hN.trans (grK_no (f := (fun k t => grI (gE al_ it tg pt bd fr af) (grN (gE al_ it tg pt bd fr af) u) ((r * 4 + grA (gE al_ it tg pt bd fr af) r d s.1) * 5 + k) d t)) (by omega) hRz5941), rfl, hHz5943, Sm.trans s_19 hSz5944⟩)
    exact lp19 _ 0 (drN s.1, s.2) sg li co Mz5926 (Sm.tw Sm.rf hSz5924 (by decide)) hBz5923 (Sm.at hSz5924 (by decide) (h46.get 0 rfl)) (Sm.at hSz5924 (by decide) (h46.get 1 rfl)) (Sm.at hSz5924 (by decide) (h46.get 2 rfl)) (Sm.at hSz5924 (by decide) (h46.get 3 rfl)) (⟨Nat.zero_le _, hS, hl, hq, hW.dr, rfl⟩) (Nat.lt_succ_self _)
  · -- 3 to 6
    exfalso
    omega

theorem c_growNode (L : Nat) (n em : Nat) (gn al_ it pt tg bd fr af fb : Nat → Nat) (hG : SafeG n gn al_ it pt tg bd) (hfr : SafeM fr) (haf : SafeM af) (hp : ∀ x, Slt n al_ it x → (tg x = NO → 33 ≤ pt x ∧ pt x ≤ 126) ∧ (tg x ≠ NO → tg x < n)) (hal : ∀ r, r < n → 1 ≤ al_ r) (hL : 240 < L) : ∀ (u ab : Nat), ab + u = 31 → ∀ (M2 : zM) (s2 : gS) (sg2 li2 co2 : Nat → Nat) (r2 d2 : Nat), grH M2 L s2 sg2 li2 co2 → Seg M2 16 (rulL 16 (n, gn, al_, it, pt, tg, bd, em, fr, af, fb)) → r2 < n → d2 < 40 → Zm (3 * u + 3) zm_Grower_growNode [.ref 45, .int (nI r2), .int (nI d2), .int (nI ab)] M2 (grP M2 L (grN (gE al_ it tg pt bd fr af) u r2 d2 s2))
  | 0, ab, e, M2, s2, sg2, li2, co2, r2, d2, h, _, _, _ => c_growNode0 M2 L 3 ab s2 sg2 li2 co2 h r2 d2 (by omega) (by omega)
  | u + 1, ab, e, M2, s2, sg2, li2, co2, r2, d2, h, hR, hr, hd => by
    rw [show 3 * (u + 1) + 3 = (3 * u + 3 + 2) + 1 by omega]
    exact c_growNodeS M2 L (3 * u + 3 + 2) u ab n em gn al_ it pt tg bd fr af fb hR hG hfr haf hp hal hL s2 sg2 li2 co2 h r2 d2 hr hd (by omega) (by omega) (fun M3 s3 sg3 li3 co3 x3 h3 hR3 hx3 hx4 => c_growItem M3 L (3 * u + 3) u ab n em gn al_ it pt tg bd fr af fb hR3 hG hfr haf hp hal hL s3 sg3 li3 co3 h3 x3 d2 hx3 hx4 hd (by omega) (c_growNode L n em gn al_ it pt tg bd fr af fb hG hfr haf hp hal hL u (ab + 1) (by omega)))

set_option maxHeartbeats 4000000 in
set_option maxRecDepth 100000 in
theorem c_growFrom (Mq : zM) (L : Nat) (n em : Nat) (gn al_ it pt tg bd fr af fb : Nat → Nat) (hR : Seg Mq 16 (rulL 16 (n, gn, al_, it, pt, tg, bd, em, fr, af, fb))) (hG : SafeG n gn al_ it pt tg bd) (hfr : SafeM fr) (haf : SafeM af) (hp : ∀ x, Slt n al_ it x → (tg x = NO → 33 ≤ pt x ∧ pt x ≤ 126) ∧ (tg x ≠ NO → tg x < n)) (hal : ∀ r, r < n → 1 ≤ al_ r) (hL : 240 < L) (sd c : Nat) (sg li co : Nat → Nat) (h45 : Mq[45]? = some (.inr (2, [.ref 46, .ref 16, .int (nI (sd))]))) (h46 : Seg Mq 46 (tokL 46 (c, sg, li, co))) (hS : SafeT c sg li co) (hl : ∀ q, li q < L) (x : Nat) (hx : x < 1000000) : Zm 97 zm_Grower_growFrom [.ref 45, .int (nI x)] Mq (grP Mq L (grR (gE al_ it tg pt bd fr af) n x)) := by
  show Zw 97 zm_Grower_growFrom 0 [some (.ref 45), some (.int (nI x))] [] Mq _
  have hn8 := hG.1
  refine zw_n 1 rfl ?_
  refine zw_get (v := .ref 46) rfl h45 rfl ?_
  refine zw_n 1 rfl ?_
  refine zw_put rfl (h46.get 0 rfl) (rfl) (Nat.le_of_ble_eq_true rfl) ?_
  generalize ez5949 : List.set Mq 46 _ = Mz5948
  refine zw_n 2 rfl ?_
  refine zw_put rfl (zat_set ez5949 (by decide) h45) (rfl) (Nat.le_of_ble_eq_true rfl) ?_
  generalize ez5951 : List.set Mz5948 45 _ = Mz5950
  refine zw_n 1 rfl ?_
  refine zw_get (v := .ref 16) rfl (zat_self ez5951 (zat_set ez5949 (by decide) h45)) rfl ?_
  refine zw_get (v := .int (nI n)) rfl (zat_set ez5951 (by decide) (zat_set ez5949 (by decide) (hR.get 0 rfl))) rfl ?_
  refine zw_eq0N (a := n) rfl rfl (by omega) (fun c20 => ?_) (fun c20 => ?_)
  · -- 20 to 37
    refine zw_n 1 rfl ?_
    exact zw_zret rfl rfl (Or.inl rfl) (Or.inr ⟨(x, 0, fun _ => 0, fun _ => 0, fun _ => 0), sg, li, co, if_pos (by first | exact Or.inl c20 | exact Or.inr c34), rfl, ⟨zat_self ez5951 (zat_set ez5949 (by decide) h45), (seg4 (zat_set ez5951 (by decide) (zat_self ez5949 (h46.get 0 rfl))) (zat_set ez5951 (by decide) (zat_set ez5949 (by decide) (h46.get 1 rfl))) (zat_set ez5951 (by decide) (zat_set ez5949 (by decide) (h46.get 2 rfl))) (zat_set ez5951 (by decide) (zat_set ez5949 (by decide) (h46.get 3 rfl)))), ⟨Nat.zero_le _, hS.2⟩, hl, fun q hq => absurd hq (Nat.not_lt_zero _), ⟨by show x < 1000003; omega, (grW_0 x).2⟩⟩, Sm.tset (Sm.tset Sm.rf ez5949 (by decide)) ez5951 (by decide)⟩)
  · -- 20 to 23
    refine zw_n 1 rfl ?_
    refine zw_get (v := .ref 16) rfl (zat_self ez5951 (zat_set ez5949 (by decide) h45)) rfl ?_
    refine zw_get (v := .ref 23) rfl (zat_set ez5951 (by decide) (zat_set ez5949 (by decide) (hR.get 0 rfl))) rfl ?_
    refine zw_n 1 rfl ?_
    refine zw_lald (f := al fr) (j := 0) rfl (zat_set ez5951 (by decide) (zat_set ez5949 (by decide) (hR.get 7 rfl))) rfl (by decide) (by omega) ?_
    have bz5952 := hfr 0
    refine zw_n 2 rfl ?_
    refine zw_lneN (a := fr 0) (b := 0) rfl rfl rfl (by omega) (by omega) (fun c34 => ?_) (fun c34 => ?_)
    · -- 34 to 39
      refine zw_n 4 rfl ?_
      refine zw_get (v := .ref 16) rfl (zat_self ez5951 (zat_set ez5949 (by decide) h45)) rfl ?_
      refine zw_get (v := .ref 23) rfl (zat_set ez5951 (by decide) (zat_set ez5949 (by decide) (hR.get 0 rfl))) rfl ?_
      refine zw_n 1 rfl ?_
      refine zw_lald (f := al fr) (j := 0) rfl (zat_set ez5951 (by decide) (zat_set ez5949 (by decide) (hR.get 7 rfl))) rfl (by decide) (by omega) ?_
      have bz5953 := hfr 0
      refine zw_callV (as := [.long (lN (fr 0))]) (rest := [.int 0, .ref 45]) rfl rfl rfl (zat_self ez5951 (zat_set ez5949 (by decide) h45)) rfl rfl rfl (by decide) (c_drawColumn Mz5950 x (zat_self ez5951 (zat_set ez5949 (by decide) h45)) (by omega) (fr 0) (hfr 0)) (fun rz5957 Mz5958 hz5959 => ?_)
      obtain ⟨hAz5954, hBz5955, hSz5956⟩ := hz5959
      rw [hAz5954]
      show Zw 97 zm_Grower_growFrom 54 [some (.ref 45), some (.int (nI x))] [.int (nI (grC (fr 0) x)), .int 0, .ref 45] Mz5958 _
      refine zw_n 1 rfl ?_
      refine zw_callV (as := [.int 0, .int (nI (grC (fr 0) x)), .int 0]) (rest := []) rfl rfl rfl hBz5955 rfl rfl rfl (by decide) (c_growNode L n em gn al_ it pt tg bd fr af fb hG hfr haf hp hal hL 31 0 rfl Mz5958 (drN x, 0, fun _ => 0, fun _ => 0, fun _ => 0) sg li co 0 (grC (fr 0) x) ⟨hBz5955, (seg4 (Sm.at hSz5956 (by decide) (zat_set ez5951 (by decide) (zat_self ez5949 (h46.get 0 rfl)))) (Sm.at hSz5956 (by decide) (zat_set ez5951 (by decide) (zat_set ez5949 (by decide) (h46.get 1 rfl)))) (Sm.at hSz5956 (by decide) (zat_set ez5951 (by decide) (zat_set ez5949 (by decide) (h46.get 2 rfl)))) (Sm.at hSz5956 (by decide) (zat_set ez5951 (by decide) (zat_set ez5949 (by decide) (h46.get 3 rfl))))), ⟨Nat.zero_le _, hS.2⟩, hl, fun q hq => absurd hq (Nat.not_lt_zero _), grW_0 x⟩ (seg10 (Sm.at hSz5956 (by decide) (zat_set ez5951 (by decide) (zat_set ez5949 (by decide) (hR.get 0 rfl)))) (Sm.at hSz5956 (by decide) (zat_set ez5951 (by decide) (zat_set ez5949 (by decide) (hR.get 1 rfl)))) (Sm.at hSz5956 (by decide) (zat_set ez5951 (by decide) (zat_set ez5949 (by decide) (hR.get 2 rfl)))) (Sm.at hSz5956 (by decide) (zat_set ez5951 (by decide) (zat_set ez5949 (by decide) (hR.get 3 rfl)))) (Sm.at hSz5956 (by decide) (zat_set ez5951 (by decide) (zat_set ez5949 (by decide) (hR.get 4 rfl)))) (Sm.at hSz5956 (by decide) (zat_set ez5951 (by decide) (zat_set ez5949 (by decide) (hR.get 5 rfl)))) (Sm.at hSz5956 (by decide) (zat_set ez5951 (by decide) (zat_set ez5949 (by decide) (hR.get 6 rfl)))) (Sm.at hSz5956 (by decide) (zat_set ez5951 (by decide) (zat_set ez5949 (by decide) (hR.get 7 rfl)))) (Sm.at hSz5956 (by decide) (zat_set ez5951 (by decide) (zat_set ez5949 (by decide) (hR.get 8 rfl)))) (Sm.at hSz5956 (by decide) (zat_set ez5951 (by decide) (zat_set ez5949 (by decide) (hR.get 9 rfl))))) (by omega) (grC_lt _ _)) (fun rz5976 Mz5977 hz5978 => ?_)
      rcases hz5978 with hz5978a | hz5978b
      · skip
        obtain ⟨tz5960, sgz5961, liz5962, coz5963, hRz5964, hAz5965, hHz5966, hSz5967⟩ := hz5978a
        rw [hAz5965]
        show Zw 97 zm_Grower_growFrom 58 [some (.ref 45), some (.int (nI x))] [.int 1] Mz5977 _
        exact zw_zret rfl rfl (Or.inr rfl) (Or.inl ⟨tz5960, sgz5961, liz5962, coz5963, (if_neg (fun q9 => q9.elim (by omega) (fun q8 => c34 q8))).trans hRz5964, rfl, hHz5966, Sm.trans (Sm.tw (Sm.tset (Sm.tset Sm.rf ez5949 (by decide)) ez5951 (by decide)) hSz5956 (by decide)) hSz5967⟩)
      · skip
        obtain ⟨tz5968, sgz5969, liz5970, coz5971, hRz5972, hAz5973, hHz5974, hSz5975⟩ := hz5978b
        rw [hAz5973]
        show Zw 97 zm_Grower_growFrom 58 [some (.ref 45), some (.int (nI x))] [.int 0] Mz5977 _
        exact zw_zret rfl rfl (Or.inl rfl) (Or.inr ⟨tz5968, sgz5969, liz5970, coz5971, (if_neg (fun q9 => q9.elim (by omega) (fun q8 => c34 q8))).trans hRz5972, rfl, hHz5974, Sm.trans (Sm.tw (Sm.tset (Sm.tset Sm.rf ez5949 (by decide)) ez5951 (by decide)) hSz5956 (by decide)) hSz5975⟩)
    · -- 34 to 37
      refine zw_n 1 rfl ?_
      exact zw_zret rfl rfl (Or.inl rfl) (Or.inr ⟨(x, 0, fun _ => 0, fun _ => 0, fun _ => 0), sg, li, co, if_pos (by first | exact Or.inl c20 | exact Or.inr c34), rfl, ⟨zat_self ez5951 (zat_set ez5949 (by decide) h45), (seg4 (zat_set ez5951 (by decide) (zat_self ez5949 (h46.get 0 rfl))) (zat_set ez5951 (by decide) (zat_set ez5949 (by decide) (h46.get 1 rfl))) (zat_set ez5951 (by decide) (zat_set ez5949 (by decide) (h46.get 2 rfl))) (zat_set ez5951 (by decide) (zat_set ez5949 (by decide) (h46.get 3 rfl)))), ⟨Nat.zero_le _, hS.2⟩, hl, fun q hq => absurd hq (Nat.not_lt_zero _), ⟨by show x < 1000003; omega, (grW_0 x).2⟩⟩, Sm.tset (Sm.tset Sm.rf ez5949 (by decide)) ez5951 (by decide)⟩)
