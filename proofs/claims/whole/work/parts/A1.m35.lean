set_option maxHeartbeats 4000000 in
set_option maxRecDepth 100000 in
theorem m_freeItem (Mq : zM) (o : Nat → Nat) (f : Nat → Nat → Nat) (hM : MM Mq o f)(n : Nat) (gn al_ it pt tg bd : Nat → Nat) (hg : RelG f n gn al_ it pt tg bd) (hG : SafeG n gn al_ it pt tg bd) (hF : SafeF f) (h4 : SafeM (f 154)) (h5 : SafeM (f 155)) (x : Nat) (hx : Slt n al_ it x) (hx1 : x < 160) : Zm 2 zm_MO_freeItem [.ref 139, .int (nI (49 + 3 * x))] Mq (fun r9 M1 => r9 = some (.long (lN (frI tg bd (f 154) x))) ∧ M1 = Mq) := by
  show Zw 2 zm_MO_freeItem 0 [some (.ref 139), some (.int (nI (49 + 3 * x)))] [] Mq _
  have htg := hG.2.2.2.2.2.1 x
  have hbd := hG.2.2.2.2.2.2 x
  refine zw_n 1 rfl ?_
  refine zw_get (v := .ref 140) rfl hM.1 rfl ?_
  refine zw_n 3 rfl ?_
  refine zw_top (na (a := 49 + 3 * x) (b := 2) rfl rfl) ?_
  refine zw_iald (f := ai (f 140)) (j := ((49 + 3 * x) + 2)) rfl (hM.2 140 (by decide) (by decide)) rfl (by decide) (by omega) ?_
  refine zw_top (x' := (nI (bd x))) (congrArg nI (hg.2.2.2.2 x hx).2.2.1) ?_
  have j8 : Zw 2 zm_MO_freeItem 33 [some (.ref 139), some (.int (nI (49 + 3 * x)))] [.long (lN (if tg x = NO then 1099511627775 else (f 154) (tg x))), .int (nI (bd x))] Mq (fun r9 M1 => r9 = some (.long (lN (frI tg bd (f 154) x))) ∧ M1 = Mq) := by
    refine zw_callS (as := [.int (nI (bd x)), .long (lN (if tg x = NO then 1099511627775 else (f 154) (tg x)))]) (rest := []) rfl rfl rfl rfl rfl rfl (by decide) (m_lets _ _ _ (by omega) (by split <;> first | decide | exact h4 _)) (fun rz3372 Mz3373 hz3374 => ?_)
    rw [hz3374.1, hz3374.2]
    show Zw 2 zm_MO_freeItem 36 [some (.ref 139), some (.int (nI (49 + 3 * x)))] [.long (lN (letsN (bd x) (if tg x = NO then 1099511627775 else (f 154) (tg x))))] Mq _
    exact zw_lret rfl rfl (⟨rfl, rfl⟩)
  refine zw_n 2 rfl ?_
  refine zw_callV (as := [.int (nI (49 + 3 * x))]) (rest := [.int (nI (bd x))]) rfl rfl rfl hM.1 rfl rfl rfl (by decide) (m_partOf Mq o f hM n gn al_ it pt tg bd hg hG hF x hx hx1) (fun rz3375 Mz3376 hz3377 => ?_)
  rw [hz3377.1, hz3377.2]
  show Zw 2 zm_MO_freeItem 13 [some (.ref 139), some (.int (nI (49 + 3 * x)))] [.int (nI (tg x)), .int (nI (bd x))] Mq _
  refine zw_n 1 rfl ?_
  refine zw_ineM (a := tg x) rfl rfl (by omega) (fun c14 => ?_) (fun c14 => ?_)
  · -- 14 to 23
    refine zw_n 1 rfl ?_
    refine zw_get (v := .ref 154) rfl hM.1 rfl ?_
    refine zw_n 2 rfl ?_
    refine zw_callV (as := [.int (nI (49 + 3 * x))]) (rest := [.ref 154, .int (nI (bd x))]) rfl rfl rfl hM.1 rfl rfl rfl (by decide) (m_partOf Mq o f hM n gn al_ it pt tg bd hg hG hF x hx hx1) (fun rz3378 Mz3379 hz3380 => ?_)
    rw [hz3380.1, hz3380.2]
    show Zw 2 zm_MO_freeItem 32 [some (.ref 139), some (.int (nI (49 + 3 * x)))] [.int (nI (tg x)), .ref 154, .int (nI (bd x))] Mq _
    refine zw_lald (f := al (f 154)) (j := (tg x)) rfl (hM.2 154 (by decide) (by decide)) rfl (by decide) (by omega) ?_
    refine zw_topl (x' := lN (if tg x = NO then 1099511627775 else (f 154) (tg x))) (show lN ((f 154) (tg x)) = lN (if tg x = NO then 1099511627775 else (f 154) (tg x)) by rw [if_neg (c14)]) ?_
    exact j8
  · -- 14 to 17
    refine zw_n 2 rfl ?_
    refine zw_topl (x' := lN (if tg x = NO then 1099511627775 else (f 154) (tg x))) (show lN 1099511627775 = lN (if tg x = NO then 1099511627775 else (f 154) (tg x)) by rw [if_pos (c14)]) ?_
    exact j8

set_option maxHeartbeats 4000000 in
set_option maxRecDepth 100000 in
theorem m_bareItem (Mq : zM) (o : Nat → Nat) (f : Nat → Nat → Nat) (hM : MM Mq o f)(n : Nat) (gn al_ it pt tg bd : Nat → Nat) (hg : RelG f n gn al_ it pt tg bd) (hG : SafeG n gn al_ it pt tg bd) (hF : SafeF f) (h4 : SafeM (f 154)) (h5 : SafeM (f 155)) (x : Nat) (hx : Slt n al_ it x) (hx1 : x < 160) : Zm 2 zm_MO_bareItem [.ref 139, .int (nI (49 + 3 * x))] Mq (fun r9 M1 => r9 = some (.long (lN (brI tg bd (f 155) x))) ∧ M1 = Mq) := by
  show Zw 2 zm_MO_bareItem 0 [some (.ref 139), some (.int (nI (49 + 3 * x)))] [] Mq _
  have htg := hG.2.2.2.2.2.1 x
  have hbd := hG.2.2.2.2.2.2 x
  refine zw_n 2 rfl ?_
  refine zw_callV (as := [.int (nI (49 + 3 * x))]) (rest := []) rfl rfl rfl hM.1 rfl rfl rfl (by decide) (m_partOf Mq o f hM n gn al_ it pt tg bd hg hG hF x hx hx1) (fun rz3381 Mz3382 hz3383 => ?_)
  rw [hz3383.1, hz3383.2]
  show Zw 2 zm_MO_bareItem 5 [some (.ref 139), some (.int (nI (49 + 3 * x)))] [.int (nI (tg x))] Mq _
  refine zw_n 1 rfl ?_
  refine zw_ineM (a := tg x) rfl rfl (by omega) (fun c6 => ?_) (fun c6 => ?_)
  · -- 6 to 13
    refine zw_n 1 rfl ?_
    refine zw_get (v := .ref 140) rfl hM.1 rfl ?_
    refine zw_n 3 rfl ?_
    refine zw_top (na (a := 49 + 3 * x) (b := 2) rfl rfl) ?_
    refine zw_iald (f := ai (f 140)) (j := ((49 + 3 * x) + 2)) rfl (hM.2 140 (by decide) (by decide)) rfl (by decide) (by omega) ?_
    refine zw_top (x' := (nI (bd x))) (congrArg nI (hg.2.2.2.2 x hx).2.2.1) ?_
    refine zw_n 1 rfl ?_
    refine zw_get (v := .ref 155) rfl hM.1 rfl ?_
    refine zw_n 2 rfl ?_
    refine zw_callV (as := [.int (nI (49 + 3 * x))]) (rest := [.ref 155, .int (nI (bd x))]) rfl rfl rfl hM.1 rfl rfl rfl (by decide) (m_partOf Mq o f hM n gn al_ it pt tg bd hg hG hF x hx hx1) (fun rz3384 Mz3385 hz3386 => ?_)
    rw [hz3386.1, hz3386.2]
    show Zw 2 zm_MO_bareItem 30 [some (.ref 139), some (.int (nI (49 + 3 * x)))] [.int (nI (tg x)), .ref 155, .int (nI (bd x))] Mq _
    refine zw_lald (f := al (f 155)) (j := (tg x)) rfl (hM.2 155 (by decide) (by decide)) rfl (by decide) (by omega) ?_
    refine zw_callS (as := [.int (nI (bd x)), .long (lN ((f 155) (tg x)))]) (rest := []) rfl rfl rfl rfl rfl rfl (by decide) (m_lets _ _ _ (by omega) (h5 _)) (fun rz3387 Mz3388 hz3389 => ?_)
    rw [hz3389.1, hz3389.2]
    show Zw 2 zm_MO_bareItem 34 [some (.ref 139), some (.int (nI (49 + 3 * x)))] [.long (lN (letsN (bd x) ((f 155) (tg x))))] Mq _
    exact zw_lret rfl rfl (⟨by unfold brI; rw [if_neg c6]; try rfl, rfl⟩)
  · -- 6 to 9
    refine zw_n 2 rfl ?_
    refine zw_topl (x' := lN 0) (by decide) ?_
    exact zw_lret rfl rfl (⟨by unfold brI; rw [if_pos c6]; try rfl, rfl⟩)

set_option maxHeartbeats 4000000 in
set_option maxRecDepth 100000 in
theorem m_ofAltF (Mq : zM) (o : Nat → Nat) (f : Nat → Nat → Nat) (hM : MM Mq o f)(n : Nat) (gn al_ it pt tg bd : Nat → Nat) (hg : RelG f n gn al_ it pt tg bd) (hG : SafeG n gn al_ it pt tg bd) (hF : SafeF f) (h4 : SafeM (f 154)) (h5 : SafeM (f 155)) (r a : Nat) (h_r : r < n) (ha : a < al_ r) : Zm 3 zm_MO_ofAlt [.ref 139, .int (nI r), .int (nI a), .int 0] Mq (fun r9 M1 => r9 = some (.long (lN (frA tg bd it (f 154) (r * 4 + a)))) ∧ M1 = Mq) := by
  show Zw 3 zm_MO_ofAlt 0 [some (.ref 139), some (.int (nI r)), some (.int (nI a)), some (.int 0), none, none, none] [] Mq _
  have hn8 := hG.1
  have ha4 := hG.2.2.1 r
  have hi5 := hG.2.2.2.1 (r * 4 + a)
  refine zw_n 4 (ls' := [some (.ref 139), some (.int (nI r)), some (.int (nI a)), some (.int 0), some (.long 1099511627775), none, some (.int 0)]) rfl ?_
  have lp8 : ∀ (n8 : Nat) (m9 : Nat) (k : Nat), (k ≤ it (r * 4 + a) ∧ m9 = andR (fun k => frI tg bd (f 154) ((r * 4 + a) * 5 + k)) 0 k) → it (r * 4 + a) - k < n8 → Zw 3 zm_MO_ofAlt 8 [some (.ref 139), some (.int (nI r)), some (.int (nI a)), some (.int 0), some (.long (lN m9)), none, some (.int (nI k))] [] Mq (fun r9 M1 => r9 = some (.long (lN (frA tg bd it (f 154) (r * 4 + a)))) ∧ M1 = Mq) := by
    intro n8
    induction n8 with
    | zero => intro m9 k _ h; exact absurd h (Nat.not_lt_zero _)
    | succ n8 ih8 =>
      intro m9 k hi8 hm8
      refine zw_n 4 rfl ?_
      refine zw_callV (as := [.int (nI r), .int (nI a)]) (rest := [.int (nI k)]) rfl rfl rfl hM.1 rfl rfl rfl (by decide) (m_items Mq o f hM n gn al_ it pt tg bd hg hG hF r a (by omega) (by omega)) (fun rz3390 Mz3391 hz3392 => ?_)
      rw [hz3392.1, hz3392.2]
      show Zw 3 zm_MO_ofAlt 16 [some (.ref 139), some (.int (nI r)), some (.int (nI a)), some (.int 0), some (.long (lN m9)), none, some (.int (nI k))] [.int (nI (it (r * 4 + a))), .int (nI k)] Mq _
      refine zw_igeN (a := k) (b := it (r * 4 + a)) rfl rfl rfl (by omega) (by omega) (fun c16 => ?_) (fun c16 => ?_)
      · -- 16 to 59
        refine zw_n 1 rfl ?_
        exact zw_lret rfl rfl (⟨by rw [hi8.2, show k = it (r * 4 + a) by omega]; rfl, rfl⟩)
      · -- 16 to 19
        refine zw_n 2 rfl ?_
        refine zw_if rfl ?_
        show Zw 3 zm_MO_ofAlt 39 [some (.ref 139), some (.int (nI r)), some (.int (nI a)), some (.int 0), some (.long (lN m9)), none, some (.int (nI k))] [.long (lN m9)] Mq _
        refine zw_n 4 rfl ?_
        refine zw_callS (as := [.int (nI r), .int (nI a), .int (nI k)]) (rest := [.ref 139, .long (lN m9)]) rfl rfl rfl rfl rfl rfl (by decide) (m_itemAt _ r a k) (fun rz3393 Mz3394 hz3395 => ?_)
        rw [hz3395.1, hz3395.2]
        show Zw 3 zm_MO_ofAlt 47 [some (.ref 139), some (.int (nI r)), some (.int (nI a)), some (.int 0), some (.long (lN m9)), none, some (.int (nI k))] [.int (nI (49 + 3 * ((r * 4 + a) * 5 + k))), .ref 139, .long (lN m9)] Mq _
        refine zw_callV (as := [.int (nI (49 + 3 * ((r * 4 + a) * 5 + k)))]) (rest := [.long (lN m9)]) rfl rfl rfl hM.1 rfl rfl rfl (by decide) (m_freeItem Mq o f hM n gn al_ it pt tg bd hg hG hF h4 h5 ((r * 4 + a) * 5 + k) ⟨r, a, k, h_r, ha, by omega, rfl⟩ (by omega)) (fun rz3396 Mz3397 hz3398 => ?_)
        rw [hz3398.1, hz3398.2]
        show Zw 3 zm_MO_ofAlt 50 [some (.ref 139), some (.int (nI r)), some (.int (nI a)), some (.int 0), some (.long (lN m9)), none, some (.int (nI k))] [.long (lN (frI tg bd (f 154) ((r * 4 + a) * 5 + k))), .long (lN m9)] Mq _
        refine zw_n 1 rfl ?_
        refine zw_topl (lan (a := m9) (b := frI tg bd (f 154) ((r * 4 + a) * 5 + k)) rfl rfl) ?_
        refine zw_n 1 (ls' := [some (.ref 139), some (.int (nI r)), some (.int (nI a)), some (.int 0), some (.long (lN (m9 &&& (frI tg bd (f 154) ((r * 4 + a) * 5 + k))))), none, some (.int (nI k))]) rfl ?_
        refine zw_inc rfl (x' := (nI (k + 1))) (ls' := [some (.ref 139), some (.int (nI r)), some (.int (nI a)), some (.int 0), some (.long (lN (m9 &&& (frI tg bd (f 154) ((r * 4 + a) * 5 + k))))), none, some (.int (nI (k + 1)))]) rfl (na (a := k) (b := 1) rfl rfl) rfl ?_
        refine zw_n 1 rfl ?_
        exact ih8 (m9 &&& (frI tg bd (f 154) ((r * 4 + a) * 5 + k))) (k + 1) (⟨by omega, by rw [andR, ← hi8.2, Nat.zero_add]⟩) (by omega)
  exact lp8 _ 1099511627775 0 (⟨Nat.zero_le _, rfl⟩) (Nat.lt_succ_self _)

set_option maxHeartbeats 4000000 in
set_option maxRecDepth 100000 in
theorem m_ofAltB (Mq : zM) (o : Nat → Nat) (f : Nat → Nat → Nat) (hM : MM Mq o f)(n : Nat) (gn al_ it pt tg bd : Nat → Nat) (hg : RelG f n gn al_ it pt tg bd) (hG : SafeG n gn al_ it pt tg bd) (hF : SafeF f) (h4 : SafeM (f 154)) (h5 : SafeM (f 155)) (r a : Nat) (h_r : r < n) (ha : a < al_ r) : Zm 3 zm_MO_ofAlt [.ref 139, .int (nI r), .int (nI a), .int 1] Mq (fun r9 M1 => r9 = some (.long (lN (brA tg bd it (f 155) (r * 4 + a)))) ∧ M1 = Mq) := by
  show Zw 3 zm_MO_ofAlt 0 [some (.ref 139), some (.int (nI r)), some (.int (nI a)), some (.int 1), none, none, none] [] Mq _
  have hn8 := hG.1
  have ha4 := hG.2.2.1 r
  have hi5 := hG.2.2.2.1 (r * 4 + a)
  refine zw_n 4 (ls' := [some (.ref 139), some (.int (nI r)), some (.int (nI a)), some (.int 1), some (.long 1099511627775), none, some (.int 0)]) rfl ?_
  have lp8 : ∀ (n8 : Nat) (m9 : Nat) (k : Nat), (k ≤ it (r * 4 + a) ∧ m9 = andR (fun k => brI tg bd (f 155) ((r * 4 + a) * 5 + k)) 0 k) → it (r * 4 + a) - k < n8 → Zw 3 zm_MO_ofAlt 8 [some (.ref 139), some (.int (nI r)), some (.int (nI a)), some (.int 1), some (.long (lN m9)), none, some (.int (nI k))] [] Mq (fun r9 M1 => r9 = some (.long (lN (brA tg bd it (f 155) (r * 4 + a)))) ∧ M1 = Mq) := by
    intro n8
    induction n8 with
    | zero => intro m9 k _ h; exact absurd h (Nat.not_lt_zero _)
    | succ n8 ih8 =>
      intro m9 k hi8 hm8
      refine zw_n 4 rfl ?_
      refine zw_callV (as := [.int (nI r), .int (nI a)]) (rest := [.int (nI k)]) rfl rfl rfl hM.1 rfl rfl rfl (by decide) (m_items Mq o f hM n gn al_ it pt tg bd hg hG hF r a (by omega) (by omega)) (fun rz3399 Mz3400 hz3401 => ?_)
      rw [hz3401.1, hz3401.2]
      show Zw 3 zm_MO_ofAlt 16 [some (.ref 139), some (.int (nI r)), some (.int (nI a)), some (.int 1), some (.long (lN m9)), none, some (.int (nI k))] [.int (nI (it (r * 4 + a))), .int (nI k)] Mq _
      refine zw_igeN (a := k) (b := it (r * 4 + a)) rfl rfl rfl (by omega) (by omega) (fun c16 => ?_) (fun c16 => ?_)
      · -- 16 to 59
        refine zw_n 1 rfl ?_
        exact zw_lret rfl rfl (⟨by rw [hi8.2, show k = it (r * 4 + a) by omega]; rfl, rfl⟩)
      · -- 16 to 19
        refine zw_n 2 rfl ?_
        refine zw_if rfl ?_
        show Zw 3 zm_MO_ofAlt 25 [some (.ref 139), some (.int (nI r)), some (.int (nI a)), some (.int 1), some (.long (lN m9)), none, some (.int (nI k))] [.long (lN m9)] Mq _
        refine zw_n 4 rfl ?_
        refine zw_callS (as := [.int (nI r), .int (nI a), .int (nI k)]) (rest := [.ref 139, .long (lN m9)]) rfl rfl rfl rfl rfl rfl (by decide) (m_itemAt _ r a k) (fun rz3402 Mz3403 hz3404 => ?_)
        rw [hz3404.1, hz3404.2]
        show Zw 3 zm_MO_ofAlt 33 [some (.ref 139), some (.int (nI r)), some (.int (nI a)), some (.int 1), some (.long (lN m9)), none, some (.int (nI k))] [.int (nI (49 + 3 * ((r * 4 + a) * 5 + k))), .ref 139, .long (lN m9)] Mq _
        refine zw_callV (as := [.int (nI (49 + 3 * ((r * 4 + a) * 5 + k)))]) (rest := [.long (lN m9)]) rfl rfl rfl hM.1 rfl rfl rfl (by decide) (m_bareItem Mq o f hM n gn al_ it pt tg bd hg hG hF h4 h5 ((r * 4 + a) * 5 + k) ⟨r, a, k, h_r, ha, by omega, rfl⟩ (by omega)) (fun rz3405 Mz3406 hz3407 => ?_)
        rw [hz3407.1, hz3407.2]
        show Zw 3 zm_MO_ofAlt 36 [some (.ref 139), some (.int (nI r)), some (.int (nI a)), some (.int 1), some (.long (lN m9)), none, some (.int (nI k))] [.long (lN (brI tg bd (f 155) ((r * 4 + a) * 5 + k))), .long (lN m9)] Mq _
        refine zw_n 2 rfl ?_
        refine zw_topl (lan (a := m9) (b := brI tg bd (f 155) ((r * 4 + a) * 5 + k)) rfl rfl) ?_
        refine zw_n 1 (ls' := [some (.ref 139), some (.int (nI r)), some (.int (nI a)), some (.int 1), some (.long (lN (m9 &&& (brI tg bd (f 155) ((r * 4 + a) * 5 + k))))), none, some (.int (nI k))]) rfl ?_
        refine zw_inc rfl (x' := (nI (k + 1))) (ls' := [some (.ref 139), some (.int (nI r)), some (.int (nI a)), some (.int 1), some (.long (lN (m9 &&& (brI tg bd (f 155) ((r * 4 + a) * 5 + k))))), none, some (.int (nI (k + 1)))]) rfl (na (a := k) (b := 1) rfl rfl) rfl ?_
        refine zw_n 1 rfl ?_
        exact ih8 (m9 &&& (brI tg bd (f 155) ((r * 4 + a) * 5 + k))) (k + 1) (⟨by omega, by rw [andR, ← hi8.2, Nat.zero_add]⟩) (by omega)
  exact lp8 _ 1099511627775 0 (⟨Nat.zero_le _, rfl⟩) (Nat.lt_succ_self _)
