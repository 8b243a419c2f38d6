set_option maxHeartbeats 4000000 in
set_option maxRecDepth 100000 in
theorem m_draftG (Mq : zM) (o : Nat → Nat) (f : Nat → Nat → Nat) (hM : MM Mq o f) (n : Nat) (gn al_ it pt tg : Nat → Nat) (hd : DrG f n gn al_ it pt tg) (hn8 : n ≤ 8) (hb0 : ∀ q, f 145 q < 2147483648) (x : Nat) (hx : x < 2147483648) : Zm 0 zm_MO_draftOf [.ref 139, .int (nI x)] Mq (fun r9 M1 => r9 = some (.int (nI (srch (fun q => gn q == x) 0 n))) ∧ M1 = Mq) := by
  show Zw 0 zm_MO_draftOf 0 [some (.ref 139), some (.int (nI x)), none] [] Mq _
  refine zw_n 2 (ls' := [some (.ref 139), some (.int (nI x)), some (.int 0)]) rfl ?_
  have lp2 : ∀ (n2 : Nat) (i : Nat), (i ≤ n ∧ srch (fun q => gn q == x) 0 n = srch (fun q => gn q == x) i (n - i)) → n - i < n2 → Zw 0 zm_MO_draftOf 2 [some (.ref 139), some (.int (nI x)), some (.int (nI i))] [] Mq (fun r9 M1 => r9 = some (.int (nI (srch (fun q => gn q == x) 0 n))) ∧ M1 = Mq) := by
    intro n2
    induction n2 with
    | zero => intro i _ h; exact absurd h (Nat.not_lt_zero _)
    | succ n2 ih2 =>
      intro i hi2 hm2
      have hgi : i < n → gn i < 2147483648 := fun q => by rw [← hd.2.1 i q]; exact hb0 _
      refine zw_n 2 rfl ?_
      refine zw_get (v := .ref 145) rfl hM.1 rfl ?_
      refine zw_n 1 rfl ?_
      refine zw_iald (f := ai (f 145)) (j := 0) rfl (hM.2 145 (by decide) (by decide)) rfl (by decide) (by omega) ?_
      refine zw_top (x' := (nI n)) (congrArg nI hd.1) ?_
      refine zw_igeN (a := i) (b := n) rfl rfl rfl (by omega) (by omega) (fun c9 => ?_) (fun c9 => ?_)
      · -- 9 to 32
        refine zw_n 1 rfl ?_
        exact zw_iret rfl rfl (⟨by rw [hi2.2, srch_end (by omega)]; decide, rfl⟩)
      · -- 9 to 12
        refine zw_n 1 rfl ?_
        refine zw_get (v := .ref 145) rfl hM.1 rfl ?_
        refine zw_n 3 rfl ?_
        refine zw_top (na (a := 1) (b := i) rfl rfl) ?_
        refine zw_iald (f := ai (f 145)) (j := (1 + i)) rfl (hM.2 145 (by decide) (by decide)) rfl (by decide) (by omega) ?_
        refine zw_top (x' := (nI (gn i))) (congrArg nI (hd.2.1 i (by omega))) ?_
        refine zw_n 1 rfl ?_
        refine zw_ineN (a := gn i) (b := x) rfl rfl rfl (by omega) (by omega) (fun c21 => ?_) (fun c21 => ?_)
        · -- 21 to 26
          refine zw_inc rfl (x' := (nI (i + 1))) (ls' := [some (.ref 139), some (.int (nI x)), some (.int (nI (i + 1)))]) rfl (na (a := i) (b := 1) rfl rfl) rfl ?_
          refine zw_n 1 rfl ?_
          exact ih2 (i + 1) (⟨by omega, by rw [hi2.2, srch_no (by omega) (by simpa using c21), show n - (i + 1) = n - i - 1 by omega]⟩) (by omega)
        · -- 21 to 24
          refine zw_n 1 rfl ?_
          exact zw_iret rfl rfl (⟨by rw [hi2.2, srch_yes (by omega) (by simpa using c21)], rfl⟩)
  exact lp2 _ 0 (⟨Nat.zero_le _, rfl⟩) (Nat.lt_succ_self _)

set_option maxHeartbeats 4000000 in
set_option maxRecDepth 100000 in
theorem m_isEmptyItem (Mq : zM) (o : Nat → Nat) (f : Nat → Nat → Nat) (hM : MM Mq o f) (n : Nat) (gn al_ it pt tg : Nat → Nat) (hd : DrG f n gn al_ it pt tg) (hn8 : n ≤ 8) (hb0 : ∀ q, f 145 q < 2147483648) (hres : DrR n gn al_ it pt tg) (he1 : ∀ q, f 148 q ≤ 1) (r a k : Nat) (h_r : r < n) (ha : a < al_ r) (hk : k < it (r * 4 + a)) : Zm 1 zm_MO_isEmptyItem [.ref 139, .int (nI (49 + 3 * ((r * 4 + a) * 5 + k)))] Mq (fun r9 M1 => r9 = some (.int (nI (if tg ((r * 4 + a) * 5 + k) ≠ NO ∧ bR (f 148) (tg ((r * 4 + a) * 5 + k)) = true then 1 else 0))) ∧ M1 = Mq) := by
  show Zw 1 zm_MO_isEmptyItem 0 [some (.ref 139), some (.int (nI (49 + 3 * ((r * 4 + a) * 5 + k))))] [] Mq _
  have ha4 := (hd.2.2.1 r h_r).2
  have hi5 := (hd.2.2.2.1 r a h_r ha).2
  have hsl := hd.2.2.2.2 r a k h_r ha hk
  have hpb := hb0 (49 + 3 * ((r * 4 + a) * 5 + k))
  rw [hsl.1] at hpb
  refine zw_n 1 rfl ?_
  refine zw_get (v := .ref 145) rfl hM.1 rfl ?_
  refine zw_n 3 rfl ?_
  refine zw_top (na (a := 49 + 3 * ((r * 4 + a) * 5 + k)) (b := 1) rfl rfl) ?_
  refine zw_iald (f := ai (f 145)) (j := ((49 + 3 * ((r * 4 + a) * 5 + k)) + 1)) rfl (hM.2 145 (by decide) (by decide)) rfl (by decide) (by omega) ?_
  refine zw_top (x' := (nI (if tg ((r * 4 + a) * 5 + k) = NO then 0 else 1))) (congrArg nI hsl.2) ?_
  refine zw_n 1 rfl ?_
  refine zw_ineN (a := if tg ((r * 4 + a) * 5 + k) = NO then 0 else 1) (b := 1) rfl rfl rfl (by first | (split <;> decide) | decide) (by first | (split <;> decide) | decide) (fun c9 => ?_) (fun c9 => ?_)
  · -- 9 to 34
    refine zw_n 1 rfl ?_
    exact zw_zret rfl rfl (Or.inl rfl) (⟨by rw [if_neg (fun q9 => by first | (have h9 := of_decide_eq_true q9.2; omega) | (rw [if_neg q9.1] at c9; exact c9 rfl))]; rfl, rfl⟩)
  · -- 9 to 12
    have htn : tg ((r * 4 + a) * 5 + k) ≠ NO := ite_tg1 (by rw [c9]; decide)
    have hrs := hres r a k h_r ha hk htn
    refine zw_n 1 rfl ?_
    refine zw_get (v := .ref 148) rfl hM.1 rfl ?_
    refine zw_n 2 rfl ?_
    refine zw_get (v := .ref 145) rfl hM.1 rfl ?_
    refine zw_n 1 rfl ?_
    refine zw_iald (f := ai (f 145)) (j := (49 + 3 * ((r * 4 + a) * 5 + k))) rfl (hM.2 145 (by decide) (by decide)) rfl (by decide) (by omega) ?_
    refine zw_top (x' := (nI (pt ((r * 4 + a) * 5 + k)))) (congrArg nI hsl.1) ?_
    refine zw_callV (as := [.int (nI (pt ((r * 4 + a) * 5 + k)))]) (rest := [.ref 148]) rfl rfl rfl hM.1 rfl rfl rfl (by decide) (m_draftG Mq o f hM n gn al_ it pt tg hd hn8 hb0 (pt ((r * 4 + a) * 5 + k)) (by omega)) (fun rz3308 Mz3309 hz3310 => ?_)
    rw [hz3310.1, hz3310.2]
    show Zw 1 zm_MO_isEmptyItem 26 [some (.ref 139), some (.int (nI (49 + 3 * ((r * 4 + a) * 5 + k))))] [.int (nI (srch (fun q => gn q == (pt ((r * 4 + a) * 5 + k))) 0 n)), .ref 148] Mq _
    refine zw_top (x' := nI (tg ((r * 4 + a) * 5 + k))) (congrArg nI hrs.1) ?_
    refine zw_bald (f := ai (f 148)) (j := (tg ((r * 4 + a) * 5 + k))) rfl (hM.2 148 (by decide) (by decide)) rfl rfl (by decide) (by omega) ?_
    have bz3311 := he1 (tg ((r * 4 + a) * 5 + k))
    refine zw_eq0N (a := (f 148) (tg ((r * 4 + a) * 5 + k))) rfl rfl (by omega) (fun c27 => ?_) (fun c27 => ?_)
    · -- 27 to 34
      refine zw_n 1 rfl ?_
      exact zw_zret rfl rfl (Or.inl rfl) (⟨by rw [if_neg (fun q9 => by first | (have h9 := of_decide_eq_true q9.2; omega) | (rw [if_neg q9.1] at c9; exact c9 rfl))]; rfl, rfl⟩)
    · -- 27 to 30
      refine zw_n 2 rfl ?_
      exact zw_zret rfl rfl (Or.inr rfl) (⟨by rw [if_pos ⟨htn, decide_eq_true (by have := he1 (tg ((r * 4 + a) * 5 + k)); omega)⟩]; rfl, rfl⟩)

set_option maxHeartbeats 4000000 in
set_option maxRecDepth 100000 in
theorem m_isEmptyAltN (Mq : zM) (o : Nat → Nat) (f : Nat → Nat → Nat) (hM : MM Mq o f) (n : Nat) (gn al_ it pt tg : Nat → Nat) (hd : DrG f n gn al_ it pt tg) (hn8 : n ≤ 8) (hb0 : ∀ q, f 145 q < 2147483648) (hres : DrR n gn al_ it pt tg) (he1 : ∀ q, f 148 q ≤ 1) (r a : Nat) (h_r : r < n) (ha : a < al_ r) : Zm 2 zm_MO_isEmptyAlt [.ref 139, .int (nI r), .int (nI a), .int (-1)] Mq (fun r9 M1 => r9 = some (.int (nI (if iaB tg (bR (f 148)) (r * 4 + a) NO (it (r * 4 + a)) = true then 1 else 0))) ∧ M1 = Mq) := by
  show Zw 2 zm_MO_isEmptyAlt 0 [some (.ref 139), some (.int (nI r)), some (.int (nI a)), some (.int (-1)), none, none] [] Mq _
  have ha4 := (hd.2.2.1 r h_r).2
  have hi5 := (hd.2.2.2.1 r a h_r ha).2
  refine zw_n 4 (ls' := [some (.ref 139), some (.int (nI r)), some (.int (nI a)), some (.int (-1)), some (.int 1), some (.int 0)]) rfl ?_
  have lp6 : ∀ (n6 : Nat) (s9 : Nat) (k : Nat), (k ≤ it (r * 4 + a) ∧ s9 = (if iaB tg (bR (f 148)) (r * 4 + a) NO k = true then 1 else 0)) → it (r * 4 + a) - k < n6 → Zw 2 zm_MO_isEmptyAlt 6 [some (.ref 139), some (.int (nI r)), some (.int (nI a)), some (.int (-1)), some (.int (nI s9)), some (.int (nI k))] [] Mq (fun r9 M1 => r9 = some (.int (nI (if iaB tg (bR (f 148)) (r * 4 + a) NO (it (r * 4 + a)) = true then 1 else 0))) ∧ M1 = Mq) := by
    intro n6
    induction n6 with
    | zero => intro s9 k _ h; exact absurd h (Nat.not_lt_zero _)
    | succ n6 ih6 =>
      intro s9 k hi6 hm6
      have hs1 : s9 ≤ 1 := by rw [hi6.2]; split <;> decide
      refine zw_n 2 rfl ?_
      refine zw_get (v := .ref 145) rfl hM.1 rfl ?_
      refine zw_n 3 rfl ?_
      refine zw_callS (as := [.int (nI r), .int (nI a)]) (rest := [.int 17, .ref 145, .int (nI k)]) rfl rfl rfl rfl rfl rfl (by decide) (m_altAt _ r a) (fun rz3312 Mz3313 hz3314 => ?_)
      rw [hz3314.1, hz3314.2]
      show Zw 2 zm_MO_isEmptyAlt 19 [some (.ref 139), some (.int (nI r)), some (.int (nI a)), some (.int (-1)), some (.int (nI s9)), some (.int (nI k))] [.int (nI (r * 4 + a)), .int 17, .ref 145, .int (nI k)] Mq _
      refine zw_n 1 rfl ?_
      refine zw_top (na (a := 17) (b := r * 4 + a) rfl rfl) ?_
      refine zw_iald (f := ai (f 145)) (j := (17 + (r * 4 + a))) rfl (hM.2 145 (by decide) (by decide)) rfl (by decide) (by omega) ?_
      refine zw_top (x' := (nI (it (r * 4 + a)))) (congrArg nI (hd.2.2.2.1 r a h_r ha).1) ?_
      refine zw_igeN (a := k) (b := it (r * 4 + a)) rfl rfl rfl (by omega) (by omega) (fun c21 => ?_) (fun c21 => ?_)
      · -- 21 to 62
        refine zw_n 1 rfl ?_
        exact zw_zret rfl rfl (by rw [hi6.2]; exact ite_01) (⟨by rw [hi6.2, show k = it (r * 4 + a) by omega], rfl⟩)
      · -- 21 to 24
        have j24 : Zw 2 zm_MO_isEmptyAlt 54 [some (.ref 139), some (.int (nI r)), some (.int (nI a)), some (.int (-1)), some (.int (nI s9)), some (.int (nI k))] [.int (nI (if s9 ≠ 0 ∧ (k = NO ∨ (tg ((r * 4 + a) * 5 + k) ≠ NO ∧ bR (f 148) (tg ((r * 4 + a) * 5 + k)) = true)) then 1 else 0))] Mq (fun r9 M1 => r9 = some (.int (nI (if iaB tg (bR (f 148)) (r * 4 + a) NO (it (r * 4 + a)) = true then 1 else 0))) ∧ M1 = Mq) := by
          refine zw_n 1 (ls' := [some (.ref 139), some (.int (nI r)), some (.int (nI a)), some (.int (-1)), some (.int (nI (if s9 ≠ 0 ∧ (k = NO ∨ (tg ((r * 4 + a) * 5 + k) ≠ NO ∧ bR (f 148) (tg ((r * 4 + a) * 5 + k)) = true)) then 1 else 0))), some (.int (nI k))]) rfl ?_
          refine zw_inc rfl (x' := (nI (k + 1))) (ls' := [some (.ref 139), some (.int (nI r)), some (.int (nI a)), some (.int (-1)), some (.int (nI (if s9 ≠ 0 ∧ (k = NO ∨ (tg ((r * 4 + a) * 5 + k) ≠ NO ∧ bR (f 148) (tg ((r * 4 + a) * 5 + k)) = true)) then 1 else 0))), some (.int (nI (k + 1)))]) rfl (na (a := k) (b := 1) rfl rfl) rfl ?_
          refine zw_n 1 rfl ?_
          exact ih6 (if s9 ≠ 0 ∧ (k = NO ∨ (tg ((r * 4 + a) * 5 + k) ≠ NO ∧ bR (f 148) (tg ((r * 4 + a) * 5 + k)) = true)) then 1 else 0) (k + 1) (⟨by omega, iaB_s hi6.2 Iff.rfl⟩) (by omega)
        refine zw_n 1 rfl ?_
        refine zw_eq0N (a := s9) rfl rfl (by omega) (fun c26 => ?_) (fun c26 => ?_)
        · -- 26 to 53
          refine zw_n 1 rfl ?_
          refine zw_top (x' := nI (if s9 ≠ 0 ∧ (k = NO ∨ (tg ((r * 4 + a) * 5 + k) ≠ NO ∧ bR (f 148) (tg ((r * 4 + a) * 5 + k)) = true)) then 1 else 0)) (show nI 0 = nI (if s9 ≠ 0 ∧ (k = NO ∨ (tg ((r * 4 + a) * 5 + k) ≠ NO ∧ bR (f 148) (tg ((r * 4 + a) * 5 + k)) = true)) then 1 else 0) by rw [if_neg (fun q9 => by first | exact q9.1 c26 | exact q9.2.elim c32 (ite_eq0 c46))]) ?_
          exact j24
        · -- 26 to 29
          refine zw_n 2 rfl ?_
          refine zw_ieqM (a := k) rfl rfl (by omega) (fun c32 => ?_) (fun c32 => ?_)
          · -- 32 to 49
            refine zw_n 2 rfl ?_
            refine zw_top (x' := nI (if s9 ≠ 0 ∧ (k = NO ∨ (tg ((r * 4 + a) * 5 + k) ≠ NO ∧ bR (f 148) (tg ((r * 4 + a) * 5 + k)) = true)) then 1 else 0)) (show nI 1 = nI (if s9 ≠ 0 ∧ (k = NO ∨ (tg ((r * 4 + a) * 5 + k) ≠ NO ∧ bR (f 148) (tg ((r * 4 + a) * 5 + k)) = true)) then 1 else 0) by rw [if_pos (⟨c26, by first | exact Or.inl c32 | exact Or.inr (ite_ne c46)⟩)]) ?_
            exact j24
          · -- 32 to 35
            refine zw_n 4 rfl ?_
            refine zw_callS (as := [.int (nI r), .int (nI a), .int (nI k)]) (rest := [.ref 139]) rfl rfl rfl rfl rfl rfl (by decide) (m_itemAt _ r a k) (fun rz3315 Mz3316 hz3317 => ?_)
            rw [hz3317.1, hz3317.2]
            show Zw 2 zm_MO_isEmptyAlt 43 [some (.ref 139), some (.int (nI r)), some (.int (nI a)), some (.int (-1)), some (.int (nI s9)), some (.int (nI k))] [.int (nI (49 + 3 * ((r * 4 + a) * 5 + k))), .ref 139] Mq _
            refine zw_callV (as := [.int (nI (49 + 3 * ((r * 4 + a) * 5 + k)))]) (rest := []) rfl rfl rfl hM.1 rfl rfl rfl (by decide) (m_isEmptyItem Mq o f hM n gn al_ it pt tg hd hn8 hb0 hres he1 r a k h_r ha (by omega)) (fun rz3318 Mz3319 hz3320 => ?_)
            rw [hz3320.1, hz3320.2]
            show Zw 2 zm_MO_isEmptyAlt 46 [some (.ref 139), some (.int (nI r)), some (.int (nI a)), some (.int (-1)), some (.int (nI s9)), some (.int (nI k))] [.int (nI (if tg ((r * 4 + a) * 5 + k) ≠ NO ∧ bR (f 148) (tg ((r * 4 + a) * 5 + k)) = true then 1 else 0))] Mq _
            refine zw_eq0N (a := if tg ((r * 4 + a) * 5 + k) ≠ NO ∧ bR (f 148) (tg ((r * 4 + a) * 5 + k)) = true then 1 else 0) rfl rfl (ite_b) (fun c46 => ?_) (fun c46 => ?_)
            · -- 46 to 53
              refine zw_n 1 rfl ?_
              refine zw_top (x' := nI (if s9 ≠ 0 ∧ (k = NO ∨ (tg ((r * 4 + a) * 5 + k) ≠ NO ∧ bR (f 148) (tg ((r * 4 + a) * 5 + k)) = true)) then 1 else 0)) (show nI 0 = nI (if s9 ≠ 0 ∧ (k = NO ∨ (tg ((r * 4 + a) * 5 + k) ≠ NO ∧ bR (f 148) (tg ((r * 4 + a) * 5 + k)) = true)) then 1 else 0) by rw [if_neg (fun q9 => by first | exact q9.1 c26 | exact q9.2.elim c32 (ite_eq0 c46))]) ?_
              exact j24
            · -- 46 to 49
              refine zw_n 2 rfl ?_
              refine zw_top (x' := nI (if s9 ≠ 0 ∧ (k = NO ∨ (tg ((r * 4 + a) * 5 + k) ≠ NO ∧ bR (f 148) (tg ((r * 4 + a) * 5 + k)) = true)) then 1 else 0)) (show nI 1 = nI (if s9 ≠ 0 ∧ (k = NO ∨ (tg ((r * 4 + a) * 5 + k) ≠ NO ∧ bR (f 148) (tg ((r * 4 + a) * 5 + k)) = true)) then 1 else 0) by rw [if_pos (⟨c26, by first | exact Or.inl c32 | exact Or.inr (ite_ne c46)⟩)]) ?_
              exact j24
  exact lp6 _ 1 0 (⟨Nat.zero_le _, rfl⟩) (Nat.lt_succ_self _)

set_option maxHeartbeats 4000000 in
set_option maxRecDepth 100000 in
theorem m_isEmptyAltK (Mq : zM) (o : Nat → Nat) (f : Nat → Nat → Nat) (hM : MM Mq o f) (n : Nat) (gn al_ it pt tg : Nat → Nat) (hd : DrG f n gn al_ it pt tg) (hn8 : n ≤ 8) (hb0 : ∀ q, f 145 q < 2147483648) (hres : DrR n gn al_ it pt tg) (he1 : ∀ q, f 148 q ≤ 1) (r a : Nat) (h_r : r < n) (ha : a < al_ r) (k0 : Nat) (hk0 : k0 < 5) : Zm 2 zm_MO_isEmptyAlt [.ref 139, .int (nI r), .int (nI a), .int (nI k0)] Mq (fun r9 M1 => r9 = some (.int (nI (if iaB tg (bR (f 148)) (r * 4 + a) k0 (it (r * 4 + a)) = true then 1 else 0))) ∧ M1 = Mq) := by
  show Zw 2 zm_MO_isEmptyAlt 0 [some (.ref 139), some (.int (nI r)), some (.int (nI a)), some (.int (nI k0)), none, none] [] Mq _
  have ha4 := (hd.2.2.1 r h_r).2
  have hi5 := (hd.2.2.2.1 r a h_r ha).2
  refine zw_n 4 (ls' := [some (.ref 139), some (.int (nI r)), some (.int (nI a)), some (.int (nI k0)), some (.int 1), some (.int 0)]) rfl ?_
  have lp6 : ∀ (n6 : Nat) (s9 : Nat) (k : Nat), (k ≤ it (r * 4 + a) ∧ s9 = (if iaB tg (bR (f 148)) (r * 4 + a) k0 k = true then 1 else 0)) → it (r * 4 + a) - k < n6 → Zw 2 zm_MO_isEmptyAlt 6 [some (.ref 139), some (.int (nI r)), some (.int (nI a)), some (.int (nI k0)), some (.int (nI s9)), some (.int (nI k))] [] Mq (fun r9 M1 => r9 = some (.int (nI (if iaB tg (bR (f 148)) (r * 4 + a) k0 (it (r * 4 + a)) = true then 1 else 0))) ∧ M1 = Mq) := by
    intro n6
    induction n6 with
    | zero => intro s9 k _ h; exact absurd h (Nat.not_lt_zero _)
    | succ n6 ih6 =>
      intro s9 k hi6 hm6
      have hs1 : s9 ≤ 1 := by rw [hi6.2]; split <;> decide
      refine zw_n 2 rfl ?_
      refine zw_get (v := .ref 145) rfl hM.1 rfl ?_
      refine zw_n 3 rfl ?_
      refine zw_callS (as := [.int (nI r), .int (nI a)]) (rest := [.int 17, .ref 145, .int (nI k)]) rfl rfl rfl rfl rfl rfl (by decide) (m_altAt _ r a) (fun rz3321 Mz3322 hz3323 => ?_)
      rw [hz3323.1, hz3323.2]
      show Zw 2 zm_MO_isEmptyAlt 19 [some (.ref 139), some (.int (nI r)), some (.int (nI a)), some (.int (nI k0)), some (.int (nI s9)), some (.int (nI k))] [.int (nI (r * 4 + a)), .int 17, .ref 145, .int (nI k)] Mq _
      refine zw_n 1 rfl ?_
      refine zw_top (na (a := 17) (b := r * 4 + a) rfl rfl) ?_
      refine zw_iald (f := ai (f 145)) (j := (17 + (r * 4 + a))) rfl (hM.2 145 (by decide) (by decide)) rfl (by decide) (by omega) ?_
      refine zw_top (x' := (nI (it (r * 4 + a)))) (congrArg nI (hd.2.2.2.1 r a h_r ha).1) ?_
      refine zw_igeN (a := k) (b := it (r * 4 + a)) rfl rfl rfl (by omega) (by omega) (fun c21 => ?_) (fun c21 => ?_)
      · -- 21 to 62
        refine zw_n 1 rfl ?_
        exact zw_zret rfl rfl (by rw [hi6.2]; exact ite_01) (⟨by rw [hi6.2, show k = it (r * 4 + a) by omega], rfl⟩)
      · -- 21 to 24
        have j24 : Zw 2 zm_MO_isEmptyAlt 54 [some (.ref 139), some (.int (nI r)), some (.int (nI a)), some (.int (nI k0)), some (.int (nI s9)), some (.int (nI k))] [.int (nI (if s9 ≠ 0 ∧ (k = k0 ∨ (tg ((r * 4 + a) * 5 + k) ≠ NO ∧ bR (f 148) (tg ((r * 4 + a) * 5 + k)) = true)) then 1 else 0))] Mq (fun r9 M1 => r9 = some (.int (nI (if iaB tg (bR (f 148)) (r * 4 + a) k0 (it (r * 4 + a)) = true then 1 else 0))) ∧ M1 = Mq) := by
          refine zw_n 1 (ls' := [some (.ref 139), some (.int (nI r)), some (.int (nI a)), some (.int (nI k0)), some (.int (nI (if s9 ≠ 0 ∧ (k = k0 ∨ (tg ((r * 4 + a) * 5 + k) ≠ NO ∧ bR (f 148) (tg ((r * 4 + a) * 5 + k)) = true)) then 1 else 0))), some (.int (nI k))]) rfl ?_
          refine zw_inc rfl (x' := (nI (k + 1))) (ls' := [some (.ref 139), some (.int (nI r)), some (.int (nI a)), some (.int (nI k0)), some (.int (nI (if s9 ≠ 0 ∧ (k = k0 ∨ (tg ((r * 4 + a) * 5 + k) ≠ NO ∧ bR (f 148) (tg ((r * 4 + a) * 5 + k)) = true)) then 1 else 0))), some (.int (nI (k + 1)))]) rfl (na (a := k) (b := 1) rfl rfl) rfl ?_
          refine zw_n 1 rfl ?_
          exact ih6 (if s9 ≠ 0 ∧ (k = k0 ∨ (tg ((r * 4 + a) * 5 + k) ≠ NO ∧ bR (f 148) (tg ((r * 4 + a) * 5 + k)) = true)) then 1 else 0) (k + 1) (⟨by omega, iaB_s hi6.2 Iff.rfl⟩) (by omega)
        refine zw_n 1 rfl ?_
        refine zw_eq0N (a := s9) rfl rfl (by omega) (fun c26 => ?_) (fun c26 => ?_)
        · -- 26 to 53
          refine zw_n 1 rfl ?_
          refine zw_top (x' := nI (if s9 ≠ 0 ∧ (k = k0 ∨ (tg ((r * 4 + a) * 5 + k) ≠ NO ∧ bR (f 148) (tg ((r * 4 + a) * 5 + k)) = true)) then 1 else 0)) (show nI 0 = nI (if s9 ≠ 0 ∧ (k = k0 ∨ (tg ((r * 4 + a) * 5 + k) ≠ NO ∧ bR (f 148) (tg ((r * 4 + a) * 5 + k)) = true)) then 1 else 0) by rw [if_neg (fun q9 => by first | exact q9.1 c26 | exact q9.2.elim c32 (ite_eq0 c46))]) ?_
          exact j24
        · -- 26 to 29
          refine zw_n 2 rfl ?_
          refine zw_ieqN (a := k) (b := k0) rfl rfl rfl (by omega) (by omega) (fun c32 => ?_) (fun c32 => ?_)
          · -- 32 to 49
            refine zw_n 2 rfl ?_
            refine zw_top (x' := nI (if s9 ≠ 0 ∧ (k = k0 ∨ (tg ((r * 4 + a) * 5 + k) ≠ NO ∧ bR (f 148) (tg ((r * 4 + a) * 5 + k)) = true)) then 1 else 0)) (show nI 1 = nI (if s9 ≠ 0 ∧ (k = k0 ∨ (tg ((r * 4 + a) * 5 + k) ≠ NO ∧ bR (f 148) (tg ((r * 4 + a) * 5 + k)) = true)) then 1 else 0) by rw [if_pos (⟨c26, by first | exact Or.inl c32 | exact Or.inr (ite_ne c46)⟩)]) ?_
            exact j24
          · -- 32 to 35
            refine zw_n 4 rfl ?_
            refine zw_callS (as := [.int (nI r), .int (nI a), .int (nI k)]) (rest := [.ref 139]) rfl rfl rfl rfl rfl rfl (by decide) (m_itemAt _ r a k) (fun rz3324 Mz3325 hz3326 => ?_)
            rw [hz3326.1, hz3326.2]
            show Zw 2 zm_MO_isEmptyAlt 43 [some (.ref 139), some (.int (nI r)), some (.int (nI a)), some (.int (nI k0)), some (.int (nI s9)), some (.int (nI k))] [.int (nI (49 + 3 * ((r * 4 + a) * 5 + k))), .ref 139] Mq _
            refine zw_callV (as := [.int (nI (49 + 3 * ((r * 4 + a) * 5 + k)))]) (rest := []) rfl rfl rfl hM.1 rfl rfl rfl (by decide) (m_isEmptyItem Mq o f hM n gn al_ it pt tg hd hn8 hb0 hres he1 r a k h_r ha (by omega)) (fun rz3327 Mz3328 hz3329 => ?_)
            rw [hz3329.1, hz3329.2]
            show Zw 2 zm_MO_isEmptyAlt 46 [some (.ref 139), some (.int (nI r)), some (.int (nI a)), some (.int (nI k0)), some (.int (nI s9)), some (.int (nI k))] [.int (nI (if tg ((r * 4 + a) * 5 + k) ≠ NO ∧ bR (f 148) (tg ((r * 4 + a) * 5 + k)) = true then 1 else 0))] Mq _
            refine zw_eq0N (a := if tg ((r * 4 + a) * 5 + k) ≠ NO ∧ bR (f 148) (tg ((r * 4 + a) * 5 + k)) = true then 1 else 0) rfl rfl (ite_b) (fun c46 => ?_) (fun c46 => ?_)
            · -- 46 to 53
              refine zw_n 1 rfl ?_
              refine zw_top (x' := nI (if s9 ≠ 0 ∧ (k = k0 ∨ (tg ((r * 4 + a) * 5 + k) ≠ NO ∧ bR (f 148) (tg ((r * 4 + a) * 5 + k)) = true)) then 1 else 0)) (show nI 0 = nI (if s9 ≠ 0 ∧ (k = k0 ∨ (tg ((r * 4 + a) * 5 + k) ≠ NO ∧ bR (f 148) (tg ((r * 4 + a) * 5 + k)) = true)) then 1 else 0) by rw [if_neg (fun q9 => by first | exact q9.1 c26 | exact q9.2.elim c32 (ite_eq0 c46))]) ?_
              exact j24
            · -- 46 to 49
              refine zw_n 2 rfl ?_
              refine zw_top (x' := nI (if s9 ≠ 0 ∧ (k = k0 ∨ (tg ((r * 4 + a) * 5 + k) ≠ NO ∧ bR (f 148) (tg ((r * 4 + a) * 5 + k)) = true)) then 1 else 0)) (show nI 1 = nI (if s9 ≠ 0 ∧ (k = k0 ∨ (tg ((r * 4 + a) * 5 + k) ≠ NO ∧ bR (f 148) (tg ((r * 4 + a) * 5 + k)) = true)) then 1 else 0) by rw [if_pos (⟨c26, by first | exact Or.inl c32 | exact Or.inr (ite_ne c46)⟩)]) ?_
              exact j24
  exact lp6 _ 1 0 (⟨Nat.zero_le _, rfl⟩) (Nat.lt_succ_self _)

set_option maxHeartbeats 4000000 in
set_option maxRecDepth 100000 in
theorem m_layEmpties (Mq : zM) (o : Nat → Nat) (f : Nat → Nat → Nat) (hM : MM Mq o f) (n : Nat) (gn al_ it pt tg : Nat → Nat) (hd : DrG f n gn al_ it pt tg) (hn8 : n ≤ 8) (hb0 : ∀ q, f 145 q < 2147483648) (hres : DrR n gn al_ it pt tg) (he0 : ∀ q, f 148 q ≤ 1) : Zm 3 zm_MO_layEmpties [.ref 139] Mq (fun r9 M1 => r9 = none ∧ ∃ E, MM M1 o (fset f 148 E) ∧ Sm Mq M1 [148] ∧ (∀ q, E q ≤ 1) ∧ IsEmp n al_ it tg (bR E)) := by
  show Zw 3 zm_MO_layEmpties 0 [some (.ref 139), none, none, none] [] Mq _
  have hcl := hres.clo
  have hmo := emR_mo hcl
  refine zw_n 2 (ls' := [some (.ref 139), some (.int 0), none, none]) rfl ?_
  have lp2 : ∀ (n2 : Nat) (i : Nat) (E0 : Nat → Nat) (M_2 : zM), Sm Mq M_2 [148] → M_2[148]? = some (.inl (3, 8, .inl (ai E0))) → (i ≤ 8 ∧ (∀ q, E0 q ≤ 1) ∧ ∀ q, q < i → E0 q = 0) → 8 - i < n2 → Zw 3 zm_MO_layEmpties 2 [some (.ref 139), some (.int (nI i)), none, none] [] M_2 (fun r9 M1 => r9 = none ∧ ∃ E, MM M1 o (fset f 148 E) ∧ Sm Mq M1 [148] ∧ (∀ q, E q ≤ 1) ∧ IsEmp n al_ it tg (bR E)) := by
    intro n2
    induction n2 with
    | zero => intro i E0 M_2 _ _ _ h; exact absurd h (Nat.not_lt_zero _)
    | succ n2 ih2 =>
      intro i E0 M_2 s_2 f2_0 hi2 hm2
      refine zw_n 2 rfl ?_
      refine zw_igeN (a := i) (b := 8) rfl rfl rfl (by omega) (by omega) (fun c5 => ?_) (fun c5 => ?_)
      · -- 5 to 21
        refine zw_n 2 (ls' := [some (.ref 139), some (.int 0), none, none]) rfl ?_
        have lp23 : ∀ (n23 : Nat) (ps : Nat) (E1 : Nat → Nat) (M_23 : zM), Sm Mq M_23 [148] → M_23[148]? = some (.inl (3, 8, .inl (ai E1))) → (ps ≤ n ∧ (∀ q, E1 q ≤ 1) ∧ EmP n (emR al_ it tg) ps (bR E1)) → n - ps < n23 → Zw 3 zm_MO_layEmpties 23 [some (.ref 139), some (.int (nI ps)), none, none] [] M_23 (fun r9 M1 => r9 = none ∧ ∃ E, MM M1 o (fset f 148 E) ∧ Sm Mq M1 [148] ∧ (∀ q, E q ≤ 1) ∧ IsEmp n al_ it tg (bR E)) := by
          intro n23
          induction n23 with
          | zero => intro ps E1 M_23 _ _ _ h; exact absurd h (Nat.not_lt_zero _)
          | succ n23 ih23 =>
            intro ps E1 M_23 s_23 f23_0 hi23 hm23
            refine zw_n 2 rfl ?_
            refine zw_get (v := .ref 145) rfl (Sm.at s_23 (by decide) hM.1) rfl ?_
            refine zw_n 1 rfl ?_
            refine zw_iald (f := ai (f 145)) (j := 0) rfl (Sm.at s_23 (by decide) (hM.2 145 (by decide) (by decide))) rfl (by decide) (by omega) ?_
            refine zw_top (x' := (nI n)) (congrArg nI hd.1) ?_
            refine zw_igeN (a := ps) (b := n) rfl rfl rfl (by omega) (by omega) (fun c30 => ?_) (fun c30 => ?_)
            · -- 30 to 108
              exact zw_vret rfl rfl (⟨rfl, E1, (MM.of (o' := o) (f' := fset f 148 E1) hM s_23 (Sm.at s_23 (by decide) hM.1) (c1_cons f23_0 c1_nil) (fs_c fs_n)), s_23, hi23.2.1, IsEmp.of hcl ((show ps = n by omega) ▸ hi23.2.2)⟩)
            · -- 30 to 33
              refine zw_n 2 (ls' := [some (.ref 139), some (.int (nI ps)), some (.int 0), none]) rfl ?_
              have lp35 : ∀ (n35 : Nat) (y : Nat) (E2 : Nat → Nat) (M_35 : zM), Sm Mq M_35 [148] → M_35[148]? = some (.inl (3, 8, .inl (ai E2))) → ((∀ q, E2 q ≤ 1) ∧ EmI n (emR al_ it tg) (bR E1) y (bR E2)) → n - y < n35 → Zw 3 zm_MO_layEmpties 35 [some (.ref 139), some (.int (nI ps)), some (.int (nI y)), none] [] M_35 (fun r9 M1 => r9 = none ∧ ∃ E, MM M1 o (fset f 148 E) ∧ Sm Mq M1 [148] ∧ (∀ q, E q ≤ 1) ∧ IsEmp n al_ it tg (bR E)) := by
                intro n35
                induction n35 with
                | zero => intro y E2 M_35 _ _ _ h; exact absurd h (Nat.not_lt_zero _)
                | succ n35 ih35 =>
                  intro y E2 M_35 s_35 f35_0 hi35 hm35
                  have hy := hi35.2.y_le
                  refine zw_n 2 rfl ?_
                  refine zw_get (v := .ref 145) rfl (Sm.at s_35 (by decide) hM.1) rfl ?_
                  refine zw_n 1 rfl ?_
                  refine zw_iald (f := ai (f 145)) (j := 0) rfl (Sm.at s_35 (by decide) (hM.2 145 (by decide) (by decide))) rfl (by decide) (by omega) ?_
                  refine zw_top (x' := (nI n)) (congrArg nI hd.1) ?_
                  refine zw_igeN (a := y) (b := n) rfl rfl rfl (by omega) (by omega) (fun c42 => ?_) (fun c42 => ?_)
                  · -- 42 to 102
                    refine zw_inc rfl (x' := (nI (ps + 1))) (ls' := [some (.ref 139), some (.int (nI (ps + 1))), some (.int (nI y)), none]) rfl (na (a := ps) (b := 1) rfl rfl) rfl ?_
                    refine zw_n 1 rfl ?_
                    refine zw_ls (ls' := [some (.ref 139), some (.int (nI (ps + 1))), none, none]) ⟨Or.inr rfl, Or.inr rfl, Or.inl rfl, Or.inl rfl, trivial⟩ ?_
                    exact ih23 (ps + 1) E2 M_35 s_35 f35_0 (⟨by omega, hi35.1, EmI.fin hmo hi23.2.2 ((show y = n by omega) ▸ hi35.2)⟩) (by omega)
                  · -- 42 to 45
                    refine zw_n 2 (ls' := [some (.ref 139), some (.int (nI ps)), some (.int (nI y)), some (.int 0)]) rfl ?_
                    have lp47 : ∀ (n47 : Nat) (a : Nat) (E3 : Nat → Nat) (M_47 : zM), Sm Mq M_47 [148] → M_47[148]? = some (.inl (3, 8, .inl (ai E3))) → (a ≤ al_ y ∧ (∀ q, E3 q ≤ 1) ∧ (∀ q, q ≠ y → E3 q = E2 q) ∧ (E3 y = 1 ↔ (E2 y = 1 ∨ ∃ a9, a9 < a ∧ emA tg it (bR E2) (y * 4 + a9)))) → al_ y - a < n47 → Zw 3 zm_MO_layEmpties 47 [some (.ref 139), some (.int (nI ps)), some (.int (nI y)), some (.int (nI a))] [] M_47 (fun r9 M1 => r9 = none ∧ ∃ E, MM M1 o (fset f 148 E) ∧ Sm Mq M1 [148] ∧ (∀ q, E q ≤ 1) ∧ IsEmp n al_ it tg (bR E)) := by
                      intro n47
                      induction n47 with
                      | zero => intro a E3 M_47 _ _ _ h; exact absurd h (Nat.not_lt_zero _)
                      | succ n47 ih47 =>
                        intro a E3 M_47 s_47 f47_0 hi47 hm47
                        have hal4 : y < n → al_ y ≤ 4 := fun q => (hd.2.2.1 y q).2
                        have he3 := hi47.2.1 y
                        refine zw_n 2 rfl ?_
                        refine zw_get (v := .ref 145) rfl (Sm.at s_47 (by decide) hM.1) rfl ?_
                        refine zw_n 3 rfl ?_
                        refine zw_top (na (a := 9) (b := y) rfl rfl) ?_
                        refine zw_iald (f := ai (f 145)) (j := (9 + y)) rfl (Sm.at s_47 (by decide) (hM.2 145 (by decide) (by decide))) rfl (by decide) (by omega) ?_
                        refine zw_top (x' := (nI (al_ y))) (congrArg nI (hd.2.2.1 y (by omega)).1) ?_
                        refine zw_igeN (a := a) (b := al_ y) rfl rfl rfl (by omega) (by omega) (fun c57 => ?_) (fun c57 => ?_)
                        · -- 57 to 96
                          refine zw_inc rfl (x' := (nI (y + 1))) (ls' := [some (.ref 139), some (.int (nI ps)), some (.int (nI (y + 1))), some (.int (nI a))]) rfl (na (a := y) (b := 1) rfl rfl) rfl ?_
                          refine zw_n 1 rfl ?_
                          refine zw_ls (ls' := [some (.ref 139), some (.int (nI ps)), some (.int (nI (y + 1))), none]) ⟨Or.inr rfl, Or.inr rfl, Or.inr rfl, Or.inl rfl, trivial⟩ ?_
                          exact ih35 (y + 1) E3 M_47 s_47 f47_0 (⟨hi47.2.1, hi35.2.step hmo (by omega) (fun r _ h9 => congrArg (fun v => decide (v = 1)) (hi47.2.2.1 r h9)) (le_fin (by omega) hi47.2.2.2)⟩) (by omega)
                        · -- 57 to 60
                          refine zw_n 1 rfl ?_
                          refine zw_get (v := .ref 148) rfl (Sm.at s_47 (by decide) hM.1) rfl ?_
                          refine zw_n 1 rfl ?_
                          have j65 : Zw 3 zm_MO_layEmpties 89 [some (.ref 139), some (.int (nI ps)), some (.int (nI y)), some (.int (nI a))] [.int (nI (if E3 y ≠ 0 ∨ iaB tg (bR E3) (y * 4 + a) NO (it (y * 4 + a)) = true then 1 else 0)), .int (nI y), .ref 148] M_47 (fun r9 M1 => r9 = none ∧ ∃ E, MM M1 o (fset f 148 E) ∧ Sm Mq M1 [148] ∧ (∀ q, E q ≤ 1) ∧ IsEmp n al_ it tg (bR E)) := by
                            refine zw_zastN (g := E3) (j := y) (v := (if E3 y ≠ 0 ∨ iaB tg (bR E3) (y * 4 + a) NO (it (y * 4 + a)) = true then 1 else 0)) rfl f47_0 rfl (by decide) (by omega) (rfl) (by split <;> decide) ?_
                            generalize ez3331 : List.set M_47 148 _ = Mz3330
                            refine zw_inc rfl (x' := (nI (a + 1))) (ls' := [some (.ref 139), some (.int (nI ps)), some (.int (nI y)), some (.int (nI (a + 1)))]) rfl (na (a := a) (b := 1) rfl rfl) rfl ?_
                            refine zw_n 1 rfl ?_
                            exact ih47 (a + 1) (up E3 y (if E3 y ≠ 0 ∨ iaB tg (bR E3) (y * 4 + a) NO (it (y * 4 + a)) = true then 1 else 0)) Mz3330 (Sm.tset s_47 ez3331 (by decide)) (zat_self ez3331 f47_0) (le_step hi35.1 (by omega) hi47.2.1 hi47.2.2.1 hi47.2.2.2 (hd.2.2.2.1 y a (by omega) (by omega)).2) (by omega)
                          refine zw_n 1 rfl ?_
                          refine zw_get (v := .ref 148) rfl (Sm.at s_47 (by decide) hM.1) rfl ?_
                          refine zw_n 1 rfl ?_
                          refine zw_bald (f := ai E3) (j := y) rfl f47_0 rfl rfl (by decide) (by omega) ?_
                          refine zw_top (x' := (nI (E3 y))) (rfl) ?_
                          refine zw_ne0N (a := E3 y) rfl rfl (by omega) (fun c71 => ?_) (fun c71 => ?_)
                          · -- 71 to 84
                            refine zw_n 2 rfl ?_
                            refine zw_top (x' := nI (if E3 y ≠ 0 ∨ iaB tg (bR E3) (y * 4 + a) NO (it (y * 4 + a)) = true then 1 else 0)) (show nI 1 = nI (if E3 y ≠ 0 ∨ iaB tg (bR E3) (y * 4 + a) NO (it (y * 4 + a)) = true then 1 else 0) by rw [if_pos (by first | exact Or.inl c71 | exact Or.inr (ite_ne c81))]) ?_
                            exact j65
                          · -- 71 to 74
                            refine zw_n 4 rfl ?_
                            refine zw_callV (as := [.int (nI y), .int (nI a), .int (-1)]) (rest := [.int (nI y), .ref 148]) rfl rfl rfl (Sm.at s_47 (by decide) hM.1) rfl rfl rfl (by decide) (m_isEmptyAltN M_47 o (fset f 148 E3) (MM.of (o' := o) (f' := fset f 148 E3) hM s_47 (Sm.at s_47 (by decide) hM.1) (c1_cons f47_0 c1_nil) (fs_c fs_n)) n gn al_ it pt tg hd hn8 hb0 hres hi47.2.1 y a (by omega) (by omega)) (fun rz3332 Mz3333 hz3334 => ?_)
                            rw [hz3334.1, hz3334.2]
                            show Zw 3 zm_MO_layEmpties 81 [some (.ref 139), some (.int (nI ps)), some (.int (nI y)), some (.int (nI a))] [.int (nI (if iaB tg (bR E3) (y * 4 + a) NO (it (y * 4 + a)) = true then 1 else 0)), .int (nI y), .ref 148] M_47 _
                            refine zw_eq0N (a := if iaB tg (bR E3) (y * 4 + a) NO (it (y * 4 + a)) = true then 1 else 0) rfl rfl (ite_b) (fun c81 => ?_) (fun c81 => ?_)
                            · -- 81 to 88
                              refine zw_n 1 rfl ?_
                              refine zw_top (x' := nI (if E3 y ≠ 0 ∨ iaB tg (bR E3) (y * 4 + a) NO (it (y * 4 + a)) = true then 1 else 0)) (show nI 0 = nI (if E3 y ≠ 0 ∨ iaB tg (bR E3) (y * 4 + a) NO (it (y * 4 + a)) = true then 1 else 0) by rw [if_neg (fun q9 => q9.elim (fun q8 => q8 c71) (ite_eq0 c81))]) ?_
                              exact j65
                            · -- 81 to 84
                              refine zw_n 2 rfl ?_
                              refine zw_top (x' := nI (if E3 y ≠ 0 ∨ iaB tg (bR E3) (y * 4 + a) NO (it (y * 4 + a)) = true then 1 else 0)) (show nI 1 = nI (if E3 y ≠ 0 ∨ iaB tg (bR E3) (y * 4 + a) NO (it (y * 4 + a)) = true then 1 else 0) by rw [if_pos (by first | exact Or.inl c71 | exact Or.inr (ite_ne c81))]) ?_
                              exact j65
                    exact lp47 _ 0 E2 M_35 s_35 f35_0 (⟨Nat.zero_le _, hi35.1, fun _ _ => rfl, ⟨Or.inl, fun q => q.elim id (fun ⟨a9, h9, _⟩ => absurd h9 (Nat.not_lt_zero _))⟩⟩) (Nat.lt_succ_self _)
              exact lp35 _ 0 E1 M_23 s_23 f23_0 (⟨hi23.2.1, hi23.2.2.go⟩) (Nat.lt_succ_self _)
        exact lp23 _ 0 E0 M_2 s_2 f2_0 (⟨Nat.zero_le _, hi2.2.1, EmP.start (fun r h9 => decide_eq_false (by rw [hi2.2.2 r (by omega)]; decide))⟩) (Nat.lt_succ_self _)
      · -- 5 to 8
        refine zw_n 1 rfl ?_
        refine zw_get (v := .ref 148) rfl (Sm.at s_2 (by decide) hM.1) rfl ?_
        refine zw_n 2 rfl ?_
        refine zw_zastN (g := E0) (j := i) (v := 0) rfl f2_0 rfl (by decide) (by omega) (rfl) (by omega) ?_
        generalize ez3336 : List.set M_2 148 _ = Mz3335
        refine zw_inc rfl (x' := (nI (i + 1))) (ls' := [some (.ref 139), some (.int (nI (i + 1))), none, none]) rfl (na (a := i) (b := 1) rfl rfl) rfl ?_
        refine zw_n 1 rfl ?_
        exact ih2 (i + 1) (up E0 i 0) Mz3335 (Sm.tset s_2 ez3336 (by decide)) (zat_self ez3336 f2_0) (⟨by omega, fun q => by unfold up; split <;> first | omega | exact hi2.2.1 q, fun q hq => by unfold up; split <;> first | rfl | exact hi2.2.2 q (by omega)⟩) (by omega)
  exact lp2 _ 0 (f 148) Mq Sm.rf (hM.2 148 (by decide) (by decide)) (⟨Nat.zero_le _, he0, fun q hq => absurd hq (Nat.not_lt_zero _)⟩) (Nat.lt_succ_self _)
