set_option maxHeartbeats 4000000 in
set_option maxRecDepth 100000 in
theorem m_two (Mq : zM) (o : Nat → Nat) (f : Nat → Nat → Nat) (hM : MM Mq o f) (c : Nat) (sg li co : Nat → Nat) (ht : RelT f c sg li co) (hS : SafeT c sg li co) (E : Nat → Nat → Nat) (n : Nat) (hTr : TrR E n c (o 33) (f 165)) : Zm 1 zm_MO_firstsOfTwo [.ref 139] Mq (fun r9 M1 => r9 = some (.int (nI (twoN li c (f 165) (o 33)))) ∧ M1 = Mq) := by
  show Zw 1 zm_MO_firstsOfTwo 0 [some (.ref 139), none, none, none, none] [] Mq _
  have hc20 := hS.1
  have hle := hTr.le
  refine zw_n 4 (ls' := [some (.ref 139), some (.int 0), some (.int 0), none, none]) rfl ?_
  have lp4 : ∀ (n4 : Nat) (a : Nat) (t : Nat), (t ≤ c ∧ a = twoN li t (f 165) (o 33)) → c - t < n4 → Zw 1 zm_MO_firstsOfTwo 4 [some (.ref 139), some (.int (nI a)), some (.int (nI t)), none, none] [] Mq (fun r9 M1 => r9 = some (.int (nI (twoN li c (f 165) (o 33)))) ∧ M1 = Mq) := by
    intro n4
    induction n4 with
    | zero => intro a t _ h; exact absurd h (Nat.not_lt_zero _)
    | succ n4 ih4 =>
      intro a t hi4 hm4
      refine zw_n 2 rfl ?_
      refine zw_callV (as := []) (rest := [.int (nI t)]) rfl rfl rfl hM.1 rfl rfl rfl (by decide) (m_tok1 Mq o f hM c ht.1) (fun rz5553 Mz5554 hz5555 => ?_)
      rw [hz5555.1, hz5555.2]
      show Zw 1 zm_MO_firstsOfTwo 9 [some (.ref 139), some (.int (nI a)), some (.int (nI t)), none, none] [.int (nI c), .int (nI t)] Mq _
      refine zw_igeN (a := t) (b := c) rfl rfl rfl (by omega) (by omega) (fun c9 => ?_) (fun c9 => ?_)
      · -- 9 to 78
        refine zw_n 1 rfl ?_
        exact zw_iret rfl rfl (⟨by rw [hi4.2, show t = c by omega], rfl⟩)
      · -- 9 to 12
        refine zw_n 4 (ls' := [some (.ref 139), some (.int (nI a)), some (.int (nI t)), some (.int 0), some (.int 0)]) rfl ?_
        have lp17 : ∀ (n17 : Nat) (e : Nat) (q : Nat), (q ≤ o 33 ∧ e = cnW (f 165) 2 t q) → o 33 - q < n17 → Zw 1 zm_MO_firstsOfTwo 17 [some (.ref 139), some (.int (nI a)), some (.int (nI t)), some (.int (nI e)), some (.int (nI q))] [] Mq (fun r9 M1 => r9 = some (.int (nI (twoN li c (f 165) (o 33)))) ∧ M1 = Mq) := by
          intro n17
          induction n17 with
          | zero => intro e q _ h; exact absurd h (Nat.not_lt_zero _)
          | succ n17 ih17 =>
            intro e q hi17 hm17
            refine zw_n 2 rfl ?_
            refine zw_get (v := .int (nI (o 33))) rfl hM.1 rfl ?_
            refine zw_igeN (a := q) (b := o 33) rfl rfl rfl (by omega) (by omega) (fun c23 => ?_) (fun c23 => ?_)
            · -- 23 to 51
              have hcw : e = cnW (f 165) 2 t (o 33) := by rw [hi17.2, show q = o 33 by omega]
              have hcl9 : cnW (f 165) 2 t (o 33) ≤ o 33 := cnt_le _ _
              refine zw_n 3 rfl ?_
              refine zw_callV (as := [.int (nI t)]) (rest := [.int (nI a)]) rfl rfl rfl hM.1 rfl rfl rfl (by decide) (m_isFirst Mq o f hM c sg li co ht hS t (by omega)) (fun rz5556 Mz5557 hz5558 => ?_)
              rw [hz5558.1, hz5558.2]
              show Zw 1 zm_MO_firstsOfTwo 57 [some (.ref 139), some (.int (nI a)), some (.int (nI t)), some (.int (nI e)), some (.int (nI q))] [.int (nI (if t = 0 ∨ li (t - 1) ≠ li t then 1 else 0)), .int (nI a)] Mq _
              refine zw_eq0N (a := if t = 0 ∨ li (t - 1) ≠ li t then 1 else 0) rfl rfl (ite_b) (fun c57 => ?_) (fun c57 => ?_)
              · -- 57 to 69
                refine zw_n 2 rfl ?_
                refine zw_top (na (a := a) (b := 0) rfl rfl) ?_
                refine zw_n 1 (ls' := [some (.ref 139), some (.int (nI (a + 0))), some (.int (nI t)), some (.int (nI e)), some (.int (nI q))]) rfl ?_
                refine zw_inc rfl (x' := (nI (t + 1))) (ls' := [some (.ref 139), some (.int (nI (a + 0))), some (.int (nI (t + 1))), some (.int (nI e)), some (.int (nI q))]) rfl (na (a := t) (b := 1) rfl rfl) rfl ?_
                refine zw_n 1 rfl ?_
                refine zw_ls (ls' := [some (.ref 139), some (.int (nI (a + 0))), some (.int (nI (t + 1))), none, none]) ⟨Or.inr rfl, Or.inr rfl, Or.inr rfl, Or.inl rfl, Or.inl rfl, trivial⟩ ?_
                exact ih4 (a + 0) (t + 1) (⟨by omega, by first | exact twoN_y hi4.2 (ite_ne c57) (by omega) | exact twoN_n hi4.2 (fun q9 => ite_eq0 c57 q9.1) | exact twoN_n hi4.2 (fun q9 => by have := q9.2; omega)⟩) (by omega)
              · -- 57 to 60
                refine zw_n 2 rfl ?_
                refine zw_ileN (a := e) (b := 1) rfl rfl rfl (by omega) (by omega) (fun c62 => ?_) (fun c62 => ?_)
                · -- 62 to 69
                  refine zw_n 2 rfl ?_
                  refine zw_top (na (a := a) (b := 0) rfl rfl) ?_
                  refine zw_n 1 (ls' := [some (.ref 139), some (.int (nI (a + 0))), some (.int (nI t)), some (.int (nI e)), some (.int (nI q))]) rfl ?_
                  refine zw_inc rfl (x' := (nI (t + 1))) (ls' := [some (.ref 139), some (.int (nI (a + 0))), some (.int (nI (t + 1))), some (.int (nI e)), some (.int (nI q))]) rfl (na (a := t) (b := 1) rfl rfl) rfl ?_
                  refine zw_n 1 rfl ?_
                  refine zw_ls (ls' := [some (.ref 139), some (.int (nI (a + 0))), some (.int (nI (t + 1))), none, none]) ⟨Or.inr rfl, Or.inr rfl, Or.inr rfl, Or.inl rfl, Or.inl rfl, trivial⟩ ?_
                  exact ih4 (a + 0) (t + 1) (⟨by omega, by first | exact twoN_y hi4.2 (ite_ne c57) (by omega) | exact twoN_n hi4.2 (fun q9 => ite_eq0 c57 q9.1) | exact twoN_n hi4.2 (fun q9 => by have := q9.2; omega)⟩) (by omega)
                · -- 62 to 65
                  refine zw_n 3 rfl ?_
                  refine zw_top (na (a := a) (b := 1) rfl rfl) ?_
                  refine zw_n 1 (ls' := [some (.ref 139), some (.int (nI (a + 1))), some (.int (nI t)), some (.int (nI e)), some (.int (nI q))]) rfl ?_
                  refine zw_inc rfl (x' := (nI (t + 1))) (ls' := [some (.ref 139), some (.int (nI (a + 1))), some (.int (nI (t + 1))), some (.int (nI e)), some (.int (nI q))]) rfl (na (a := t) (b := 1) rfl rfl) rfl ?_
                  refine zw_n 1 rfl ?_
                  refine zw_ls (ls' := [some (.ref 139), some (.int (nI (a + 1))), some (.int (nI (t + 1))), none, none]) ⟨Or.inr rfl, Or.inr rfl, Or.inr rfl, Or.inl rfl, Or.inl rfl, trivial⟩ ?_
                  exact ih4 (a + 1) (t + 1) (⟨by omega, by first | exact twoN_y hi4.2 (ite_ne c57) (by omega) | exact twoN_n hi4.2 (fun q9 => ite_eq0 c57 q9.1) | exact twoN_n hi4.2 (fun q9 => by have := q9.2; omega)⟩) (by omega)
            · -- 23 to 26
              have h23 := hTr.f23 q (by omega)
              have h3 := hTr.f3 q (by omega)
              refine zw_n 1 rfl ?_
              have j27 : Zw 1 zm_MO_firstsOfTwo 43 [some (.ref 139), some (.int (nI a)), some (.int (nI t)), some (.int (nI e)), some (.int (nI q))] [.int (nI (if f 165 (q * 8 + 2) = t then 1 else 0)), .int (nI e)] Mq (fun r9 M1 => r9 = some (.int (nI (twoN li c (f 165) (o 33)))) ∧ M1 = Mq) := by
                refine zw_n 1 rfl ?_
                refine zw_top (na (a := e) (b := if f 165 (q * 8 + 2) = t then 1 else 0) rfl rfl) ?_
                refine zw_n 1 (ls' := [some (.ref 139), some (.int (nI a)), some (.int (nI t)), some (.int (nI (e + (if f 165 (q * 8 + 2) = t then 1 else 0)))), some (.int (nI q))]) rfl ?_
                refine zw_inc rfl (x' := (nI (q + 1))) (ls' := [some (.ref 139), some (.int (nI a)), some (.int (nI t)), some (.int (nI (e + (if f 165 (q * 8 + 2) = t then 1 else 0)))), some (.int (nI (q + 1)))]) rfl (na (a := q) (b := 1) rfl rfl) rfl ?_
                refine zw_n 1 rfl ?_
                exact ih17 (e + (if f 165 (q * 8 + 2) = t then 1 else 0)) (q + 1) (⟨by omega, cnt_s hi17.2 (by rw [decide_eq_true_eq])⟩) (by omega)
              refine zw_n 3 rfl ?_
              refine zw_callV (as := [.int (nI q), .int 2]) (rest := [.int (nI e)]) rfl rfl rfl hM.1 rfl rfl rfl (by decide) (m_of Mq o f hM q 2 (by omega) (by omega)) (fun rz5559 Mz5560 hz5561 => ?_)
              rw [hz5561.1, hz5561.2]
              show Zw 1 zm_MO_firstsOfTwo 34 [some (.ref 139), some (.int (nI a)), some (.int (nI t)), some (.int (nI e)), some (.int (nI q))] [.int (nI ((f 165) (q * 8 + 2))), .int (nI e)] Mq _
              refine zw_n 1 rfl ?_
              refine zw_ineN (a := (f 165) (q * 8 + 2)) (b := t) rfl rfl rfl (by omega) (by omega) (fun c35 => ?_) (fun c35 => ?_)
              · -- 35 to 42
                refine zw_n 1 rfl ?_
                refine zw_top (x' := nI (if f 165 (q * 8 + 2) = t then 1 else 0)) (show nI 0 = nI (if f 165 (q * 8 + 2) = t then 1 else 0) by rw [if_neg (by omega)]) ?_
                exact j27
              · -- 35 to 38
                refine zw_n 2 rfl ?_
                refine zw_top (x' := nI (if f 165 (q * 8 + 2) = t then 1 else 0)) (show nI 1 = nI (if f 165 (q * 8 + 2) = t then 1 else 0) by rw [if_pos (by omega)]) ?_
                exact j27
        exact lp17 _ 0 0 (⟨Nat.zero_le _, rfl⟩) (Nat.lt_succ_self _)
  exact lp4 _ 0 0 (⟨Nat.zero_le _, rfl⟩) (Nat.lt_succ_self _)

set_option maxHeartbeats 4000000 in
set_option maxRecDepth 100000 in
theorem m_tree (Mq : zM) (o : Nat → Nat) (f : Nat → Nat → Nat) (hM : MM Mq o f)(n : Nat) (gn al_ it pt tg bd : Nat → Nat) (hg : RelG f n gn al_ it pt tg bd) (hG : SafeG n gn al_ it pt tg bd) (hF : SafeF f) (c : Nat) (sg li co : Nat → Nat) (ht : RelT f c sg li co) (hS : SafeT c sg li co) (emp : Nat → Prop) (rk : Nat → Nat) (hA : Acyc (gE al_ it tg pt bd sg co) n emp rk) (w : Int32) : Zm 10 zm_MO_tree [.ref 139, .int w] Mq (fun r9 M1 => r9 = some (.int (if tFit (gE al_ it tg pt bd sg co) n c then treA li co c (tSz (gE al_ it tg pt bd sg co) n c) (tRw (gE al_ it tg pt bd sg co) n c) w else -1)) ∧ ∃ o9 f9, MM M1 o9 f9 ∧ Sm Mq M1 [139, 156, 157, 158, 159, 160, 165, 167, 168, 169] ∧ Fsame f f9 [139, 156, 157, 158, 159, 160, 165, 167, 168, 169] ∧ SafeF f9 ∧ (∀ j, j ≠ 0 → j ≠ 33 → j ≠ 38 → o9 j = o j) ∧ o9 0 = 0) := by
  show Zw 10 zm_MO_tree 0 [some (.ref 139), some (.int w), none, none, none] [] Mq _
  have hc20 := hS.1
  have hn8 := hG.1
  refine zw_n 2 rfl ?_
  refine zw_put rfl hM.1 (rfl) (Nat.le_of_ble_eq_true rfl) ?_
  generalize ez5563 : List.set Mq 139 _ = Mz5562
  refine zw_n 4 rfl ?_
  refine zw_callS (as := [.long (Int32.toInt64 w), .long 0, .long 2]) (rest := []) rfl rfl rfl rfl rfl rfl (by decide) (m_in Mz5562 (Int32.toInt64 w) 0 2 w.toInt 0 2 (Int32.toInt_toInt64 _) (by decide) (by decide)) (fun rz5564 Mz5565 hz5566 => ?_)
  rw [hz5566.1, hz5566.2]
  show Zw 10 zm_MO_tree 14 [some (.ref 139), some (.int w), none, none, none] [.int (nI (if 0 ≤ w.toInt ∧ w.toInt ≤ 2 then 1 else 0))] Mz5562 _
  refine zw_eq0N (a := if 0 ≤ w.toInt ∧ w.toInt ≤ 2 then 1 else 0) rfl rfl (ite_b) (fun c14 => ?_) (fun c14 => ?_)
  · -- 14 to 24
    refine zw_n 1 rfl ?_
    exact zw_iret rfl rfl (⟨by split; (unfold treA; rw [if_neg (wne (by omega) (by have := ite_eq0 c14; omega)), if_neg (wne (by omega) (by have := ite_eq0 c14; omega)), if_neg (wne (by omega) (by have := ite_eq0 c14; omega))]); rfl, up o 0 0, f, (MM.of (o' := up o 0 0) (f' := f) hM (Sm.tset Sm.rf ez5563 (by decide)) (zat_self ez5563 hM.1) (c1_skip (c1_cons (zat_set ez5563 (by decide) (hM.2 156 (by decide) (by decide))) (c1_cons (zat_set ez5563 (by decide) (hM.2 157 (by decide) (by decide))) (c1_cons (zat_set ez5563 (by decide) (hM.2 158 (by decide) (by decide))) (c1_cons (zat_set ez5563 (by decide) (hM.2 159 (by decide) (by decide))) (c1_cons (zat_set ez5563 (by decide) (hM.2 160 (by decide) (by decide))) (c1_cons (zat_set ez5563 (by decide) (hM.2 165 (by decide) (by decide))) (c1_cons (zat_set ez5563 (by decide) (hM.2 167 (by decide) (by decide))) (c1_cons (zat_set ez5563 (by decide) (hM.2 168 (by decide) (by decide))) (c1_cons (zat_set ez5563 (by decide) (hM.2 169 (by decide) (by decide))) c1_nil)))))))))) (fs_k (fs_k (fs_k (fs_k (fs_k (fs_k (fs_k (fs_k (fs_k (fs_k fs_n))))))))))), Sm.tset Sm.rf ez5563 (by decide), fun _ _ => rfl, hF, (fun j h0 h1 h2 => up_n h0), rfl⟩)
  · -- 14 to 17
    refine zw_n 1 rfl ?_
    refine zw_callV (as := []) (rest := []) rfl rfl rfl (zat_self ez5563 hM.1) rfl rfl rfl (by decide) (m_hasTree Mz5562 (up o 0 0) f (MM.of (o' := up o 0 0) (f' := f) hM (Sm.tset Sm.rf ez5563 (by decide)) (zat_self ez5563 hM.1) (c1_skip (c1_cons (zat_set ez5563 (by decide) (hM.2 156 (by decide) (by decide))) (c1_cons (zat_set ez5563 (by decide) (hM.2 157 (by decide) (by decide))) (c1_cons (zat_set ez5563 (by decide) (hM.2 158 (by decide) (by decide))) (c1_cons (zat_set ez5563 (by decide) (hM.2 159 (by decide) (by decide))) (c1_cons (zat_set ez5563 (by decide) (hM.2 160 (by decide) (by decide))) (c1_cons (zat_set ez5563 (by decide) (hM.2 165 (by decide) (by decide))) (c1_cons (zat_set ez5563 (by decide) (hM.2 167 (by decide) (by decide))) (c1_cons (zat_set ez5563 (by decide) (hM.2 168 (by decide) (by decide))) (c1_cons (zat_set ez5563 (by decide) (hM.2 169 (by decide) (by decide))) c1_nil)))))))))) (fs_k (fs_k (fs_k (fs_k (fs_k (fs_k (fs_k (fs_k (fs_k (fs_k fs_n))))))))))) n gn al_ it pt tg bd hg hG hF c sg li co ht hS emp rk hA) (fun rz5567 Mz5568 hz5569 => ?_)
    obtain ⟨hAT, oT, fT, hMT, hST, hFsT, hSFT, hoT, ho0T, hTT⟩ := hz5569
    rw [hAT]
    have hgT : RelG fT n gn al_ it pt tg bd := hg.keep (hFsT 140 (by decide)) (hFsT 153 (by decide))
    have htT : RelT fT c sg li co := ht.keep (hFsT 140 (by decide))
    show Zw 10 zm_MO_tree 21 [some (.ref 139), some (.int w), none, none, none] [.int (nI (if tFit (gE al_ it tg pt bd sg co) n c then 1 else 0))] Mz5568 _
    refine zw_ne0N (a := if tFit (gE al_ it tg pt bd sg co) n c then 1 else 0) rfl rfl (ite_b) (fun c21 => ?_) (fun c21 => ?_)
    · -- 21 to 26
      have hfit : tFit (gE al_ it tg pt bd sg co) n c := ite_ne c21
      have hTs := (hTT hfit).1
      have hTr : TrR (gE al_ it tg pt bd sg co) n c (oT 33) (fT 165) := hTs.rows (E := (gE al_ it tg pt bd sg co)) hA hn8 hG.2.2.1 hS.2.2.2 hG.2.2.2.2.2.2 hc20 hfit
      have hle := hTr.le
      obtain ⟨hcz, hcT⟩ := hTs.can (by omega)
      have hcq : tEq (oT 33) (fT 165) (tRw (gE al_ it tg pt bd sg co) n c) := hcT
      refine zw_n 6 (ls' := [some (.ref 139), some (.int w), some (.int 0), some (.int 0), some (.int 0)]) rfl ?_
      have lp33 : ∀ (n33 : Nat) (a : Nat) (b : Nat) (q : Nat), (q ≤ oT 33 ∧ a = depN (fT 165) q ∧ b = asdN co (fT 165) q) → oT 33 - q < n33 → Zw 10 zm_MO_tree 33 [some (.ref 139), some (.int w), some (.int (nI a)), some (.int (nI b)), some (.int (nI q))] [] Mz5568 (fun r9 M1 => r9 = some (.int (if tFit (gE al_ it tg pt bd sg co) n c then treA li co c (tSz (gE al_ it tg pt bd sg co) n c) (tRw (gE al_ it tg pt bd sg co) n c) w else -1)) ∧ ∃ o9 f9, MM M1 o9 f9 ∧ Sm Mq M1 [139, 156, 157, 158, 159, 160, 165, 167, 168, 169] ∧ Fsame f f9 [139, 156, 157, 158, 159, 160, 165, 167, 168, 169] ∧ SafeF f9 ∧ (∀ j, j ≠ 0 → j ≠ 33 → j ≠ 38 → o9 j = o j) ∧ o9 0 = 0) := by
        intro n33
        induction n33 with
        | zero => intro a b q _ h; exact absurd h (Nat.not_lt_zero _)
        | succ n33 ih33 =>
          intro a b q hi33 hm33
          refine zw_n 2 rfl ?_
          refine zw_get (v := .int (nI (oT 33))) rfl hMT.1 rfl ?_
          refine zw_igeN (a := q) (b := oT 33) rfl rfl rfl (by omega) (by omega) (fun c39 => ?_) (fun c39 => ?_)
          · -- 39 to 111
            refine zw_n 1 rfl ?_
            refine zw_ne0Z (a := w.toInt) rfl (rfl) (fun c112 => ?_) (fun c112 => ?_)
            · -- 112 to 119
              refine zw_n 2 rfl ?_
              refine zw_ineZ (a := w.toInt) (b := 1) rfl (rfl) (by decide) (fun c121 => ?_) (fun c121 => ?_)
              · -- 121 to 128
                refine zw_n 1 rfl ?_
                refine zw_callV (as := []) (rest := []) rfl rfl rfl hMT.1 rfl rfl rfl (by decide) (m_two Mz5568 oT fT hMT c sg li co htT hS _ _ hTr) (fun rz5570 Mz5571 hz5572 => ?_)
                rw [hz5572.1, hz5572.2]
                show Zw 10 zm_MO_tree 132 [some (.ref 139), some (.int w), some (.int (nI a)), some (.int (nI b)), some (.int (nI q))] [.int (nI (twoN li c (fT 165) (oT 33)))] Mz5568 _
                exact zw_iret rfl rfl (⟨by rw [if_pos hfit, ← hcz, ← treA_cg hcq]; unfold treA; rw [if_neg (wne (by omega) (by omega)), if_neg (wne (by omega) (by omega)), if_pos (weq (by have := ite_ne c14; omega))], oT, fT, hMT, Sm.trans (Sm.tset Sm.rf ez5563 (by decide)) hST, hFsT, hSFT, (fun j h0 h1 h2 => (hoT j h0 h1 h2).trans (up_n h0)), ho0T⟩)
              · -- 121 to 124
                refine zw_n 2 rfl ?_
                exact zw_iret rfl rfl (⟨by rw [if_pos hfit, ← hcz, ← treA_cg hcq]; unfold treA; rw [if_neg (wne (by omega) (by omega)), if_pos (weq (by have := ite_ne c14; omega)), hi33.2.2, show q = oT 33 by omega], oT, fT, hMT, Sm.trans (Sm.tset Sm.rf ez5563 (by decide)) hST, hFsT, hSFT, (fun j h0 h1 h2 => (hoT j h0 h1 h2).trans (up_n h0)), ho0T⟩)
            · -- 112 to 115
              refine zw_n 2 rfl ?_
              exact zw_iret rfl rfl (⟨by rw [if_pos hfit, ← hcz, ← treA_cg hcq]; unfold treA; rw [if_pos (weq (by have := ite_ne c14; omega)), hi33.2.1, show q = oT 33 by omega], oT, fT, hMT, Sm.trans (Sm.tset Sm.rf ez5563 (by decide)) hST, hFsT, hSFT, (fun j h0 h1 h2 => (hoT j h0 h1 h2).trans (up_n h0)), ho0T⟩)
          · -- 39 to 42
            have h23 := hTr.f23 q (by omega)
            have h3 := hTr.f3 q (by omega)
            have h4 := hTr.f4 q (by omega)
            have h6 := hTr.f6 q (by omega)
            have hdb := depN_b (T := fT 165) (B := 312) q (fun z hz => hTr.f6 z (by omega))
            rw [← hi33.2.1] at hdb
            have hco9 := hS.2.2.2 (fT 165 (q * 8 + 2))
            have j42 : Zw 10 zm_MO_tree 70 [some (.ref 139), some (.int w), some (.int (nI a)), some (.int (nI b)), some (.int (nI q))] [.int (nI (if a < fT 165 (q * 8 + 6) + 1 then fT 165 (q * 8 + 6) + 1 else a))] Mz5568 (fun r9 M1 => r9 = some (.int (if tFit (gE al_ it tg pt bd sg co) n c then treA li co c (tSz (gE al_ it tg pt bd sg co) n c) (tRw (gE al_ it tg pt bd sg co) n c) w else -1)) ∧ ∃ o9 f9, MM M1 o9 f9 ∧ Sm Mq M1 [139, 156, 157, 158, 159, 160, 165, 167, 168, 169] ∧ Fsame f f9 [139, 156, 157, 158, 159, 160, 165, 167, 168, 169] ∧ SafeF f9 ∧ (∀ j, j ≠ 0 → j ≠ 33 → j ≠ 38 → o9 j = o j) ∧ o9 0 = 0) := by
              refine zw_n 2 (ls' := [some (.ref 139), some (.int w), some (.int (nI (if a < fT 165 (q * 8 + 6) + 1 then fT 165 (q * 8 + 6) + 1 else a))), some (.int (nI b)), some (.int (nI q))]) rfl ?_
              have j72 : Zw 10 zm_MO_tree 103 [some (.ref 139), some (.int w), some (.int (nI (if a < fT 165 (q * 8 + 6) + 1 then fT 165 (q * 8 + 6) + 1 else a))), some (.int (nI b)), some (.int (nI q))] [.int (nI (if ¬ fT 165 (q * 8 + 4) = co (fT 165 (q * 8 + 2)) then 1 else 0)), .int (nI b)] Mz5568 (fun r9 M1 => r9 = some (.int (if tFit (gE al_ it tg pt bd sg co) n c then treA li co c (tSz (gE al_ it tg pt bd sg co) n c) (tRw (gE al_ it tg pt bd sg co) n c) w else -1)) ∧ ∃ o9 f9, MM M1 o9 f9 ∧ Sm Mq M1 [139, 156, 157, 158, 159, 160, 165, 167, 168, 169] ∧ Fsame f f9 [139, 156, 157, 158, 159, 160, 165, 167, 168, 169] ∧ SafeF f9 ∧ (∀ j, j ≠ 0 → j ≠ 33 → j ≠ 38 → o9 j = o j) ∧ o9 0 = 0) := by
                refine zw_n 1 rfl ?_
                refine zw_top (na (a := b) (b := if ¬ fT 165 (q * 8 + 4) = co (fT 165 (q * 8 + 2)) then 1 else 0) rfl rfl) ?_
                refine zw_n 1 (ls' := [some (.ref 139), some (.int w), some (.int (nI (if a < fT 165 (q * 8 + 6) + 1 then fT 165 (q * 8 + 6) + 1 else a))), some (.int (nI (b + (if ¬ fT 165 (q * 8 + 4) = co (fT 165 (q * 8 + 2)) then 1 else 0)))), some (.int (nI q))]) rfl ?_
                refine zw_inc rfl (x' := (nI (q + 1))) (ls' := [some (.ref 139), some (.int w), some (.int (nI (if a < fT 165 (q * 8 + 6) + 1 then fT 165 (q * 8 + 6) + 1 else a))), some (.int (nI (b + (if ¬ fT 165 (q * 8 + 4) = co (fT 165 (q * 8 + 2)) then 1 else 0)))), some (.int (nI (q + 1)))]) rfl (na (a := q) (b := 1) rfl rfl) rfl ?_
                refine zw_n 1 rfl ?_
                exact ih33 (if a < fT 165 (q * 8 + 6) + 1 then fT 165 (q * 8 + 6) + 1 else a) (b + (if ¬ fT 165 (q * 8 + 4) = co (fT 165 (q * 8 + 2)) then 1 else 0)) (q + 1) (⟨by omega, by rw [depN, ← hi33.2.1]; split <;> omega, cnt_s hi33.2.2 (by rw [decide_eq_true_eq])⟩) (by omega)
              refine zw_n 3 rfl ?_
              refine zw_callV (as := [.int (nI q), .int 4]) (rest := [.int (nI b)]) rfl rfl rfl hMT.1 rfl rfl rfl (by decide) (m_of Mz5568 oT fT hMT q 4 (by omega) (by omega)) (fun rz5573 Mz5574 hz5575 => ?_)
              rw [hz5575.1, hz5575.2]
              show Zw 10 zm_MO_tree 79 [some (.ref 139), some (.int w), some (.int (nI (if a < fT 165 (q * 8 + 6) + 1 then fT 165 (q * 8 + 6) + 1 else a))), some (.int (nI b)), some (.int (nI q))] [.int (nI ((fT 165) (q * 8 + 4))), .int (nI b)] Mz5568 _
              refine zw_n 1 rfl ?_
              refine zw_get (v := .ref 140) rfl hMT.1 rfl ?_
              refine zw_n 4 rfl ?_
              refine zw_callV (as := [.int (nI q), .int 2]) (rest := [.int 570, .ref 140, .int (nI ((fT 165) (q * 8 + 4))), .int (nI b)]) rfl rfl rfl hMT.1 rfl rfl rfl (by decide) (m_of Mz5568 oT fT hMT q 2 (by omega) (by omega)) (fun rz5576 Mz5577 hz5578 => ?_)
              rw [hz5578.1, hz5578.2]
              show Zw 10 zm_MO_tree 93 [some (.ref 139), some (.int w), some (.int (nI (if a < fT 165 (q * 8 + 6) + 1 then fT 165 (q * 8 + 6) + 1 else a))), some (.int (nI b)), some (.int (nI q))] [.int (nI ((fT 165) (q * 8 + 2))), .int 570, .ref 140, .int (nI ((fT 165) (q * 8 + 4))), .int (nI b)] Mz5568 _
              refine zw_n 1 rfl ?_
              refine zw_top (na (a := 570) (b := (fT 165) (q * 8 + 2)) rfl rfl) ?_
              refine zw_iald (f := ai (fT 140)) (j := (570 + ((fT 165) (q * 8 + 2)))) rfl (hMT.2 140 (by decide) (by decide)) rfl (by decide) (by omega) ?_
              refine zw_top (x' := (nI (co (fT 165 (q * 8 + 2))))) (congrArg nI (htT.2 (fT 165 (q * 8 + 2)) (by omega)).2.2) ?_
              refine zw_ieqN (a := (fT 165) (q * 8 + 4)) (b := co (fT 165 (q * 8 + 2))) rfl rfl rfl (by omega) (by omega) (fun c95 => ?_) (fun c95 => ?_)
              · -- 95 to 102
                refine zw_n 1 rfl ?_
                refine zw_top (x' := nI (if ¬ fT 165 (q * 8 + 4) = co (fT 165 (q * 8 + 2)) then 1 else 0)) (show nI 0 = nI (if ¬ fT 165 (q * 8 + 4) = co (fT 165 (q * 8 + 2)) then 1 else 0) by rw [if_neg (by omega)]) ?_
                exact j72
              · -- 95 to 98
                refine zw_n 2 rfl ?_
                refine zw_top (x' := nI (if ¬ fT 165 (q * 8 + 4) = co (fT 165 (q * 8 + 2)) then 1 else 0)) (show nI 1 = nI (if ¬ fT 165 (q * 8 + 4) = co (fT 165 (q * 8 + 2)) then 1 else 0) by rw [if_pos (by omega)]) ?_
                exact j72
            have h23 := hTr.f23 q (by omega)
            have h3 := hTr.f3 q (by omega)
            have h4 := hTr.f4 q (by omega)
            have h6 := hTr.f6 q (by omega)
            have hdb := depN_b (T := fT 165) (B := 312) q (fun z hz => hTr.f6 z (by omega))
            rw [← hi33.2.1] at hdb
            have hco9 := hS.2.2.2 (fT 165 (q * 8 + 2))
            refine zw_n 3 rfl ?_
            refine zw_callV (as := [.int (nI q), .int 6]) (rest := []) rfl rfl rfl hMT.1 rfl rfl rfl (by decide) (m_of Mz5568 oT fT hMT q 6 (by omega) (by omega)) (fun rz5579 Mz5580 hz5581 => ?_)
            rw [hz5581.1, hz5581.2]
            show Zw 10 zm_MO_tree 50 [some (.ref 139), some (.int w), some (.int (nI a)), some (.int (nI b)), some (.int (nI q))] [.int (nI ((fT 165) (q * 8 + 6)))] Mz5568 _
            refine zw_n 2 rfl ?_
            refine zw_top (na (a := (fT 165) (q * 8 + 6)) (b := 1) rfl rfl) ?_
            refine zw_n 1 rfl ?_
            refine zw_ileN (a := ((fT 165) (q * 8 + 6)) + 1) (b := a) rfl rfl rfl (by omega) (by omega) (fun c53 => ?_) (fun c53 => ?_)
            · -- 53 to 69
              refine zw_n 1 rfl ?_
              refine zw_top (x' := nI (if a < fT 165 (q * 8 + 6) + 1 then fT 165 (q * 8 + 6) + 1 else a)) (show nI a = nI (if a < fT 165 (q * 8 + 6) + 1 then fT 165 (q * 8 + 6) + 1 else a) by rw [if_neg (by omega)]) ?_
              exact j42
            · -- 53 to 56
              refine zw_n 3 rfl ?_
              refine zw_callV (as := [.int (nI q), .int 6]) (rest := []) rfl rfl rfl hMT.1 rfl rfl rfl (by decide) (m_of Mz5568 oT fT hMT q 6 (by omega) (by omega)) (fun rz5582 Mz5583 hz5584 => ?_)
              rw [hz5584.1, hz5584.2]
              show Zw 10 zm_MO_tree 64 [some (.ref 139), some (.int w), some (.int (nI a)), some (.int (nI b)), some (.int (nI q))] [.int (nI ((fT 165) (q * 8 + 6)))] Mz5568 _
              refine zw_n 2 rfl ?_
              refine zw_top (na (a := (fT 165) (q * 8 + 6)) (b := 1) rfl rfl) ?_
              refine zw_n 1 rfl ?_
              refine zw_top (x' := nI (if a < fT 165 (q * 8 + 6) + 1 then fT 165 (q * 8 + 6) + 1 else a)) (show nI (fT 165 (q * 8 + 6) + 1) = nI (if a < fT 165 (q * 8 + 6) + 1 then fT 165 (q * 8 + 6) + 1 else a) by rw [if_pos (by omega)]) ?_
              exact j42
      exact lp33 _ 0 0 0 (⟨Nat.zero_le _, rfl, rfl⟩) (Nat.lt_succ_self _)
    · -- 21 to 24
      refine zw_n 1 rfl ?_
      exact zw_iret rfl rfl (⟨by rw [if_neg (ite_eq0 c21)], oT, fT, hMT, Sm.trans (Sm.tset Sm.rf ez5563 (by decide)) hST, hFsT, hSFT, (fun j h0 h1 h2 => (hoT j h0 h1 h2).trans (up_n h0)), ho0T⟩)

set_option maxHeartbeats 4000000 in
set_option maxRecDepth 100000 in
theorem m_waysBy (Mq : zM) (o : Nat → Nat) (f : Nat → Nat → Nat) (hM : MM Mq o f)(n : Nat) (gn al_ it pt tg bd : Nat → Nat) (hg : RelG f n gn al_ it pt tg bd) (hG : SafeG n gn al_ it pt tg bd) (hF : SafeF f) (c : Nat) (sg li co : Nat → Nat) (hS : SafeT c sg li co) (h5 : ∀ p, p < c → f 156 p = sg p ∧ f 157 p = co p) (hv : VAll (gE al_ it tg pt bd sg co) n (c + 1) (f 158)) (hcl : Clo (gE al_ it tg pt bd sg co) n) (r a i j d : Nat) (hr : r < n) (ha : a < al_ r) (hij : i ≤ j) (hjc : j ≤ c) (hd : d < 40) : Zm 3 zm_MO_waysBy [.ref 139, .int (nI r), .int (nI a), .int (nI i), .int (nI j), .int (nI d)] Mq (fun r9 M1 => r9 = some (.int (nI (wS (gE al_ it tg pt bd sg co) n (r * 4 + a) i d (it (r * 4 + a)) j))) ∧ ∃ A B, MM M1 o (fset (fset f 171 B) 170 A) ∧ Sm Mq M1 [170, 171]) := by
  show Zw 3 zm_MO_waysBy 0 [some (.ref 139), some (.int (nI r)), some (.int (nI a)), some (.int (nI i)), some (.int (nI j)), some (.int (nI d)), none, none, none] [] Mq _
  have hn8 := hG.1
  have ha4 := hG.2.2.1 r
  have hi5 := hG.2.2.2.1 (r * 4 + a)
  have hc20 := hS.1
  refine zw_n 2 (ls' := [some (.ref 139), some (.int (nI r)), some (.int (nI a)), some (.int (nI i)), some (.int (nI j)), some (.int (nI d)), some (.int (nI i)), none, none]) rfl ?_
  have lp3 : ∀ (n3 : Nat) (p : Nat) (C1 : Nat → Nat) (M_3 : zM), Sm Mq M_3 [170, 171] → M_3[170]? = some (.inl (0, 21, .inl (ai C1))) → M_3[171]? = some (.inl (0, 21, .inl (ai (f 171)))) → (i ≤ p ∧ p ≤ j + 1 ∧ ∀ q, i ≤ q → q < p → C1 q = if q = i then 1 else 0) → j + 1 - p < n3 → Zw 3 zm_MO_waysBy 3 [some (.ref 139), some (.int (nI r)), some (.int (nI a)), some (.int (nI i)), some (.int (nI j)), some (.int (nI d)), some (.int (nI p)), none, none] [] M_3 (fun r9 M1 => r9 = some (.int (nI (wS (gE al_ it tg pt bd sg co) n (r * 4 + a) i d (it (r * 4 + a)) j))) ∧ ∃ A B, MM M1 o (fset (fset f 171 B) 170 A) ∧ Sm Mq M1 [170, 171]) := by
    intro n3
    induction n3 with
    | zero => intro p C1 M_3 _ _ _ _ h; exact absurd h (Nat.not_lt_zero _)
    | succ n3 ih3 =>
      intro p C1 M_3 s_3 f3_0 f3_1 hi3 hm3
      refine zw_n 2 rfl ?_
      refine zw_igtN (a := p) (b := j) rfl rfl rfl (by omega) (by omega) (fun c7 => ?_) (fun c7 => ?_)
      · -- 7 to 34
        refine zw_n 2 (ls' := [some (.ref 139), some (.int (nI r)), some (.int (nI a)), some (.int (nI i)), some (.int (nI j)), some (.int (nI d)), some (.int 0), none, none]) rfl ?_
        have lp37 : ∀ (n37 : Nat) (k : Nat) (C2 : Nat → Nat) (N2 : Nat → Nat) (M_37 : zM), Sm Mq M_37 [170, 171] → M_37[170]? = some (.inl (0, 21, .inl (ai C2))) → M_37[171]? = some (.inl (0, 21, .inl (ai N2))) → (k ≤ it (r * 4 + a) ∧ ∀ q, i ≤ q → q ≤ j → C2 q = wS (gE al_ it tg pt bd sg co) n (r * 4 + a) i d k q) → it (r * 4 + a) - k < n37 → Zw 3 zm_MO_waysBy 37 [some (.ref 139), some (.int (nI r)), some (.int (nI a)), some (.int (nI i)), some (.int (nI j)), some (.int (nI d)), some (.int (nI k)), none, none] [] M_37 (fun r9 M1 => r9 = some (.int (nI (wS (gE al_ it tg pt bd sg co) n (r * 4 + a) i d (it (r * 4 + a)) j))) ∧ ∃ A B, MM M1 o (fset (fset f 171 B) 170 A) ∧ Sm Mq M1 [170, 171]) := by
          intro n37
          induction n37 with
          | zero => intro k C2 N2 M_37 _ _ _ _ h; exact absurd h (Nat.not_lt_zero _)
          | succ n37 ih37 =>
            intro k C2 N2 M_37 s_37 f37_0 f37_1 hi37 hm37
            refine zw_n 4 rfl ?_
            refine zw_callV (as := [.int (nI r), .int (nI a)]) (rest := [.int (nI k)]) rfl rfl rfl (Sm.at s_37 (by decide) hM.1) rfl rfl rfl (by decide) (m_items M_37 o (fset (fset f 171 N2) 170 C2) (MM.of (o' := o) (f' := fset (fset f 171 N2) 170 C2) hM s_37 (Sm.at s_37 (by decide) hM.1) (c1_cons f37_0 (c1_cons f37_1 c1_nil)) (fs_c (fs_c fs_n))) n gn al_ it pt tg bd hg hG hF r a (by omega) (by omega)) (fun rz5585 Mz5586 hz5587 => ?_)
            rw [hz5587.1, hz5587.2]
            show Zw 3 zm_MO_waysBy 45 [some (.ref 139), some (.int (nI r)), some (.int (nI a)), some (.int (nI i)), some (.int (nI j)), some (.int (nI d)), some (.int (nI k)), none, none] [.int (nI (it (r * 4 + a))), .int (nI k)] M_37 _
            refine zw_igeN (a := k) (b := it (r * 4 + a)) rfl rfl rfl (by omega) (by omega) (fun c45 => ?_) (fun c45 => ?_)
            · -- 45 to 175
              refine zw_n 1 rfl ?_
              refine zw_get (v := .ref 170) rfl (Sm.at s_37 (by decide) hM.1) rfl ?_
              refine zw_n 1 rfl ?_
              refine zw_iald (f := ai C2) (j := j) rfl f37_0 rfl (by decide) (by omega) ?_
              exact zw_iret rfl rfl (⟨by show some (Value.int (nI (C2 j))) = _; rw [hi37.2 j hij (Nat.le_refl _), show k = it (r * 4 + a) by omega], C2, N2, (MM.of (o' := o) (f' := fset (fset f 171 N2) 170 C2) hM s_37 (Sm.at s_37 (by decide) hM.1) (c1_cons f37_0 (c1_cons f37_1 c1_nil)) (fs_c (fs_c fs_n))), s_37⟩)
            · -- 45 to 48
              refine zw_n 2 (ls' := [some (.ref 139), some (.int (nI r)), some (.int (nI a)), some (.int (nI i)), some (.int (nI j)), some (.int (nI d)), some (.int (nI k)), some (.int (nI i)), none]) rfl ?_
              have lp51 : ∀ (n51 : Nat) (q : Nat) (N3 : Nat → Nat) (M_51 : zM), Sm Mq M_51 [170, 171] → M_51[171]? = some (.inl (0, 21, .inl (ai N3))) → M_51[170]? = some (.inl (0, 21, .inl (ai C2))) → (i ≤ q ∧ q ≤ j + 1 ∧ ∀ z, i ≤ z → z < q → N3 z = wS (gE al_ it tg pt bd sg co) n (r * 4 + a) i d (k + 1) z) → j + 1 - q < n51 → Zw 3 zm_MO_waysBy 51 [some (.ref 139), some (.int (nI r)), some (.int (nI a)), some (.int (nI i)), some (.int (nI j)), some (.int (nI d)), some (.int (nI k)), some (.int (nI q)), none] [] M_51 (fun r9 M1 => r9 = some (.int (nI (wS (gE al_ it tg pt bd sg co) n (r * 4 + a) i d (it (r * 4 + a)) j))) ∧ ∃ A B, MM M1 o (fset (fset f 171 B) 170 A) ∧ Sm Mq M1 [170, 171]) := by
                intro n51
                induction n51 with
                | zero => intro q N3 M_51 _ _ _ _ h; exact absurd h (Nat.not_lt_zero _)
                | succ n51 ih51 =>
                  intro q N3 M_51 s_51 f51_0 f51_1 hi51 hm51
                  refine zw_n 2 rfl ?_
                  refine zw_igtN (a := q) (b := j) rfl rfl rfl (by omega) (by omega) (fun c55 => ?_) (fun c55 => ?_)
                  · -- 55 to 139
                    refine zw_n 2 (ls' := [some (.ref 139), some (.int (nI r)), some (.int (nI a)), some (.int (nI i)), some (.int (nI j)), some (.int (nI d)), some (.int (nI k)), some (.int (nI i)), none]) rfl ?_
                    have lp142 : ∀ (n142 : Nat) (q2 : Nat) (C3 : Nat → Nat) (M_142 : zM), Sm Mq M_142 [170, 171] → M_142[170]? = some (.inl (0, 21, .inl (ai C3))) → M_142[171]? = some (.inl (0, 21, .inl (ai N3))) → (i ≤ q2 ∧ q2 ≤ j + 1 ∧ (∀ z, i ≤ z → z < q2 → C3 z = N3 z) ∧ True) → j + 1 - q2 < n142 → Zw 3 zm_MO_waysBy 142 [some (.ref 139), some (.int (nI r)), some (.int (nI a)), some (.int (nI i)), some (.int (nI j)), some (.int (nI d)), some (.int (nI k)), some (.int (nI q2)), none] [] M_142 (fun r9 M1 => r9 = some (.int (nI (wS (gE al_ it tg pt bd sg co) n (r * 4 + a) i d (it (r * 4 + a)) j))) ∧ ∃ A B, MM M1 o (fset (fset f 171 B) 170 A) ∧ Sm Mq M1 [170, 171]) := by
                      intro n142
                      induction n142 with
                      | zero => intro q2 C3 M_142 _ _ _ _ h; exact absurd h (Nat.not_lt_zero _)
                      | succ n142 ih142 =>
                        intro q2 C3 M_142 s_142 f142_0 f142_1 hi142 hm142
                        refine zw_n 2 rfl ?_
                        refine zw_igtN (a := q2) (b := j) rfl rfl rfl (by omega) (by omega) (fun c146 => ?_) (fun c146 => ?_)
                        · -- 146 to 169
                          refine zw_inc rfl (x' := (nI (k + 1))) (ls' := [some (.ref 139), some (.int (nI r)), some (.int (nI a)), some (.int (nI i)), some (.int (nI j)), some (.int (nI d)), some (.int (nI (k + 1))), some (.int (nI q2)), none]) rfl (na (a := k) (b := 1) rfl rfl) rfl ?_
                          refine zw_n 1 rfl ?_
                          refine zw_ls (ls' := [some (.ref 139), some (.int (nI r)), some (.int (nI a)), some (.int (nI i)), some (.int (nI j)), some (.int (nI d)), some (.int (nI (k + 1))), none, none]) ⟨Or.inr rfl, Or.inr rfl, Or.inr rfl, Or.inr rfl, Or.inr rfl, Or.inr rfl, Or.inr rfl, Or.inl rfl, Or.inl rfl, trivial⟩ ?_
                          exact ih37 (k + 1) C3 N3 M_142 s_142 f142_0 f142_1 (⟨by omega, fun z h1 h2 => by rw [hi142.2.2.1 z h1 (by omega), hi51.2.2 z h1 (by omega)]⟩) (by omega)
                        · -- 146 to 149
                          refine zw_n 1 rfl ?_
                          refine zw_get (v := .ref 170) rfl (Sm.at s_142 (by decide) hM.1) rfl ?_
                          refine zw_n 2 rfl ?_
                          refine zw_get (v := .ref 171) rfl (Sm.at s_142 (by decide) hM.1) rfl ?_
                          refine zw_n 1 rfl ?_
                          refine zw_iald (f := ai N3) (j := q2) rfl f142_1 rfl (by decide) (by omega) ?_
                          refine zw_iastN (g := C3) (j := q2) (v := (N3 q2)) rfl f142_0 rfl (by decide) (by omega) (rfl) ?_
                          generalize ez5589 : List.set M_142 170 _ = Mz5588
                          refine zw_inc rfl (x' := (nI (q2 + 1))) (ls' := [some (.ref 139), some (.int (nI r)), some (.int (nI a)), some (.int (nI i)), some (.int (nI j)), some (.int (nI d)), some (.int (nI k)), some (.int (nI (q2 + 1))), none]) rfl (na (a := q2) (b := 1) rfl rfl) rfl ?_
                          refine zw_n 1 rfl ?_
                          exact ih142 (q2 + 1) (up C3 q2 (N3 q2)) Mz5588 (Sm.tset s_142 ez5589 (by decide)) (zat_self ez5589 f142_0) (zat_set ez5589 (by decide) f142_1) (⟨by omega, by omega, fun z h1 h2 => by
                  by_cases e9 : z = q2
                  · rw [e9, up_s]
                  · rw [up_n e9]; exact hi142.2.2.1 z h1 (by omega), trivial⟩) (by omega)
                    exact lp142 _ i C2 M_51 s_51 f51_1 f51_0 (⟨Nat.le_refl _, by omega, fun z h1 h2 => by omega, trivial⟩) (Nat.lt_succ_self _)
                  · -- 55 to 58
                    refine zw_n 1 rfl ?_
                    refine zw_get (v := .ref 171) rfl (Sm.at s_51 (by decide) hM.1) rfl ?_
                    refine zw_n 2 rfl ?_
                    refine zw_iastN (g := N3) (j := q) (v := 0) rfl f51_0 rfl (by decide) (by omega) (rfl) ?_
                    generalize ez5591 : List.set M_51 171 _ = Mz5590
                    refine zw_n 2 (ls' := [some (.ref 139), some (.int (nI r)), some (.int (nI a)), some (.int (nI i)), some (.int (nI j)), some (.int (nI d)), some (.int (nI k)), some (.int (nI q)), some (.int (nI i))]) rfl ?_
                    have mz5592 : Mz5590[140]? = some (.inl (0, 590, .inl (ai (f 140)))) := zat_set ez5591 (by decide) (Sm.at s_51 (by decide) (hM.2 140 (by decide) (by decide)))
                    have mz5593 : Mz5590[153]? = some (.inl (0, 160, .inl (ai (f 153)))) := zat_set ez5591 (by decide) (Sm.at s_51 (by decide) (hM.2 153 (by decide) (by decide)))
                    have mz5594 : Mz5590[156]? = some (.inl (0, 21, .inl (ai (f 156)))) := zat_set ez5591 (by decide) (Sm.at s_51 (by decide) (hM.2 156 (by decide) (by decide)))
                    have mz5595 : Mz5590[157]? = some (.inl (0, 21, .inl (ai (f 157)))) := zat_set ez5591 (by decide) (Sm.at s_51 (by decide) (hM.2 157 (by decide) (by decide)))
                    have mz5596 : Mz5590[158]? = some (.inl (1, 3872, .inr (.inl (al (f 158))))) := zat_set ez5591 (by decide) (Sm.at s_51 (by decide) (hM.2 158 (by decide) (by decide)))
                    have lp69 : ∀ (n69 : Nat) (p : Nat) (N4 : Nat → Nat) (M_69 : zM), Sm Mq M_69 [170, 171] → M_69[171]? = some (.inl (0, 21, .inl (ai N4))) → M_69[170]? = some (.inl (0, 21, .inl (ai C2))) → (i ≤ p ∧ p ≤ q + 1 ∧ N4 q = sumN (wG (gE al_ it tg pt bd sg co) n (r * 4 + a) i d k q) (p - i) ∧ ∀ z, z ≠ q → N4 z = N3 z) → q + 1 - p < n69 → Zw 3 zm_MO_waysBy 69 [some (.ref 139), some (.int (nI r)), some (.int (nI a)), some (.int (nI i)), some (.int (nI j)), some (.int (nI d)), some (.int (nI k)), some (.int (nI q)), some (.int (nI p))] [] M_69 (fun r9 M1 => r9 = some (.int (nI (wS (gE al_ it tg pt bd sg co) n (r * 4 + a) i d (it (r * 4 + a)) j))) ∧ ∃ A B, MM M1 o (fset (fset f 171 B) 170 A) ∧ Sm Mq M1 [170, 171]) := by
                      intro n69
                      induction n69 with
                      | zero => intro p N4 M_69 _ _ _ _ h; exact absurd h (Nat.not_lt_zero _)
                      | succ n69 ih69 =>
                        intro p N4 M_69 s_69 f69_0 f69_1 hi69 hm69
                        refine zw_n 2 rfl ?_
                        refine zw_igtN (a := p) (b := q) rfl rfl rfl (by omega) (by omega) (fun c73 => ?_) (fun c73 => ?_)
                        · -- 73 to 133
                          refine zw_inc rfl (x' := (nI (q + 1))) (ls' := [some (.ref 139), some (.int (nI r)), some (.int (nI a)), some (.int (nI i)), some (.int (nI j)), some (.int (nI d)), some (.int (nI k)), some (.int (nI (q + 1))), some (.int (nI p))]) rfl (na (a := q) (b := 1) rfl rfl) rfl ?_
                          refine zw_n 1 rfl ?_
                          refine zw_ls (ls' := [some (.ref 139), some (.int (nI r)), some (.int (nI a)), some (.int (nI i)), some (.int (nI j)), some (.int (nI d)), some (.int (nI k)), some (.int (nI (q + 1))), none]) ⟨Or.inr rfl, Or.inr rfl, Or.inr rfl, Or.inr rfl, Or.inr rfl, Or.inr rfl, Or.inr rfl, Or.inr rfl, Or.inl rfl, trivial⟩ ?_
                          exact ih51 (q + 1) N4 M_69 s_69 f69_0 f69_1 (⟨by omega, by omega, fun z h1 h2 => by
                  by_cases e9 : z = q
                  · rw [e9, wS_G, hi69.2.2.1, show p = q + 1 by omega]
                  · rw [hi69.2.2.2 z e9]; exact hi51.2.2 z h1 (by omega)⟩) (by omega)
                        · -- 73 to 76
                          have hwb := wG_b (E := (gE al_ it tg pt bd sg co)) (n := n) (y := r * 4 + a) (i := i) (d := d) (x := k) (q := q) (by omega) (by omega) (show p - i ≤ q + 1 - i by omega)
                          rw [← hi69.2.2.1] at hwb
                          have hcb : C2 p ≤ 4084101 := by rw [hi37.2 p (by omega) (by omega)]; exact wS_b (by omega) (by omega)
                          refine zw_n 1 rfl ?_
                          refine zw_get (v := .ref 171) rfl (Sm.at s_69 (by decide) hM.1) rfl ?_
                          refine zw_n 2 rfl ?_
                          refine zw_iald (f := ai N4) (j := q) rfl f69_0 rfl (by decide) (by omega) ?_
                          refine zw_n 1 rfl ?_
                          refine zw_get (v := .ref 170) rfl (Sm.at s_69 (by decide) hM.1) rfl ?_
                          refine zw_n 1 rfl ?_
                          refine zw_iald (f := ai C2) (j := p) rfl f69_1 rfl (by decide) (by omega) ?_
                          refine zw_le0N (a := C2 p) rfl rfl (by omega) (fun c91 => ?_) (fun c91 => ?_)
                          · -- 91 to 124
                            refine zw_n 2 rfl ?_
                            refine zw_top (na (a := N4 q) (b := 0) rfl rfl) ?_
                            refine zw_iastN (g := N4) (j := q) (v := ((N4 q) + 0)) rfl f69_0 rfl (by decide) (by omega) (rfl) ?_
                            generalize ez5598 : List.set M_69 171 _ = Mz5597
                            refine zw_inc rfl (x' := (nI (p + 1))) (ls' := [some (.ref 139), some (.int (nI r)), some (.int (nI a)), some (.int (nI i)), some (.int (nI j)), some (.int (nI d)), some (.int (nI k)), some (.int (nI q)), some (.int (nI (p + 1)))]) rfl (na (a := p) (b := 1) rfl rfl) rfl ?_
                            refine zw_n 1 rfl ?_
                            exact ih69 (p + 1) (up N4 q ((N4 q) + 0)) Mz5597 (Sm.tset s_69 ez5598 (by decide)) (zat_self ez5598 f69_0) (zat_set ez5598 (by decide) f69_1) (⟨by omega, by omega, by rw [up_s]; exact wG_add hi69.2.2.1 hi69.1 (wG_z (by omega) (hi37.2 p (by omega) (by omega)) (by first | exact Or.inr (ite_eq0 c111) | exact Or.inl (by omega))), fun z hz => by rw [up_n hz]; exact hi69.2.2.2 z hz⟩) (by omega)
                          · -- 91 to 94
                            refine zw_n 4 rfl ?_
                            refine zw_callS (as := [.int (nI r), .int (nI a), .int (nI k)]) (rest := [.ref 139, .int (nI (N4 q)), .int (nI q), .ref 171]) rfl rfl rfl rfl rfl rfl (by decide) (m_itemAt _ r a k) (fun rz5599 Mz5600 hz5601 => ?_)
                            rw [hz5601.1, hz5601.2]
                            show Zw 3 zm_MO_waysBy 102 [some (.ref 139), some (.int (nI r)), some (.int (nI a)), some (.int (nI i)), some (.int (nI j)), some (.int (nI d)), some (.int (nI k)), some (.int (nI q)), some (.int (nI p))] [.int (nI (49 + 3 * ((r * 4 + a) * 5 + k))), .ref 139, .int (nI (N4 q)), .int (nI q), .ref 171] M_69 _
                            refine zw_n 3 rfl ?_
                            refine zw_callV (as := [.int (nI (49 + 3 * ((r * 4 + a) * 5 + k))), .int (nI p), .int (nI q), .int (nI d)]) (rest := [.int (nI (N4 q)), .int (nI q), .ref 171]) rfl rfl rfl (Sm.at s_69 (by decide) hM.1) rfl rfl rfl (by decide) (m_has M_69 o (fset (fset f 171 N4) 170 C2) (MM.of (o' := o) (f' := fset (fset f 171 N4) 170 C2) hM s_69 (Sm.at s_69 (by decide) hM.1) (c1_cons f69_1 (c1_cons f69_0 c1_nil)) (fs_c (fs_c fs_n))) n gn al_ it pt tg bd hg hG hF c sg li co hS h5 hv hcl ((r * 4 + a) * 5 + k) p q d ⟨r, a, k, hr, ha, by omega, rfl⟩ (by omega) (by omega) (by omega) (by omega)) (fun rz5602 Mz5603 hz5604 => ?_)
                            rw [hz5604.1, hz5604.2]
                            show Zw 3 zm_MO_waysBy 111 [some (.ref 139), some (.int (nI r)), some (.int (nI a)), some (.int (nI i)), some (.int (nI j)), some (.int (nI d)), some (.int (nI k)), some (.int (nI q)), some (.int (nI p))] [.int (nI (if tH (gE al_ it tg pt bd sg co) n ((r * 4 + a) * 5 + k) p q d = true then 1 else 0)), .int (nI (N4 q)), .int (nI q), .ref 171] M_69 _
                            refine zw_eq0N (a := if tH (gE al_ it tg pt bd sg co) n ((r * 4 + a) * 5 + k) p q d = true then 1 else 0) rfl rfl (ite_b) (fun c111 => ?_) (fun c111 => ?_)
                            · -- 111 to 124
                              refine zw_n 2 rfl ?_
                              refine zw_top (na (a := N4 q) (b := 0) rfl rfl) ?_
                              refine zw_iastN (g := N4) (j := q) (v := ((N4 q) + 0)) rfl f69_0 rfl (by decide) (by omega) (rfl) ?_
                              generalize ez5606 : List.set M_69 171 _ = Mz5605
                              refine zw_inc rfl (x' := (nI (p + 1))) (ls' := [some (.ref 139), some (.int (nI r)), some (.int (nI a)), some (.int (nI i)), some (.int (nI j)), some (.int (nI d)), some (.int (nI k)), some (.int (nI q)), some (.int (nI (p + 1)))]) rfl (na (a := p) (b := 1) rfl rfl) rfl ?_
                              refine zw_n 1 rfl ?_
                              exact ih69 (p + 1) (up N4 q ((N4 q) + 0)) Mz5605 (Sm.tset s_69 ez5606 (by decide)) (zat_self ez5606 f69_0) (zat_set ez5606 (by decide) f69_1) (⟨by omega, by omega, by rw [up_s]; exact wG_add hi69.2.2.1 hi69.1 (wG_z (by omega) (hi37.2 p (by omega) (by omega)) (by first | exact Or.inr (ite_eq0 c111) | exact Or.inl (by omega))), fun z hz => by rw [up_n hz]; exact hi69.2.2.2 z hz⟩) (by omega)
                            · -- 111 to 114
                              refine zw_n 1 rfl ?_
                              refine zw_get (v := .ref 170) rfl (Sm.at s_69 (by decide) hM.1) rfl ?_
                              refine zw_n 1 rfl ?_
                              refine zw_iald (f := ai C2) (j := p) rfl f69_1 rfl (by decide) (by omega) ?_
                              refine zw_n 2 rfl ?_
                              refine zw_top (na (a := N4 q) (b := C2 p) rfl rfl) ?_
                              refine zw_iastN (g := N4) (j := q) (v := ((N4 q) + (C2 p))) rfl f69_0 rfl (by decide) (by omega) (rfl) ?_
                              generalize ez5608 : List.set M_69 171 _ = Mz5607
                              refine zw_inc rfl (x' := (nI (p + 1))) (ls' := [some (.ref 139), some (.int (nI r)), some (.int (nI a)), some (.int (nI i)), some (.int (nI j)), some (.int (nI d)), some (.int (nI k)), some (.int (nI q)), some (.int (nI (p + 1)))]) rfl (na (a := p) (b := 1) rfl rfl) rfl ?_
                              refine zw_n 1 rfl ?_
                              exact ih69 (p + 1) (up N4 q ((N4 q) + (C2 p))) Mz5607 (Sm.tset s_69 ez5608 (by decide)) (zat_self ez5608 f69_0) (zat_set ez5608 (by decide) f69_1) (⟨by omega, by omega, by rw [up_s]; exact wG_add hi69.2.2.1 hi69.1 (wG_y (by omega) (hi37.2 p (by omega) (by omega)) (ite_ne c111)), fun z hz => by rw [up_n hz]; exact hi69.2.2.2 z hz⟩) (by omega)
                    exact lp69 _ i (up N3 q 0) Mz5590 (Sm.tset s_51 ez5591 (by decide)) (zat_self ez5591 f51_0) (zat_set ez5591 (by decide) f51_1) (⟨Nat.le_refl _, by omega, by rw [up_s, Nat.sub_self]; rfl, fun z hz => up_n hz⟩) (Nat.lt_succ_self _)
              exact lp51 _ i N2 M_37 s_37 f37_1 f37_0 (⟨Nat.le_refl _, by omega, fun z h1 h2 => by omega⟩) (Nat.lt_succ_self _)
        exact lp37 _ 0 C1 (f 171) M_3 s_3 f3_0 f3_1 (⟨Nat.zero_le _, fun q h1 h2 => hi3.2.2 q h1 (by omega)⟩) (Nat.lt_succ_self _)
      · -- 7 to 10
        refine zw_n 1 rfl ?_
        refine zw_get (v := .ref 170) rfl (Sm.at s_3 (by decide) hM.1) rfl ?_
        refine zw_n 1 rfl ?_
        have j16 : Zw 3 zm_MO_waysBy 27 [some (.ref 139), some (.int (nI r)), some (.int (nI a)), some (.int (nI i)), some (.int (nI j)), some (.int (nI d)), some (.int (nI p)), none, none] [.int (nI (if p = i then 1 else 0)), .int (nI p), .ref 170] M_3 (fun r9 M1 => r9 = some (.int (nI (wS (gE al_ it tg pt bd sg co) n (r * 4 + a) i d (it (r * 4 + a)) j))) ∧ ∃ A B, MM M1 o (fset (fset f 171 B) 170 A) ∧ Sm Mq M1 [170, 171]) := by
          refine zw_iastN (g := C1) (j := p) (v := (if p = i then 1 else 0)) rfl f3_0 rfl (by decide) (by omega) (rfl) ?_
          generalize ez5610 : List.set M_3 170 _ = Mz5609
          refine zw_inc rfl (x' := (nI (p + 1))) (ls' := [some (.ref 139), some (.int (nI r)), some (.int (nI a)), some (.int (nI i)), some (.int (nI j)), some (.int (nI d)), some (.int (nI (p + 1))), none, none]) rfl (na (a := p) (b := 1) rfl rfl) rfl ?_
          refine zw_n 1 rfl ?_
          exact ih3 (p + 1) (up C1 p (if p = i then 1 else 0)) Mz5609 (Sm.tset s_3 ez5610 (by decide)) (zat_self ez5610 f3_0) (zat_set ez5610 (by decide) f3_1) (⟨by omega, by omega, fun q h1 h2 => by
              by_cases e9 : q = p
              · rw [e9, up_s]
              · rw [up_n e9]; exact hi3.2.2 q h1 (by omega)⟩) (by omega)
        refine zw_n 2 rfl ?_
        refine zw_ineN (a := p) (b := i) rfl rfl rfl (by omega) (by omega) (fun c19 => ?_) (fun c19 => ?_)
        · -- 19 to 26
          refine zw_n 1 rfl ?_
          refine zw_top (x' := nI (if p = i then 1 else 0)) (show nI 0 = nI (if p = i then 1 else 0) by rw [if_neg (by omega)]) ?_
          exact j16
        · -- 19 to 22
          refine zw_n 2 rfl ?_
          refine zw_top (x' := nI (if p = i then 1 else 0)) (show nI 1 = nI (if p = i then 1 else 0) by rw [if_pos (by omega)]) ?_
          exact j16
  exact lp3 _ i (f 170) Mq Sm.rf (hM.2 170 (by decide) (by decide)) (hM.2 171 (by decide) (by decide)) (⟨Nat.le_refl _, by omega, fun q h1 h2 => by omega⟩) (Nat.lt_succ_self _)
