set_option maxHeartbeats 4000000 in
set_option maxRecDepth 100000 in
theorem c_awaitItems (Mq : zM) (k kr kt s : Nat) (W R : Nat → Nat) (n em : Nat) (gn al_ it pt tg bd fr af fb : Nat → Nat) (c : Nat) (sg li co : Nat → Nat) (hC : Seg Mq k (chtL k kr kt s W R)) (hR : Seg Mq kr (rulL kr (n, gn, al_, it, pt, tg, bd, em, fr, af, fb))) (hT : Seg Mq kt (tokL kt (c, sg, li, co))) (hG : SafeG n gn al_ it pt tg bd) (hS : SafeT c sg li co) (hW : SafeM W) (hQ : SafeM R) (sz wt : Nat) (T V Rc En Su : Nat → Nat) (hZ : Seg Mq (k + 3) (treL k sz wt T V Rc En Su)) (hk : kr + 9 < k ∧ kt + 3 < k) (emp : Nat → Prop) (rk : Nat → Nat) (hA : Acyc (gE al_ it tg pt bd sg co) n emp rk) (q r a i j d lv : Nat) (s0 s9 : tS) (hq : q < 320) (hr : r < n) (ha : a < al_ r) (hij : i < j) (hjc : j ≤ c) (hd : d < 40) (hlv : lv ≤ q) (hf2 : T (q * 8 + 2) = i) (hf3 : T (q * 8 + 3) = j) (hf4 : T (q * 8 + 4) = d) (hf6 : T (q * 8 + 6) = lv) (hCh : ChS (gE al_ it tg pt bd sg co) n c W) (hRc : RcI (gE al_ it tg pt bd sg co) n (r * 4 + a) i j d 0 Rc) (hC1 : tC (gE al_ it tg pt bd sg co) n (r * 4 + a) j d (it (r * 4 + a)) i = true) (hwt : wt = s0.1) (hV : WtV V s0) (hO : tO (gE al_ it tg pt bd sg co) n c rk q (r * 4 + a) i j d lv s9 (it (r * 4 + a)) s0) : Zm 3 zm_Tree_awaitItems [.ref (k + 3), .int (nI q), .int (nI (r * 4 + a))] Mq (fun r9 M1 => r9 = none ∧ ∃ wt9 V9 E9, M1[k + 3]? = some (.inr (10, [.int (nI sz), .ref (k + 4), .ref (k + 5), .int (nI wt9), .ref (k + 6), .ref (k + 7), .ref (k + 8), .ref k])) ∧ M1[k + 5]? = some (.inl (0, 2560, .inl (ai V9))) ∧ M1[k + 7]? = some (.inl (0, 6, .inl (ai E9))) ∧ Sm Mq M1 [k + 3, k + 5, k + 7] ∧ wt9 = s9.1 ∧ WtV V9 s9) := by
  show Zw 3 zm_Tree_awaitItems 0 [some (.ref (k + 3)), some (.int (nI q)), some (.int (nI (r * 4 + a))), none, none, none, none, none] [] Mq _
  have hn8 := hG.1
  have hal4 := hG.2.2.1 r
  have hit5 := hG.2.2.2.1 (r * 4 + a)
  have hc20 := hS.1
  have hxs : ∀ z, z < it (r * 4 + a) → tg ((r * 4 + a) * 5 + z) = NO ∨ tg ((r * 4 + a) * 5 + z) < n := fun z hz => hA.1 r hr a ha z hz
  refine zw_n 1 rfl ?_
  refine zw_get (v := .ref k) rfl (hZ.get 0 rfl) rfl ?_
  refine zw_get (v := .ref kr) rfl (hC.get 0 rfl) rfl ?_
  refine zw_get (v := .ref (kr + 3)) rfl (hR.get 0 rfl) rfl ?_
  refine zw_n 1 rfl ?_
  refine zw_iald (f := ai it) (j := (r * 4 + a)) rfl (hR.get 3 rfl) rfl (by decide) (by omega) ?_
  have bz4664 := hG.2.2.2.1 (r * 4 + a)
  refine zw_n 2 (ls' := [some (.ref (k + 3)), some (.int (nI q)), some (.int (nI (r * 4 + a))), some (.int (nI (it (r * 4 + a)))), none, none, none, none]) rfl ?_
  refine zw_get (v := .ref (k + 7)) rfl (hZ.get 0 rfl) rfl ?_
  refine zw_n 4 rfl ?_
  refine zw_callV (as := [.int (nI q), .int 2]) (rest := [.int 0, .ref (k + 7)]) rfl rfl rfl (hZ.get 0 rfl) rfl rfl rfl (by decide) (c_field Mq k sz wt T V Rc En Su (seg6 (hZ.get 0 rfl) (hZ.get 1 rfl) (hZ.get 2 rfl) (hZ.get 3 rfl) (hZ.get 4 rfl) (hZ.get 5 rfl)) q 2 (by omega) (by omega)) (fun rz4665 Mz4666 hz4667 => ?_)
  rw [hz4667.1, hz4667.2, hf2]
  show Zw 3 zm_Tree_awaitItems 24 [some (.ref (k + 3)), some (.int (nI q)), some (.int (nI (r * 4 + a))), some (.int (nI (it (r * 4 + a)))), none, none, none, none] [.int (nI i), .int 0, .ref (k + 7)] Mq _
  refine zw_iastN (g := En) (j := 0) (v := i) rfl (hZ.get 4 rfl) rfl (by decide) (by omega) (rfl) ?_
  generalize ez4669 : List.set Mq (k + 7) _ = Mz4668
  refine zw_n 2 (ls' := [some (.ref (k + 3)), some (.int (nI q)), some (.int (nI (r * 4 + a))), some (.int (nI (it (r * 4 + a)))), some (.int 0), none, none, none]) rfl ?_
  have lp28 : ∀ (n28 : Nat) (x : Nat) (E1 : Nat → Nat) (M_28 : zM), Sm Mq M_28 [k + 3, k + 5, k + 7] → M_28[k + 7]? = some (.inl (0, 6, .inl (ai E1))) → M_28[k + 3]? = some (.inr (10, [.int (nI sz), .ref (k + 4), .ref (k + 5), .int (nI wt), .ref (k + 6), .ref (k + 7), .ref (k + 8), .ref k])) → M_28[k + 5]? = some (.inl (0, 2560, .inl (ai V))) → (x ≤ it (r * 4 + a) ∧ ∀ z, z ≤ x → E1 z = tP (gE al_ it tg pt bd sg co) n (r * 4 + a) i j d z) → it (r * 4 + a) - x < n28 → Zw 3 zm_Tree_awaitItems 28 [some (.ref (k + 3)), some (.int (nI q)), some (.int (nI (r * 4 + a))), some (.int (nI (it (r * 4 + a)))), some (.int (nI x)), none, none, none] [] M_28 (fun r9 M1 => r9 = none ∧ ∃ wt9 V9 E9, M1[k + 3]? = some (.inr (10, [.int (nI sz), .ref (k + 4), .ref (k + 5), .int (nI wt9), .ref (k + 6), .ref (k + 7), .ref (k + 8), .ref k])) ∧ M1[k + 5]? = some (.inl (0, 2560, .inl (ai V9))) ∧ M1[k + 7]? = some (.inl (0, 6, .inl (ai E9))) ∧ Sm Mq M1 [k + 3, k + 5, k + 7] ∧ wt9 = s9.1 ∧ WtV V9 s9) := by
    intro n28
    induction n28 with
    | zero => intro x E1 M_28 _ _ _ _ _ h; exact absurd h (Nat.not_lt_zero _)
    | succ n28 ih28 =>
      intro x E1 M_28 s_28 f28_0 f28_1 f28_2 hi28 hm28
      have hpx := tP_ok (show j < 4294967295 by omega) (Nat.le_of_lt hij) hC1 x hi28.1
      rw [← hi28.2 x (Nat.le_refl _)] at hpx
      have hEb : ∀ z, z ≤ x → E1 z ≤ j := fun z hz => by rw [hi28.2 z hz]; exact (tP_ok (show j < 4294967295 by omega) (Nat.le_of_lt hij) hC1 z (show z ≤ it (r * 4 + a) by omega)).2.1
      refine zw_n 2 rfl ?_
      refine zw_igeN (a := x) (b := it (r * 4 + a)) rfl rfl rfl (by omega) (by omega) (fun c31 => ?_) (fun c31 => ?_)
      · -- 31 to 64
        have hE1 : ∀ z, z ≤ it (r * 4 + a) → E1 z = tP (gE al_ it tg pt bd sg co) n (r * 4 + a) i j d z := fun z hz => hi28.2 z (by omega)
        have hEb : ∀ z, z ≤ it (r * 4 + a) → E1 z ≤ j := fun z hz => by rw [hE1 z hz]; exact (tP_ok (show j < 4294967295 by omega) (Nat.le_of_lt hij) hC1 z hz).2.1
        refine zw_n 3 rfl ?_
        refine zw_n 1 (ls' := [some (.ref (k + 3)), some (.int (nI q)), some (.int (nI (r * 4 + a))), some (.int (nI (it (r * 4 + a)))), some (.int (nI (it (r * 4 + a)) - 1)), none, none, none]) rfl ?_
        have lp69 : ∀ (n69 : Nat) (m9 : Nat) (s1 : tS) (wt1 : Nat) (V1 : Nat → Nat) (M_69 : zM), Sm Mq M_69 [k + 3, k + 5, k + 7] → M_69[k + 3]? = some (.inr (10, [.int (nI sz), .ref (k + 4), .ref (k + 5), .int (nI wt1), .ref (k + 6), .ref (k + 7), .ref (k + 8), .ref k])) → M_69[k + 5]? = some (.inl (0, 2560, .inl (ai V1))) → M_69[k + 7]? = some (.inl (0, 6, .inl (ai E1))) → (m9 ≤ it (r * 4 + a) ∧ wt1 = s1.1 ∧ tO (gE al_ it tg pt bd sg co) n c rk q (r * 4 + a) i j d lv s9 m9 s1 ∧ WtV V1 s1) → m9 < n69 → Zw 3 zm_Tree_awaitItems 69 [some (.ref (k + 3)), some (.int (nI q)), some (.int (nI (r * 4 + a))), some (.int (nI (it (r * 4 + a)))), some (.int (nI m9 - 1)), none, none, none] [] M_69 (fun r9 M1 => r9 = none ∧ ∃ wt9 V9 E9, M1[k + 3]? = some (.inr (10, [.int (nI sz), .ref (k + 4), .ref (k + 5), .int (nI wt9), .ref (k + 6), .ref (k + 7), .ref (k + 8), .ref k])) ∧ M1[k + 5]? = some (.inl (0, 2560, .inl (ai V9))) ∧ M1[k + 7]? = some (.inl (0, 6, .inl (ai E9))) ∧ Sm Mq M1 [k + 3, k + 5, k + 7] ∧ wt9 = s9.1 ∧ WtV V9 s9) := by
          intro n69
          induction n69 with
          | zero => intro m9 s1 wt1 V1 M_69 _ _ _ _ _ h; exact absurd h (Nat.not_lt_zero _)
          | succ n69 ih69 =>
            intro m9 s1 wt1 V1 M_69 s_69 f69_0 f69_1 f69_2 hi69 hm69
            have hsm := hi69.2.2.1.sum
            have hge := @tSum_ge n rk s1
            refine zw_n 1 rfl ?_
            refine zw_lt0Z (a := ((m9 : Nat) : Int) - 1) rfl (nP_toInt (by omega)) (fun c71 => ?_) (fun c71 => ?_)
            · -- 71 to 194
              have hend : s1 = s9 := by have h9 := hi69.2.2.1.end_; rw [show m9 = 0 by omega, tQ] at h9; exact h9
              exact zw_vret rfl rfl (⟨rfl, wt1, V1, E1, f69_0, f69_1, f69_2, s_69, hend ▸ hi69.2.1, hend ▸ hi69.2.2.2⟩)
            · -- 71 to 74
              rw [nP (show 0 < m9 by omega)]
              refine zw_n 3 rfl ?_
              refine zw_top (nm (a := r * 4 + a) (b := 5) rfl rfl) ?_
              refine zw_n 2 rfl ?_
              refine zw_top (na (a := (r * 4 + a) * 5) (b := m9 - 1) rfl rfl) ?_
              refine zw_n 2 (ls' := [some (.ref (k + 3)), some (.int (nI q)), some (.int (nI (r * 4 + a))), some (.int (nI (it (r * 4 + a)))), some (.int (nI (m9 - 1))), some (.int (nI (((r * 4 + a) * 5) + (m9 - 1)))), none, none]) rfl ?_
              refine zw_get (v := .ref k) rfl f69_0 rfl ?_
              refine zw_get (v := .ref kr) rfl (Sm.at s_69 (by simp <;> omega) (hC.get 0 rfl)) rfl ?_
              refine zw_get (v := .ref (kr + 5)) rfl (Sm.at s_69 (by simp <;> omega) (hR.get 0 rfl)) rfl ?_
              refine zw_n 1 rfl ?_
              refine zw_iald (f := ai tg) (j := (((r * 4 + a) * 5) + (m9 - 1))) rfl (Sm.at s_69 (by simp <;> omega) (hR.get 5 rfl)) rfl (by decide) (by omega) ?_
              have bz4670 := hG.2.2.2.2.2.1 (((r * 4 + a) * 5) + (m9 - 1))
              refine zw_n 3 (ls' := [some (.ref (k + 3)), some (.int (nI q)), some (.int (nI (r * 4 + a))), some (.int (nI (it (r * 4 + a)))), some (.int (nI (m9 - 1))), some (.int (nI (((r * 4 + a) * 5) + (m9 - 1)))), some (.int (nI (tg (((r * 4 + a) * 5) + (m9 - 1))))), none]) rfl ?_
              refine zw_ieqM (a := tg (((r * 4 + a) * 5) + (m9 - 1))) rfl rfl (by omega) (fun c100 => ?_) (fun c100 => ?_)
              · -- 100 to 188
                refine zw_inc rfl (x' := (nI (m9 - 1) - 1)) (ls' := [some (.ref (k + 3)), some (.int (nI q)), some (.int (nI (r * 4 + a))), some (.int (nI (it (r * 4 + a)))), some (.int (nI (m9 - 1) - 1)), some (.int (nI (((r * 4 + a) * 5) + (m9 - 1)))), some (.int (nI (tg (((r * 4 + a) * 5) + (m9 - 1))))), none]) rfl (nPd) rfl ?_
                refine zw_n 1 rfl ?_
                refine zw_ls (ls' := [some (.ref (k + 3)), some (.int (nI q)), some (.int (nI (r * 4 + a))), some (.int (nI (it (r * 4 + a)))), some (.int (nI (m9 - 1) - 1)), none, none, none]) ⟨Or.inr rfl, Or.inr rfl, Or.inr rfl, Or.inr rfl, Or.inr rfl, Or.inl rfl, Or.inl rfl, Or.inl rfl, trivial⟩ ?_
                exact ih69 (m9 - 1) s1 wt1 V1 M_69 s_69 f69_0 f69_1 f69_2 (⟨by omega, hi69.2.1, (by have h9 := (tO.step (k := m9 - 1) hA hS.2.2.2 hG.2.2.2.2.2.2 hr hij hjc (by omega) hd ha hC1 hlv (show m9 - 1 < it (r * 4 + a) by omega) ((show m9 = m9 - 1 + 1 by omega) ▸ hi69.2.2.1)); rw [show tW (gE al_ it tg pt bd sg co) n (r * 4 + a) i j d q lv (m9 - 1) s1 = s1 from tW_no (by first | exact Or.inl c100 | exact Or.inr (by rw [← hE1 (m9 - 1) (by omega), ← hE1 (m9 - 1 + 1) (by omega)]; omega))] at h9; exact h9), hi69.2.2.2⟩) (by omega)
              · -- 100 to 103
                refine zw_n 1 rfl ?_
                refine zw_get (v := .ref (k + 7)) rfl f69_0 rfl ?_
                refine zw_n 1 rfl ?_
                refine zw_iald (f := ai E1) (j := (m9 - 1)) rfl f69_2 rfl (by decide) (by omega) ?_
                have bz4671 := hEb (m9 - 1) (by omega)
                refine zw_n 1 rfl ?_
                refine zw_get (v := .ref (k + 7)) rfl f69_0 rfl ?_
                refine zw_n 3 rfl ?_
                refine zw_top (na (a := m9 - 1) (b := 1) rfl rfl) ?_
                refine zw_iald (f := ai E1) (j := ((m9 - 1) + 1)) rfl f69_2 rfl (by decide) (by omega) ?_
                have bz4672 := hEb ((m9 - 1) + 1) (by omega)
                refine zw_igeN (a := E1 (m9 - 1)) (b := E1 ((m9 - 1) + 1)) rfl rfl rfl (by omega) (by omega) (fun c119 => ?_) (fun c119 => ?_)
                · -- 119 to 188
                  refine zw_inc rfl (x' := (nI (m9 - 1) - 1)) (ls' := [some (.ref (k + 3)), some (.int (nI q)), some (.int (nI (r * 4 + a))), some (.int (nI (it (r * 4 + a)))), some (.int (nI (m9 - 1) - 1)), some (.int (nI (((r * 4 + a) * 5) + (m9 - 1)))), some (.int (nI (tg (((r * 4 + a) * 5) + (m9 - 1))))), none]) rfl (nPd) rfl ?_
                  refine zw_n 1 rfl ?_
                  refine zw_ls (ls' := [some (.ref (k + 3)), some (.int (nI q)), some (.int (nI (r * 4 + a))), some (.int (nI (it (r * 4 + a)))), some (.int (nI (m9 - 1) - 1)), none, none, none]) ⟨Or.inr rfl, Or.inr rfl, Or.inr rfl, Or.inr rfl, Or.inr rfl, Or.inl rfl, Or.inl rfl, Or.inl rfl, trivial⟩ ?_
                  exact ih69 (m9 - 1) s1 wt1 V1 M_69 s_69 f69_0 f69_1 f69_2 (⟨by omega, hi69.2.1, (by have h9 := (tO.step (k := m9 - 1) hA hS.2.2.2 hG.2.2.2.2.2.2 hr hij hjc (by omega) hd ha hC1 hlv (show m9 - 1 < it (r * 4 + a) by omega) ((show m9 = m9 - 1 + 1 by omega) ▸ hi69.2.2.1)); rw [show tW (gE al_ it tg pt bd sg co) n (r * 4 + a) i j d q lv (m9 - 1) s1 = s1 from tW_no (by first | exact Or.inl c100 | exact Or.inr (by rw [← hE1 (m9 - 1) (by omega), ← hE1 (m9 - 1 + 1) (by omega)]; omega))] at h9; exact h9), hi69.2.2.2⟩) (by omega)
                · -- 119 to 122
                  have hP0 := hE1 (m9 - 1) (by omega)
                  have hP1 := hE1 (m9 - 1 + 1) (by omega)
                  have hst := tP_st (show j < 4294967295 by omega) (Nat.le_of_lt hij) hC1 (show m9 - 1 < it (r * 4 + a) by omega)
                  have hiw : itm (gE al_ it tg pt bd sg co) (w3 W) ((r * 4 + a) * 5 + (m9 - 1)) (E1 (m9 - 1)) (E1 (m9 - 1 + 1)) = itm (gE al_ it tg pt bd sg co) (wh (gE al_ it tg pt bd sg co) n) ((r * 4 + a) * 5 + (m9 - 1)) (E1 (m9 - 1)) (E1 (m9 - 1 + 1)) := itm_w3 hCh (hxs (m9 - 1) (by omega)) (by omega) (by omega)
                  have hne9 : itm (gE al_ it tg pt bd sg co) (w3 W) ((r * 4 + a) * 5 + (m9 - 1)) (E1 (m9 - 1)) (E1 (m9 - 1 + 1)) &&& prtN (bd ((r * 4 + a) * 5 + (m9 - 1))) (2 ^ d) ≠ 0 := by
                    rw [hiw, hP0, hP1]
                    exact (tH_fit hS.2.2.2 hd).mp hst.2.1
                  have htw : tW (gE al_ it tg pt bd sg co) n (r * 4 + a) i j d q lv (m9 - 1) s1 = (s1.1 + 1, fun w => if w = s1.1 then tN (tg ((r * 4 + a) * 5 + (m9 - 1))) (E1 (m9 - 1)) (E1 (m9 - 1 + 1)) (lsb (itm (gE al_ it tg pt bd sg co) (w3 W) ((r * 4 + a) * 5 + (m9 - 1)) (E1 (m9 - 1)) (E1 (m9 - 1 + 1)) &&& prtN (bd ((r * 4 + a) * 5 + (m9 - 1))) (2 ^ d))) q (lv + 1) (bd ((r * 4 + a) * 5 + (m9 - 1))) else s1.2 w) := tW_yes hP0 hP1 (by rw [hiw]; rfl) c100 c119
                  refine zw_n 4 rfl ?_
                  refine zw_get (v := .ref (k + 7)) rfl f69_0 rfl ?_
                  refine zw_n 1 rfl ?_
                  refine zw_iald (f := ai E1) (j := (m9 - 1)) rfl f69_2 rfl (by decide) (by omega) ?_
                  have bz4673 := hEb (m9 - 1) (by omega)
                  refine zw_n 1 rfl ?_
                  refine zw_get (v := .ref (k + 7)) rfl f69_0 rfl ?_
                  refine zw_n 3 rfl ?_
                  refine zw_top (na (a := m9 - 1) (b := 1) rfl rfl) ?_
                  refine zw_iald (f := ai E1) (j := ((m9 - 1) + 1)) rfl f69_2 rfl (by decide) (by omega) ?_
                  have bz4674 := hEb ((m9 - 1) + 1) (by omega)
                  refine zw_callV (as := [.int (nI q), .int (nI (((r * 4 + a) * 5) + (m9 - 1))), .int (nI (E1 (m9 - 1))), .int (nI (E1 ((m9 - 1) + 1)))]) (rest := []) rfl rfl rfl f69_0 rfl rfl rfl (by decide) (c_fitting M_69 k kr kt s W R n em gn al_ it pt tg bd fr af fb c sg li co (seg3 (Sm.at s_69 (by simp <;> omega) (hC.get 0 rfl)) (Sm.at s_69 (by simp <;> omega) (hC.get 1 rfl)) (Sm.at s_69 (by simp <;> omega) (hC.get 2 rfl))) (seg10 (Sm.at s_69 (by simp <;> omega) (hR.get 0 rfl)) (Sm.at s_69 (by simp <;> omega) (hR.get 1 rfl)) (Sm.at s_69 (by simp <;> omega) (hR.get 2 rfl)) (Sm.at s_69 (by simp <;> omega) (hR.get 3 rfl)) (Sm.at s_69 (by simp <;> omega) (hR.get 4 rfl)) (Sm.at s_69 (by simp <;> omega) (hR.get 5 rfl)) (Sm.at s_69 (by simp <;> omega) (hR.get 6 rfl)) (Sm.at s_69 (by simp <;> omega) (hR.get 7 rfl)) (Sm.at s_69 (by simp <;> omega) (hR.get 8 rfl)) (Sm.at s_69 (by simp <;> omega) (hR.get 9 rfl))) (seg4 (Sm.at s_69 (by simp <;> omega) (hT.get 0 rfl)) (Sm.at s_69 (by simp <;> omega) (hT.get 1 rfl)) (Sm.at s_69 (by simp <;> omega) (hT.get 2 rfl)) (Sm.at s_69 (by simp <;> omega) (hT.get 3 rfl))) hG hS (by assumption) (by assumption) sz wt1 T V1 Rc E1 Su (seg6 f69_0 (Sm.at s_69 (by simp <;> omega) (hZ.get 1 rfl)) f69_1 (Sm.at s_69 (by simp <;> omega) (hZ.get 3 rfl)) f69_2 (Sm.at s_69 (by simp <;> omega) (hZ.get 5 rfl))) hk q (((r * 4 + a) * 5) + (m9 - 1)) (E1 (m9 - 1)) (E1 ((m9 - 1) + 1)) d (by omega) (by omega) (by omega) (by omega) hf4 hd) (fun rz4675 Mz4676 hz4677 => ?_)
                  rw [hz4677.1, hz4677.2]
                  show Zw 3 zm_Tree_awaitItems 145 [some (.ref (k + 3)), some (.int (nI q)), some (.int (nI (r * 4 + a))), some (.int (nI (it (r * 4 + a)))), some (.int (nI (m9 - 1))), some (.int (nI (((r * 4 + a) * 5) + (m9 - 1)))), some (.int (nI (tg (((r * 4 + a) * 5) + (m9 - 1))))), none] [.long (lN (itm (gE al_ it tg pt bd sg co) (w3 W) (((r * 4 + a) * 5) + (m9 - 1)) (E1 (m9 - 1)) (E1 ((m9 - 1) + 1)) &&& prtN (bd (((r * 4 + a) * 5) + (m9 - 1))) (2 ^ d)))] M_69 _
                  refine zw_callS (as := [.long (lN (itm (gE al_ it tg pt bd sg co) (w3 W) (((r * 4 + a) * 5) + (m9 - 1)) (E1 (m9 - 1)) (E1 ((m9 - 1) + 1)) &&& prtN (bd (((r * 4 + a) * 5) + (m9 - 1))) (2 ^ d)))]) (rest := []) rfl rfl rfl rfl rfl rfl (by decide) (c_leastOf _ _ (hne9) (Nat.lt_of_le_of_lt Nat.and_le_left (itm_lt (fun _ _ _ => hW _) hS.2.2.2))) (fun rz4678 Mz4679 hz4680 => ?_)
                  rw [hz4680.1, hz4680.2]
                  show Zw 3 zm_Tree_awaitItems 148 [some (.ref (k + 3)), some (.int (nI q)), some (.int (nI (r * 4 + a))), some (.int (nI (it (r * 4 + a)))), some (.int (nI (m9 - 1))), some (.int (nI (((r * 4 + a) * 5) + (m9 - 1)))), some (.int (nI (tg (((r * 4 + a) * 5) + (m9 - 1))))), none] [.int (nI (lsb (itm (gE al_ it tg pt bd sg co) (w3 W) (((r * 4 + a) * 5) + (m9 - 1)) (E1 (m9 - 1)) (E1 ((m9 - 1) + 1)) &&& prtN (bd (((r * 4 + a) * 5) + (m9 - 1))) (2 ^ d))))] M_69 _
                  refine zw_n 4 (ls' := [some (.ref (k + 3)), some (.int (nI q)), some (.int (nI (r * 4 + a))), some (.int (nI (it (r * 4 + a)))), some (.int (nI (m9 - 1))), some (.int (nI (((r * 4 + a) * 5) + (m9 - 1)))), some (.int (nI (tg (((r * 4 + a) * 5) + (m9 - 1))))), some (.int (nI (lsb (itm (gE al_ it tg pt bd sg co) (w3 W) (((r * 4 + a) * 5) + (m9 - 1)) (E1 (m9 - 1)) (E1 ((m9 - 1) + 1)) &&& prtN (bd (((r * 4 + a) * 5) + (m9 - 1))) (2 ^ d)))))]) rfl ?_
                  refine zw_get (v := .ref (k + 7)) rfl f69_0 rfl ?_
                  refine zw_n 1 rfl ?_
                  refine zw_iald (f := ai E1) (j := (m9 - 1)) rfl f69_2 rfl (by decide) (by omega) ?_
                  have bz4681 := hEb (m9 - 1) (by omega)
                  refine zw_n 1 rfl ?_
                  refine zw_get (v := .ref (k + 7)) rfl f69_0 rfl ?_
                  refine zw_n 3 rfl ?_
                  refine zw_top (na (a := m9 - 1) (b := 1) rfl rfl) ?_
                  refine zw_iald (f := ai E1) (j := ((m9 - 1) + 1)) rfl f69_2 rfl (by decide) (by omega) ?_
                  have bz4682 := hEb ((m9 - 1) + 1) (by omega)
                  refine zw_n 3 rfl ?_
                  refine zw_get (v := .ref k) rfl f69_0 rfl ?_
                  refine zw_get (v := .ref kr) rfl (Sm.at s_69 (by simp <;> omega) (hC.get 0 rfl)) rfl ?_
                  refine zw_get (v := .ref (kr + 6)) rfl (Sm.at s_69 (by simp <;> omega) (hR.get 0 rfl)) rfl ?_
                  refine zw_n 1 rfl ?_
                  refine zw_iald (f := ai bd) (j := (((r * 4 + a) * 5) + (m9 - 1))) rfl (Sm.at s_69 (by simp <;> omega) (hR.get 6 rfl)) rfl (by decide) (by omega) ?_
                  have bz4683 := hG.2.2.2.2.2.2 (((r * 4 + a) * 5) + (m9 - 1))
                  refine zw_callV (as := [.int (nI (tg (((r * 4 + a) * 5) + (m9 - 1)))), .int (nI (E1 (m9 - 1))), .int (nI (E1 ((m9 - 1) + 1))), .int (nI (lsb (itm (gE al_ it tg pt bd sg co) (w3 W) (((r * 4 + a) * 5) + (m9 - 1)) (E1 (m9 - 1)) (E1 ((m9 - 1) + 1)) &&& prtN (bd (((r * 4 + a) * 5) + (m9 - 1))) (2 ^ d)))), .int (nI q), .int (nI (bd (((r * 4 + a) * 5) + (m9 - 1))))]) (rest := []) rfl rfl rfl f69_0 rfl rfl rfl (by decide) (c_await M_69 k sz wt1 T V1 Rc E1 Su (seg6 f69_0 (Sm.at s_69 (by simp <;> omega) (hZ.get 1 rfl)) f69_1 (Sm.at s_69 (by simp <;> omega) (hZ.get 3 rfl)) f69_2 (Sm.at s_69 (by simp <;> omega) (hZ.get 5 rfl))) (by omega) (tg (((r * 4 + a) * 5) + (m9 - 1))) (E1 (m9 - 1)) (E1 ((m9 - 1) + 1)) (lsb (itm (gE al_ it tg pt bd sg co) (w3 W) (((r * 4 + a) * 5) + (m9 - 1)) (E1 (m9 - 1)) (E1 ((m9 - 1) + 1)) &&& prtN (bd (((r * 4 + a) * 5) + (m9 - 1))) (2 ^ d))) q (bd (((r * 4 + a) * 5) + (m9 - 1))) lv (by omega) hf6) (fun rz4688 Mz4689 hz4690 => ?_)
                  obtain ⟨hAz4684, hBz4685, hCz4686, hSz4687⟩ := hz4690
                  rw [hAz4684]
                  show Zw 3 zm_Tree_awaitItems 188 [some (.ref (k + 3)), some (.int (nI q)), some (.int (nI (r * 4 + a))), some (.int (nI (it (r * 4 + a)))), some (.int (nI (m9 - 1))), some (.int (nI (((r * 4 + a) * 5) + (m9 - 1)))), some (.int (nI (tg (((r * 4 + a) * 5) + (m9 - 1))))), some (.int (nI (lsb (itm (gE al_ it tg pt bd sg co) (w3 W) (((r * 4 + a) * 5) + (m9 - 1)) (E1 (m9 - 1)) (E1 ((m9 - 1) + 1)) &&& prtN (bd (((r * 4 + a) * 5) + (m9 - 1))) (2 ^ d)))))] [] Mz4689 _
                  refine zw_inc rfl (x' := (nI (m9 - 1) - 1)) (ls' := [some (.ref (k + 3)), some (.int (nI q)), some (.int (nI (r * 4 + a))), some (.int (nI (it (r * 4 + a)))), some (.int (nI (m9 - 1) - 1)), some (.int (nI (((r * 4 + a) * 5) + (m9 - 1)))), some (.int (nI (tg (((r * 4 + a) * 5) + (m9 - 1))))), some (.int (nI (lsb (itm (gE al_ it tg pt bd sg co) (w3 W) (((r * 4 + a) * 5) + (m9 - 1)) (E1 (m9 - 1)) (E1 ((m9 - 1) + 1)) &&& prtN (bd (((r * 4 + a) * 5) + (m9 - 1))) (2 ^ d)))))]) rfl (nPd) rfl ?_
                  refine zw_n 1 rfl ?_
                  refine zw_ls (ls' := [some (.ref (k + 3)), some (.int (nI q)), some (.int (nI (r * 4 + a))), some (.int (nI (it (r * 4 + a)))), some (.int (nI (m9 - 1) - 1)), none, none, none]) ⟨Or.inr rfl, Or.inr rfl, Or.inr rfl, Or.inr rfl, Or.inr rfl, Or.inl rfl, Or.inl rfl, Or.inl rfl, trivial⟩ ?_
                  exact ih69 (m9 - 1) (s1.1 + 1, fun w => if w = s1.1 then tN (tg ((r * 4 + a) * 5 + (m9 - 1))) (E1 (m9 - 1)) (E1 (m9 - 1 + 1)) (lsb (itm (gE al_ it tg pt bd sg co) (w3 W) ((r * 4 + a) * 5 + (m9 - 1)) (E1 (m9 - 1)) (E1 (m9 - 1 + 1)) &&& prtN (bd ((r * 4 + a) * 5 + (m9 - 1))) (2 ^ d))) q (lv + 1) (bd ((r * 4 + a) * 5 + (m9 - 1))) else s1.2 w) (wt1 + 1) (pu8 V1 wt1 (tg (((r * 4 + a) * 5) + (m9 - 1))) (E1 (m9 - 1)) (E1 ((m9 - 1) + 1)) (lsb (itm (gE al_ it tg pt bd sg co) (w3 W) (((r * 4 + a) * 5) + (m9 - 1)) (E1 (m9 - 1)) (E1 ((m9 - 1) + 1)) &&& prtN (bd (((r * 4 + a) * 5) + (m9 - 1))) (2 ^ d))) q (lv + 1) (bd (((r * 4 + a) * 5) + (m9 - 1)))) Mz4689 (Sm.tw s_69 hSz4687 (by simp)) hBz4685 hCz4686 (Sm.at hSz4687 (by simp <;> omega) f69_2) (⟨by omega, congrArg (· + 1) hi69.2.1, (by have h9 := (tO.step (k := m9 - 1) hA hS.2.2.2 hG.2.2.2.2.2.2 hr hij hjc (by omega) hd ha hC1 hlv (show m9 - 1 < it (r * 4 + a) by omega) ((show m9 = m9 - 1 + 1 by omega) ▸ hi69.2.2.1)); rw [htw] at h9; exact h9), WtV.pu hi69.2.2.2 hi69.2.1⟩) (by omega)
        exact lp69 _ (it (r * 4 + a)) s0 wt V M_28 s_28 f28_1 f28_2 f28_0 (⟨Nat.le_refl _, hwt, hO, hV⟩) (Nat.lt_succ_self _)
      · -- 31 to 34
        refine zw_n 1 rfl ?_
        refine zw_get (v := .ref (k + 7)) rfl f28_1 rfl ?_
        refine zw_n 3 rfl ?_
        refine zw_top (na (a := x) (b := 1) rfl rfl) ?_
        refine zw_n 5 rfl ?_
        refine zw_get (v := .ref (k + 7)) rfl f28_1 rfl ?_
        refine zw_n 1 rfl ?_
        refine zw_iald (f := ai E1) (j := x) rfl f28_0 rfl (by decide) (by omega) ?_
        have bz4691 := hEb x (by omega)
        refine zw_callV (as := [.int (nI q), .int (nI (r * 4 + a)), .int (nI x), .int (nI (E1 x))]) (rest := [.int (nI (x + 1)), .ref (k + 7)]) rfl rfl rfl f28_1 rfl rfl rfl (by decide) (c_leastEnd M_28 k kr kt s W R n em gn al_ it pt tg bd fr af fb c sg li co (seg3 (Sm.at s_28 (by simp <;> omega) (hC.get 0 rfl)) (Sm.at s_28 (by simp <;> omega) (hC.get 1 rfl)) (Sm.at s_28 (by simp <;> omega) (hC.get 2 rfl))) (seg10 (Sm.at s_28 (by simp <;> omega) (hR.get 0 rfl)) (Sm.at s_28 (by simp <;> omega) (hR.get 1 rfl)) (Sm.at s_28 (by simp <;> omega) (hR.get 2 rfl)) (Sm.at s_28 (by simp <;> omega) (hR.get 3 rfl)) (Sm.at s_28 (by simp <;> omega) (hR.get 4 rfl)) (Sm.at s_28 (by simp <;> omega) (hR.get 5 rfl)) (Sm.at s_28 (by simp <;> omega) (hR.get 6 rfl)) (Sm.at s_28 (by simp <;> omega) (hR.get 7 rfl)) (Sm.at s_28 (by simp <;> omega) (hR.get 8 rfl)) (Sm.at s_28 (by simp <;> omega) (hR.get 9 rfl))) (seg4 (Sm.at s_28 (by simp <;> omega) (hT.get 0 rfl)) (Sm.at s_28 (by simp <;> omega) (hT.get 1 rfl)) (Sm.at s_28 (by simp <;> omega) (hT.get 2 rfl)) (Sm.at s_28 (by simp <;> omega) (hT.get 3 rfl))) hG hS (by assumption) (by assumption) sz wt T V Rc E1 Su (seg6 f28_1 (Sm.at s_28 (by simp <;> omega) (hZ.get 1 rfl)) f28_2 (Sm.at s_28 (by simp <;> omega) (hZ.get 3 rfl)) f28_0 (Sm.at s_28 (by simp <;> omega) (hZ.get 5 rfl))) hk q (r * 4 + a) x (E1 x) i j d (by omega) (by omega) (by omega) (by omega) (by omega) hjc hd hf3 hf4 (fun z h1 h2 => hRc z (Nat.zero_le _) h2) hCh (hxs x (by omega))) (fun rz4693 Mz4694 hz4695 => ?_)
        rw [hz4695.1, hz4695.2]
        have hbz4692 := @tL_b (gE al_ it tg pt bd sg co) n (r * 4 + a) j d x (E1 x)
        show Zw 3 zm_Tree_awaitItems 57 [some (.ref (k + 3)), some (.int (nI q)), some (.int (nI (r * 4 + a))), some (.int (nI (it (r * 4 + a)))), some (.int (nI x)), none, none, none] [.int (nI (tL (gE al_ it tg pt bd sg co) n (r * 4 + a) j d x (E1 x))), .int (nI (x + 1)), .ref (k + 7)] M_28 _
        refine zw_iastN (g := E1) (j := (x + 1)) (v := (tL (gE al_ it tg pt bd sg co) n (r * 4 + a) j d x (E1 x))) rfl f28_0 rfl (by decide) (by omega) (rfl) ?_
        generalize ez4697 : List.set M_28 (k + 7) _ = Mz4696
        refine zw_inc rfl (x' := (nI (x + 1))) (ls' := [some (.ref (k + 3)), some (.int (nI q)), some (.int (nI (r * 4 + a))), some (.int (nI (it (r * 4 + a)))), some (.int (nI (x + 1))), none, none, none]) rfl (na (a := x) (b := 1) rfl rfl) rfl ?_
        refine zw_n 1 rfl ?_
        exact ih28 (x + 1) (up E1 (x + 1) (tL (gE al_ it tg pt bd sg co) n (r * 4 + a) j d x (E1 x))) Mz4696 (Sm.tset s_28 ez4697 (by simp)) (zat_self ez4697 f28_0) (zat_set ez4697 (by omega) f28_1) (zat_set ez4697 (by omega) f28_2) (⟨by omega, fun z hz => by
            by_cases e9 : z = x + 1
            · rw [e9, up_s, hi28.2 x (Nat.le_refl _)]; rfl
            · rw [up_n e9]; exact hi28.2 z (by omega)⟩) (by omega)
  exact lp28 _ 0 (up En 0 i) Mz4668 (Sm.tset Sm.rf ez4669 (by simp)) (zat_self ez4669 (hZ.get 4 rfl)) (zat_set ez4669 (by omega) (hZ.get 0 rfl)) (zat_set ez4669 (by omega) (hZ.get 2 rfl)) (⟨Nat.zero_le _, fun z hz => by rw [show z = 0 by omega, up_s]; rfl⟩) (Nat.lt_succ_self _)

set_option maxHeartbeats 4000000 in
set_option maxRecDepth 100000 in
theorem c_openNode (Mq : zM) (k kr kt s : Nat) (W R : Nat → Nat) (n em : Nat) (gn al_ it pt tg bd fr af fb : Nat → Nat) (c : Nat) (sg li co : Nat → Nat) (hC : Seg Mq k (chtL k kr kt s W R)) (hR : Seg Mq kr (rulL kr (n, gn, al_, it, pt, tg, bd, em, fr, af, fb))) (hT : Seg Mq kt (tokL kt (c, sg, li, co))) (hG : SafeG n gn al_ it pt tg bd) (hS : SafeT c sg li co) (hW : SafeM W) (hQ : SafeM R) (sz wt : Nat) (T V Rc En Su : Nat → Nat) (hZ : Seg Mq (k + 3) (treL k sz wt T V Rc En Su)) (hk : kr + 9 < k ∧ kt + 3 < k) (emp : Nat → Prop) (rk : Nat → Nat) (hA : Acyc (gE al_ it tg pt bd sg co) n emp rk) (q r i j d lv : Nat) (s0 s9 : tS) (hq : q < 320) (hr : r < n) (hij2 : i < j) (hjc : j ≤ c) (hd : d < 40) (hlv : lv ≤ q) (hbit : (wh (gE al_ it tg pt bd sg co) n r i j).testBit d = true) (hf0 : T (q * 8 + 0) = r) (hf2 : T (q * 8 + 2) = i) (hf3 : T (q * 8 + 3) = j) (hf4 : T (q * 8 + 4) = d) (hf6 : T (q * 8 + 6) = lv) (hCh : ChS (gE al_ it tg pt bd sg co) n c W) (hwt : wt = s0.1) (hV : WtV V s0) (hO : tO (gE al_ it tg pt bd sg co) n c rk q (r * 4 + tA (gE al_ it tg pt bd sg co) n r i j d) i j d lv s9 (it (r * 4 + tA (gE al_ it tg pt bd sg co) n r i j d)) s0) : Zm 4 zm_Tree_openNode [.ref (k + 3), .int (nI q)] Mq (fun r9 M1 => r9 = none ∧ ∃ wt9 V9 R9 E9, Seg M1 (k + 3) (treL k sz wt9 (up T (q * 8 + 1) (tA (gE al_ it tg pt bd sg co) n r i j d)) V9 R9 E9 Su) ∧ Sm Mq M1 [k + 3, k + 4, k + 5, k + 6, k + 7] ∧ wt9 = s9.1 ∧ WtV V9 s9) := by
  show Zw 4 zm_Tree_openNode 0 [some (.ref (k + 3)), some (.int (nI q)), none, none] [] Mq _
  have hn8 := hG.1
  have hal4 := hG.2.2.1 r
  have hc20 := hS.1
  have hij : i ≤ j := Nat.le_of_lt hij2
  obtain ⟨ht1, -, ht2, ht3⟩ := tA_ok hA hG.2.2.1 hr hij (show j < 4294967295 by omega) hd hbit
  have ht1 : tA (gE al_ it tg pt bd sg co) n r i j d < al_ r := ht1
  refine zw_n 3 rfl ?_
  refine zw_callV (as := [.int (nI q), .int 0]) (rest := []) rfl rfl rfl (hZ.get 0 rfl) rfl rfl rfl (by decide) (c_field Mq k sz wt T V Rc En Su (seg6 (hZ.get 0 rfl) (hZ.get 1 rfl) (hZ.get 2 rfl) (hZ.get 3 rfl) (hZ.get 4 rfl) (hZ.get 5 rfl)) q 0 (by omega) (by omega)) (fun rz4698 Mz4699 hz4700 => ?_)
  rw [hz4700.1, hz4700.2, hf0]
  show Zw 4 zm_Tree_openNode 6 [some (.ref (k + 3)), some (.int (nI q)), none, none] [.int (nI r)] Mq _
  refine zw_n 3 (ls' := [some (.ref (k + 3)), some (.int (nI q)), some (.int (nI r)), some (.int 0)]) rfl ?_
  have lp9 : ∀ (n9 : Nat) (a : Nat) (R1 : Nat → Nat) (M_9 : zM), Sm Mq M_9 [k + 3, k + 4, k + 5, k + 6, k + 7] → M_9[k + 6]? = some (.inl (0, 6, .inl (ai R1))) → M_9[k + 3]? = some (.inr (10, [.int (nI sz), .ref (k + 4), .ref (k + 5), .int (nI wt), .ref (k + 6), .ref (k + 7), .ref (k + 8), .ref k])) → M_9[k + 4]? = some (.inl (0, 2560, .inl (ai T))) → M_9[k + 5]? = some (.inl (0, 2560, .inl (ai V))) → M_9[k + 7]? = some (.inl (0, 6, .inl (ai En))) → (a ≤ tA (gE al_ it tg pt bd sg co) n r i j d) → al_ r - a < n9 → Zw 4 zm_Tree_openNode 9 [some (.ref (k + 3)), some (.int (nI q)), some (.int (nI r)), some (.int (nI a))] [] M_9 (fun r9 M1 => r9 = none ∧ ∃ wt9 V9 R9 E9, Seg M1 (k + 3) (treL k sz wt9 (up T (q * 8 + 1) (tA (gE al_ it tg pt bd sg co) n r i j d)) V9 R9 E9 Su) ∧ Sm Mq M1 [k + 3, k + 4, k + 5, k + 6, k + 7] ∧ wt9 = s9.1 ∧ WtV V9 s9) := by
    intro n9
    induction n9 with
    | zero => intro a R1 M_9 _ _ _ _ _ _ _ h; exact absurd h (Nat.not_lt_zero _)
    | succ n9 ih9 =>
      intro a R1 M_9 s_9 f9_0 f9_1 f9_2 f9_3 f9_4 hi9 hm9
      refine zw_n 2 rfl ?_
      refine zw_get (v := .ref k) rfl f9_1 rfl ?_
      refine zw_get (v := .ref kr) rfl (Sm.at s_9 (by simp <;> omega) (hC.get 0 rfl)) rfl ?_
      refine zw_get (v := .ref (kr + 2)) rfl (Sm.at s_9 (by simp <;> omega) (hR.get 0 rfl)) rfl ?_
      refine zw_n 1 rfl ?_
      refine zw_iald (f := ai al_) (j := r) rfl (Sm.at s_9 (by simp <;> omega) (hR.get 2 rfl)) rfl (by decide) (by omega) ?_
      have bz4701 := hG.2.2.1 r
      refine zw_igeN (a := a) (b := al_ r) rfl rfl rfl (by omega) (by omega) (fun c22 => ?_) (fun c22 => ?_)
      · -- 22 to 67
        exfalso
        omega
      · -- 22 to 25
        refine zw_n 5 rfl ?_
        refine zw_top (nm (a := r) (b := 4) rfl rfl) ?_
        refine zw_n 2 rfl ?_
        refine zw_top (na (a := r * 4) (b := a) rfl rfl) ?_
        refine zw_callV (as := [.int (nI q), .int (nI ((r * 4) + a))]) (rest := []) rfl rfl rfl f9_1 rfl rfl rfl (by decide) (c_reaches M_9 k kr kt s W R n em gn al_ it pt tg bd fr af fb c sg li co (seg3 (Sm.at s_9 (by simp <;> omega) (hC.get 0 rfl)) (Sm.at s_9 (by simp <;> omega) (hC.get 1 rfl)) (Sm.at s_9 (by simp <;> omega) (hC.get 2 rfl))) (seg10 (Sm.at s_9 (by simp <;> omega) (hR.get 0 rfl)) (Sm.at s_9 (by simp <;> omega) (hR.get 1 rfl)) (Sm.at s_9 (by simp <;> omega) (hR.get 2 rfl)) (Sm.at s_9 (by simp <;> omega) (hR.get 3 rfl)) (Sm.at s_9 (by simp <;> omega) (hR.get 4 rfl)) (Sm.at s_9 (by simp <;> omega) (hR.get 5 rfl)) (Sm.at s_9 (by simp <;> omega) (hR.get 6 rfl)) (Sm.at s_9 (by simp <;> omega) (hR.get 7 rfl)) (Sm.at s_9 (by simp <;> omega) (hR.get 8 rfl)) (Sm.at s_9 (by simp <;> omega) (hR.get 9 rfl))) (seg4 (Sm.at s_9 (by simp <;> omega) (hT.get 0 rfl)) (Sm.at s_9 (by simp <;> omega) (hT.get 1 rfl)) (Sm.at s_9 (by simp <;> omega) (hT.get 2 rfl)) (Sm.at s_9 (by simp <;> omega) (hT.get 3 rfl))) hG hS (by assumption) (by assumption) sz wt T V R1 En Su (seg6 f9_1 f9_2 f9_3 f9_0 f9_4 (Sm.at s_9 (by simp <;> omega) (hZ.get 5 rfl))) hk q ((r * 4) + a) i j d (by omega) (by omega) hij hjc hd hf2 hf3 hf4 hCh (fun z h1 => hA.1 r hr a (by omega) z h1)) (fun rz4707 Mz4708 hz4709 => ?_)
        obtain ⟨Rz4702, hAz4703, hBz4704, hSz4705, hRz4706⟩ := hz4709
        rw [hAz4703]
        show Zw 4 zm_Tree_openNode 35 [some (.ref (k + 3)), some (.int (nI q)), some (.int (nI r)), some (.int (nI a))] [.int (nI (if tC (gE al_ it tg pt bd sg co) n ((r * 4) + a) j d (it ((r * 4) + a)) i = true then 1 else 0))] Mz4708 _
        refine zw_eq0N (a := if tC (gE al_ it tg pt bd sg co) n ((r * 4) + a) j d (it ((r * 4) + a)) i = true then 1 else 0) rfl rfl (ite_b) (fun c35 => ?_) (fun c35 => ?_)
        · -- 35 to 61
          refine zw_inc rfl (x' := (nI (a + 1))) (ls' := [some (.ref (k + 3)), some (.int (nI q)), some (.int (nI r)), some (.int (nI (a + 1)))]) rfl (na (a := a) (b := 1) rfl rfl) rfl ?_
          refine zw_n 1 rfl ?_
          exact ih9 (a + 1) Rz4702 Mz4708 (Sm.tw s_9 hSz4705 (by simp)) hBz4704 (Sm.at hSz4705 (by simp <;> omega) f9_1) (Sm.at hSz4705 (by simp <;> omega) f9_2) (Sm.at hSz4705 (by simp <;> omega) f9_3) (Sm.at hSz4705 (by simp <;> omega) f9_4) (by
            rcases Nat.lt_or_ge a (tA (gE al_ it tg pt bd sg co) n r i j d) with q9 | q9
            · omega
            · exfalso
              have e9 : a = tA (gE al_ it tg pt bd sg co) n r i j d := by omega
              rw [← e9] at ht2
              exact ite_eq0 c35 ht2) (by omega)
        · -- 35 to 38
          have haC : tC (gE al_ it tg pt bd sg co) n (r * 4 + a) j d (it (r * 4 + a)) i = true := ite_ne c35
          have haE : tA (gE al_ it tg pt bd sg co) n r i j d = a := by
            rcases Nat.lt_or_ge a (tA (gE al_ it tg pt bd sg co) n r i j d) with q9 | q9
            · have h9 := ht3 a q9
              rw [show tC (gE al_ it tg pt bd sg co) n (r * 4 + a) j d (gE al_ it tg pt bd sg co 1 (r * 4 + a)) i = true from haC] at h9; cases h9
            · omega
          refine zw_n 1 rfl ?_
          refine zw_get (v := .ref (k + 4)) rfl (Sm.at hSz4705 (by simp <;> omega) f9_1) rfl ?_
          refine zw_n 3 rfl ?_
          refine zw_top (nm (a := q) (b := 8) rfl rfl) ?_
          refine zw_n 2 rfl ?_
          refine zw_top (na (a := q * 8) (b := 1) rfl rfl) ?_
          refine zw_n 1 rfl ?_
          refine zw_iastN (g := T) (j := ((q * 8) + 1)) (v := a) rfl (Sm.at hSz4705 (by simp <;> omega) f9_2) rfl (by decide) (by omega) (rfl) ?_
          generalize ez4711 : List.set Mz4708 (k + 4) _ = Mz4710
          refine zw_n 5 rfl ?_
          refine zw_top (nm (a := r) (b := 4) rfl rfl) ?_
          refine zw_n 2 rfl ?_
          refine zw_top (na (a := r * 4) (b := a) rfl rfl) ?_
          refine zw_callV (as := [.int (nI q), .int (nI ((r * 4) + a))]) (rest := []) rfl rfl rfl (zat_set ez4711 (by omega) (Sm.at hSz4705 (by simp <;> omega) f9_1)) rfl rfl rfl (by decide) (c_awaitItems Mz4710 k kr kt s W R n em gn al_ it pt tg bd fr af fb c sg li co (seg3 (zat_set ez4711 (by omega) (Sm.at hSz4705 (by simp <;> omega) (Sm.at s_9 (by simp <;> omega) (hC.get 0 rfl)))) (zat_set ez4711 (by omega) (Sm.at hSz4705 (by simp <;> omega) (Sm.at s_9 (by simp <;> omega) (hC.get 1 rfl)))) (zat_set ez4711 (by omega) (Sm.at hSz4705 (by simp <;> omega) (Sm.at s_9 (by simp <;> omega) (hC.get 2 rfl))))) (seg10 (zat_set ez4711 (by omega) (Sm.at hSz4705 (by simp <;> omega) (Sm.at s_9 (by simp <;> omega) (hR.get 0 rfl)))) (zat_set ez4711 (by omega) (Sm.at hSz4705 (by simp <;> omega) (Sm.at s_9 (by simp <;> omega) (hR.get 1 rfl)))) (zat_set ez4711 (by omega) (Sm.at hSz4705 (by simp <;> omega) (Sm.at s_9 (by simp <;> omega) (hR.get 2 rfl)))) (zat_set ez4711 (by omega) (Sm.at hSz4705 (by simp <;> omega) (Sm.at s_9 (by simp <;> omega) (hR.get 3 rfl)))) (zat_set ez4711 (by omega) (Sm.at hSz4705 (by simp <;> omega) (Sm.at s_9 (by simp <;> omega) (hR.get 4 rfl)))) (zat_set ez4711 (by omega) (Sm.at hSz4705 (by simp <;> omega) (Sm.at s_9 (by simp <;> omega) (hR.get 5 rfl)))) (zat_set ez4711 (by omega) (Sm.at hSz4705 (by simp <;> omega) (Sm.at s_9 (by simp <;> omega) (hR.get 6 rfl)))) (zat_set ez4711 (by omega) (Sm.at hSz4705 (by simp <;> omega) (Sm.at s_9 (by simp <;> omega) (hR.get 7 rfl)))) (zat_set ez4711 (by omega) (Sm.at hSz4705 (by simp <;> omega) (Sm.at s_9 (by simp <;> omega) (hR.get 8 rfl)))) (zat_set ez4711 (by omega) (Sm.at hSz4705 (by simp <;> omega) (Sm.at s_9 (by simp <;> omega) (hR.get 9 rfl))))) (seg4 (zat_set ez4711 (by omega) (Sm.at hSz4705 (by simp <;> omega) (Sm.at s_9 (by simp <;> omega) (hT.get 0 rfl)))) (zat_set ez4711 (by omega) (Sm.at hSz4705 (by simp <;> omega) (Sm.at s_9 (by simp <;> omega) (hT.get 1 rfl)))) (zat_set ez4711 (by omega) (Sm.at hSz4705 (by simp <;> omega) (Sm.at s_9 (by simp <;> omega) (hT.get 2 rfl)))) (zat_set ez4711 (by omega) (Sm.at hSz4705 (by simp <;> omega) (Sm.at s_9 (by simp <;> omega) (hT.get 3 rfl))))) hG hS (by assumption) (by assumption) sz wt (up T ((q * 8) + 1) a) V Rz4702 En Su (seg6 (zat_set ez4711 (by omega) (Sm.at hSz4705 (by simp <;> omega) f9_1)) (zat_self ez4711 (Sm.at hSz4705 (by simp <;> omega) f9_2)) (zat_set ez4711 (by omega) (Sm.at hSz4705 (by simp <;> omega) f9_3)) (zat_set ez4711 (by omega) hBz4704) (zat_set ez4711 (by omega) (Sm.at hSz4705 (by simp <;> omega) f9_4)) (zat_set ez4711 (by omega) (Sm.at hSz4705 (by simp <;> omega) (Sm.at s_9 (by simp <;> omega) (hZ.get 5 rfl))))) hk emp rk hA q r a i j d lv s0 s9 (by omega) hr (by omega) hij2 hjc hd hlv ((up_n (by omega)).trans hf2) ((up_n (by omega)).trans hf3) ((up_n (by omega)).trans hf4) ((up_n (by omega)).trans hf6) hCh hRz4706 haC hwt hV (haE ▸ hO)) (fun rz4722 Mz4723 hz4724 => ?_)
          obtain ⟨hAz4712, wtz4713, Vz4714, Ez4715, h3z4716, h5z4717, h7z4718, hSz4719, hwz4720, hVz4721⟩ := hz4724
          rw [hAz4712]
          show Zw 4 zm_Tree_openNode 60 [some (.ref (k + 3)), some (.int (nI q)), some (.int (nI r)), some (.int (nI a))] [] Mz4723 _
          exact zw_vret rfl rfl (⟨rfl, wtz4713, Vz4714, Rz4702, Ez4715, (haE.symm ▸ seg6 h3z4716 (Sm.at hSz4719 (by simp <;> omega) (zat_self ez4711 (Sm.at hSz4705 (by simp <;> omega) f9_2))) h5z4717 (Sm.at hSz4719 (by simp <;> omega) (zat_set ez4711 (by omega) hBz4704)) h7z4718 (Sm.at hSz4719 (by simp <;> omega) (zat_set ez4711 (by omega) (Sm.at hSz4705 (by simp <;> omega) (Sm.at s_9 (by simp <;> omega) (hZ.get 5 rfl)))))), Sm.tw (Sm.tset (Sm.tw s_9 hSz4705 (by simp)) ez4711 (by simp)) hSz4719 (by simp), hwz4720, hVz4721⟩)
  exact lp9 _ 0 Rc Mq Sm.rf (hZ.get 3 rfl) (hZ.get 0 rfl) (hZ.get 1 rfl) (hZ.get 2 rfl) (hZ.get 4 rfl) (Nat.zero_le _) (Nat.lt_succ_self _)
