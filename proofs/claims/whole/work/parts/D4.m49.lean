set_option maxHeartbeats 4000000 in
set_option maxRecDepth 100000 in
theorem c_build (Mq : zM) (k kr kt s : Nat) (W R : Nat → Nat) (n em : Nat) (gn al_ it pt tg bd fr af fb : Nat → Nat) (c : Nat) (sg li co : Nat → Nat) (hC : Seg Mq k (chtL k kr kt s W R)) (hR : Seg Mq kr (rulL kr (n, gn, al_, it, pt, tg, bd, em, fr, af, fb))) (hT : Seg Mq kt (tokL kt (c, sg, li, co))) (hG : SafeG n gn al_ it pt tg bd) (hS : SafeT c sg li co) (hW : SafeM W) (hQ : SafeM R) (sz wt : Nat) (T V Rc En Su : Nat → Nat) (hZ : Seg Mq (k + 3) (treL k sz wt T V Rc En Su)) (hk : kr + 9 < k ∧ kt + 3 < k) (emp : Nat → Prop) (rk : Nat → Nat) (hA : Acyc (gE al_ it tg pt bd sg co) n emp rk) (hCh : ChS (gE al_ it tg pt bd sg co) n c W) (h0 : 0 < n ∧ wh (gE al_ it tg pt bd sg co) n 0 0 c ≠ 0) : Zm 5 zm_Tree_build [.ref (k + 3)] Mq (fun r9 M1 => r9 = none ∧ ∃ sz9 wt9 T9 V9 R9 E9, Seg M1 (k + 3) (treL k sz9 wt9 T9 V9 R9 E9 Su) ∧ Sm Mq M1 [k + 3, k + 4, k + 5, k + 6, k + 7] ∧ TrS (gE al_ it tg pt bd sg co) n c sz9 T9) := by
  show Zw 5 zm_Tree_build 0 [some (.ref (k + 3)), none] [] Mq _
  have hn8 := hG.1
  have hc20 := hS.1
  refine zw_n 2 rfl ?_
  refine zw_put rfl (hZ.get 0 rfl) (rfl) (Nat.le_of_ble_eq_true rfl) ?_
  generalize ez4726 : List.set Mq (k + 3) _ = Mz4725
  refine zw_n 2 rfl ?_
  refine zw_put rfl (zat_self ez4726 (hZ.get 0 rfl)) (rfl) (Nat.le_of_ble_eq_true rfl) ?_
  generalize ez4728 : List.set Mz4725 (k + 3) _ = Mz4727
  refine zw_n 1 rfl ?_
  refine zw_get (v := .ref k) rfl (zat_self ez4728 (zat_self ez4726 (hZ.get 0 rfl))) rfl ?_
  refine zw_get (v := .ref kt) rfl (zat_set ez4728 (by omega) (zat_set ez4726 (by omega) (hC.get 0 rfl))) rfl ?_
  refine zw_get (v := .int (nI c)) rfl (zat_set ez4728 (by omega) (zat_set ez4726 (by omega) (hT.get 0 rfl))) rfl ?_
  refine zw_n 2 (ls' := [some (.ref (k + 3)), some (.int (nI c))]) rfl ?_
  refine zw_le0N (a := c) rfl rfl (by omega) (fun c22 => ?_) (fun c22 => ?_)
  · -- 22 to 47
    have mz4729 : Mz4727[k]? = some (.inr (0, [.ref kr, .ref kt, .int (nI s), .ref (k + 1), .ref (k + 2)])) := zat_set ez4728 (by omega) (zat_set ez4726 (by omega) (hC.get 0 rfl))
    have mz4730 : Mz4727[k + 1]? = some (.inl (1, 3528, .inr (.inl (al W)))) := zat_set ez4728 (by omega) (zat_set ez4726 (by omega) (hC.get 1 rfl))
    have mz4731 : Mz4727[k + 2]? = some (.inl (1, 3360, .inr (.inl (al R)))) := zat_set ez4728 (by omega) (zat_set ez4726 (by omega) (hC.get 2 rfl))
    have mz4732 : Mz4727[kr]? = some (.inr (8, [.int (nI n), .ref (kr + 1), .ref (kr + 2), .ref (kr + 3), .ref (kr + 4), .ref (kr + 5), .ref (kr + 6), .int (nI em), .ref (kr + 7), .ref (kr + 8), .ref (kr + 9)])) := zat_set ez4728 (by omega) (zat_set ez4726 (by omega) (hR.get 0 rfl))
    have mz4733 : Mz4727[kr + 1]? = some (.inl (0, 8, .inl (ai gn))) := zat_set ez4728 (by omega) (zat_set ez4726 (by omega) (hR.get 1 rfl))
    have mz4734 : Mz4727[kr + 2]? = some (.inl (0, 8, .inl (ai al_))) := zat_set ez4728 (by omega) (zat_set ez4726 (by omega) (hR.get 2 rfl))
    have mz4735 : Mz4727[kr + 3]? = some (.inl (0, 32, .inl (ai it))) := zat_set ez4728 (by omega) (zat_set ez4726 (by omega) (hR.get 3 rfl))
    have mz4736 : Mz4727[kr + 4]? = some (.inl (0, 160, .inl (ai pt))) := zat_set ez4728 (by omega) (zat_set ez4726 (by omega) (hR.get 4 rfl))
    have mz4737 : Mz4727[kr + 5]? = some (.inl (0, 160, .inl (ai tg))) := zat_set ez4728 (by omega) (zat_set ez4726 (by omega) (hR.get 5 rfl))
    have mz4738 : Mz4727[kr + 6]? = some (.inl (0, 160, .inl (ai bd))) := zat_set ez4728 (by omega) (zat_set ez4726 (by omega) (hR.get 6 rfl))
    have mz4739 : Mz4727[kr + 7]? = some (.inl (1, 8, .inr (.inl (al fr)))) := zat_set ez4728 (by omega) (zat_set ez4726 (by omega) (hR.get 7 rfl))
    have mz4740 : Mz4727[kr + 8]? = some (.inl (1, 32, .inr (.inl (al af)))) := zat_set ez4728 (by omega) (zat_set ez4726 (by omega) (hR.get 8 rfl))
    have mz4741 : Mz4727[kr + 9]? = some (.inl (1, 160, .inr (.inl (al fb)))) := zat_set ez4728 (by omega) (zat_set ez4726 (by omega) (hR.get 9 rfl))
    have mz4742 : Mz4727[kt]? = some (.inr (9, [.int (nI c), .ref (kt + 1), .ref (kt + 2), .ref (kt + 3)])) := zat_set ez4728 (by omega) (zat_set ez4726 (by omega) (hT.get 0 rfl))
    have mz4743 : Mz4727[kt + 1]? = some (.inl (0, 20, .inl (ai sg))) := zat_set ez4728 (by omega) (zat_set ez4726 (by omega) (hT.get 1 rfl))
    have mz4744 : Mz4727[kt + 2]? = some (.inl (0, 20, .inl (ai li))) := zat_set ez4728 (by omega) (zat_set ez4726 (by omega) (hT.get 2 rfl))
    have mz4745 : Mz4727[kt + 3]? = some (.inl (0, 20, .inl (ai co))) := zat_set ez4728 (by omega) (zat_set ez4726 (by omega) (hT.get 3 rfl))
    have mz4746 : Mz4727[k + 4]? = some (.inl (0, 2560, .inl (ai T))) := zat_set ez4728 (by omega) (zat_set ez4726 (by omega) (hZ.get 1 rfl))
    have mz4747 : Mz4727[k + 5]? = some (.inl (0, 2560, .inl (ai V))) := zat_set ez4728 (by omega) (zat_set ez4726 (by omega) (hZ.get 2 rfl))
    have mz4748 : Mz4727[k + 6]? = some (.inl (0, 6, .inl (ai Rc))) := zat_set ez4728 (by omega) (zat_set ez4726 (by omega) (hZ.get 3 rfl))
    have mz4749 : Mz4727[k + 7]? = some (.inl (0, 6, .inl (ai En))) := zat_set ez4728 (by omega) (zat_set ez4726 (by omega) (hZ.get 4 rfl))
    have mz4750 : Mz4727[k + 8]? = some (.inl (0, 21, .inl (ai Su))) := zat_set ez4728 (by omega) (zat_set ez4726 (by omega) (hZ.get 5 rfl))
    have lp47 : ∀ (n47 : Nat) (x : Nat) (wt1 : Nat) (T1 : Nat → Nat) (V1 : Nat → Nat) (R1 : Nat → Nat) (E1 : Nat → Nat) (M_47 : zM), Sm Mq M_47 [k + 3, k + 4, k + 5, k + 6, k + 7] → M_47[k + 3]? = some (.inr (10, [.int (nI x), .ref (k + 4), .ref (k + 5), .int (nI wt1), .ref (k + 6), .ref (k + 7), .ref (k + 8), .ref k])) → M_47[k + 4]? = some (.inl (0, 2560, .inl (ai T1))) → M_47[k + 5]? = some (.inl (0, 2560, .inl (ai V1))) → M_47[k + 6]? = some (.inl (0, 6, .inl (ai R1))) → M_47[k + 7]? = some (.inl (0, 6, .inl (ai E1))) → ((∀ q, q < x → (tI (gE al_ it tg pt bd sg co) n c q).2.1 ≠ 0) ∧ wt1 = (tI (gE al_ it tg pt bd sg co) n c x).2.1 ∧ WtV V1 (tI (gE al_ it tg pt bd sg co) n c x).2 ∧ TtV T1 x (tI (gE al_ it tg pt bd sg co) n c x).1) → 400 - x < n47 → Zw 5 zm_Tree_build 47 [some (.ref (k + 3)), some (.int (nI c))] [] M_47 (fun r9 M1 => r9 = none ∧ ∃ sz9 wt9 T9 V9 R9 E9, Seg M1 (k + 3) (treL k sz9 wt9 T9 V9 R9 E9 Su) ∧ Sm Mq M1 [k + 3, k + 4, k + 5, k + 6, k + 7] ∧ TrS (gE al_ it tg pt bd sg co) n c sz9 T9) := by
      intro n47
      induction n47 with
      | zero => intro x wt1 T1 V1 R1 E1 M_47 _ _ _ _ _ _ _ h; exact absurd h (Nat.not_lt_zero _)
      | succ n47 ih47 =>
        intro x wt1 T1 V1 R1 E1 M_47 s_47 f47_0 f47_1 f47_2 f47_3 f47_4 hi47 hm47
        have hR9 := tR.run hA hn8 hG.2.2.1 hS.2.2.2 hG.2.2.2.2.2.2 hc20 (fun _ => h0) x hi47.1
        have hsm9 := hR9.sum
        have hge9 := @tSum_ge n rk (tI (gE al_ it tg pt bd sg co) n c x).2
        refine zw_n 1 rfl ?_
        refine zw_get (v := .int (nI wt1)) rfl f47_0 rfl ?_
        refine zw_le0N (a := wt1) rfl rfl (by omega) (fun c51 => ?_) (fun c51 => ?_)
        · -- 51 to 124
          exact zw_vret rfl rfl (⟨rfl, x, wt1, T1, V1, R1, E1, seg6 f47_0 f47_1 f47_2 f47_3 f47_4 (Sm.at s_47 (by simp <;> omega) (hZ.get 5 rfl)), s_47, TrS.of hi47.1 (by omega) hi47.2.2.2⟩)
        · -- 51 to 54
          refine zw_n 1 rfl ?_
          refine zw_get (v := .int (nI x)) rfl f47_0 rfl ?_
          refine zw_n 1 rfl ?_
          refine zw_igeN (a := x) (b := 320) rfl rfl rfl (by omega) (by omega) (fun c61 => ?_) (fun c61 => ?_)
          · -- 61 to 124
            exfalso
            omega
          · -- 61 to 64
            refine zw_n 2 rfl ?_
            refine zw_get (v := .int (nI wt1)) rfl f47_0 rfl ?_
            refine zw_n 2 rfl ?_
            refine zw_top (ns (a := wt1) (b := 1) rfl rfl (by omega)) ?_
            refine zw_put rfl f47_0 (rfl) (Nat.le_of_ble_eq_true rfl) ?_
            generalize ez4752 : List.set M_47 (k + 3) _ = Mz4751
            have hop := hR9.open_ hA hG.2.2.1 (show c < 4294967295 by omega) (show (tI (gE al_ it tg pt bd sg co) n c x).2.1 ≠ 0 by omega)
            obtain ⟨u9, hu9⟩ : ∃ u9, u9 = (tI (gE al_ it tg pt bd sg co) n c x).2.2 ((tI (gE al_ it tg pt bd sg co) n c x).2.1 - 1) := ⟨_, rfl⟩
            rw [← hu9] at hop
            have hv9 := hop.1
            have hO9 := hop.2
            have hcp : ∀ w, w < 8 → w ≠ 1 → z_cp V1 T1 ((wt1 - 1) * 8) (x * 8) 8 2560 (x * 8 + w) = u9 w := fun w h1 h2 => by
              rw [hu9, ← hi47.2.1]
              exact cp_row hi47.2.2.1 (by omega) (by omega) h1 h2
            refine zw_n 1 rfl ?_
            refine zw_get (v := .ref (k + 5)) rfl (zat_self ez4752 f47_0) rfl ?_
            refine zw_n 1 rfl ?_
            refine zw_get (v := .int (nI (wt1 - 1))) rfl (zat_self ez4752 f47_0) rfl ?_
            refine zw_n 2 rfl ?_
            refine zw_top (nm (a := wt1 - 1) (b := 8) rfl rfl) ?_
            refine zw_n 1 rfl ?_
            refine zw_get (v := .ref (k + 4)) rfl (zat_self ez4752 f47_0) rfl ?_
            refine zw_n 1 rfl ?_
            refine zw_get (v := .int (nI x)) rfl (zat_self ez4752 f47_0) rfl ?_
            refine zw_n 2 rfl ?_
            refine zw_top (nm (a := x) (b := 8) rfl rfl) ?_
            refine zw_n 1 rfl ?_
            refine zw_cpyi (n := 8) (sp := ((wt1 - 1) * 8)) (dp := (x * 8)) rfl (by decide) (zat_set ez4752 (by omega) f47_2) (zat_set ez4752 (by omega) f47_1) rfl rfl rfl (by omega) (by omega) rfl ?_
            rw [ai_cp]
            generalize ez4754 : List.set Mz4751 (k + 4) _ = Mz4753
            refine zw_n 2 rfl ?_
            refine zw_get (v := .int (nI x)) rfl (zat_set ez4754 (by omega) (zat_self ez4752 f47_0)) rfl ?_
            refine zw_n 2 rfl ?_
            refine zw_top (na (a := x) (b := 1) rfl rfl) ?_
            refine zw_put rfl (zat_set ez4754 (by omega) (zat_self ez4752 f47_0)) (rfl) (Nat.le_of_ble_eq_true rfl) ?_
            generalize ez4756 : List.set Mz4753 (k + 3) _ = Mz4755
            refine zw_n 2 rfl ?_
            refine zw_get (v := .int (nI (x + 1))) rfl (zat_self ez4756 (zat_set ez4754 (by omega) (zat_self ez4752 f47_0))) rfl ?_
            refine zw_n 2 rfl ?_
            refine zw_top (ns (a := x + 1) (b := 1) rfl rfl (by omega)) ?_
            refine zw_top (x' := (nI x)) (congrArg nI (by omega)) ?_
            refine zw_callV (as := [.int (nI x)]) (rest := []) rfl rfl rfl (zat_self ez4756 (zat_set ez4754 (by omega) (zat_self ez4752 f47_0))) rfl rfl rfl (by decide) (c_openNode Mz4755 k kr kt s W R n em gn al_ it pt tg bd fr af fb c sg li co (seg3 (zat_set ez4756 (by omega) (zat_set ez4754 (by omega) (zat_set ez4752 (by omega) (Sm.at s_47 (by simp <;> omega) (hC.get 0 rfl))))) (zat_set ez4756 (by omega) (zat_set ez4754 (by omega) (zat_set ez4752 (by omega) (Sm.at s_47 (by simp <;> omega) (hC.get 1 rfl))))) (zat_set ez4756 (by omega) (zat_set ez4754 (by omega) (zat_set ez4752 (by omega) (Sm.at s_47 (by simp <;> omega) (hC.get 2 rfl)))))) (seg10 (zat_set ez4756 (by omega) (zat_set ez4754 (by omega) (zat_set ez4752 (by omega) (Sm.at s_47 (by simp <;> omega) (hR.get 0 rfl))))) (zat_set ez4756 (by omega) (zat_set ez4754 (by omega) (zat_set ez4752 (by omega) (Sm.at s_47 (by simp <;> omega) (hR.get 1 rfl))))) (zat_set ez4756 (by omega) (zat_set ez4754 (by omega) (zat_set ez4752 (by omega) (Sm.at s_47 (by simp <;> omega) (hR.get 2 rfl))))) (zat_set ez4756 (by omega) (zat_set ez4754 (by omega) (zat_set ez4752 (by omega) (Sm.at s_47 (by simp <;> omega) (hR.get 3 rfl))))) (zat_set ez4756 (by omega) (zat_set ez4754 (by omega) (zat_set ez4752 (by omega) (Sm.at s_47 (by simp <;> omega) (hR.get 4 rfl))))) (zat_set ez4756 (by omega) (zat_set ez4754 (by omega) (zat_set ez4752 (by omega) (Sm.at s_47 (by simp <;> omega) (hR.get 5 rfl))))) (zat_set ez4756 (by omega) (zat_set ez4754 (by omega) (zat_set ez4752 (by omega) (Sm.at s_47 (by simp <;> omega) (hR.get 6 rfl))))) (zat_set ez4756 (by omega) (zat_set ez4754 (by omega) (zat_set ez4752 (by omega) (Sm.at s_47 (by simp <;> omega) (hR.get 7 rfl))))) (zat_set ez4756 (by omega) (zat_set ez4754 (by omega) (zat_set ez4752 (by omega) (Sm.at s_47 (by simp <;> omega) (hR.get 8 rfl))))) (zat_set ez4756 (by omega) (zat_set ez4754 (by omega) (zat_set ez4752 (by omega) (Sm.at s_47 (by simp <;> omega) (hR.get 9 rfl)))))) (seg4 (zat_set ez4756 (by omega) (zat_set ez4754 (by omega) (zat_set ez4752 (by omega) (Sm.at s_47 (by simp <;> omega) (hT.get 0 rfl))))) (zat_set ez4756 (by omega) (zat_set ez4754 (by omega) (zat_set ez4752 (by omega) (Sm.at s_47 (by simp <;> omega) (hT.get 1 rfl))))) (zat_set ez4756 (by omega) (zat_set ez4754 (by omega) (zat_set ez4752 (by omega) (Sm.at s_47 (by simp <;> omega) (hT.get 2 rfl))))) (zat_set ez4756 (by omega) (zat_set ez4754 (by omega) (zat_set ez4752 (by omega) (Sm.at s_47 (by simp <;> omega) (hT.get 3 rfl)))))) hG hS (by assumption) (by assumption) (x + 1) (wt1 - 1) (z_cp V1 T1 ((wt1 - 1) * 8) (x * 8) 8 2560) V1 R1 E1 Su (seg6 (zat_self ez4756 (zat_set ez4754 (by omega) (zat_self ez4752 f47_0))) (zat_set ez4756 (by omega) (zat_self ez4754 (zat_set ez4752 (by omega) f47_1))) (zat_set ez4756 (by omega) (zat_set ez4754 (by omega) (zat_set ez4752 (by omega) f47_2))) (zat_set ez4756 (by omega) (zat_set ez4754 (by omega) (zat_set ez4752 (by omega) f47_3))) (zat_set ez4756 (by omega) (zat_set ez4754 (by omega) (zat_set ez4752 (by omega) f47_4))) (zat_set ez4756 (by omega) (zat_set ez4754 (by omega) (zat_set ez4752 (by omega) (Sm.at s_47 (by simp <;> omega) (hZ.get 5 rfl)))))) hk emp rk hA x (u9 0) (u9 2) (u9 3) (u9 4) (u9 6) ((tI (gE al_ it tg pt bd sg co) n c x).2.1 - 1, (tI (gE al_ it tg pt bd sg co) n c x).2.2) (tI (gE al_ it tg pt bd sg co) n c (x + 1)).2 (by omega) hv9.ok.1 hv9.ok.2.1 hv9.ok.2.2.1 hv9.ok.2.2.2.1 hv9.lv hv9.ok.2.2.2.2 (hcp 0 (by decide) (by decide)) (hcp 2 (by decide) (by decide)) (hcp 3 (by decide) (by decide)) (hcp 4 (by decide) (by decide)) (hcp 6 (by decide) (by decide)) hCh (by rw [hi47.2.1]) hi47.2.2.1.pop hO9) (fun rz4766 Mz4767 hz4768 => ?_)
            obtain ⟨hAz4757, wtz4758, Vz4759, Rz4760, Ez4761, hZz4762, hSz4763, hwz4764, hVz4765⟩ := hz4768
            rw [hAz4757]
            show Zw 5 zm_Tree_build 121 [some (.ref (k + 3)), some (.int (nI c))] [] Mz4767 _
            refine zw_n 1 rfl ?_
            exact ih47 (x + 1) wtz4758 (up (z_cp V1 T1 ((wt1 - 1) * 8) (x * 8) 8 2560) (x * 8 + 1) (tA (gE al_ it tg pt bd sg co) n (u9 0) (u9 2) (u9 3) (u9 4))) Vz4759 Rz4760 Ez4761 Mz4767 (Sm.trans (Sm.tset (Sm.tset (Sm.tset s_47 ez4752 (by simp)) ez4754 (by simp)) ez4756 (by simp)) hSz4763) (hZz4762.get 0 rfl) (hZz4762.get 1 rfl) (hZz4762.get 2 rfl) (hZz4762.get 3 rfl) (hZz4762.get 4 rfl) (⟨fun q9 h9 => by
              by_cases e9 : q9 = x
              · rw [e9, ← hi47.2.1]; omega
              · exact hi47.1 q9 (by omega), hwz4764, hVz4765, TtV.take (E := (gE al_ it tg pt bd sg co)) (n := n) (a := tA (gE al_ it tg pt bd sg co) n (u9 0) (u9 2) (u9 3) (u9 4)) hi47.2.2.2 hi47.2.2.1 (by omega) (by omega) (by rw [hu9]) (by rw [hi47.2.1])⟩) (by omega)
    exact lp47 _ 0 0 T V Rc En Mz4727 (Sm.tset (Sm.tset Sm.rf ez4726 (by simp)) ez4728 (by simp)) (zat_self ez4728 (zat_self ez4726 (hZ.get 0 rfl))) mz4746 mz4747 mz4748 mz4749 (⟨fun q9 h9 => by omega, (if_neg (by omega)).symm, fun w f h9 => absurd (show w < (if 0 < c then 1 else 0) from h9) (by rw [if_neg (by omega)]; omega), fun q9 f h9 => by omega⟩) (Nat.lt_succ_self _)
  · -- 22 to 25
    have hw0 : w3 W 0 0 c = wh (gE al_ it tg pt bd sg co) n 0 0 c := hCh 0 0 c h0.1 (Nat.zero_le _) (Nat.le_refl _)
    refine zw_n 5 rfl ?_
    refine zw_get (v := .ref k) rfl (zat_self ez4728 (zat_self ez4726 (hZ.get 0 rfl))) rfl ?_
    refine zw_n 3 rfl ?_
    refine zw_callV (as := [.int 0, .int 0, .int (nI c)]) (rest := [.int (nI c), .int 0, .int 0, .ref (k + 3)]) rfl rfl rfl (zat_set ez4728 (by omega) (zat_set ez4726 (by omega) (hC.get 0 rfl))) rfl rfl rfl (by decide) (c_columnsOver Mz4727 k kr kt s W R n em gn al_ it pt tg bd fr af fb c sg li co (seg3 (zat_set ez4728 (by omega) (zat_set ez4726 (by omega) (hC.get 0 rfl))) (zat_set ez4728 (by omega) (zat_set ez4726 (by omega) (hC.get 1 rfl))) (zat_set ez4728 (by omega) (zat_set ez4726 (by omega) (hC.get 2 rfl)))) (seg10 (zat_set ez4728 (by omega) (zat_set ez4726 (by omega) (hR.get 0 rfl))) (zat_set ez4728 (by omega) (zat_set ez4726 (by omega) (hR.get 1 rfl))) (zat_set ez4728 (by omega) (zat_set ez4726 (by omega) (hR.get 2 rfl))) (zat_set ez4728 (by omega) (zat_set ez4726 (by omega) (hR.get 3 rfl))) (zat_set ez4728 (by omega) (zat_set ez4726 (by omega) (hR.get 4 rfl))) (zat_set ez4728 (by omega) (zat_set ez4726 (by omega) (hR.get 5 rfl))) (zat_set ez4728 (by omega) (zat_set ez4726 (by omega) (hR.get 6 rfl))) (zat_set ez4728 (by omega) (zat_set ez4726 (by omega) (hR.get 7 rfl))) (zat_set ez4728 (by omega) (zat_set ez4726 (by omega) (hR.get 8 rfl))) (zat_set ez4728 (by omega) (zat_set ez4726 (by omega) (hR.get 9 rfl)))) (seg4 (zat_set ez4728 (by omega) (zat_set ez4726 (by omega) (hT.get 0 rfl))) (zat_set ez4728 (by omega) (zat_set ez4726 (by omega) (hT.get 1 rfl))) (zat_set ez4728 (by omega) (zat_set ez4726 (by omega) (hT.get 2 rfl))) (zat_set ez4728 (by omega) (zat_set ez4726 (by omega) (hT.get 3 rfl)))) hG hS (by assumption) (by assumption) 0 0 c (by omega) (by omega) (by omega)) (fun rz4769 Mz4770 hz4771 => ?_)
    rw [hz4771.1, hz4771.2]
    show Zw 5 zm_Tree_build 39 [some (.ref (k + 3)), some (.int (nI c))] [.long (lN (w3 W 0 0 c)), .int (nI c), .int 0, .int 0, .ref (k + 3)] Mz4727 _
    refine zw_callS (as := [.long (lN (w3 W 0 0 c))]) (rest := [.int (nI c), .int 0, .int 0, .ref (k + 3)]) rfl rfl rfl rfl rfl rfl (by decide) (c_leastOf _ _ (by rw [hw0]; exact h0.2) (hW _)) (fun rz4772 Mz4773 hz4774 => ?_)
    rw [hz4774.1, hz4774.2]
    show Zw 5 zm_Tree_build 42 [some (.ref (k + 3)), some (.int (nI c))] [.int (nI (lsb (w3 W 0 0 c))), .int (nI c), .int 0, .int 0, .ref (k + 3)] Mz4727 _
    refine zw_n 2 rfl ?_
    refine zw_callV (as := [.int 0, .int 0, .int (nI c), .int (nI (lsb (w3 W 0 0 c))), .int (-1), .int 0]) (rest := []) rfl rfl rfl (zat_self ez4728 (zat_self ez4726 (hZ.get 0 rfl))) rfl rfl rfl (by decide) (c_await0 Mz4727 k 0 0 T V Rc En Su (seg6 (zat_self ez4728 (zat_self ez4726 (hZ.get 0 rfl))) (zat_set ez4728 (by omega) (zat_set ez4726 (by omega) (hZ.get 1 rfl))) (zat_set ez4728 (by omega) (zat_set ez4726 (by omega) (hZ.get 2 rfl))) (zat_set ez4728 (by omega) (zat_set ez4726 (by omega) (hZ.get 3 rfl))) (zat_set ez4728 (by omega) (zat_set ez4726 (by omega) (hZ.get 4 rfl))) (zat_set ez4728 (by omega) (zat_set ez4726 (by omega) (hZ.get 5 rfl)))) (by omega) c (lsb (w3 W 0 0 c))) (fun rz4779 Mz4780 hz4781 => ?_)
    obtain ⟨hAz4775, hBz4776, hCz4777, hSz4778⟩ := hz4781
    rw [hAz4775]
    show Zw 5 zm_Tree_build 47 [some (.ref (k + 3)), some (.int (nI c))] [] Mz4780 _
    have mz4782 : Mz4780[k]? = some (.inr (0, [.ref kr, .ref kt, .int (nI s), .ref (k + 1), .ref (k + 2)])) := Sm.at hSz4778 (by simp <;> omega) (zat_set ez4728 (by omega) (zat_set ez4726 (by omega) (hC.get 0 rfl)))
    have mz4783 : Mz4780[k + 1]? = some (.inl (1, 3528, .inr (.inl (al W)))) := Sm.at hSz4778 (by simp <;> omega) (zat_set ez4728 (by omega) (zat_set ez4726 (by omega) (hC.get 1 rfl)))
    have mz4784 : Mz4780[k + 2]? = some (.inl (1, 3360, .inr (.inl (al R)))) := Sm.at hSz4778 (by simp <;> omega) (zat_set ez4728 (by omega) (zat_set ez4726 (by omega) (hC.get 2 rfl)))
    have mz4785 : Mz4780[kr]? = some (.inr (8, [.int (nI n), .ref (kr + 1), .ref (kr + 2), .ref (kr + 3), .ref (kr + 4), .ref (kr + 5), .ref (kr + 6), .int (nI em), .ref (kr + 7), .ref (kr + 8), .ref (kr + 9)])) := Sm.at hSz4778 (by simp <;> omega) (zat_set ez4728 (by omega) (zat_set ez4726 (by omega) (hR.get 0 rfl)))
    have mz4786 : Mz4780[kr + 1]? = some (.inl (0, 8, .inl (ai gn))) := Sm.at hSz4778 (by simp <;> omega) (zat_set ez4728 (by omega) (zat_set ez4726 (by omega) (hR.get 1 rfl)))
    have mz4787 : Mz4780[kr + 2]? = some (.inl (0, 8, .inl (ai al_))) := Sm.at hSz4778 (by simp <;> omega) (zat_set ez4728 (by omega) (zat_set ez4726 (by omega) (hR.get 2 rfl)))
    have mz4788 : Mz4780[kr + 3]? = some (.inl (0, 32, .inl (ai it))) := Sm.at hSz4778 (by simp <;> omega) (zat_set ez4728 (by omega) (zat_set ez4726 (by omega) (hR.get 3 rfl)))
    have mz4789 : Mz4780[kr + 4]? = some (.inl (0, 160, .inl (ai pt))) := Sm.at hSz4778 (by simp <;> omega) (zat_set ez4728 (by omega) (zat_set ez4726 (by omega) (hR.get 4 rfl)))
    have mz4790 : Mz4780[kr + 5]? = some (.inl (0, 160, .inl (ai tg))) := Sm.at hSz4778 (by simp <;> omega) (zat_set ez4728 (by omega) (zat_set ez4726 (by omega) (hR.get 5 rfl)))
    have mz4791 : Mz4780[kr + 6]? = some (.inl (0, 160, .inl (ai bd))) := Sm.at hSz4778 (by simp <;> omega) (zat_set ez4728 (by omega) (zat_set ez4726 (by omega) (hR.get 6 rfl)))
    have mz4792 : Mz4780[kr + 7]? = some (.inl (1, 8, .inr (.inl (al fr)))) := Sm.at hSz4778 (by simp <;> omega) (zat_set ez4728 (by omega) (zat_set ez4726 (by omega) (hR.get 7 rfl)))
    have mz4793 : Mz4780[kr + 8]? = some (.inl (1, 32, .inr (.inl (al af)))) := Sm.at hSz4778 (by simp <;> omega) (zat_set ez4728 (by omega) (zat_set ez4726 (by omega) (hR.get 8 rfl)))
    have mz4794 : Mz4780[kr + 9]? = some (.inl (1, 160, .inr (.inl (al fb)))) := Sm.at hSz4778 (by simp <;> omega) (zat_set ez4728 (by omega) (zat_set ez4726 (by omega) (hR.get 9 rfl)))
    have mz4795 : Mz4780[kt]? = some (.inr (9, [.int (nI c), .ref (kt + 1), .ref (kt + 2), .ref (kt + 3)])) := Sm.at hSz4778 (by simp <;> omega) (zat_set ez4728 (by omega) (zat_set ez4726 (by omega) (hT.get 0 rfl)))
    have mz4796 : Mz4780[kt + 1]? = some (.inl (0, 20, .inl (ai sg))) := Sm.at hSz4778 (by simp <;> omega) (zat_set ez4728 (by omega) (zat_set ez4726 (by omega) (hT.get 1 rfl)))
    have mz4797 : Mz4780[kt + 2]? = some (.inl (0, 20, .inl (ai li))) := Sm.at hSz4778 (by simp <;> omega) (zat_set ez4728 (by omega) (zat_set ez4726 (by omega) (hT.get 2 rfl)))
    have mz4798 : Mz4780[kt + 3]? = some (.inl (0, 20, .inl (ai co))) := Sm.at hSz4778 (by simp <;> omega) (zat_set ez4728 (by omega) (zat_set ez4726 (by omega) (hT.get 3 rfl)))
    have mz4799 : Mz4780[k + 4]? = some (.inl (0, 2560, .inl (ai T))) := Sm.at hSz4778 (by simp <;> omega) (zat_set ez4728 (by omega) (zat_set ez4726 (by omega) (hZ.get 1 rfl)))
    have mz4800 : Mz4780[k + 6]? = some (.inl (0, 6, .inl (ai Rc))) := Sm.at hSz4778 (by simp <;> omega) (zat_set ez4728 (by omega) (zat_set ez4726 (by omega) (hZ.get 3 rfl)))
    have mz4801 : Mz4780[k + 7]? = some (.inl (0, 6, .inl (ai En))) := Sm.at hSz4778 (by simp <;> omega) (zat_set ez4728 (by omega) (zat_set ez4726 (by omega) (hZ.get 4 rfl)))
    have mz4802 : Mz4780[k + 8]? = some (.inl (0, 21, .inl (ai Su))) := Sm.at hSz4778 (by simp <;> omega) (zat_set ez4728 (by omega) (zat_set ez4726 (by omega) (hZ.get 5 rfl)))
    have sz4803 : Sm Mq Mz4780 [k + 3, k + 4, k + 5, k + 6, k + 7] := Sm.tw (Sm.tset (Sm.tset Sm.rf ez4726 (by simp)) ez4728 (by simp)) hSz4778 (by simp)
    have lp47 : ∀ (n47 : Nat) (x : Nat) (wt1 : Nat) (T1 : Nat → Nat) (V1 : Nat → Nat) (R1 : Nat → Nat) (E1 : Nat → Nat) (M_47 : zM), Sm Mq M_47 [k + 3, k + 4, k + 5, k + 6, k + 7] → M_47[k + 3]? = some (.inr (10, [.int (nI x), .ref (k + 4), .ref (k + 5), .int (nI wt1), .ref (k + 6), .ref (k + 7), .ref (k + 8), .ref k])) → M_47[k + 4]? = some (.inl (0, 2560, .inl (ai T1))) → M_47[k + 5]? = some (.inl (0, 2560, .inl (ai V1))) → M_47[k + 6]? = some (.inl (0, 6, .inl (ai R1))) → M_47[k + 7]? = some (.inl (0, 6, .inl (ai E1))) → ((∀ q, q < x → (tI (gE al_ it tg pt bd sg co) n c q).2.1 ≠ 0) ∧ wt1 = (tI (gE al_ it tg pt bd sg co) n c x).2.1 ∧ WtV V1 (tI (gE al_ it tg pt bd sg co) n c x).2 ∧ TtV T1 x (tI (gE al_ it tg pt bd sg co) n c x).1) → 400 - x < n47 → Zw 5 zm_Tree_build 47 [some (.ref (k + 3)), some (.int (nI c))] [] M_47 (fun r9 M1 => r9 = none ∧ ∃ sz9 wt9 T9 V9 R9 E9, Seg M1 (k + 3) (treL k sz9 wt9 T9 V9 R9 E9 Su) ∧ Sm Mq M1 [k + 3, k + 4, k + 5, k + 6, k + 7] ∧ TrS (gE al_ it tg pt bd sg co) n c sz9 T9) := by
      intro n47
      induction n47 with
      | zero => intro x wt1 T1 V1 R1 E1 M_47 _ _ _ _ _ _ _ h; exact absurd h (Nat.not_lt_zero _)
      | succ n47 ih47 =>
        intro x wt1 T1 V1 R1 E1 M_47 s_47 f47_0 f47_1 f47_2 f47_3 f47_4 hi47 hm47
        have hR9 := tR.run hA hn8 hG.2.2.1 hS.2.2.2 hG.2.2.2.2.2.2 hc20 (fun _ => h0) x hi47.1
        have hsm9 := hR9.sum
        have hge9 := @tSum_ge n rk (tI (gE al_ it tg pt bd sg co) n c x).2
        refine zw_n 1 rfl ?_
        refine zw_get (v := .int (nI wt1)) rfl f47_0 rfl ?_
        refine zw_le0N (a := wt1) rfl rfl (by omega) (fun c51 => ?_) (fun c51 => ?_)
        · -- 51 to 124
          exact zw_vret rfl rfl (⟨rfl, x, wt1, T1, V1, R1, E1, seg6 f47_0 f47_1 f47_2 f47_3 f47_4 (Sm.at s_47 (by simp <;> omega) (hZ.get 5 rfl)), s_47, TrS.of hi47.1 (by omega) hi47.2.2.2⟩)
        · -- 51 to 54
          refine zw_n 1 rfl ?_
          refine zw_get (v := .int (nI x)) rfl f47_0 rfl ?_
          refine zw_n 1 rfl ?_
          refine zw_igeN (a := x) (b := 320) rfl rfl rfl (by omega) (by omega) (fun c61 => ?_) (fun c61 => ?_)
          · -- 61 to 124
            exfalso
            omega
          · -- 61 to 64
            refine zw_n 2 rfl ?_
            refine zw_get (v := .int (nI wt1)) rfl f47_0 rfl ?_
            refine zw_n 2 rfl ?_
            refine zw_top (ns (a := wt1) (b := 1) rfl rfl (by omega)) ?_
            refine zw_put rfl f47_0 (rfl) (Nat.le_of_ble_eq_true rfl) ?_
            generalize ez4805 : List.set M_47 (k + 3) _ = Mz4804
            have hop := hR9.open_ hA hG.2.2.1 (show c < 4294967295 by omega) (show (tI (gE al_ it tg pt bd sg co) n c x).2.1 ≠ 0 by omega)
            obtain ⟨u9, hu9⟩ : ∃ u9, u9 = (tI (gE al_ it tg pt bd sg co) n c x).2.2 ((tI (gE al_ it tg pt bd sg co) n c x).2.1 - 1) := ⟨_, rfl⟩
            rw [← hu9] at hop
            have hv9 := hop.1
            have hO9 := hop.2
            have hcp : ∀ w, w < 8 → w ≠ 1 → z_cp V1 T1 ((wt1 - 1) * 8) (x * 8) 8 2560 (x * 8 + w) = u9 w := fun w h1 h2 => by
              rw [hu9, ← hi47.2.1]
              exact cp_row hi47.2.2.1 (by omega) (by omega) h1 h2
            refine zw_n 1 rfl ?_
            refine zw_get (v := .ref (k + 5)) rfl (zat_self ez4805 f47_0) rfl ?_
            refine zw_n 1 rfl ?_
            refine zw_get (v := .int (nI (wt1 - 1))) rfl (zat_self ez4805 f47_0) rfl ?_
            refine zw_n 2 rfl ?_
            refine zw_top (nm (a := wt1 - 1) (b := 8) rfl rfl) ?_
            refine zw_n 1 rfl ?_
            refine zw_get (v := .ref (k + 4)) rfl (zat_self ez4805 f47_0) rfl ?_
            refine zw_n 1 rfl ?_
            refine zw_get (v := .int (nI x)) rfl (zat_self ez4805 f47_0) rfl ?_
            refine zw_n 2 rfl ?_
            refine zw_top (nm (a := x) (b := 8) rfl rfl) ?_
            refine zw_n 1 rfl ?_
            refine zw_cpyi (n := 8) (sp := ((wt1 - 1) * 8)) (dp := (x * 8)) rfl (by decide) (zat_set ez4805 (by omega) f47_2) (zat_set ez4805 (by omega) f47_1) rfl rfl rfl (by omega) (by omega) rfl ?_
            rw [ai_cp]
            generalize ez4807 : List.set Mz4804 (k + 4) _ = Mz4806
            refine zw_n 2 rfl ?_
            refine zw_get (v := .int (nI x)) rfl (zat_set ez4807 (by omega) (zat_self ez4805 f47_0)) rfl ?_
            refine zw_n 2 rfl ?_
            refine zw_top (na (a := x) (b := 1) rfl rfl) ?_
            refine zw_put rfl (zat_set ez4807 (by omega) (zat_self ez4805 f47_0)) (rfl) (Nat.le_of_ble_eq_true rfl) ?_
            generalize ez4809 : List.set Mz4806 (k + 3) _ = Mz4808
            refine zw_n 2 rfl ?_
            refine zw_get (v := .int (nI (x + 1))) rfl (zat_self ez4809 (zat_set ez4807 (by omega) (zat_self ez4805 f47_0))) rfl ?_
            refine zw_n 2 rfl ?_
            refine zw_top (ns (a := x + 1) (b := 1) rfl rfl (by omega)) ?_
            refine zw_top (x' := (nI x)) (congrArg nI (by omega)) ?_
            refine zw_callV (as := [.int (nI x)]) (rest := []) rfl rfl rfl (zat_self ez4809 (zat_set ez4807 (by omega) (zat_self ez4805 f47_0))) rfl rfl rfl (by decide) (c_openNode Mz4808 k kr kt s W R n em gn al_ it pt tg bd fr af fb c sg li co (seg3 (zat_set ez4809 (by omega) (zat_set ez4807 (by omega) (zat_set ez4805 (by omega) (Sm.at s_47 (by simp <;> omega) (hC.get 0 rfl))))) (zat_set ez4809 (by omega) (zat_set ez4807 (by omega) (zat_set ez4805 (by omega) (Sm.at s_47 (by simp <;> omega) (hC.get 1 rfl))))) (zat_set ez4809 (by omega) (zat_set ez4807 (by omega) (zat_set ez4805 (by omega) (Sm.at s_47 (by simp <;> omega) (hC.get 2 rfl)))))) (seg10 (zat_set ez4809 (by omega) (zat_set ez4807 (by omega) (zat_set ez4805 (by omega) (Sm.at s_47 (by simp <;> omega) (hR.get 0 rfl))))) (zat_set ez4809 (by omega) (zat_set ez4807 (by omega) (zat_set ez4805 (by omega) (Sm.at s_47 (by simp <;> omega) (hR.get 1 rfl))))) (zat_set ez4809 (by omega) (zat_set ez4807 (by omega) (zat_set ez4805 (by omega) (Sm.at s_47 (by simp <;> omega) (hR.get 2 rfl))))) (zat_set ez4809 (by omega) (zat_set ez4807 (by omega) (zat_set ez4805 (by omega) (Sm.at s_47 (by simp <;> omega) (hR.get 3 rfl))))) (zat_set ez4809 (by omega) (zat_set ez4807 (by omega) (zat_set ez4805 (by omega) (Sm.at s_47 (by simp <;> omega) (hR.get 4 rfl))))) (zat_set ez4809 (by omega) (zat_set ez4807 (by omega) (zat_set ez4805 (by omega) (Sm.at s_47 (by simp <;> omega) (hR.get 5 rfl))))) (zat_set ez4809 (by omega) (zat_set ez4807 (by omega) (zat_set ez4805 (by omega) (Sm.at s_47 (by simp <;> omega) (hR.get 6 rfl))))) (zat_set ez4809 (by omega) (zat_set ez4807 (by omega) (zat_set ez4805 (by omega) (Sm.at s_47 (by simp <;> omega) (hR.get 7 rfl))))) (zat_set ez4809 (by omega) (zat_set ez4807 (by omega) (zat_set ez4805 (by omega) (Sm.at s_47 (by simp <;> omega) (hR.get 8 rfl))))) (zat_set ez4809 (by omega) (zat_set ez4807 (by omega) (zat_set ez4805 (by omega) (Sm.at s_47 (by simp <;> omega) (hR.get 9 rfl)))))) (seg4 (zat_set ez4809 (by omega) (zat_set ez4807 (by omega) (zat_set ez4805 (by omega) (Sm.at s_47 (by simp <;> omega) (hT.get 0 rfl))))) (zat_set ez4809 (by omega) (zat_set ez4807 (by omega) (zat_set ez4805 (by omega) (Sm.at s_47 (by simp <;> omega) (hT.get 1 rfl))))) (zat_set ez4809 (by omega) (zat_set ez4807 (by omega) (zat_set ez4805 (by omega) (Sm.at s_47 (by simp <;> omega) (hT.get 2 rfl))))) (zat_set ez4809 (by omega) (zat_set ez4807 (by omega) (zat_set ez4805 (by omega) (Sm.at s_47 (by simp <;> omega) (hT.get 3 rfl)))))) hG hS (by assumption) (by assumption) (x + 1) (wt1 - 1) (z_cp V1 T1 ((wt1 - 1) * 8) (x * 8) 8 2560) V1 R1 E1 Su (seg6 (zat_self ez4809 (zat_set ez4807 (by omega) (zat_self ez4805 f47_0))) (zat_set ez4809 (by omega) (zat_self ez4807 (zat_set ez4805 (by omega) f47_1))) (zat_set ez4809 (by omega) (zat_set ez4807 (by omega) (zat_set ez4805 (by omega) f47_2))) (zat_set ez4809 (by omega) (zat_set ez4807 (by omega) (zat_set ez4805 (by omega) f47_3))) (zat_set ez4809 (by omega) (zat_set ez4807 (by omega) (zat_set ez4805 (by omega) f47_4))) (zat_set ez4809 (by omega) (zat_set ez4807 (by omega) (zat_set ez4805 (by omega) (Sm.at s_47 (by simp <;> omega) (hZ.get 5 rfl)))))) hk emp rk hA x (u9 0) (u9 2) (u9 3) (u9 4) (u9 6) ((tI (gE al_ it tg pt bd sg co) n c x).2.1 - 1, (tI (gE al_ it tg pt bd sg co) n c x).2.2) (tI (gE al_ it tg pt bd sg co) n c (x + 1)).2 (by omega) hv9.ok.1 hv9.ok.2.1 hv9.ok.2.2.1 hv9.ok.2.2.2.1 hv9.lv hv9.ok.2.2.2.2 (hcp 0 (by decide) (by decide)) (hcp 2 (by decide) (by decide)) (hcp 3 (by decide) (by decide)) (hcp 4 (by decide) (by decide)) (hcp 6 (by decide) (by decide)) hCh (by rw [hi47.2.1]) hi47.2.2.1.pop hO9) (fun rz4819 Mz4820 hz4821 => ?_)
            obtain ⟨hAz4810, wtz4811, Vz4812, Rz4813, Ez4814, hZz4815, hSz4816, hwz4817, hVz4818⟩ := hz4821
            rw [hAz4810]
            show Zw 5 zm_Tree_build 121 [some (.ref (k + 3)), some (.int (nI c))] [] Mz4820 _
            refine zw_n 1 rfl ?_
            exact ih47 (x + 1) wtz4811 (up (z_cp V1 T1 ((wt1 - 1) * 8) (x * 8) 8 2560) (x * 8 + 1) (tA (gE al_ it tg pt bd sg co) n (u9 0) (u9 2) (u9 3) (u9 4))) Vz4812 Rz4813 Ez4814 Mz4820 (Sm.trans (Sm.tset (Sm.tset (Sm.tset s_47 ez4805 (by simp)) ez4807 (by simp)) ez4809 (by simp)) hSz4816) (hZz4815.get 0 rfl) (hZz4815.get 1 rfl) (hZz4815.get 2 rfl) (hZz4815.get 3 rfl) (hZz4815.get 4 rfl) (⟨fun q9 h9 => by
              by_cases e9 : q9 = x
              · rw [e9, ← hi47.2.1]; omega
              · exact hi47.1 q9 (by omega), hwz4817, hVz4818, TtV.take (E := (gE al_ it tg pt bd sg co)) (n := n) (a := tA (gE al_ it tg pt bd sg co) n (u9 0) (u9 2) (u9 3) (u9 4)) hi47.2.2.2 hi47.2.2.1 (by omega) (by omega) (by rw [hu9]) (by rw [hi47.2.1])⟩) (by omega)
    exact lp47 _ 0 (0 + 1) T (pu8 V 0 0 0 c (lsb (w3 W 0 0 c)) 4294967295 0 0) Rc En Mz4780 sz4803 hBz4776 mz4799 hCz4777 mz4800 mz4801 (⟨fun q9 h9 => by omega, (if_pos (by omega)).symm, WtV.ini (by omega) hw0, fun q9 f h9 => by omega⟩) (Nat.lt_succ_self _)
