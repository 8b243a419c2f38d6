set_option maxHeartbeats 4000000 in
set_option maxRecDepth 100000 in
theorem c_readText (Mq : zM) (k : Nat) (c : Nat) (sg li co : Nat → Nat) (hT : Seg Mq k (tokL k (c, sg, li, co))) (hS : SafeT c sg li co) (kx : Nat) (tx : Nat → Nat) (hX : Mq[kx]? = some (.inl (0, 240, .inl (ai tx)))) (htx : ∀ q, tx q < 256) (tl : Nat) (htl : tl ≤ 240) (hkx : kx < k ∨ k + 3 < kx) : Zm 2 zm_Tokens_readText [.ref k, .ref kx, .int (nI tl)] Mq (fun r9 M1 => r9 = some (.int (nI (srch (bdT tx) 0 tl))) ∧ ∃ n9 sg9 li9 co9, Seg M1 k (tokL k (n9, sg9, li9, co9)) ∧ Sm Mq M1 [k, k + 1, k + 2, k + 3] ∧ SafeT n9 sg9 li9 co9 ∧ (∀ L, (∀ q, li q < L) → 240 < L → ∀ q, li9 q < L) ∧ (srch (bdT tx) 0 tl = NO → n9 = nT tx tl ∧ hT_ tx tx sg9 tl ∧ hT_ tx (lT tx) li9 tl ∧ hT_ tx (cT tx) co9 tl)) := by
  show Zw 2 zm_Tokens_readText 0 [some (.ref k), some (.ref kx), some (.int (nI tl)), none, none, none, none] [] Mq _
  refine zw_n 2 rfl ?_
  refine zw_put rfl (hT.get 0 rfl) (rfl) (Nat.le_of_ble_eq_true rfl) ?_
  generalize ez431 : List.set Mq k _ = Mz430
  refine zw_n 6 (ls' := [some (.ref k), some (.ref kx), some (.int (nI tl)), some (.int 0), some (.int 0), some (.int 0), none]) rfl ?_
  have lp13 : ∀ (n13 : Nat) (p : Nat) (n1 : Nat) (l1 : Nat) (c1 : Nat) (g1 : Nat → Nat) (g2 : Nat → Nat) (g3 : Nat → Nat) (M_13 : zM), Sm Mq M_13 [k, k + 1, k + 2, k + 3] → M_13[k]? = some (.inr (9, [.int (nI n1), .ref (k + 1), .ref (k + 2), .ref (k + 3)])) → M_13[k + 1]? = some (.inl (0, 20, .inl (ai g1))) → M_13[k + 2]? = some (.inl (0, 20, .inl (ai g2))) → M_13[k + 3]? = some (.inl (0, 20, .inl (ai g3))) → (p ≤ tl ∧ (∀ q, q < p → bdT tx q = false) ∧ n1 = nT tx p ∧ l1 = lT tx p ∧ c1 = cT tx p ∧ SafeT n1 g1 g2 g3 ∧ (∀ L, (∀ q, li q < L) → 240 < L → ∀ q, g2 q < L) ∧ hT_ tx tx g1 p ∧ hT_ tx (lT tx) g2 p ∧ hT_ tx (cT tx) g3 p) → tl - p < n13 → Zw 2 zm_Tokens_readText 13 [some (.ref k), some (.ref kx), some (.int (nI tl)), some (.int (nI l1)), some (.int (nI c1)), some (.int (nI p)), none] [] M_13 (fun r9 M1 => r9 = some (.int (nI (srch (bdT tx) 0 tl))) ∧ ∃ n9 sg9 li9 co9, Seg M1 k (tokL k (n9, sg9, li9, co9)) ∧ Sm Mq M1 [k, k + 1, k + 2, k + 3] ∧ SafeT n9 sg9 li9 co9 ∧ (∀ L, (∀ q, li q < L) → 240 < L → ∀ q, li9 q < L) ∧ (srch (bdT tx) 0 tl = NO → n9 = nT tx tl ∧ hT_ tx tx sg9 tl ∧ hT_ tx (lT tx) li9 tl ∧ hT_ tx (cT tx) co9 tl)) := by
    intro n13
    induction n13 with
    | zero => intro p n1 l1 c1 g1 g2 g3 M_13 _ _ _ _ _ _ h; exact absurd h (Nat.not_lt_zero _)
    | succ n13 ih13 =>
      intro p n1 l1 c1 g1 g2 g3 M_13 s_13 f13_0 f13_1 f13_2 f13_3 hi13 hm13
      obtain ⟨ip, ib, i_n, il, ic, iS, iL, h1, h2, h3⟩ := hi13
      have hlt := lT_le tx p
      have hct := cT_le tx p
      have hn20 := iS.1
      refine zw_n 2 rfl ?_
      refine zw_igeN (a := p) (b := tl) rfl rfl rfl (by omega) (by omega) (fun c16 => ?_) (fun c16 => ?_)
      · -- 16 to 117
        refine zw_n 1 rfl ?_
        exact zw_iret rfl rfl (⟨by rw [show srch (bdT tx) 0 tl = NO from srch_none (fun q hq => ib q (by omega))]; decide, n1, g1, g2, g3, (seg4 f13_0 f13_1 f13_2 f13_3), s_13, iS, iL, fun _ => by rw [← show p = tl by omega]; exact ⟨i_n, h1, h2, h3⟩⟩)
      · -- 16 to 19
        refine zw_n 2 rfl ?_
        refine zw_alen rfl (Sm.at s_13 (by simp <;> omega) hX) rfl ?_
        refine zw_igeN (a := p) (b := 240) rfl rfl rfl (by omega) (by omega) (fun c23 => ?_) (fun c23 => ?_)
        · -- 23 to 117
          refine zw_n 1 rfl ?_
          exact zw_iret rfl rfl (⟨by rw [show srch (bdT tx) 0 tl = NO from srch_none (fun q hq => ib q (by omega))]; decide, n1, g1, g2, g3, (seg4 f13_0 f13_1 f13_2 f13_3), s_13, iS, iL, fun _ => by rw [← show p = tl by omega]; exact ⟨i_n, h1, h2, h3⟩⟩)
        · -- 23 to 26
          refine zw_n 2 rfl ?_
          refine zw_iald (f := ai tx) (j := p) rfl (Sm.at s_13 (by simp <;> omega) hX) rfl (by decide) (by omega) ?_
          have bz432 := htx p
          refine zw_n 2 (ls' := [some (.ref k), some (.ref kx), some (.int (nI tl)), some (.int (nI l1)), some (.int (nI c1)), some (.int (nI p)), some (.int (nI (tx p)))]) rfl ?_
          refine zw_callS (as := [.int (nI (tx p))]) (rest := []) rfl rfl rfl rfl rfl rfl (by decide) (c_isSign _ _) (fun rz433 Mz434 hz435 => ?_)
          rw [hz435.1, hz435.2]
          show Zw 2 zm_Tokens_readText 37 [some (.ref k), some (.ref kx), some (.int (nI tl)), some (.int (nI l1)), some (.int (nI c1)), some (.int (nI p)), some (.int (nI (tx p)))] [.int (nI (if 33 ≤ (nI (tx p)).toInt ∧ (nI (tx p)).toInt ≤ 126 then 1 else 0))] M_13 _
          refine zw_eq0N (a := if 33 ≤ (nI (tx p)).toInt ∧ (nI (tx p)).toInt ≤ 126 then 1 else 0) rfl rfl (ite_b) (fun c37 => ?_) (fun c37 => ?_)
          · -- 37 to 62
            have hsg : sgB (tx p) = false := by
              cases hq : sgB (tx p) with
              | false => rfl
              | true => exact absurd ((sgB_iff (by omega)).mpr hq) (ite_eq0 c37)
            refine zw_n 2 rfl ?_
            refine zw_ieqN (a := tx p) (b := 32) rfl rfl rfl (by omega) (by omega) (fun c66 => ?_) (fun c66 => ?_)
            · -- 66 to 79
              have hb9 : bdT tx p = false := by unfold bdT; simp [hsg]; omega
              refine zw_n 1 rfl ?_
              have j80 : Zw 2 zm_Tokens_readText 92 [some (.ref k), some (.ref kx), some (.int (nI tl)), some (.int (nI l1)), some (.int (nI c1)), some (.int (nI p)), some (.int (nI (tx p)))] [.int (nI (if tx p = 10 then 1 else 0)), .int (nI l1)] M_13 (fun r9 M1 => r9 = some (.int (nI (srch (bdT tx) 0 tl))) ∧ ∃ n9 sg9 li9 co9, Seg M1 k (tokL k (n9, sg9, li9, co9)) ∧ Sm Mq M1 [k, k + 1, k + 2, k + 3] ∧ SafeT n9 sg9 li9 co9 ∧ (∀ L, (∀ q, li q < L) → 240 < L → ∀ q, li9 q < L) ∧ (srch (bdT tx) 0 tl = NO → n9 = nT tx tl ∧ hT_ tx tx sg9 tl ∧ hT_ tx (lT tx) li9 tl ∧ hT_ tx (cT tx) co9 tl)) := by
                refine zw_n 1 rfl ?_
                refine zw_top (na (a := l1) (b := if tx p = 10 then 1 else 0) rfl rfl) ?_
                refine zw_n 1 (ls' := [some (.ref k), some (.ref kx), some (.int (nI tl)), some (.int (nI (l1 + (if tx p = 10 then 1 else 0)))), some (.int (nI c1)), some (.int (nI p)), some (.int (nI (tx p)))]) rfl ?_
                have j94 : Zw 2 zm_Tokens_readText 109 [some (.ref k), some (.ref kx), some (.int (nI tl)), some (.int (nI (l1 + (if tx p = 10 then 1 else 0)))), some (.int (nI c1)), some (.int (nI p)), some (.int (nI (tx p)))] [.int (nI (if tx p = 10 then 0 else c1 + 1))] M_13 (fun r9 M1 => r9 = some (.int (nI (srch (bdT tx) 0 tl))) ∧ ∃ n9 sg9 li9 co9, Seg M1 k (tokL k (n9, sg9, li9, co9)) ∧ Sm Mq M1 [k, k + 1, k + 2, k + 3] ∧ SafeT n9 sg9 li9 co9 ∧ (∀ L, (∀ q, li q < L) → 240 < L → ∀ q, li9 q < L) ∧ (srch (bdT tx) 0 tl = NO → n9 = nT tx tl ∧ hT_ tx tx sg9 tl ∧ hT_ tx (lT tx) li9 tl ∧ hT_ tx (cT tx) co9 tl)) := by
                  refine zw_n 1 (ls' := [some (.ref k), some (.ref kx), some (.int (nI tl)), some (.int (nI (l1 + (if tx p = 10 then 1 else 0)))), some (.int (nI (if tx p = 10 then 0 else c1 + 1))), some (.int (nI p)), some (.int (nI (tx p)))]) rfl ?_
                  refine zw_inc rfl (x' := (nI (p + 1))) (ls' := [some (.ref k), some (.ref kx), some (.int (nI tl)), some (.int (nI (l1 + (if tx p = 10 then 1 else 0)))), some (.int (nI (if tx p = 10 then 0 else c1 + 1))), some (.int (nI (p + 1))), some (.int (nI (tx p)))]) rfl (na (a := p) (b := 1) rfl rfl) rfl ?_
                  refine zw_n 1 rfl ?_
                  refine zw_ls (ls' := [some (.ref k), some (.ref kx), some (.int (nI tl)), some (.int (nI (l1 + (if tx p = 10 then 1 else 0)))), some (.int (nI (if tx p = 10 then 0 else c1 + 1))), some (.int (nI (p + 1))), none]) ⟨Or.inr rfl, Or.inr rfl, Or.inr rfl, Or.inr rfl, Or.inr rfl, Or.inr rfl, Or.inl rfl, trivial⟩ ?_
                  exact ih13 (p + 1) n1 (l1 + (if tx p = 10 then 1 else 0)) (if tx p = 10 then 0 else c1 + 1) g1 g2 g3 M_13 s_13 f13_0 f13_1 f13_2 f13_3 (⟨by omega, rt_step ib hb9, by rw [nT_o hsg, i_n], by rw [lT, il]; split <;> rfl, by rw [cT, ic], iS, iL, hT_o h1 hsg, hT_o h2 hsg, hT_o h3 hsg⟩) (by omega)
                refine zw_n 2 rfl ?_
                refine zw_ineN (a := tx p) (b := 10) rfl rfl rfl (by omega) (by omega) (fun c98 => ?_) (fun c98 => ?_)
                · -- 98 to 105
                  refine zw_n 3 rfl ?_
                  refine zw_top (na (a := c1) (b := 1) rfl rfl) ?_
                  refine zw_top (x' := nI (if tx p = 10 then 0 else c1 + 1)) (show nI (c1 + 1) = nI (if tx p = 10 then 0 else c1 + 1) by rw [if_neg (by omega)]) ?_
                  exact j94
                · -- 98 to 101
                  refine zw_n 2 rfl ?_
                  refine zw_top (x' := nI (if tx p = 10 then 0 else c1 + 1)) (show nI 0 = nI (if tx p = 10 then 0 else c1 + 1) by rw [if_pos (by omega)]) ?_
                  exact j94
              refine zw_n 2 rfl ?_
              refine zw_ineN (a := tx p) (b := 10) rfl rfl rfl (by omega) (by omega) (fun c84 => ?_) (fun c84 => ?_)
              · -- 84 to 91
                refine zw_n 1 rfl ?_
                refine zw_top (x' := nI (if tx p = 10 then 1 else 0)) (show nI 0 = nI (if tx p = 10 then 1 else 0) by rw [if_neg (by omega)]) ?_
                exact j80
              · -- 84 to 87
                refine zw_n 2 rfl ?_
                refine zw_top (x' := nI (if tx p = 10 then 1 else 0)) (show nI 1 = nI (if tx p = 10 then 1 else 0) by rw [if_pos (by omega)]) ?_
                exact j80
            · -- 66 to 69
              refine zw_n 2 rfl ?_
              refine zw_ieqN (a := tx p) (b := 10) rfl rfl rfl (by omega) (by omega) (fun c73 => ?_) (fun c73 => ?_)
              · -- 73 to 79
                have hb9 : bdT tx p = false := by unfold bdT; simp [hsg]; omega
                refine zw_n 1 rfl ?_
                have j80 : Zw 2 zm_Tokens_readText 92 [some (.ref k), some (.ref kx), some (.int (nI tl)), some (.int (nI l1)), some (.int (nI c1)), some (.int (nI p)), some (.int (nI (tx p)))] [.int (nI (if tx p = 10 then 1 else 0)), .int (nI l1)] M_13 (fun r9 M1 => r9 = some (.int (nI (srch (bdT tx) 0 tl))) ∧ ∃ n9 sg9 li9 co9, Seg M1 k (tokL k (n9, sg9, li9, co9)) ∧ Sm Mq M1 [k, k + 1, k + 2, k + 3] ∧ SafeT n9 sg9 li9 co9 ∧ (∀ L, (∀ q, li q < L) → 240 < L → ∀ q, li9 q < L) ∧ (srch (bdT tx) 0 tl = NO → n9 = nT tx tl ∧ hT_ tx tx sg9 tl ∧ hT_ tx (lT tx) li9 tl ∧ hT_ tx (cT tx) co9 tl)) := by
                  refine zw_n 1 rfl ?_
                  refine zw_top (na (a := l1) (b := if tx p = 10 then 1 else 0) rfl rfl) ?_
                  refine zw_n 1 (ls' := [some (.ref k), some (.ref kx), some (.int (nI tl)), some (.int (nI (l1 + (if tx p = 10 then 1 else 0)))), some (.int (nI c1)), some (.int (nI p)), some (.int (nI (tx p)))]) rfl ?_
                  have j94 : Zw 2 zm_Tokens_readText 109 [some (.ref k), some (.ref kx), some (.int (nI tl)), some (.int (nI (l1 + (if tx p = 10 then 1 else 0)))), some (.int (nI c1)), some (.int (nI p)), some (.int (nI (tx p)))] [.int (nI (if tx p = 10 then 0 else c1 + 1))] M_13 (fun r9 M1 => r9 = some (.int (nI (srch (bdT tx) 0 tl))) ∧ ∃ n9 sg9 li9 co9, Seg M1 k (tokL k (n9, sg9, li9, co9)) ∧ Sm Mq M1 [k, k + 1, k + 2, k + 3] ∧ SafeT n9 sg9 li9 co9 ∧ (∀ L, (∀ q, li q < L) → 240 < L → ∀ q, li9 q < L) ∧ (srch (bdT tx) 0 tl = NO → n9 = nT tx tl ∧ hT_ tx tx sg9 tl ∧ hT_ tx (lT tx) li9 tl ∧ hT_ tx (cT tx) co9 tl)) := by
                    refine zw_n 1 (ls' := [some (.ref k), some (.ref kx), some (.int (nI tl)), some (.int (nI (l1 + (if tx p = 10 then 1 else 0)))), some (.int (nI (if tx p = 10 then 0 else c1 + 1))), some (.int (nI p)), some (.int (nI (tx p)))]) rfl ?_
                    refine zw_inc rfl (x' := (nI (p + 1))) (ls' := [some (.ref k), some (.ref kx), some (.int (nI tl)), some (.int (nI (l1 + (if tx p = 10 then 1 else 0)))), some (.int (nI (if tx p = 10 then 0 else c1 + 1))), some (.int (nI (p + 1))), some (.int (nI (tx p)))]) rfl (na (a := p) (b := 1) rfl rfl) rfl ?_
                    refine zw_n 1 rfl ?_
                    refine zw_ls (ls' := [some (.ref k), some (.ref kx), some (.int (nI tl)), some (.int (nI (l1 + (if tx p = 10 then 1 else 0)))), some (.int (nI (if tx p = 10 then 0 else c1 + 1))), some (.int (nI (p + 1))), none]) ⟨Or.inr rfl, Or.inr rfl, Or.inr rfl, Or.inr rfl, Or.inr rfl, Or.inr rfl, Or.inl rfl, trivial⟩ ?_
                    exact ih13 (p + 1) n1 (l1 + (if tx p = 10 then 1 else 0)) (if tx p = 10 then 0 else c1 + 1) g1 g2 g3 M_13 s_13 f13_0 f13_1 f13_2 f13_3 (⟨by omega, rt_step ib hb9, by rw [nT_o hsg, i_n], by rw [lT, il]; split <;> rfl, by rw [cT, ic], iS, iL, hT_o h1 hsg, hT_o h2 hsg, hT_o h3 hsg⟩) (by omega)
                  refine zw_n 2 rfl ?_
                  refine zw_ineN (a := tx p) (b := 10) rfl rfl rfl (by omega) (by omega) (fun c98 => ?_) (fun c98 => ?_)
                  · -- 98 to 105
                    refine zw_n 3 rfl ?_
                    refine zw_top (na (a := c1) (b := 1) rfl rfl) ?_
                    refine zw_top (x' := nI (if tx p = 10 then 0 else c1 + 1)) (show nI (c1 + 1) = nI (if tx p = 10 then 0 else c1 + 1) by rw [if_neg (by omega)]) ?_
                    exact j94
                  · -- 98 to 101
                    refine zw_n 2 rfl ?_
                    refine zw_top (x' := nI (if tx p = 10 then 0 else c1 + 1)) (show nI 0 = nI (if tx p = 10 then 0 else c1 + 1) by rw [if_pos (by omega)]) ?_
                    exact j94
                refine zw_n 2 rfl ?_
                refine zw_ineN (a := tx p) (b := 10) rfl rfl rfl (by omega) (by omega) (fun c84 => ?_) (fun c84 => ?_)
                · -- 84 to 91
                  refine zw_n 1 rfl ?_
                  refine zw_top (x' := nI (if tx p = 10 then 1 else 0)) (show nI 0 = nI (if tx p = 10 then 1 else 0) by rw [if_neg (by omega)]) ?_
                  exact j80
                · -- 84 to 87
                  refine zw_n 2 rfl ?_
                  refine zw_top (x' := nI (if tx p = 10 then 1 else 0)) (show nI 1 = nI (if tx p = 10 then 1 else 0) by rw [if_pos (by omega)]) ?_
                  exact j80
              · -- 73 to 76
                have hb9 : bdT tx p = true := by unfold bdT; simp [hsg]; omega
                refine zw_n 1 rfl ?_
                exact zw_iret rfl rfl (⟨by rw [show srch (bdT tx) 0 tl = p from srch_at (by omega) ib hb9], n1, g1, g2, g3, (seg4 f13_0 f13_1 f13_2 f13_3), s_13, iS, iL, fun hq => by rw [show srch (bdT tx) 0 tl = p from srch_at (by omega) ib hb9] at hq; unfold NO at hq; omega⟩)
          · -- 37 to 40
            have hsg : sgB (tx p) = true := (sgB_iff (by omega)).mp (ite_ne c37)
            refine zw_n 2 rfl ?_
            refine zw_igeN (a := c1) (b := 40) rfl rfl rfl (by omega) (by omega) (fun c44 => ?_) (fun c44 => ?_)
            · -- 44 to 59
              have hb9 : bdT tx p = true := by unfold bdT; simp [hsg]; omega
              refine zw_n 1 rfl ?_
              exact zw_iret rfl rfl (⟨by rw [show srch (bdT tx) 0 tl = p from srch_at (by omega) ib hb9], n1, g1, g2, g3, (seg4 f13_0 f13_1 f13_2 f13_3), s_13, iS, iL, fun hq => by rw [show srch (bdT tx) 0 tl = p from srch_at (by omega) ib hb9] at hq; unfold NO at hq; omega⟩)
            · -- 44 to 47
              by_cases sp47 : n1 < 20
              · skip
                refine zw_n 4 rfl ?_
                refine zw_callV (as := [.int (nI (tx p)), .int (nI l1), .int (nI c1)]) (rest := []) rfl rfl rfl f13_0 rfl rfl rfl (by decide) (c_addTok M_13 k n1 g1 g2 g3 (seg4 f13_0 f13_1 f13_2 f13_3) iS (tx p) l1 c1 (by omega)) (fun rz439 Mz440 hz441 => ?_)
                obtain ⟨hAz436, hBz437, hSz438⟩ := hz441
                rw [hAz436]
                show Zw 2 zm_Tokens_readText 56 [some (.ref k), some (.ref kx), some (.int (nI tl)), some (.int (nI l1)), some (.int (nI c1)), some (.int (nI p)), some (.int (nI (tx p)))] [.int 1] Mz440 _
                refine zw_if rfl ?_
                show Zw 2 zm_Tokens_readText 79 [some (.ref k), some (.ref kx), some (.int (nI tl)), some (.int (nI l1)), some (.int (nI c1)), some (.int (nI p)), some (.int (nI (tx p)))] [] Mz440 _
                have hb9 : bdT tx p = false := by unfold bdT; simp [hsg]; omega
                refine zw_n 1 rfl ?_
                have j80 : Zw 2 zm_Tokens_readText 92 [some (.ref k), some (.ref kx), some (.int (nI tl)), some (.int (nI l1)), some (.int (nI c1)), some (.int (nI p)), some (.int (nI (tx p)))] [.int (nI (if tx p = 10 then 1 else 0)), .int (nI l1)] Mz440 (fun r9 M1 => r9 = some (.int (nI (srch (bdT tx) 0 tl))) ∧ ∃ n9 sg9 li9 co9, Seg M1 k (tokL k (n9, sg9, li9, co9)) ∧ Sm Mq M1 [k, k + 1, k + 2, k + 3] ∧ SafeT n9 sg9 li9 co9 ∧ (∀ L, (∀ q, li q < L) → 240 < L → ∀ q, li9 q < L) ∧ (srch (bdT tx) 0 tl = NO → n9 = nT tx tl ∧ hT_ tx tx sg9 tl ∧ hT_ tx (lT tx) li9 tl ∧ hT_ tx (cT tx) co9 tl)) := by
                  refine zw_n 1 rfl ?_
                  refine zw_top (na (a := l1) (b := if tx p = 10 then 1 else 0) rfl rfl) ?_
                  refine zw_n 1 (ls' := [some (.ref k), some (.ref kx), some (.int (nI tl)), some (.int (nI (l1 + (if tx p = 10 then 1 else 0)))), some (.int (nI c1)), some (.int (nI p)), some (.int (nI (tx p)))]) rfl ?_
                  have j94 : Zw 2 zm_Tokens_readText 109 [some (.ref k), some (.ref kx), some (.int (nI tl)), some (.int (nI (l1 + (if tx p = 10 then 1 else 0)))), some (.int (nI c1)), some (.int (nI p)), some (.int (nI (tx p)))] [.int (nI (if tx p = 10 then 0 else c1 + 1))] Mz440 (fun r9 M1 => r9 = some (.int (nI (srch (bdT tx) 0 tl))) ∧ ∃ n9 sg9 li9 co9, Seg M1 k (tokL k (n9, sg9, li9, co9)) ∧ Sm Mq M1 [k, k + 1, k + 2, k + 3] ∧ SafeT n9 sg9 li9 co9 ∧ (∀ L, (∀ q, li q < L) → 240 < L → ∀ q, li9 q < L) ∧ (srch (bdT tx) 0 tl = NO → n9 = nT tx tl ∧ hT_ tx tx sg9 tl ∧ hT_ tx (lT tx) li9 tl ∧ hT_ tx (cT tx) co9 tl)) := by
                    refine zw_n 1 (ls' := [some (.ref k), some (.ref kx), some (.int (nI tl)), some (.int (nI (l1 + (if tx p = 10 then 1 else 0)))), some (.int (nI (if tx p = 10 then 0 else c1 + 1))), some (.int (nI p)), some (.int (nI (tx p)))]) rfl ?_
                    refine zw_inc rfl (x' := (nI (p + 1))) (ls' := [some (.ref k), some (.ref kx), some (.int (nI tl)), some (.int (nI (l1 + (if tx p = 10 then 1 else 0)))), some (.int (nI (if tx p = 10 then 0 else c1 + 1))), some (.int (nI (p + 1))), some (.int (nI (tx p)))]) rfl (na (a := p) (b := 1) rfl rfl) rfl ?_
                    refine zw_n 1 rfl ?_
                    refine zw_ls (ls' := [some (.ref k), some (.ref kx), some (.int (nI tl)), some (.int (nI (l1 + (if tx p = 10 then 1 else 0)))), some (.int (nI (if tx p = 10 then 0 else c1 + 1))), some (.int (nI (p + 1))), none]) ⟨Or.inr rfl, Or.inr rfl, Or.inr rfl, Or.inr rfl, Or.inr rfl, Or.inr rfl, Or.inl rfl, trivial⟩ ?_
                    exact ih13 (p + 1) (n1 + 1) (l1 + (if tx p = 10 then 1 else 0)) (if tx p = 10 then 0 else c1 + 1) (up g1 n1 (tx p)) (up g2 n1 l1) (up g3 n1 c1) Mz440 (Sm.trans s_13 hSz438) (hBz437.get 0 rfl) (hBz437.get 1 rfl) (hBz437.get 2 rfl) (hBz437.get 3 rfl) (⟨by omega, rt_step ib hb9, by rw [nT_s hsg, i_n], by rw [lT, il]; split <;> rfl, by rw [cT, ic], rt_safe iS (by omega) hsg (by omega) (by omega), fun L hL hL2 => up_lt (iL L hL hL2) (by omega), by rw [i_n]; exact hT_s h1 hsg, by rw [i_n, il]; exact hT_s h2 hsg, by rw [i_n, ic]; exact hT_s h3 hsg⟩) (by omega)
                  refine zw_n 2 rfl ?_
                  refine zw_ineN (a := tx p) (b := 10) rfl rfl rfl (by omega) (by omega) (fun c98 => ?_) (fun c98 => ?_)
                  · -- 98 to 105
                    refine zw_n 3 rfl ?_
                    refine zw_top (na (a := c1) (b := 1) rfl rfl) ?_
                    refine zw_top (x' := nI (if tx p = 10 then 0 else c1 + 1)) (show nI (c1 + 1) = nI (if tx p = 10 then 0 else c1 + 1) by rw [if_neg (by omega)]) ?_
                    exact j94
                  · -- 98 to 101
                    refine zw_n 2 rfl ?_
                    refine zw_top (x' := nI (if tx p = 10 then 0 else c1 + 1)) (show nI 0 = nI (if tx p = 10 then 0 else c1 + 1) by rw [if_pos (by omega)]) ?_
                    exact j94
                refine zw_n 2 rfl ?_
                refine zw_ineN (a := tx p) (b := 10) rfl rfl rfl (by omega) (by omega) (fun c84 => ?_) (fun c84 => ?_)
                · -- 84 to 91
                  refine zw_n 1 rfl ?_
                  refine zw_top (x' := nI (if tx p = 10 then 1 else 0)) (show nI 0 = nI (if tx p = 10 then 1 else 0) by rw [if_neg (by omega)]) ?_
                  exact j80
                · -- 84 to 87
                  refine zw_n 2 rfl ?_
                  refine zw_top (x' := nI (if tx p = 10 then 1 else 0)) (show nI 1 = nI (if tx p = 10 then 1 else 0) by rw [if_pos (by omega)]) ?_
                  exact j80
              · skip
                refine zw_n 4 rfl ?_
                refine zw_callV (as := [.int (nI (tx p)), .int (nI l1), .int (nI c1)]) (rest := []) rfl rfl rfl f13_0 rfl rfl rfl (by decide) (c_addFull M_13 k n1 g1 g2 g3 (seg4 f13_0 f13_1 f13_2 f13_3) iS (tx p) l1 c1 (by omega)) (fun rz445 Mz446 hz447 => ?_)
                rw [hz447.1, hz447.2]
                show Zw 2 zm_Tokens_readText 56 [some (.ref k), some (.ref kx), some (.int (nI tl)), some (.int (nI l1)), some (.int (nI c1)), some (.int (nI p)), some (.int (nI (tx p)))] [.int 0] M_13 _
                refine zw_if rfl ?_
                show Zw 2 zm_Tokens_readText 59 [some (.ref k), some (.ref kx), some (.int (nI tl)), some (.int (nI l1)), some (.int (nI c1)), some (.int (nI p)), some (.int (nI (tx p)))] [] M_13 _
                have hb9 : bdT tx p = true := by unfold bdT; simp [hsg]; omega
                refine zw_n 1 rfl ?_
                exact zw_iret rfl rfl (⟨by rw [show srch (bdT tx) 0 tl = p from srch_at (by omega) ib hb9], n1, g1, g2, g3, (seg4 f13_0 f13_1 f13_2 f13_3), s_13, iS, iL, fun hq => by rw [show srch (bdT tx) 0 tl = p from srch_at (by omega) ib hb9] at hq; unfold NO at hq; omega⟩)
  exact lp13 _ 0 0 0 0 sg li co Mz430 (Sm.tset Sm.rf ez431 (by simp)) (zat_self ez431 (hT.get 0 rfl)) (zat_set ez431 (by omega) (hT.get 1 rfl)) (zat_set ez431 (by omega) (hT.get 2 rfl)) (zat_set ez431 (by omega) (hT.get 3 rfl)) (⟨Nat.zero_le _, fun q hq => by omega, rfl, rfl, rfl, ⟨Nat.zero_le _, hS.2⟩, fun L hL _ => hL, fun q hq => absurd hq (Nat.not_lt_zero _), fun q hq => absurd hq (Nat.not_lt_zero _), fun q hq => absurd hq (Nat.not_lt_zero _)⟩) (Nat.lt_succ_self _)
