set_option maxHeartbeats 4000000 in
set_option maxRecDepth 100000 in
theorem m_textNo (Mq : zM) (o : Nat → Nat) (f : Nat → Nat → Nat) (hM : MM Mq o f) (tx : Nat → Nat) (hX : ∀ q, q < o 7 → f 144 q = byv (tx q)) (htx : ∀ q, tx q < 256) (ho : o 7 ≤ 240) (hx : srch (bdT tx) 0 (o 7) ≠ NO) : Zm 2 zm_MO_text [.ref 139] Mq (fun r9 M1 => r9 = some (.int (-1000 - nI (srch (bdT tx) 0 (o 7)))) ∧ ∃ A B C, MM M1 (up (up o 0 0) 7 0) (fset (fset (fset f 152 C) 151 B) 150 A) ∧ Sm Mq M1 [139, 150, 151, 152]) := by
  show Zw 2 zm_MO_text 0 [some (.ref 139), none, none, none, none, none, none] [] Mq _
  refine zw_n 2 rfl ?_
  refine zw_put rfl hM.1 (rfl) (Nat.le_of_ble_eq_true rfl) ?_
  generalize ez2245 : List.set Mq 139 _ = Mz2244
  refine zw_n 8 (ls' := [some (.ref 139), some (.int 0), some (.int 0), some (.int 0), some (.int 0), none, none]) rfl ?_
  have mz2246 : Mz2244[144]? = some (.inl (2, 240, .inl (ai (f 144)))) := zat_set ez2245 (by decide) (hM.2 144 (by decide) (by decide))
  have mz2247 : Mz2244[150]? = some (.inl (0, 20, .inl (ai (f 150)))) := zat_set ez2245 (by decide) (hM.2 150 (by decide) (by decide))
  have mz2248 : Mz2244[151]? = some (.inl (0, 20, .inl (ai (f 151)))) := zat_set ez2245 (by decide) (hM.2 151 (by decide) (by decide))
  have mz2249 : Mz2244[152]? = some (.inl (0, 20, .inl (ai (f 152)))) := zat_set ez2245 (by decide) (hM.2 152 (by decide) (by decide))
  have lp14 : ∀ (n14 : Nat) (n1 : Nat) (l1 : Nat) (c1 : Nat) (p : Nat) (g1 : Nat → Nat) (g2 : Nat → Nat) (g3 : Nat → Nat) (M_14 : zM), Sm Mq M_14 [139, 150, 151, 152] → M_14[150]? = some (.inl (0, 20, .inl (ai g1))) → M_14[151]? = some (.inl (0, 20, .inl (ai g2))) → M_14[152]? = some (.inl (0, 20, .inl (ai g3))) → M_14[139]? = some (.inr (12, [.int 0, .ref 140, .ref 141, .ref 142, .ref 143, .int (nI (o 5)), .ref 144, .int (nI (o 7)), .int (nI (o 8)), .int (nI (o 9)), .int (nI (o 10)), .ref 145, .ref 146, .ref 147, .ref 148, .ref 149, .ref 150, .ref 151, .ref 152, .ref 153, .ref 154, .ref 155, .ref 156, .ref 157, .ref 158, .ref 159, .ref 160, .ref 161, .ref 162, .ref 163, .ref 164, .int (nI (o 31)), .ref 165, .int (nI (o 33)), .ref 166, .ref 167, .ref 168, .ref 169, .int (nI (o 38)), .ref 170, .ref 171, .ref 172, .ref 173, .ref 174, .ref 175, .int (nI (o 45)), .int (nI (o 46)), .int (nI (o 47)), .long (lN (o 48)), .ref 176])) → (p ≤ o 7 ∧ (∀ q, q < p → bdT tx q = false) ∧ n1 = nT tx p ∧ l1 = lT tx p ∧ c1 = cT tx p ∧ hT_ tx tx g1 p ∧ hT_ tx (lT tx) g2 p ∧ hT_ tx (cT tx) g3 p) → o 7 - p < n14 → Zw 2 zm_MO_text 14 [some (.ref 139), some (.int (nI n1)), some (.int (nI l1)), some (.int (nI c1)), some (.int (nI p)), none, none] [] M_14 (fun r9 M1 => r9 = some (.int (-1000 - nI (srch (bdT tx) 0 (o 7)))) ∧ ∃ A B C, MM M1 (up (up o 0 0) 7 0) (fset (fset (fset f 152 C) 151 B) 150 A) ∧ Sm Mq M1 [139, 150, 151, 152]) := by
    intro n14
    induction n14 with
    | zero => intro n1 l1 c1 p g1 g2 g3 M_14 _ _ _ _ _ _ h; exact absurd h (Nat.not_lt_zero _)
    | succ n14 ih14 =>
      intro n1 l1 c1 p g1 g2 g3 M_14 s_14 f14_0 f14_1 f14_2 f14_3 hi14 hm14
      obtain ⟨ip, ib, i_n, il, ic, h1, h2, h3⟩ := hi14
      have hlt := lT_le tx p
      have hct := cT_le tx p
      have hac := aT_co tx p ib
      have hn20 := hac.1
      have htp := htx p
      refine zw_n 2 rfl ?_
      refine zw_get (v := .int (nI (o 7))) rfl f14_3 rfl ?_
      refine zw_igeN (a := p) (b := o 7) rfl rfl rfl (by omega) (by omega) (fun c20 => ?_) (fun c20 => ?_)
      · -- 20 to 153
        exfalso
        exact hx (srch_none (fun q hq => ib q (by omega)))
      · -- 20 to 23
        refine zw_n 1 rfl ?_
        refine zw_get (v := .ref 144) rfl f14_3 rfl ?_
        refine zw_n 1 rfl ?_
        refine zw_bald (f := ai (f 144)) (j := p) rfl (Sm.at s_14 (by decide) (hM.2 144 (by decide) (by decide))) rfl rfl (by decide) (by omega) ?_
        refine zw_top (x' := (nI (byv (tx p)))) (congrArg nI (hX p (by omega))) ?_
        refine zw_n 2 (ls' := [some (.ref 139), some (.int (nI n1)), some (.int (nI l1)), some (.int (nI c1)), some (.int (nI p)), some (.int (nI (byv (tx p)))), none]) rfl ?_
        refine zw_callS (as := [.int (nI (byv (tx p)))]) (rest := []) rfl rfl rfl rfl rfl rfl (by decide) (m_isSign _ (nI (byv (tx p)))) (fun rz2250 Mz2251 hz2252 => ?_)
        rw [hz2252.1, hz2252.2]
        show Zw 2 zm_MO_text 37 [some (.ref 139), some (.int (nI n1)), some (.int (nI l1)), some (.int (nI c1)), some (.int (nI p)), some (.int (nI (byv (tx p)))), none] [.int (nI (if 33 ≤ (nI (byv (tx p))).toInt ∧ (nI (byv (tx p))).toInt ≤ 126 then 1 else 0))] M_14 _
        refine zw_n 2 (ls' := [some (.ref 139), some (.int (nI n1)), some (.int (nI l1)), some (.int (nI c1)), some (.int (nI p)), some (.int (nI (byv (tx p)))), some (.int (nI (if 33 ≤ (nI (byv (tx p))).toInt ∧ (nI (byv (tx p))).toInt ≤ 126 then 1 else 0)))]) rfl ?_
        refine zw_ne0N (a := if 33 ≤ (nI (byv (tx p))).toInt ∧ (nI (byv (tx p))).toInt ≤ 126 then 1 else 0) rfl rfl (ite_b) (fun c41 => ?_) (fun c41 => ?_)
        · -- 41 to 58
          refine zw_n 1 rfl ?_
          refine zw_eq0N (a := if 33 ≤ (nI (byv (tx p))).toInt ∧ (nI (byv (tx p))).toInt ≤ 126 then 1 else 0) rfl rfl (ite_b) (fun c60 => ?_) (fun c60 => ?_)
          · -- 60 to 87
            exfalso
            exact c41 c60
          · -- 60 to 63
            have hsg : sgB (tx p) = true := (sg_byv (htx p)).mp (ite_ne c41)
            refine zw_n 2 rfl ?_
            refine zw_ieqN (a := n1) (b := 20) rfl rfl rfl (by omega) (by omega) (fun c66 => ?_) (fun c66 => ?_)
            · -- 66 to 75
              have hb9 : bdT tx p = true := by unfold bdT; rw [if_pos hsg]; exact decide_eq_true (by omega)
              refine zw_n 2 rfl ?_
              refine zw_put rfl f14_3 (rfl) (Nat.le_of_ble_eq_true rfl) ?_
              generalize ez2254 : List.set M_14 139 _ = Mz2253
              refine zw_n 3 rfl ?_
              exact zw_iret rfl rfl (⟨by rw [show srch (bdT tx) 0 (o 7) = p from srch_at (by omega) ib hb9]; try rfl, g1, g2, g3, (MM.of (o' := up (up o 0 0) 7 0) (f' := fset (fset (fset f 152 g3) 151 g2) 150 g1) hM (Sm.tset s_14 ez2254 (by decide)) (zat_self ez2254 f14_3) (c1_skip (c1_cons (zat_set ez2254 (by decide) f14_0) (c1_cons (zat_set ez2254 (by decide) f14_1) (c1_cons (zat_set ez2254 (by decide) f14_2) c1_nil)))) (fs_k (fs_c (fs_c (fs_c fs_n))))), Sm.tset s_14 ez2254 (by decide)⟩)
            · -- 66 to 69
              refine zw_n 2 rfl ?_
              refine zw_ileN (a := c1) (b := 39) rfl rfl rfl (by omega) (by omega) (fun c72 => ?_) (fun c72 => ?_)
              · -- 72 to 87
                have hb9 : bdT tx p = false := by unfold bdT; rw [if_pos hsg]; exact decide_eq_false (by omega)
                refine zw_n 1 rfl ?_
                refine zw_eq0N (a := if 33 ≤ (nI (byv (tx p))).toInt ∧ (nI (byv (tx p))).toInt ≤ 126 then 1 else 0) rfl rfl (ite_b) (fun c89 => ?_) (fun c89 => ?_)
                · -- 89 to 117
                  exfalso
                  exact c41 c89
                · -- 89 to 92
                  refine zw_n 1 rfl ?_
                  refine zw_get (v := .ref 150) rfl f14_3 rfl ?_
                  refine zw_n 2 rfl ?_
                  refine zw_iastN (g := g1) (j := n1) (v := (tx p)) rfl f14_0 rfl (by decide) (by omega) (congrArg nI (byv_lt (sg_lt hsg))) ?_
                  generalize ez2256 : List.set M_14 150 _ = Mz2255
                  refine zw_n 1 rfl ?_
                  refine zw_get (v := .ref 151) rfl (zat_set ez2256 (by decide) f14_3) rfl ?_
                  refine zw_n 2 rfl ?_
                  refine zw_iastN (g := g2) (j := n1) (v := l1) rfl (zat_set ez2256 (by decide) f14_1) rfl (by decide) (by omega) (rfl) ?_
                  generalize ez2258 : List.set Mz2255 151 _ = Mz2257
                  refine zw_n 1 rfl ?_
                  refine zw_get (v := .ref 152) rfl (zat_set ez2258 (by decide) (zat_set ez2256 (by decide) f14_3)) rfl ?_
                  refine zw_n 2 rfl ?_
                  refine zw_iastN (g := g3) (j := n1) (v := c1) rfl (zat_set ez2258 (by decide) (zat_set ez2256 (by decide) f14_2)) rfl (by decide) (by omega) (rfl) ?_
                  generalize ez2260 : List.set Mz2257 152 _ = Mz2259
                  refine zw_inc rfl (x' := (nI (n1 + 1))) (ls' := [some (.ref 139), some (.int (nI (n1 + 1))), some (.int (nI l1)), some (.int (nI c1)), some (.int (nI p)), some (.int (nI (byv (tx p)))), some (.int (nI (if 33 ≤ (nI (byv (tx p))).toInt ∧ (nI (byv (tx p))).toInt ≤ 126 then 1 else 0)))]) rfl (na (a := n1) (b := 1) rfl rfl) rfl ?_
                  have j117 : Zw 2 zm_MO_text 131 [some (.ref 139), some (.int (nI (n1 + 1))), some (.int (nI l1)), some (.int (nI c1)), some (.int (nI p)), some (.int (nI (byv (tx p)))), some (.int (nI (if 33 ≤ (nI (byv (tx p))).toInt ∧ (nI (byv (tx p))).toInt ≤ 126 then 1 else 0)))] [.int (nI (if tx p = 10 then 0 else c1 + 1))] Mz2259 (fun r9 M1 => r9 = some (.int (-1000 - nI (srch (bdT tx) 0 (o 7)))) ∧ ∃ A B C, MM M1 (up (up o 0 0) 7 0) (fset (fset (fset f 152 C) 151 B) 150 A) ∧ Sm Mq M1 [139, 150, 151, 152]) := by
                    refine zw_n 2 (ls' := [some (.ref 139), some (.int (nI (n1 + 1))), some (.int (nI l1)), some (.int (nI (if tx p = 10 then 0 else c1 + 1))), some (.int (nI p)), some (.int (nI (byv (tx p)))), some (.int (nI (if 33 ≤ (nI (byv (tx p))).toInt ∧ (nI (byv (tx p))).toInt ≤ 126 then 1 else 0)))]) rfl ?_
                    have j133 : Zw 2 zm_MO_text 145 [some (.ref 139), some (.int (nI (n1 + 1))), some (.int (nI l1)), some (.int (nI (if tx p = 10 then 0 else c1 + 1))), some (.int (nI p)), some (.int (nI (byv (tx p)))), some (.int (nI (if 33 ≤ (nI (byv (tx p))).toInt ∧ (nI (byv (tx p))).toInt ≤ 126 then 1 else 0)))] [.int (nI (if tx p = 10 then 1 else 0)), .int (nI l1)] Mz2259 (fun r9 M1 => r9 = some (.int (-1000 - nI (srch (bdT tx) 0 (o 7)))) ∧ ∃ A B C, MM M1 (up (up o 0 0) 7 0) (fset (fset (fset f 152 C) 151 B) 150 A) ∧ Sm Mq M1 [139, 150, 151, 152]) := by
                      refine zw_n 1 rfl ?_
                      refine zw_top (na (a := l1) (b := if tx p = 10 then 1 else 0) rfl rfl) ?_
                      refine zw_n 1 (ls' := [some (.ref 139), some (.int (nI (n1 + 1))), some (.int (nI (l1 + (if tx p = 10 then 1 else 0)))), some (.int (nI (if tx p = 10 then 0 else c1 + 1))), some (.int (nI p)), some (.int (nI (byv (tx p)))), some (.int (nI (if 33 ≤ (nI (byv (tx p))).toInt ∧ (nI (byv (tx p))).toInt ≤ 126 then 1 else 0)))]) rfl ?_
                      refine zw_inc rfl (x' := (nI (p + 1))) (ls' := [some (.ref 139), some (.int (nI (n1 + 1))), some (.int (nI (l1 + (if tx p = 10 then 1 else 0)))), some (.int (nI (if tx p = 10 then 0 else c1 + 1))), some (.int (nI (p + 1))), some (.int (nI (byv (tx p)))), some (.int (nI (if 33 ≤ (nI (byv (tx p))).toInt ∧ (nI (byv (tx p))).toInt ≤ 126 then 1 else 0)))]) rfl (na (a := p) (b := 1) rfl rfl) rfl ?_
                      refine zw_n 1 rfl ?_
                      refine zw_ls (ls' := [some (.ref 139), some (.int (nI (n1 + 1))), some (.int (nI (l1 + (if tx p = 10 then 1 else 0)))), some (.int (nI (if tx p = 10 then 0 else c1 + 1))), some (.int (nI (p + 1))), none, none]) ⟨Or.inr rfl, Or.inr rfl, Or.inr rfl, Or.inr rfl, Or.inr rfl, Or.inl rfl, Or.inl rfl, trivial⟩ ?_
                      exact ih14 (n1 + 1) (l1 + (if tx p = 10 then 1 else 0)) (if tx p = 10 then 0 else c1 + 1) (p + 1) (up g1 n1 (tx p)) (up g2 n1 l1) (up g3 n1 c1) Mz2259 (Sm.tset (Sm.tset (Sm.tset s_14 ez2256 (by decide)) ez2258 (by decide)) ez2260 (by decide)) (zat_set ez2260 (by decide) (zat_set ez2258 (by decide) (zat_self ez2256 f14_0))) (zat_set ez2260 (by decide) (zat_self ez2258 (zat_set ez2256 (by decide) f14_1))) (zat_self ez2260 (zat_set ez2258 (by decide) (zat_set ez2256 (by decide) f14_2))) (zat_set ez2260 (by decide) (zat_set ez2258 (by decide) (zat_set ez2256 (by decide) f14_3))) (⟨by omega, rt_step ib hb9, by rw [nT_s hsg, i_n], by rw [lT, il]; split <;> rfl, by rw [cT, ic], by rw [i_n]; exact hT_s h1 hsg, by rw [i_n, il]; exact hT_s h2 hsg, by rw [i_n, ic]; exact hT_s h3 hsg⟩) (by omega)
                    refine zw_n 2 rfl ?_
                    refine zw_ine rfl (fun c137 => ?_) (fun c137 => ?_)
                    · -- 137 to 144
                      refine zw_n 1 rfl ?_
                      refine zw_top (x' := nI (if tx p = 10 then 1 else 0)) (show nI 0 = nI (if tx p = 10 then 1 else 0) by rw [if_neg (fun e => c137 ((byv_eq (htx p) (show 10 < 128 by decide)).mpr e))]) ?_
                      exact j133
                    · -- 137 to 140
                      refine zw_n 2 rfl ?_
                      refine zw_top (x' := nI (if tx p = 10 then 1 else 0)) (show nI 1 = nI (if tx p = 10 then 1 else 0) by rw [if_pos ((byv_eq (htx p) (show 10 < 128 by decide)).mp c137)]) ?_
                      exact j133
                  refine zw_n 2 rfl ?_
                  refine zw_ine rfl (fun c121 => ?_) (fun c121 => ?_)
                  · -- 121 to 128
                    refine zw_n 3 rfl ?_
                    refine zw_top (na (a := c1) (b := 1) rfl rfl) ?_
                    refine zw_top (x' := nI (if tx p = 10 then 0 else c1 + 1)) (show nI (c1 + 1) = nI (if tx p = 10 then 0 else c1 + 1) by rw [if_neg (fun e => c121 ((byv_eq (htx p) (show 10 < 128 by decide)).mpr e))]) ?_
                    exact j117
                  · -- 121 to 124
                    refine zw_n 2 rfl ?_
                    refine zw_top (x' := nI (if tx p = 10 then 0 else c1 + 1)) (show nI 0 = nI (if tx p = 10 then 0 else c1 + 1) by rw [if_pos ((byv_eq (htx p) (show 10 < 128 by decide)).mp c121)]) ?_
                    exact j117
              · -- 72 to 75
                have hb9 : bdT tx p = true := by unfold bdT; rw [if_pos hsg]; exact decide_eq_true (by omega)
                refine zw_n 2 rfl ?_
                refine zw_put rfl f14_3 (rfl) (Nat.le_of_ble_eq_true rfl) ?_
                generalize ez2262 : List.set M_14 139 _ = Mz2261
                refine zw_n 3 rfl ?_
                exact zw_iret rfl rfl (⟨by rw [show srch (bdT tx) 0 (o 7) = p from srch_at (by omega) ib hb9]; try rfl, g1, g2, g3, (MM.of (o' := up (up o 0 0) 7 0) (f' := fset (fset (fset f 152 g3) 151 g2) 150 g1) hM (Sm.tset s_14 ez2262 (by decide)) (zat_self ez2262 f14_3) (c1_skip (c1_cons (zat_set ez2262 (by decide) f14_0) (c1_cons (zat_set ez2262 (by decide) f14_1) (c1_cons (zat_set ez2262 (by decide) f14_2) c1_nil)))) (fs_k (fs_c (fs_c (fs_c fs_n))))), Sm.tset s_14 ez2262 (by decide)⟩)
        · -- 41 to 44
          have hsg : sgB (tx p) = false := Bool.eq_false_iff.mpr (fun q => ite_eq0 c41 ((sg_byv (htx p)).mpr q))
          refine zw_n 2 rfl ?_
          refine zw_ieq rfl (fun c48 => ?_) (fun c48 => ?_)
          · -- 48 to 58
            refine zw_n 1 rfl ?_
            refine zw_eq0N (a := if 33 ≤ (nI (byv (tx p))).toInt ∧ (nI (byv (tx p))).toInt ≤ 126 then 1 else 0) rfl rfl (ite_b) (fun c60 => ?_) (fun c60 => ?_)
            · -- 60 to 87
              have he9 : tx p = 32 ∨ tx p = 10 := by first | exact Or.inl ((byv_eq (htx p) (show 32 < 128 by decide)).mp c48) | exact Or.inr ((byv_eq (htx p) (show 10 < 128 by decide)).mp c55)
              have hb9 : bdT tx p = false := by unfold bdT; rw [if_neg (by rw [hsg]; decide)]; exact decide_eq_false (by omega)
              refine zw_n 1 rfl ?_
              refine zw_eq0N (a := if 33 ≤ (nI (byv (tx p))).toInt ∧ (nI (byv (tx p))).toInt ≤ 126 then 1 else 0) rfl rfl (ite_b) (fun c89 => ?_) (fun c89 => ?_)
              · -- 89 to 117
                have j117 : Zw 2 zm_MO_text 131 [some (.ref 139), some (.int (nI n1)), some (.int (nI l1)), some (.int (nI c1)), some (.int (nI p)), some (.int (nI (byv (tx p)))), some (.int (nI (if 33 ≤ (nI (byv (tx p))).toInt ∧ (nI (byv (tx p))).toInt ≤ 126 then 1 else 0)))] [.int (nI (if tx p = 10 then 0 else c1 + 1))] M_14 (fun r9 M1 => r9 = some (.int (-1000 - nI (srch (bdT tx) 0 (o 7)))) ∧ ∃ A B C, MM M1 (up (up o 0 0) 7 0) (fset (fset (fset f 152 C) 151 B) 150 A) ∧ Sm Mq M1 [139, 150, 151, 152]) := by
                  refine zw_n 2 (ls' := [some (.ref 139), some (.int (nI n1)), some (.int (nI l1)), some (.int (nI (if tx p = 10 then 0 else c1 + 1))), some (.int (nI p)), some (.int (nI (byv (tx p)))), some (.int (nI (if 33 ≤ (nI (byv (tx p))).toInt ∧ (nI (byv (tx p))).toInt ≤ 126 then 1 else 0)))]) rfl ?_
                  have j133 : Zw 2 zm_MO_text 145 [some (.ref 139), some (.int (nI n1)), some (.int (nI l1)), some (.int (nI (if tx p = 10 then 0 else c1 + 1))), some (.int (nI p)), some (.int (nI (byv (tx p)))), some (.int (nI (if 33 ≤ (nI (byv (tx p))).toInt ∧ (nI (byv (tx p))).toInt ≤ 126 then 1 else 0)))] [.int (nI (if tx p = 10 then 1 else 0)), .int (nI l1)] M_14 (fun r9 M1 => r9 = some (.int (-1000 - nI (srch (bdT tx) 0 (o 7)))) ∧ ∃ A B C, MM M1 (up (up o 0 0) 7 0) (fset (fset (fset f 152 C) 151 B) 150 A) ∧ Sm Mq M1 [139, 150, 151, 152]) := by
                    refine zw_n 1 rfl ?_
                    refine zw_top (na (a := l1) (b := if tx p = 10 then 1 else 0) rfl rfl) ?_
                    refine zw_n 1 (ls' := [some (.ref 139), some (.int (nI n1)), some (.int (nI (l1 + (if tx p = 10 then 1 else 0)))), some (.int (nI (if tx p = 10 then 0 else c1 + 1))), some (.int (nI p)), some (.int (nI (byv (tx p)))), some (.int (nI (if 33 ≤ (nI (byv (tx p))).toInt ∧ (nI (byv (tx p))).toInt ≤ 126 then 1 else 0)))]) rfl ?_
                    refine zw_inc rfl (x' := (nI (p + 1))) (ls' := [some (.ref 139), some (.int (nI n1)), some (.int (nI (l1 + (if tx p = 10 then 1 else 0)))), some (.int (nI (if tx p = 10 then 0 else c1 + 1))), some (.int (nI (p + 1))), some (.int (nI (byv (tx p)))), some (.int (nI (if 33 ≤ (nI (byv (tx p))).toInt ∧ (nI (byv (tx p))).toInt ≤ 126 then 1 else 0)))]) rfl (na (a := p) (b := 1) rfl rfl) rfl ?_
                    refine zw_n 1 rfl ?_
                    refine zw_ls (ls' := [some (.ref 139), some (.int (nI n1)), some (.int (nI (l1 + (if tx p = 10 then 1 else 0)))), some (.int (nI (if tx p = 10 then 0 else c1 + 1))), some (.int (nI (p + 1))), none, none]) ⟨Or.inr rfl, Or.inr rfl, Or.inr rfl, Or.inr rfl, Or.inr rfl, Or.inl rfl, Or.inl rfl, trivial⟩ ?_
                    exact ih14 n1 (l1 + (if tx p = 10 then 1 else 0)) (if tx p = 10 then 0 else c1 + 1) (p + 1) g1 g2 g3 M_14 s_14 f14_0 f14_1 f14_2 f14_3 (⟨by omega, rt_step ib hb9, by rw [nT_o hsg, i_n], by rw [lT, il]; split <;> rfl, by rw [cT, ic], hT_o h1 hsg, hT_o h2 hsg, hT_o h3 hsg⟩) (by omega)
                  refine zw_n 2 rfl ?_
                  refine zw_ine rfl (fun c137 => ?_) (fun c137 => ?_)
                  · -- 137 to 144
                    refine zw_n 1 rfl ?_
                    refine zw_top (x' := nI (if tx p = 10 then 1 else 0)) (show nI 0 = nI (if tx p = 10 then 1 else 0) by rw [if_neg (fun e => c137 ((byv_eq (htx p) (show 10 < 128 by decide)).mpr e))]) ?_
                    exact j133
                  · -- 137 to 140
                    refine zw_n 2 rfl ?_
                    refine zw_top (x' := nI (if tx p = 10 then 1 else 0)) (show nI 1 = nI (if tx p = 10 then 1 else 0) by rw [if_pos ((byv_eq (htx p) (show 10 < 128 by decide)).mp c137)]) ?_
                    exact j133
                refine zw_n 2 rfl ?_
                refine zw_ine rfl (fun c121 => ?_) (fun c121 => ?_)
                · -- 121 to 128
                  refine zw_n 3 rfl ?_
                  refine zw_top (na (a := c1) (b := 1) rfl rfl) ?_
                  refine zw_top (x' := nI (if tx p = 10 then 0 else c1 + 1)) (show nI (c1 + 1) = nI (if tx p = 10 then 0 else c1 + 1) by rw [if_neg (fun e => c121 ((byv_eq (htx p) (show 10 < 128 by decide)).mpr e))]) ?_
                  exact j117
                · -- 121 to 124
                  refine zw_n 2 rfl ?_
                  refine zw_top (x' := nI (if tx p = 10 then 0 else c1 + 1)) (show nI 0 = nI (if tx p = 10 then 0 else c1 + 1) by rw [if_pos ((byv_eq (htx p) (show 10 < 128 by decide)).mp c121)]) ?_
                  exact j117
              · -- 89 to 92
                exfalso
                exact c89 c41
            · -- 60 to 63
              exfalso
              exact c60 c41
          · -- 48 to 51
            refine zw_n 2 rfl ?_
            refine zw_ine rfl (fun c55 => ?_) (fun c55 => ?_)
            · -- 55 to 75
              have hb9 : bdT tx p = true := by unfold bdT; rw [if_neg (by rw [hsg]; decide)]; exact decide_eq_true ⟨fun e => c48 ((byv_eq (htx p) (show 32 < 128 by decide)).mpr e), fun e => c55 ((byv_eq (htx p) (show 10 < 128 by decide)).mpr e)⟩
              refine zw_n 2 rfl ?_
              refine zw_put rfl f14_3 (rfl) (Nat.le_of_ble_eq_true rfl) ?_
              generalize ez2264 : List.set M_14 139 _ = Mz2263
              refine zw_n 3 rfl ?_
              exact zw_iret rfl rfl (⟨by rw [show srch (bdT tx) 0 (o 7) = p from srch_at (by omega) ib hb9]; try rfl, g1, g2, g3, (MM.of (o' := up (up o 0 0) 7 0) (f' := fset (fset (fset f 152 g3) 151 g2) 150 g1) hM (Sm.tset s_14 ez2264 (by decide)) (zat_self ez2264 f14_3) (c1_skip (c1_cons (zat_set ez2264 (by decide) f14_0) (c1_cons (zat_set ez2264 (by decide) f14_1) (c1_cons (zat_set ez2264 (by decide) f14_2) c1_nil)))) (fs_k (fs_c (fs_c (fs_c fs_n))))), Sm.tset s_14 ez2264 (by decide)⟩)
            · -- 55 to 58
              refine zw_n 1 rfl ?_
              refine zw_eq0N (a := if 33 ≤ (nI (byv (tx p))).toInt ∧ (nI (byv (tx p))).toInt ≤ 126 then 1 else 0) rfl rfl (ite_b) (fun c60 => ?_) (fun c60 => ?_)
              · -- 60 to 87
                have he9 : tx p = 32 ∨ tx p = 10 := by first | exact Or.inl ((byv_eq (htx p) (show 32 < 128 by decide)).mp c48) | exact Or.inr ((byv_eq (htx p) (show 10 < 128 by decide)).mp c55)
                have hb9 : bdT tx p = false := by unfold bdT; rw [if_neg (by rw [hsg]; decide)]; exact decide_eq_false (by omega)
                refine zw_n 1 rfl ?_
                refine zw_eq0N (a := if 33 ≤ (nI (byv (tx p))).toInt ∧ (nI (byv (tx p))).toInt ≤ 126 then 1 else 0) rfl rfl (ite_b) (fun c89 => ?_) (fun c89 => ?_)
                · -- 89 to 117
                  have j117 : Zw 2 zm_MO_text 131 [some (.ref 139), some (.int (nI n1)), some (.int (nI l1)), some (.int (nI c1)), some (.int (nI p)), some (.int (nI (byv (tx p)))), some (.int (nI (if 33 ≤ (nI (byv (tx p))).toInt ∧ (nI (byv (tx p))).toInt ≤ 126 then 1 else 0)))] [.int (nI (if tx p = 10 then 0 else c1 + 1))] M_14 (fun r9 M1 => r9 = some (.int (-1000 - nI (srch (bdT tx) 0 (o 7)))) ∧ ∃ A B C, MM M1 (up (up o 0 0) 7 0) (fset (fset (fset f 152 C) 151 B) 150 A) ∧ Sm Mq M1 [139, 150, 151, 152]) := by
                    refine zw_n 2 (ls' := [some (.ref 139), some (.int (nI n1)), some (.int (nI l1)), some (.int (nI (if tx p = 10 then 0 else c1 + 1))), some (.int (nI p)), some (.int (nI (byv (tx p)))), some (.int (nI (if 33 ≤ (nI (byv (tx p))).toInt ∧ (nI (byv (tx p))).toInt ≤ 126 then 1 else 0)))]) rfl ?_
                    have j133 : Zw 2 zm_MO_text 145 [some (.ref 139), some (.int (nI n1)), some (.int (nI l1)), some (.int (nI (if tx p = 10 then 0 else c1 + 1))), some (.int (nI p)), some (.int (nI (byv (tx p)))), some (.int (nI (if 33 ≤ (nI (byv (tx p))).toInt ∧ (nI (byv (tx p))).toInt ≤ 126 then 1 else 0)))] [.int (nI (if tx p = 10 then 1 else 0)), .int (nI l1)] M_14 (fun r9 M1 => r9 = some (.int (-1000 - nI (srch (bdT tx) 0 (o 7)))) ∧ ∃ A B C, MM M1 (up (up o 0 0) 7 0) (fset (fset (fset f 152 C) 151 B) 150 A) ∧ Sm Mq M1 [139, 150, 151, 152]) := by
                      refine zw_n 1 rfl ?_
                      refine zw_top (na (a := l1) (b := if tx p = 10 then 1 else 0) rfl rfl) ?_
                      refine zw_n 1 (ls' := [some (.ref 139), some (.int (nI n1)), some (.int (nI (l1 + (if tx p = 10 then 1 else 0)))), some (.int (nI (if tx p = 10 then 0 else c1 + 1))), some (.int (nI p)), some (.int (nI (byv (tx p)))), some (.int (nI (if 33 ≤ (nI (byv (tx p))).toInt ∧ (nI (byv (tx p))).toInt ≤ 126 then 1 else 0)))]) rfl ?_
                      refine zw_inc rfl (x' := (nI (p + 1))) (ls' := [some (.ref 139), some (.int (nI n1)), some (.int (nI (l1 + (if tx p = 10 then 1 else 0)))), some (.int (nI (if tx p = 10 then 0 else c1 + 1))), some (.int (nI (p + 1))), some (.int (nI (byv (tx p)))), some (.int (nI (if 33 ≤ (nI (byv (tx p))).toInt ∧ (nI (byv (tx p))).toInt ≤ 126 then 1 else 0)))]) rfl (na (a := p) (b := 1) rfl rfl) rfl ?_
                      refine zw_n 1 rfl ?_
                      refine zw_ls (ls' := [some (.ref 139), some (.int (nI n1)), some (.int (nI (l1 + (if tx p = 10 then 1 else 0)))), some (.int (nI (if tx p = 10 then 0 else c1 + 1))), some (.int (nI (p + 1))), none, none]) ⟨Or.inr rfl, Or.inr rfl, Or.inr rfl, Or.inr rfl, Or.inr rfl, Or.inl rfl, Or.inl rfl, trivial⟩ ?_
                      exact ih14 n1 (l1 + (if tx p = 10 then 1 else 0)) (if tx p = 10 then 0 else c1 + 1) (p + 1) g1 g2 g3 M_14 s_14 f14_0 f14_1 f14_2 f14_3 (⟨by omega, rt_step ib hb9, by rw [nT_o hsg, i_n], by rw [lT, il]; split <;> rfl, by rw [cT, ic], hT_o h1 hsg, hT_o h2 hsg, hT_o h3 hsg⟩) (by omega)
                    refine zw_n 2 rfl ?_
                    refine zw_ine rfl (fun c137 => ?_) (fun c137 => ?_)
                    · -- 137 to 144
                      refine zw_n 1 rfl ?_
                      refine zw_top (x' := nI (if tx p = 10 then 1 else 0)) (show nI 0 = nI (if tx p = 10 then 1 else 0) by rw [if_neg (fun e => c137 ((byv_eq (htx p) (show 10 < 128 by decide)).mpr e))]) ?_
                      exact j133
                    · -- 137 to 140
                      refine zw_n 2 rfl ?_
                      refine zw_top (x' := nI (if tx p = 10 then 1 else 0)) (show nI 1 = nI (if tx p = 10 then 1 else 0) by rw [if_pos ((byv_eq (htx p) (show 10 < 128 by decide)).mp c137)]) ?_
                      exact j133
                  refine zw_n 2 rfl ?_
                  refine zw_ine rfl (fun c121 => ?_) (fun c121 => ?_)
                  · -- 121 to 128
                    refine zw_n 3 rfl ?_
                    refine zw_top (na (a := c1) (b := 1) rfl rfl) ?_
                    refine zw_top (x' := nI (if tx p = 10 then 0 else c1 + 1)) (show nI (c1 + 1) = nI (if tx p = 10 then 0 else c1 + 1) by rw [if_neg (fun e => c121 ((byv_eq (htx p) (show 10 < 128 by decide)).mpr e))]) ?_
                    exact j117
                  · -- 121 to 124
                    refine zw_n 2 rfl ?_
                    refine zw_top (x' := nI (if tx p = 10 then 0 else c1 + 1)) (show nI 0 = nI (if tx p = 10 then 0 else c1 + 1) by rw [if_pos ((byv_eq (htx p) (show 10 < 128 by decide)).mp c121)]) ?_
                    exact j117
                · -- 89 to 92
                  exfalso
                  exact c89 c41
              · -- 60 to 63
                exfalso
                exact c60 c41
  exact lp14 _ 0 0 0 0 (f 150) (f 151) (f 152) Mz2244 (Sm.tset Sm.rf ez2245 (by decide)) mz2247 mz2248 mz2249 (zat_self ez2245 hM.1) (⟨Nat.zero_le _, fun q hq => by omega, rfl, rfl, rfl, fun q hq => absurd hq (Nat.not_lt_zero _), fun q hq => absurd hq (Nat.not_lt_zero _), fun q hq => absurd hq (Nat.not_lt_zero _)⟩) (Nat.lt_succ_self _)

set_option maxHeartbeats 4000000 in
set_option maxRecDepth 100000 in
theorem m_textOk (Mq : zM) (o : Nat → Nat) (f : Nat → Nat → Nat) (hM : MM Mq o f) (tx : Nat → Nat) (hX : ∀ q, q < o 7 → f 144 q = byv (tx q)) (htx : ∀ q, tx q < 256) (ho : o 7 ≤ 240) (hq0 : ∀ q, f 140 q < 2147483648) (hx : srch (bdT tx) 0 (o 7) = NO) : Zm 2 zm_MO_text [.ref 139] Mq (fun r9 M1 => r9 = some (.int (nI (nT tx (o 7)))) ∧ ∃ R A B C, MM M1 (up (up (up o 0 0) 5 0) 7 0) (fset (fset (fset (fset f 152 C) 151 B) 150 A) 140 R) ∧ Sm Mq M1 [139, 140, 150, 151, 152] ∧ (∀ q, q < 529 → R q = f 140 q) ∧ (∀ q, R q < 2147483648) ∧ RelT (fset f 140 R) (nT tx (o 7)) (aT tx tx (o 7)) (aT tx (lT tx) (o 7)) (aT tx (cT tx) (o 7))) := by
  show Zw 2 zm_MO_text 0 [some (.ref 139), none, none, none, none, none, none] [] Mq _
  refine zw_n 2 rfl ?_
  refine zw_put rfl hM.1 (rfl) (Nat.le_of_ble_eq_true rfl) ?_
  generalize ez2266 : List.set Mq 139 _ = Mz2265
  refine zw_n 8 (ls' := [some (.ref 139), some (.int 0), some (.int 0), some (.int 0), some (.int 0), none, none]) rfl ?_
  have mz2267 : Mz2265[144]? = some (.inl (2, 240, .inl (ai (f 144)))) := zat_set ez2266 (by decide) (hM.2 144 (by decide) (by decide))
  have mz2268 : Mz2265[150]? = some (.inl (0, 20, .inl (ai (f 150)))) := zat_set ez2266 (by decide) (hM.2 150 (by decide) (by decide))
  have mz2269 : Mz2265[151]? = some (.inl (0, 20, .inl (ai (f 151)))) := zat_set ez2266 (by decide) (hM.2 151 (by decide) (by decide))
  have mz2270 : Mz2265[152]? = some (.inl (0, 20, .inl (ai (f 152)))) := zat_set ez2266 (by decide) (hM.2 152 (by decide) (by decide))
  have mz2271 : Mz2265[140]? = some (.inl (0, 590, .inl (ai (f 140)))) := zat_set ez2266 (by decide) (hM.2 140 (by decide) (by decide))
  have lp14 : ∀ (n14 : Nat) (n1 : Nat) (l1 : Nat) (c1 : Nat) (p : Nat) (g1 : Nat → Nat) (g2 : Nat → Nat) (g3 : Nat → Nat) (M_14 : zM), Sm Mq M_14 [139, 140, 150, 151, 152] → M_14[150]? = some (.inl (0, 20, .inl (ai g1))) → M_14[151]? = some (.inl (0, 20, .inl (ai g2))) → M_14[152]? = some (.inl (0, 20, .inl (ai g3))) → M_14[139]? = some (.inr (12, [.int 0, .ref 140, .ref 141, .ref 142, .ref 143, .int (nI (o 5)), .ref 144, .int (nI (o 7)), .int (nI (o 8)), .int (nI (o 9)), .int (nI (o 10)), .ref 145, .ref 146, .ref 147, .ref 148, .ref 149, .ref 150, .ref 151, .ref 152, .ref 153, .ref 154, .ref 155, .ref 156, .ref 157, .ref 158, .ref 159, .ref 160, .ref 161, .ref 162, .ref 163, .ref 164, .int (nI (o 31)), .ref 165, .int (nI (o 33)), .ref 166, .ref 167, .ref 168, .ref 169, .int (nI (o 38)), .ref 170, .ref 171, .ref 172, .ref 173, .ref 174, .ref 175, .int (nI (o 45)), .int (nI (o 46)), .int (nI (o 47)), .long (lN (o 48)), .ref 176])) → M_14[140]? = some (.inl (0, 590, .inl (ai (f 140)))) → (p ≤ o 7 ∧ (∀ q, q < p → bdT tx q = false) ∧ n1 = nT tx p ∧ l1 = lT tx p ∧ c1 = cT tx p ∧ hT_ tx tx g1 p ∧ hT_ tx (lT tx) g2 p ∧ hT_ tx (cT tx) g3 p) → o 7 - p < n14 → Zw 2 zm_MO_text 14 [some (.ref 139), some (.int (nI n1)), some (.int (nI l1)), some (.int (nI c1)), some (.int (nI p)), none, none] [] M_14 (fun r9 M1 => r9 = some (.int (nI (nT tx (o 7)))) ∧ ∃ R A B C, MM M1 (up (up (up o 0 0) 5 0) 7 0) (fset (fset (fset (fset f 152 C) 151 B) 150 A) 140 R) ∧ Sm Mq M1 [139, 140, 150, 151, 152] ∧ (∀ q, q < 529 → R q = f 140 q) ∧ (∀ q, R q < 2147483648) ∧ RelT (fset f 140 R) (nT tx (o 7)) (aT tx tx (o 7)) (aT tx (lT tx) (o 7)) (aT tx (cT tx) (o 7))) := by
    intro n14
    induction n14 with
    | zero => intro n1 l1 c1 p g1 g2 g3 M_14 _ _ _ _ _ _ _ h; exact absurd h (Nat.not_lt_zero _)
    | succ n14 ih14 =>
      intro n1 l1 c1 p g1 g2 g3 M_14 s_14 f14_0 f14_1 f14_2 f14_3 f14_4 hi14 hm14
      obtain ⟨ip, ib, i_n, il, ic, h1, h2, h3⟩ := hi14
      have hlt := lT_le tx p
      have hct := cT_le tx p
      have hac := aT_co tx p ib
      have hn20 := hac.1
      have htp := htx p
      refine zw_n 2 rfl ?_
      refine zw_get (v := .int (nI (o 7))) rfl f14_3 rfl ?_
      refine zw_igeN (a := p) (b := o 7) rfl rfl rfl (by omega) (by omega) (fun c20 => ?_) (fun c20 => ?_)
      · -- 20 to 153
        refine zw_n 2 rfl ?_
        refine zw_put rfl f14_3 (rfl) (Nat.le_of_ble_eq_true rfl) ?_
        generalize ez2273 : List.set M_14 139 _ = Mz2272
        refine zw_n 1 rfl ?_
        refine zw_get (v := .ref 140) rfl (zat_self ez2273 f14_3) rfl ?_
        refine zw_n 2 rfl ?_
        refine zw_iastN (g := (f 140)) (j := 529) (v := n1) rfl (zat_set ez2273 (by decide) f14_4) rfl (by decide) (by omega) (rfl) ?_
        generalize ez2275 : List.set Mz2272 140 _ = Mz2274
        refine zw_n 2 (ls' := [some (.ref 139), some (.int (nI n1)), some (.int (nI l1)), some (.int (nI c1)), some (.int 0), none, none]) rfl ?_
        have mz2276 : Mz2274[144]? = some (.inl (2, 240, .inl (ai (f 144)))) := zat_set ez2275 (by decide) (zat_set ez2273 (by decide) (Sm.at s_14 (by decide) (hM.2 144 (by decide) (by decide))))
        have mz2277 : Mz2274[150]? = some (.inl (0, 20, .inl (ai g1))) := zat_set ez2275 (by decide) (zat_set ez2273 (by decide) f14_0)
        have mz2278 : Mz2274[151]? = some (.inl (0, 20, .inl (ai g2))) := zat_set ez2275 (by decide) (zat_set ez2273 (by decide) f14_1)
        have mz2279 : Mz2274[152]? = some (.inl (0, 20, .inl (ai g3))) := zat_set ez2275 (by decide) (zat_set ez2273 (by decide) f14_2)
        have lp170 : ∀ (n170 : Nat) (k : Nat) (R : Nat → Nat) (M_170 : zM), Sm Mq M_170 [139, 140, 150, 151, 152] → M_170[140]? = some (.inl (0, 590, .inl (ai R))) → M_170[139]? = some (.inr (12, [.int 0, .ref 140, .ref 141, .ref 142, .ref 143, .int (nI (o 5)), .ref 144, .int 0, .int (nI (o 8)), .int (nI (o 9)), .int (nI (o 10)), .ref 145, .ref 146, .ref 147, .ref 148, .ref 149, .ref 150, .ref 151, .ref 152, .ref 153, .ref 154, .ref 155, .ref 156, .ref 157, .ref 158, .ref 159, .ref 160, .ref 161, .ref 162, .ref 163, .ref 164, .int (nI (o 31)), .ref 165, .int (nI (o 33)), .ref 166, .ref 167, .ref 168, .ref 169, .int (nI (o 38)), .ref 170, .ref 171, .ref 172, .ref 173, .ref 174, .ref 175, .int (nI (o 45)), .int (nI (o 46)), .int (nI (o 47)), .long (lN (o 48)), .ref 176])) → M_170[150]? = some (.inl (0, 20, .inl (ai g1))) → M_170[151]? = some (.inl (0, 20, .inl (ai g2))) → M_170[152]? = some (.inl (0, 20, .inl (ai g3))) → (k ≤ n1 ∧ R = txR (f 140) n1 g1 g2 g3 k) → n1 - k < n170 → Zw 2 zm_MO_text 170 [some (.ref 139), some (.int (nI n1)), some (.int (nI l1)), some (.int (nI c1)), some (.int (nI k)), none, none] [] M_170 (fun r9 M1 => r9 = some (.int (nI (nT tx (o 7)))) ∧ ∃ R A B C, MM M1 (up (up (up o 0 0) 5 0) 7 0) (fset (fset (fset (fset f 152 C) 151 B) 150 A) 140 R) ∧ Sm Mq M1 [139, 140, 150, 151, 152] ∧ (∀ q, q < 529 → R q = f 140 q) ∧ (∀ q, R q < 2147483648) ∧ RelT (fset f 140 R) (nT tx (o 7)) (aT tx tx (o 7)) (aT tx (lT tx) (o 7)) (aT tx (cT tx) (o 7))) := by
          intro n170
          induction n170 with
          | zero => intro k R M_170 _ _ _ _ _ _ _ h; exact absurd h (Nat.not_lt_zero _)
          | succ n170 ih170 =>
            intro k R M_170 s_170 f170_0 f170_1 f170_2 f170_3 f170_4 hi170 hm170
            have hR := hi170.2
            have hp9 : p = o 7 := by omega
            refine zw_n 2 rfl ?_
            refine zw_igeN (a := k) (b := n1) rfl rfl rfl (by omega) (by omega) (fun c173 => ?_) (fun c173 => ?_)
            · -- 173 to 236
              refine zw_n 2 rfl ?_
              refine zw_put rfl f170_1 (rfl) (Nat.le_of_ble_eq_true rfl) ?_
              generalize ez2281 : List.set M_170 139 _ = Mz2280
              refine zw_n 1 rfl ?_
              exact zw_iret rfl rfl (⟨by rw [i_n, hp9]; try rfl, R, g1, g2, g3, (MM.of (o' := up (up (up o 0 0) 5 0) 7 0) (f' := fset (fset (fset (fset f 152 g3) 151 g2) 150 g1) 140 R) hM (Sm.tset s_170 ez2281 (by decide)) (zat_self ez2281 f170_1) (c1_skip (c1_cons (zat_set ez2281 (by decide) f170_0) (c1_cons (zat_set ez2281 (by decide) f170_2) (c1_cons (zat_set ez2281 (by decide) f170_3) (c1_cons (zat_set ez2281 (by decide) f170_4) c1_nil))))) (fs_k (fs_c (fs_c (fs_c (fs_c fs_n)))))), Sm.tset s_170 ez2281 (by decide), fun q hq => (congrFun hR _).trans (txR_o hq), fun q => by rw [hR]; exact txR_lt hq0 (by omega) (fun q hq => by rw [h1 q (by omega)]; exact aT_v (fun k _ => Nat.lt_trans (htx k) (by decide)) (by omega) q (by omega)) (fun q hq => by rw [h2 q (by omega)]; exact aT_v (fun k hk => by have := lT_le tx k; omega) (by omega) q (by omega)) (fun q hq => by rw [h3 q (by omega)]; exact aT_v (fun k hk => by have := cT_le tx k; omega) (by omega) q (by omega)) q, by rw [hR, show k = n1 by omega, ← hp9, ← i_n]; exact RelT.text (by omega) (fun q hq => h1 q (by omega)) (fun q hq => h2 q (by omega)) (fun q hq => h3 q (by omega))⟩)
            · -- 173 to 176
              refine zw_n 1 rfl ?_
              refine zw_get (v := .ref 140) rfl f170_1 rfl ?_
              refine zw_n 3 rfl ?_
              refine zw_top (na (a := 530) (b := k) rfl rfl) ?_
              refine zw_n 1 rfl ?_
              refine zw_get (v := .ref 150) rfl f170_1 rfl ?_
              refine zw_n 1 rfl ?_
              refine zw_iald (f := ai g1) (j := k) rfl f170_2 rfl (by decide) (by omega) ?_
              refine zw_iastN (g := R) (j := (530 + k)) (v := (g1 k)) rfl f170_0 rfl (by decide) (by omega) (rfl) ?_
              generalize ez2283 : List.set M_170 140 _ = Mz2282
              refine zw_n 1 rfl ?_
              refine zw_get (v := .ref 140) rfl (zat_set ez2283 (by decide) f170_1) rfl ?_
              refine zw_n 3 rfl ?_
              refine zw_top (na (a := 550) (b := k) rfl rfl) ?_
              refine zw_n 1 rfl ?_
              refine zw_get (v := .ref 151) rfl (zat_set ez2283 (by decide) f170_1) rfl ?_
              refine zw_n 1 rfl ?_
              refine zw_iald (f := ai g2) (j := k) rfl (zat_set ez2283 (by decide) f170_3) rfl (by decide) (by omega) ?_
              refine zw_iastN (g := (up R (530 + k) (g1 k))) (j := (550 + k)) (v := (g2 k)) rfl (zat_self ez2283 f170_0) rfl (by decide) (by omega) (rfl) ?_
              generalize ez2285 : List.set Mz2282 140 _ = Mz2284
              refine zw_n 1 rfl ?_
              refine zw_get (v := .ref 140) rfl (zat_set ez2285 (by decide) (zat_set ez2283 (by decide) f170_1)) rfl ?_
              refine zw_n 3 rfl ?_
              refine zw_top (na (a := 570) (b := k) rfl rfl) ?_
              refine zw_n 1 rfl ?_
              refine zw_get (v := .ref 152) rfl (zat_set ez2285 (by decide) (zat_set ez2283 (by decide) f170_1)) rfl ?_
              refine zw_n 1 rfl ?_
              refine zw_iald (f := ai g3) (j := k) rfl (zat_set ez2285 (by decide) (zat_set ez2283 (by decide) f170_4)) rfl (by decide) (by omega) ?_
              refine zw_iastN (g := (up (up R (530 + k) (g1 k)) (550 + k) (g2 k))) (j := (570 + k)) (v := (g3 k)) rfl (zat_self ez2285 (zat_self ez2283 f170_0)) rfl (by decide) (by omega) (rfl) ?_
              generalize ez2287 : List.set Mz2284 140 _ = Mz2286
              refine zw_inc rfl (x' := (nI (k + 1))) (ls' := [some (.ref 139), some (.int (nI n1)), some (.int (nI l1)), some (.int (nI c1)), some (.int (nI (k + 1))), none, none]) rfl (na (a := k) (b := 1) rfl rfl) rfl ?_
              refine zw_n 1 rfl ?_
              exact ih170 (k + 1) (up (up (up R (530 + k) (g1 k)) (550 + k) (g2 k)) (570 + k) (g3 k)) Mz2286 (Sm.tset (Sm.tset (Sm.tset s_170 ez2283 (by decide)) ez2285 (by decide)) ez2287 (by decide)) (zat_self ez2287 (zat_self ez2285 (zat_self ez2283 f170_0))) (zat_set ez2287 (by decide) (zat_set ez2285 (by decide) (zat_set ez2283 (by decide) f170_1))) (zat_set ez2287 (by decide) (zat_set ez2285 (by decide) (zat_set ez2283 (by decide) f170_2))) (zat_set ez2287 (by decide) (zat_set ez2285 (by decide) (zat_set ez2283 (by decide) f170_3))) (zat_set ez2287 (by decide) (zat_set ez2285 (by decide) (zat_set ez2283 (by decide) f170_4))) (⟨by omega, by rw [hR]; exact txR_s (by omega)⟩) (by omega)
        exact lp170 _ 0 (up (f 140) 529 n1) Mz2274 (Sm.tset (Sm.tset s_14 ez2273 (by decide)) ez2275 (by decide)) (zat_self ez2275 (zat_set ez2273 (by decide) f14_4)) (zat_set ez2275 (by decide) (zat_self ez2273 f14_3)) mz2277 mz2278 mz2279 (⟨Nat.zero_le _, (txR_0 ..).symm⟩) (Nat.lt_succ_self _)
      · -- 20 to 23
        refine zw_n 1 rfl ?_
        refine zw_get (v := .ref 144) rfl f14_3 rfl ?_
        refine zw_n 1 rfl ?_
        refine zw_bald (f := ai (f 144)) (j := p) rfl (Sm.at s_14 (by decide) (hM.2 144 (by decide) (by decide))) rfl rfl (by decide) (by omega) ?_
        refine zw_top (x' := (nI (byv (tx p)))) (congrArg nI (hX p (by omega))) ?_
        refine zw_n 2 (ls' := [some (.ref 139), some (.int (nI n1)), some (.int (nI l1)), some (.int (nI c1)), some (.int (nI p)), some (.int (nI (byv (tx p)))), none]) rfl ?_
        refine zw_callS (as := [.int (nI (byv (tx p)))]) (rest := []) rfl rfl rfl rfl rfl rfl (by decide) (m_isSign _ (nI (byv (tx p)))) (fun rz2288 Mz2289 hz2290 => ?_)
        rw [hz2290.1, hz2290.2]
        show Zw 2 zm_MO_text 37 [some (.ref 139), some (.int (nI n1)), some (.int (nI l1)), some (.int (nI c1)), some (.int (nI p)), some (.int (nI (byv (tx p)))), none] [.int (nI (if 33 ≤ (nI (byv (tx p))).toInt ∧ (nI (byv (tx p))).toInt ≤ 126 then 1 else 0))] M_14 _
        refine zw_n 2 (ls' := [some (.ref 139), some (.int (nI n1)), some (.int (nI l1)), some (.int (nI c1)), some (.int (nI p)), some (.int (nI (byv (tx p)))), some (.int (nI (if 33 ≤ (nI (byv (tx p))).toInt ∧ (nI (byv (tx p))).toInt ≤ 126 then 1 else 0)))]) rfl ?_
        refine zw_ne0N (a := if 33 ≤ (nI (byv (tx p))).toInt ∧ (nI (byv (tx p))).toInt ≤ 126 then 1 else 0) rfl rfl (ite_b) (fun c41 => ?_) (fun c41 => ?_)
        · -- 41 to 58
          refine zw_n 1 rfl ?_
          refine zw_eq0N (a := if 33 ≤ (nI (byv (tx p))).toInt ∧ (nI (byv (tx p))).toInt ≤ 126 then 1 else 0) rfl rfl (ite_b) (fun c60 => ?_) (fun c60 => ?_)
          · -- 60 to 87
            exfalso
            exact c41 c60
          · -- 60 to 63
            have hsg : sgB (tx p) = true := (sg_byv (htx p)).mp (ite_ne c41)
            refine zw_n 2 rfl ?_
            refine zw_ieqN (a := n1) (b := 20) rfl rfl rfl (by omega) (by omega) (fun c66 => ?_) (fun c66 => ?_)
            · -- 66 to 75
              have hb9 : bdT tx p = true := by unfold bdT; rw [if_pos hsg]; exact decide_eq_true (by omega)
              refine zw_n 2 rfl ?_
              refine zw_put rfl f14_3 (rfl) (Nat.le_of_ble_eq_true rfl) ?_
              generalize ez2292 : List.set M_14 139 _ = Mz2291
              refine zw_n 3 rfl ?_
              refine zw_iret rfl rfl ?_
              exfalso
              rw [show srch (bdT tx) 0 (o 7) = p from srch_at (by omega) ib hb9] at hx
              unfold NO at hx
              omega
            · -- 66 to 69
              refine zw_n 2 rfl ?_
              refine zw_ileN (a := c1) (b := 39) rfl rfl rfl (by omega) (by omega) (fun c72 => ?_) (fun c72 => ?_)
              · -- 72 to 87
                have hb9 : bdT tx p = false := by unfold bdT; rw [if_pos hsg]; exact decide_eq_false (by omega)
                refine zw_n 1 rfl ?_
                refine zw_eq0N (a := if 33 ≤ (nI (byv (tx p))).toInt ∧ (nI (byv (tx p))).toInt ≤ 126 then 1 else 0) rfl rfl (ite_b) (fun c89 => ?_) (fun c89 => ?_)
                · -- 89 to 117
                  exfalso
                  exact c41 c89
                · -- 89 to 92
                  refine zw_n 1 rfl ?_
                  refine zw_get (v := .ref 150) rfl f14_3 rfl ?_
                  refine zw_n 2 rfl ?_
                  refine zw_iastN (g := g1) (j := n1) (v := (tx p)) rfl f14_0 rfl (by decide) (by omega) (congrArg nI (byv_lt (sg_lt hsg))) ?_
                  generalize ez2294 : List.set M_14 150 _ = Mz2293
                  refine zw_n 1 rfl ?_
                  refine zw_get (v := .ref 151) rfl (zat_set ez2294 (by decide) f14_3) rfl ?_
                  refine zw_n 2 rfl ?_
                  refine zw_iastN (g := g2) (j := n1) (v := l1) rfl (zat_set ez2294 (by decide) f14_1) rfl (by decide) (by omega) (rfl) ?_
                  generalize ez2296 : List.set Mz2293 151 _ = Mz2295
                  refine zw_n 1 rfl ?_
                  refine zw_get (v := .ref 152) rfl (zat_set ez2296 (by decide) (zat_set ez2294 (by decide) f14_3)) rfl ?_
                  refine zw_n 2 rfl ?_
                  refine zw_iastN (g := g3) (j := n1) (v := c1) rfl (zat_set ez2296 (by decide) (zat_set ez2294 (by decide) f14_2)) rfl (by decide) (by omega) (rfl) ?_
                  generalize ez2298 : List.set Mz2295 152 _ = Mz2297
                  refine zw_inc rfl (x' := (nI (n1 + 1))) (ls' := [some (.ref 139), some (.int (nI (n1 + 1))), some (.int (nI l1)), some (.int (nI c1)), some (.int (nI p)), some (.int (nI (byv (tx p)))), some (.int (nI (if 33 ≤ (nI (byv (tx p))).toInt ∧ (nI (byv (tx p))).toInt ≤ 126 then 1 else 0)))]) rfl (na (a := n1) (b := 1) rfl rfl) rfl ?_
                  have j117 : Zw 2 zm_MO_text 131 [some (.ref 139), some (.int (nI (n1 + 1))), some (.int (nI l1)), some (.int (nI c1)), some (.int (nI p)), some (.int (nI (byv (tx p)))), some (.int (nI (if 33 ≤ (nI (byv (tx p))).toInt ∧ (nI (byv (tx p))).toInt ≤ 126 then 1 else 0)))] [.int (nI (if tx p = 10 then 0 else c1 + 1))] Mz2297 (fun r9 M1 => r9 = some (.int (nI (nT tx (o 7)))) ∧ ∃ R A B C, MM M1 (up (up (up o 0 0) 5 0) 7 0) (fset (fset (fset (fset f 152 C) 151 B) 150 A) 140 R) ∧ Sm Mq M1 [139, 140, 150, 151, 152] ∧ (∀ q, q < 529 → R q = f 140 q) ∧ (∀ q, R q < 2147483648) ∧ RelT (fset f 140 R) (nT tx (o 7)) (aT tx tx (o 7)) (aT tx (lT tx) (o 7)) (aT tx (cT tx) (o 7))) := by
                    refine zw_n 2 (ls' := [some (.ref 139), some (.int (nI (n1 + 1))), some (.int (nI l1)), some (.int (nI (if tx p = 10 then 0 else c1 + 1))), some (.int (nI p)), some (.int (nI (byv (tx p)))), some (.int (nI (if 33 ≤ (nI (byv (tx p))).toInt ∧ (nI (byv (tx p))).toInt ≤ 126 then 1 else 0)))]) rfl ?_
                    have j133 : Zw 2 zm_MO_text 145 [some (.ref 139), some (.int (nI (n1 + 1))), some (.int (nI l1)), some (.int (nI (if tx p = 10 then 0 else c1 + 1))), some (.int (nI p)), some (.int (nI (byv (tx p)))), some (.int (nI (if 33 ≤ (nI (byv (tx p))).toInt ∧ (nI (byv (tx p))).toInt ≤ 126 then 1 else 0)))] [.int (nI (if tx p = 10 then 1 else 0)), .int (nI l1)] Mz2297 (fun r9 M1 => r9 = some (.int (nI (nT tx (o 7)))) ∧ ∃ R A B C, MM M1 (up (up (up o 0 0) 5 0) 7 0) (fset (fset (fset (fset f 152 C) 151 B) 150 A) 140 R) ∧ Sm Mq M1 [139, 140, 150, 151, 152] ∧ (∀ q, q < 529 → R q = f 140 q) ∧ (∀ q, R q < 2147483648) ∧ RelT (fset f 140 R) (nT tx (o 7)) (aT tx tx (o 7)) (aT tx (lT tx) (o 7)) (aT tx (cT tx) (o 7))) := by
                      refine zw_n 1 rfl ?_
                      refine zw_top (na (a := l1) (b := if tx p = 10 then 1 else 0) rfl rfl) ?_
                      refine zw_n 1 (ls' := [some (.ref 139), some (.int (nI (n1 + 1))), some (.int (nI (l1 + (if tx p = 10 then 1 else 0)))), some (.int (nI (if tx p = 10 then 0 else c1 + 1))), some (.int (nI p)), some (.int (nI (byv (tx p)))), some (.int (nI (if 33 ≤ (nI (byv (tx p))).toInt ∧ (nI (byv (tx p))).toInt ≤ 126 then 1 else 0)))]) rfl ?_
                      refine zw_inc rfl (x' := (nI (p + 1))) (ls' := [some (.ref 139), some (.int (nI (n1 + 1))), some (.int (nI (l1 + (if tx p = 10 then 1 else 0)))), some (.int (nI (if tx p = 10 then 0 else c1 + 1))), some (.int (nI (p + 1))), some (.int (nI (byv (tx p)))), some (.int (nI (if 33 ≤ (nI (byv (tx p))).toInt ∧ (nI (byv (tx p))).toInt ≤ 126 then 1 else 0)))]) rfl (na (a := p) (b := 1) rfl rfl) rfl ?_
                      refine zw_n 1 rfl ?_
                      refine zw_ls (ls' := [some (.ref 139), some (.int (nI (n1 + 1))), some (.int (nI (l1 + (if tx p = 10 then 1 else 0)))), some (.int (nI (if tx p = 10 then 0 else c1 + 1))), some (.int (nI (p + 1))), none, none]) ⟨Or.inr rfl, Or.inr rfl, Or.inr rfl, Or.inr rfl, Or.inr rfl, Or.inl rfl, Or.inl rfl, trivial⟩ ?_
                      exact ih14 (n1 + 1) (l1 + (if tx p = 10 then 1 else 0)) (if tx p = 10 then 0 else c1 + 1) (p + 1) (up g1 n1 (tx p)) (up g2 n1 l1) (up g3 n1 c1) Mz2297 (Sm.tset (Sm.tset (Sm.tset s_14 ez2294 (by decide)) ez2296 (by decide)) ez2298 (by decide)) (zat_set ez2298 (by decide) (zat_set ez2296 (by decide) (zat_self ez2294 f14_0))) (zat_set ez2298 (by decide) (zat_self ez2296 (zat_set ez2294 (by decide) f14_1))) (zat_self ez2298 (zat_set ez2296 (by decide) (zat_set ez2294 (by decide) f14_2))) (zat_set ez2298 (by decide) (zat_set ez2296 (by decide) (zat_set ez2294 (by decide) f14_3))) (zat_set ez2298 (by decide) (zat_set ez2296 (by decide) (zat_set ez2294 (by decide) f14_4))) (⟨by omega, rt_step ib hb9, by rw [nT_s hsg, i_n], by rw [lT, il]; split <;> rfl, by rw [cT, ic], by rw [i_n]; exact hT_s h1 hsg, by rw [i_n, il]; exact hT_s h2 hsg, by rw [i_n, ic]; exact hT_s h3 hsg⟩) (by omega)
                    refine zw_n 2 rfl ?_
                    refine zw_ine rfl (fun c137 => ?_) (fun c137 => ?_)
                    · -- 137 to 144
                      refine zw_n 1 rfl ?_
                      refine zw_top (x' := nI (if tx p = 10 then 1 else 0)) (show nI 0 = nI (if tx p = 10 then 1 else 0) by rw [if_neg (fun e => c137 ((byv_eq (htx p) (show 10 < 128 by decide)).mpr e))]) ?_
                      exact j133
                    · -- 137 to 140
                      refine zw_n 2 rfl ?_
                      refine zw_top (x' := nI (if tx p = 10 then 1 else 0)) (show nI 1 = nI (if tx p = 10 then 1 else 0) by rw [if_pos ((byv_eq (htx p) (show 10 < 128 by decide)).mp c137)]) ?_
                      exact j133
                  refine zw_n 2 rfl ?_
                  refine zw_ine rfl (fun c121 => ?_) (fun c121 => ?_)
                  · -- 121 to 128
                    refine zw_n 3 rfl ?_
                    refine zw_top (na (a := c1) (b := 1) rfl rfl) ?_
                    refine zw_top (x' := nI (if tx p = 10 then 0 else c1 + 1)) (show nI (c1 + 1) = nI (if tx p = 10 then 0 else c1 + 1) by rw [if_neg (fun e => c121 ((byv_eq (htx p) (show 10 < 128 by decide)).mpr e))]) ?_
                    exact j117
                  · -- 121 to 124
                    refine zw_n 2 rfl ?_
                    refine zw_top (x' := nI (if tx p = 10 then 0 else c1 + 1)) (show nI 0 = nI (if tx p = 10 then 0 else c1 + 1) by rw [if_pos ((byv_eq (htx p) (show 10 < 128 by decide)).mp c121)]) ?_
                    exact j117
              · -- 72 to 75
                have hb9 : bdT tx p = true := by unfold bdT; rw [if_pos hsg]; exact decide_eq_true (by omega)
                refine zw_n 2 rfl ?_
                refine zw_put rfl f14_3 (rfl) (Nat.le_of_ble_eq_true rfl) ?_
                generalize ez2300 : List.set M_14 139 _ = Mz2299
                refine zw_n 3 rfl ?_
                refine zw_iret rfl rfl ?_
                exfalso
                rw [show srch (bdT tx) 0 (o 7) = p from srch_at (by omega) ib hb9] at hx
                unfold NO at hx
                omega
        · -- 41 to 44
          have hsg : sgB (tx p) = false := Bool.eq_false_iff.mpr (fun q => ite_eq0 c41 ((sg_byv (htx p)).mpr q))
          refine zw_n 2 rfl ?_
          refine zw_ieq rfl (fun c48 => ?_) (fun c48 => ?_)
          · -- 48 to 58
            refine zw_n 1 rfl ?_
            refine zw_eq0N (a := if 33 ≤ (nI (byv (tx p))).toInt ∧ (nI (byv (tx p))).toInt ≤ 126 then 1 else 0) rfl rfl (ite_b) (fun c60 => ?_) (fun c60 => ?_)
            · -- 60 to 87
              have he9 : tx p = 32 ∨ tx p = 10 := by first | exact Or.inl ((byv_eq (htx p) (show 32 < 128 by decide)).mp c48) | exact Or.inr ((byv_eq (htx p) (show 10 < 128 by decide)).mp c55)
              have hb9 : bdT tx p = false := by unfold bdT; rw [if_neg (by rw [hsg]; decide)]; exact decide_eq_false (by omega)
              refine zw_n 1 rfl ?_
              refine zw_eq0N (a := if 33 ≤ (nI (byv (tx p))).toInt ∧ (nI (byv (tx p))).toInt ≤ 126 then 1 else 0) rfl rfl (ite_b) (fun c89 => ?_) (fun c89 => ?_)
              · -- 89 to 117
                have j117 : Zw 2 zm_MO_text 131 [some (.ref 139), some (.int (nI n1)), some (.int (nI l1)), some (.int (nI c1)), some (.int (nI p)), some (.int (nI (byv (tx p)))), some (.int (nI (if 33 ≤ (nI (byv (tx p))).toInt ∧ (nI (byv (tx p))).toInt ≤ 126 then 1 else 0)))] [.int (nI (if tx p = 10 then 0 else c1 + 1))] M_14 (fun r9 M1 => r9 = some (.int (nI (nT tx (o 7)))) ∧ ∃ R A B C, MM M1 (up (up (up o 0 0) 5 0) 7 0) (fset (fset (fset (fset f 152 C) 151 B) 150 A) 140 R) ∧ Sm Mq M1 [139, 140, 150, 151, 152] ∧ (∀ q, q < 529 → R q = f 140 q) ∧ (∀ q, R q < 2147483648) ∧ RelT (fset f 140 R) (nT tx (o 7)) (aT tx tx (o 7)) (aT tx (lT tx) (o 7)) (aT tx (cT tx) (o 7))) := by
                  refine zw_n 2 (ls' := [some (.ref 139), some (.int (nI n1)), some (.int (nI l1)), some (.int (nI (if tx p = 10 then 0 else c1 + 1))), some (.int (nI p)), some (.int (nI (byv (tx p)))), some (.int (nI (if 33 ≤ (nI (byv (tx p))).toInt ∧ (nI (byv (tx p))).toInt ≤ 126 then 1 else 0)))]) rfl ?_
                  have j133 : Zw 2 zm_MO_text 145 [some (.ref 139), some (.int (nI n1)), some (.int (nI l1)), some (.int (nI (if tx p = 10 then 0 else c1 + 1))), some (.int (nI p)), some (.int (nI (byv (tx p)))), some (.int (nI (if 33 ≤ (nI (byv (tx p))).toInt ∧ (nI (byv (tx p))).toInt ≤ 126 then 1 else 0)))] [.int (nI (if tx p = 10 then 1 else 0)), .int (nI l1)] M_14 (fun r9 M1 => r9 = some (.int (nI (nT tx (o 7)))) ∧ ∃ R A B C, MM M1 (up (up (up o 0 0) 5 0) 7 0) (fset (fset (fset (fset f 152 C) 151 B) 150 A) 140 R) ∧ Sm Mq M1 [139, 140, 150, 151, 152] ∧ (∀ q, q < 529 → R q = f 140 q) ∧ (∀ q, R q < 2147483648) ∧ RelT (fset f 140 R) (nT tx (o 7)) (aT tx tx (o 7)) (aT tx (lT tx) (o 7)) (aT tx (cT tx) (o 7))) := by
                    refine zw_n 1 rfl ?_
                    refine zw_top (na (a := l1) (b := if tx p = 10 then 1 else 0) rfl rfl) ?_
                    refine zw_n 1 (ls' := [some (.ref 139), some (.int (nI n1)), some (.int (nI (l1 + (if tx p = 10 then 1 else 0)))), some (.int (nI (if tx p = 10 then 0 else c1 + 1))), some (.int (nI p)), some (.int (nI (byv (tx p)))), some (.int (nI (if 33 ≤ (nI (byv (tx p))).toInt ∧ (nI (byv (tx p))).toInt ≤ 126 then 1 else 0)))]) rfl ?_
                    refine zw_inc rfl (x' := (nI (p + 1))) (ls' := [some (.ref 139), some (.int (nI n1)), some (.int (nI (l1 + (if tx p = 10 then 1 else 0)))), some (.int (nI (if tx p = 10 then 0 else c1 + 1))), some (.int (nI (p + 1))), some (.int (nI (byv (tx p)))), some (.int (nI (if 33 ≤ (nI (byv (tx p))).toInt ∧ (nI (byv (tx p))).toInt ≤ 126 then 1 else 0)))]) rfl (na (a := p) (b := 1) rfl rfl) rfl ?_
                    refine zw_n 1 rfl ?_
                    refine zw_ls (ls' := [some (.ref 139), some (.int (nI n1)), some (.int (nI (l1 + (if tx p = 10 then 1 else 0)))), some (.int (nI (if tx p = 10 then 0 else c1 + 1))), some (.int (nI (p + 1))), none, none]) ⟨Or.inr rfl, Or.inr rfl, Or.inr rfl, Or.inr rfl, Or.inr rfl, Or.inl rfl, Or.inl rfl, trivial⟩ ?_
                    exact ih14 n1 (l1 + (if tx p = 10 then 1 else 0)) (if tx p = 10 then 0 else c1 + 1) (p + 1) g1 g2 g3 M_14 s_14 f14_0 f14_1 f14_2 f14_3 f14_4 (⟨by omega, rt_step ib hb9, by rw [nT_o hsg, i_n], by rw [lT, il]; split <;> rfl, by rw [cT, ic], hT_o h1 hsg, hT_o h2 hsg, hT_o h3 hsg⟩) (by omega)
                  refine zw_n 2 rfl ?_
                  refine zw_ine rfl (fun c137 => ?_) (fun c137 => ?_)
                  · -- 137 to 144
                    refine zw_n 1 rfl ?_
                    refine zw_top (x' := nI (if tx p = 10 then 1 else 0)) (show nI 0 = nI (if tx p = 10 then 1 else 0) by rw [if_neg (fun e => c137 ((byv_eq (htx p) (show 10 < 128 by decide)).mpr e))]) ?_
                    exact j133
                  · -- 137 to 140
                    refine zw_n 2 rfl ?_
                    refine zw_top (x' := nI (if tx p = 10 then 1 else 0)) (show nI 1 = nI (if tx p = 10 then 1 else 0) by rw [if_pos ((byv_eq (htx p) (show 10 < 128 by decide)).mp c137)]) ?_
                    exact j133
                refine zw_n 2 rfl ?_
                refine zw_ine rfl (fun c121 => ?_) (fun c121 => ?_)
                · -- 121 to 128
                  refine zw_n 3 rfl ?_
                  refine zw_top (na (a := c1) (b := 1) rfl rfl) ?_
                  refine zw_top (x' := nI (if tx p = 10 then 0 else c1 + 1)) (show nI (c1 + 1) = nI (if tx p = 10 then 0 else c1 + 1) by rw [if_neg (fun e => c121 ((byv_eq (htx p) (show 10 < 128 by decide)).mpr e))]) ?_
                  exact j117
                · -- 121 to 124
                  refine zw_n 2 rfl ?_
                  refine zw_top (x' := nI (if tx p = 10 then 0 else c1 + 1)) (show nI 0 = nI (if tx p = 10 then 0 else c1 + 1) by rw [if_pos ((byv_eq (htx p) (show 10 < 128 by decide)).mp c121)]) ?_
                  exact j117
              · -- 89 to 92
                exfalso
                exact c89 c41
            · -- 60 to 63
              exfalso
              exact c60 c41
          · -- 48 to 51
            refine zw_n 2 rfl ?_
            refine zw_ine rfl (fun c55 => ?_) (fun c55 => ?_)
            · -- 55 to 75
              have hb9 : bdT tx p = true := by unfold bdT; rw [if_neg (by rw [hsg]; decide)]; exact decide_eq_true ⟨fun e => c48 ((byv_eq (htx p) (show 32 < 128 by decide)).mpr e), fun e => c55 ((byv_eq (htx p) (show 10 < 128 by decide)).mpr e)⟩
              refine zw_n 2 rfl ?_
              refine zw_put rfl f14_3 (rfl) (Nat.le_of_ble_eq_true rfl) ?_
              generalize ez2302 : List.set M_14 139 _ = Mz2301
              refine zw_n 3 rfl ?_
              refine zw_iret rfl rfl ?_
              exfalso
              rw [show srch (bdT tx) 0 (o 7) = p from srch_at (by omega) ib hb9] at hx
              unfold NO at hx
              omega
            · -- 55 to 58
              refine zw_n 1 rfl ?_
              refine zw_eq0N (a := if 33 ≤ (nI (byv (tx p))).toInt ∧ (nI (byv (tx p))).toInt ≤ 126 then 1 else 0) rfl rfl (ite_b) (fun c60 => ?_) (fun c60 => ?_)
              · -- 60 to 87
                have he9 : tx p = 32 ∨ tx p = 10 := by first | exact Or.inl ((byv_eq (htx p) (show 32 < 128 by decide)).mp c48) | exact Or.inr ((byv_eq (htx p) (show 10 < 128 by decide)).mp c55)
                have hb9 : bdT tx p = false := by unfold bdT; rw [if_neg (by rw [hsg]; decide)]; exact decide_eq_false (by omega)
                refine zw_n 1 rfl ?_
                refine zw_eq0N (a := if 33 ≤ (nI (byv (tx p))).toInt ∧ (nI (byv (tx p))).toInt ≤ 126 then 1 else 0) rfl rfl (ite_b) (fun c89 => ?_) (fun c89 => ?_)
                · -- 89 to 117
                  have j117 : Zw 2 zm_MO_text 131 [some (.ref 139), some (.int (nI n1)), some (.int (nI l1)), some (.int (nI c1)), some (.int (nI p)), some (.int (nI (byv (tx p)))), some (.int (nI (if 33 ≤ (nI (byv (tx p))).toInt ∧ (nI (byv (tx p))).toInt ≤ 126 then 1 else 0)))] [.int (nI (if tx p = 10 then 0 else c1 + 1))] M_14 (fun r9 M1 => r9 = some (.int (nI (nT tx (o 7)))) ∧ ∃ R A B C, MM M1 (up (up (up o 0 0) 5 0) 7 0) (fset (fset (fset (fset f 152 C) 151 B) 150 A) 140 R) ∧ Sm Mq M1 [139, 140, 150, 151, 152] ∧ (∀ q, q < 529 → R q = f 140 q) ∧ (∀ q, R q < 2147483648) ∧ RelT (fset f 140 R) (nT tx (o 7)) (aT tx tx (o 7)) (aT tx (lT tx) (o 7)) (aT tx (cT tx) (o 7))) := by
                    refine zw_n 2 (ls' := [some (.ref 139), some (.int (nI n1)), some (.int (nI l1)), some (.int (nI (if tx p = 10 then 0 else c1 + 1))), some (.int (nI p)), some (.int (nI (byv (tx p)))), some (.int (nI (if 33 ≤ (nI (byv (tx p))).toInt ∧ (nI (byv (tx p))).toInt ≤ 126 then 1 else 0)))]) rfl ?_
                    have j133 : Zw 2 zm_MO_text 145 [some (.ref 139), some (.int (nI n1)), some (.int (nI l1)), some (.int (nI (if tx p = 10 then 0 else c1 + 1))), some (.int (nI p)), some (.int (nI (byv (tx p)))), some (.int (nI (if 33 ≤ (nI (byv (tx p))).toInt ∧ (nI (byv (tx p))).toInt ≤ 126 then 1 else 0)))] [.int (nI (if tx p = 10 then 1 else 0)), .int (nI l1)] M_14 (fun r9 M1 => r9 = some (.int (nI (nT tx (o 7)))) ∧ ∃ R A B C, MM M1 (up (up (up o 0 0) 5 0) 7 0) (fset (fset (fset (fset f 152 C) 151 B) 150 A) 140 R) ∧ Sm Mq M1 [139, 140, 150, 151, 152] ∧ (∀ q, q < 529 → R q = f 140 q) ∧ (∀ q, R q < 2147483648) ∧ RelT (fset f 140 R) (nT tx (o 7)) (aT tx tx (o 7)) (aT tx (lT tx) (o 7)) (aT tx (cT tx) (o 7))) := by
                      refine zw_n 1 rfl ?_
                      refine zw_top (na (a := l1) (b := if tx p = 10 then 1 else 0) rfl rfl) ?_
                      refine zw_n 1 (ls' := [some (.ref 139), some (.int (nI n1)), some (.int (nI (l1 + (if tx p = 10 then 1 else 0)))), some (.int (nI (if tx p = 10 then 0 else c1 + 1))), some (.int (nI p)), some (.int (nI (byv (tx p)))), some (.int (nI (if 33 ≤ (nI (byv (tx p))).toInt ∧ (nI (byv (tx p))).toInt ≤ 126 then 1 else 0)))]) rfl ?_
                      refine zw_inc rfl (x' := (nI (p + 1))) (ls' := [some (.ref 139), some (.int (nI n1)), some (.int (nI (l1 + (if tx p = 10 then 1 else 0)))), some (.int (nI (if tx p = 10 then 0 else c1 + 1))), some (.int (nI (p + 1))), some (.int (nI (byv (tx p)))), some (.int (nI (if 33 ≤ (nI (byv (tx p))).toInt ∧ (nI (byv (tx p))).toInt ≤ 126 then 1 else 0)))]) rfl (na (a := p) (b := 1) rfl rfl) rfl ?_
                      refine zw_n 1 rfl ?_
                      refine zw_ls (ls' := [some (.ref 139), some (.int (nI n1)), some (.int (nI (l1 + (if tx p = 10 then 1 else 0)))), some (.int (nI (if tx p = 10 then 0 else c1 + 1))), some (.int (nI (p + 1))), none, none]) ⟨Or.inr rfl, Or.inr rfl, Or.inr rfl, Or.inr rfl, Or.inr rfl, Or.inl rfl, Or.inl rfl, trivial⟩ ?_
                      exact ih14 n1 (l1 + (if tx p = 10 then 1 else 0)) (if tx p = 10 then 0 else c1 + 1) (p + 1) g1 g2 g3 M_14 s_14 f14_0 f14_1 f14_2 f14_3 f14_4 (⟨by omega, rt_step ib hb9, by rw [nT_o hsg, i_n], by rw [lT, il]; split <;> rfl, by rw [cT, ic], hT_o h1 hsg, hT_o h2 hsg, hT_o h3 hsg⟩) (by omega)
                    refine zw_n 2 rfl ?_
                    refine zw_ine rfl (fun c137 => ?_) (fun c137 => ?_)
                    · -- 137 to 144
                      refine zw_n 1 rfl ?_
                      refine zw_top (x' := nI (if tx p = 10 then 1 else 0)) (show nI 0 = nI (if tx p = 10 then 1 else 0) by rw [if_neg (fun e => c137 ((byv_eq (htx p) (show 10 < 128 by decide)).mpr e))]) ?_
                      exact j133
                    · -- 137 to 140
                      refine zw_n 2 rfl ?_
                      refine zw_top (x' := nI (if tx p = 10 then 1 else 0)) (show nI 1 = nI (if tx p = 10 then 1 else 0) by rw [if_pos ((byv_eq (htx p) (show 10 < 128 by decide)).mp c137)]) ?_
                      exact j133
                  refine zw_n 2 rfl ?_
                  refine zw_ine rfl (fun c121 => ?_) (fun c121 => ?_)
                  · -- 121 to 128
                    refine zw_n 3 rfl ?_
                    refine zw_top (na (a := c1) (b := 1) rfl rfl) ?_
                    refine zw_top (x' := nI (if tx p = 10 then 0 else c1 + 1)) (show nI (c1 + 1) = nI (if tx p = 10 then 0 else c1 + 1) by rw [if_neg (fun e => c121 ((byv_eq (htx p) (show 10 < 128 by decide)).mpr e))]) ?_
                    exact j117
                  · -- 121 to 124
                    refine zw_n 2 rfl ?_
                    refine zw_top (x' := nI (if tx p = 10 then 0 else c1 + 1)) (show nI 0 = nI (if tx p = 10 then 0 else c1 + 1) by rw [if_pos ((byv_eq (htx p) (show 10 < 128 by decide)).mp c121)]) ?_
                    exact j117
                · -- 89 to 92
                  exfalso
                  exact c89 c41
              · -- 60 to 63
                exfalso
                exact c60 c41
  exact lp14 _ 0 0 0 0 (f 150) (f 151) (f 152) Mz2265 (Sm.tset Sm.rf ez2266 (by decide)) mz2268 mz2269 mz2270 (zat_self ez2266 hM.1) mz2271 (⟨Nat.zero_le _, fun q hq => by omega, rfl, rfl, rfl, fun q hq => absurd hq (Nat.not_lt_zero _), fun q hq => absurd hq (Nat.not_lt_zero _), fun q hq => absurd hq (Nat.not_lt_zero _)⟩) (Nat.lt_succ_self _)
