set_option maxHeartbeats 4000000 in
set_option maxRecDepth 100000 in
theorem m_canBeEmpty (Mq : zM) (o : Nat → Nat) (f : Nat → Nat → Nat) (hM : MM Mq o f)(n : Nat) (gn al_ it pt tg bd : Nat → Nat) (hg : RelG f n gn al_ it pt tg bd) (hG : SafeG n gn al_ it pt tg bd) (hF : SafeF f) (hres : DrR n gn al_ it pt tg) (he0 : ∀ q, f 162 q ≤ 1) (x : Nat) (hx : x < n) : Zm 2 zm_MO_canBeEmpty [.ref 139, .int (nI x)] Mq (fun r9 M1 => ∃ E, r9 = some (.int (nI (if bR E x = true then 1 else 0))) ∧ MM M1 o (fset f 162 E) ∧ Sm Mq M1 [162] ∧ (∀ q, E q ≤ 1) ∧ IsEmp n al_ it tg (bR E)) := by
  show Zw 2 zm_MO_canBeEmpty 0 [some (.ref 139), some (.int (nI x)), none, none, none, none, none, none] [] Mq _
  have hn8 := hG.1
  have hcl := hres.clo
  have hmo := emR_mo hcl
  refine zw_n 2 (ls' := [some (.ref 139), some (.int (nI x)), some (.int 0), none, none, none, none, none]) rfl ?_
  have lp2 : ∀ (n2 : Nat) (i : Nat) (E0 : Nat → Nat) (M_2 : zM), Sm Mq M_2 [162] → M_2[162]? = some (.inl (3, 8, .inl (ai E0))) → (i ≤ 8 ∧ (∀ q, E0 q ≤ 1) ∧ ∀ q, q < i → E0 q = 0) → 8 - i < n2 → Zw 2 zm_MO_canBeEmpty 2 [some (.ref 139), some (.int (nI x)), some (.int (nI i)), none, none, none, none, none] [] M_2 (fun r9 M1 => ∃ E, r9 = some (.int (nI (if bR E x = true then 1 else 0))) ∧ MM M1 o (fset f 162 E) ∧ Sm Mq M1 [162] ∧ (∀ q, E q ≤ 1) ∧ IsEmp n al_ it tg (bR E)) := by
    intro n2
    induction n2 with
    | zero => intro i E0 M_2 _ _ _ h; exact absurd h (Nat.not_lt_zero _)
    | succ n2 ih2 =>
      intro i E0 M_2 s_2 f2_0 hi2 hm2
      refine zw_n 2 rfl ?_
      refine zw_igeN (a := i) (b := 8) rfl rfl rfl (by omega) (by omega) (fun c5 => ?_) (fun c5 => ?_)
      · -- 5 to 21
        refine zw_n 2 (ls' := [some (.ref 139), some (.int (nI x)), some (.int 0), none, none, none, none, none]) rfl ?_
        have lp23 : ∀ (n23 : Nat) (ps : Nat) (E1 : Nat → Nat) (M_23 : zM), Sm Mq M_23 [162] → M_23[162]? = some (.inl (3, 8, .inl (ai E1))) → (ps ≤ n ∧ (∀ q, E1 q ≤ 1) ∧ EmP n (emR al_ it tg) ps (bR E1)) → n - ps < n23 → Zw 2 zm_MO_canBeEmpty 23 [some (.ref 139), some (.int (nI x)), some (.int (nI ps)), none, none, none, none, none] [] M_23 (fun r9 M1 => ∃ E, r9 = some (.int (nI (if bR E x = true then 1 else 0))) ∧ MM M1 o (fset f 162 E) ∧ Sm Mq M1 [162] ∧ (∀ q, E q ≤ 1) ∧ IsEmp n al_ it tg (bR E)) := by
          intro n23
          induction n23 with
          | zero => intro ps E1 M_23 _ _ _ h; exact absurd h (Nat.not_lt_zero _)
          | succ n23 ih23 =>
            intro ps E1 M_23 s_23 f23_0 hi23 hm23
            refine zw_n 2 rfl ?_
            refine zw_get (v := .ref 140) rfl (Sm.at s_23 (by decide) hM.1) rfl ?_
            refine zw_n 1 rfl ?_
            refine zw_iald (f := ai (f 140)) (j := 0) rfl (Sm.at s_23 (by decide) (hM.2 140 (by decide) (by decide))) rfl (by decide) (by omega) ?_
            refine zw_top (x' := (nI n)) (congrArg nI hg.1) ?_
            refine zw_igeN (a := ps) (b := n) rfl rfl rfl (by omega) (by omega) (fun c30 => ?_) (fun c30 => ?_)
            · -- 30 to 171
              refine zw_n 1 rfl ?_
              refine zw_get (v := .ref 162) rfl (Sm.at s_23 (by decide) hM.1) rfl ?_
              refine zw_n 1 rfl ?_
              refine zw_bald (f := ai E1) (j := x) rfl f23_0 rfl rfl (by decide) (by omega) ?_
              exact zw_zret rfl rfl (b01 (hi23.2.1 x)) (⟨E1, by rw [bR01 (hi23.2.1 x)]; rfl, (MM.of (o' := o) (f' := fset f 162 E1) hM s_23 (Sm.at s_23 (by decide) hM.1) (c1_cons f23_0 c1_nil) (fs_c fs_n)), s_23, hi23.2.1, IsEmp.of hcl ((show ps = n by omega) ▸ hi23.2.2)⟩)
            · -- 30 to 33
              refine zw_n 2 (ls' := [some (.ref 139), some (.int (nI x)), some (.int (nI ps)), some (.int 0), none, none, none, none]) rfl ?_
              have lp35 : ∀ (n35 : Nat) (y : Nat) (E2 : Nat → Nat) (M_35 : zM), Sm Mq M_35 [162] → M_35[162]? = some (.inl (3, 8, .inl (ai E2))) → ((∀ q, E2 q ≤ 1) ∧ EmI n (emR al_ it tg) (bR E1) y (bR E2)) → n - y < n35 → Zw 2 zm_MO_canBeEmpty 35 [some (.ref 139), some (.int (nI x)), some (.int (nI ps)), some (.int (nI y)), none, none, none, none] [] M_35 (fun r9 M1 => ∃ E, r9 = some (.int (nI (if bR E x = true then 1 else 0))) ∧ MM M1 o (fset f 162 E) ∧ Sm Mq M1 [162] ∧ (∀ q, E q ≤ 1) ∧ IsEmp n al_ it tg (bR E)) := by
                intro n35
                induction n35 with
                | zero => intro y E2 M_35 _ _ _ h; exact absurd h (Nat.not_lt_zero _)
                | succ n35 ih35 =>
                  intro y E2 M_35 s_35 f35_0 hi35 hm35
                  have hy := hi35.2.y_le
                  refine zw_n 2 rfl ?_
                  refine zw_get (v := .ref 140) rfl (Sm.at s_35 (by decide) hM.1) rfl ?_
                  refine zw_n 1 rfl ?_
                  refine zw_iald (f := ai (f 140)) (j := 0) rfl (Sm.at s_35 (by decide) (hM.2 140 (by decide) (by decide))) rfl (by decide) (by omega) ?_
                  refine zw_top (x' := (nI n)) (congrArg nI hg.1) ?_
                  refine zw_igeN (a := y) (b := n) rfl rfl rfl (by omega) (by omega) (fun c42 => ?_) (fun c42 => ?_)
                  · -- 42 to 165
                    refine zw_inc rfl (x' := (nI (ps + 1))) (ls' := [some (.ref 139), some (.int (nI x)), some (.int (nI (ps + 1))), some (.int (nI y)), none, none, none, none]) rfl (na (a := ps) (b := 1) rfl rfl) rfl ?_
                    refine zw_n 1 rfl ?_
                    refine zw_ls (ls' := [some (.ref 139), some (.int (nI x)), some (.int (nI (ps + 1))), none, none, none, none, none]) ⟨Or.inr rfl, Or.inr rfl, Or.inr rfl, Or.inl rfl, Or.inl rfl, Or.inl rfl, Or.inl rfl, Or.inl rfl, trivial⟩ ?_
                    exact ih23 (ps + 1) E2 M_35 s_35 f35_0 (⟨by omega, hi35.1, EmI.fin hmo hi23.2.2 ((show y = n by omega) ▸ hi35.2)⟩) (by omega)
                  · -- 42 to 45
                    refine zw_n 2 (ls' := [some (.ref 139), some (.int (nI x)), some (.int (nI ps)), some (.int (nI y)), some (.int 0), none, none, none]) rfl ?_
                    have lp48 : ∀ (n48 : Nat) (a : Nat) (E3 : Nat → Nat) (M_48 : zM), Sm Mq M_48 [162] → M_48[162]? = some (.inl (3, 8, .inl (ai E3))) → (a ≤ al_ y ∧ (∀ q, E3 q ≤ 1) ∧ (∀ q, q ≠ y → E3 q = E2 q) ∧ (E3 y = 1 ↔ (E2 y = 1 ∨ ∃ a9, a9 < a ∧ emA tg it (bR E2) (y * 4 + a9)))) → al_ y - a < n48 → Zw 2 zm_MO_canBeEmpty 48 [some (.ref 139), some (.int (nI x)), some (.int (nI ps)), some (.int (nI y)), some (.int (nI a)), none, none, none] [] M_48 (fun r9 M1 => ∃ E, r9 = some (.int (nI (if bR E x = true then 1 else 0))) ∧ MM M1 o (fset f 162 E) ∧ Sm Mq M1 [162] ∧ (∀ q, E q ≤ 1) ∧ IsEmp n al_ it tg (bR E)) := by
                      intro n48
                      induction n48 with
                      | zero => intro a E3 M_48 _ _ _ h; exact absurd h (Nat.not_lt_zero _)
                      | succ n48 ih48 =>
                        intro a E3 M_48 s_48 f48_0 hi48 hm48
                        have hal4 := hG.2.2.1 y
                        have he3 := hi48.2.1 y
                        refine zw_n 2 rfl ?_
                        refine zw_get (v := .ref 140) rfl (Sm.at s_48 (by decide) hM.1) rfl ?_
                        refine zw_n 3 rfl ?_
                        refine zw_top (na (a := 9) (b := y) rfl rfl) ?_
                        refine zw_iald (f := ai (f 140)) (j := (9 + y)) rfl (Sm.at s_48 (by decide) (hM.2 140 (by decide) (by decide))) rfl (by decide) (by omega) ?_
                        refine zw_top (x' := (nI (al_ y))) (congrArg nI (hg.2.2.1 y (by omega))) ?_
                        refine zw_igeN (a := a) (b := al_ y) rfl rfl rfl (by omega) (by omega) (fun c59 => ?_) (fun c59 => ?_)
                        · -- 59 to 159
                          refine zw_inc rfl (x' := (nI (y + 1))) (ls' := [some (.ref 139), some (.int (nI x)), some (.int (nI ps)), some (.int (nI (y + 1))), some (.int (nI a)), none, none, none]) rfl (na (a := y) (b := 1) rfl rfl) rfl ?_
                          refine zw_n 1 rfl ?_
                          refine zw_ls (ls' := [some (.ref 139), some (.int (nI x)), some (.int (nI ps)), some (.int (nI (y + 1))), none, none, none, none]) ⟨Or.inr rfl, Or.inr rfl, Or.inr rfl, Or.inr rfl, Or.inl rfl, Or.inl rfl, Or.inl rfl, Or.inl rfl, trivial⟩ ?_
                          exact ih35 (y + 1) E3 M_48 s_48 f48_0 (⟨hi48.2.1, hi35.2.step hmo (by omega) (fun r _ h9 => congrArg (fun v => decide (v = 1)) (hi48.2.2.1 r h9)) (le_fin (by omega) hi48.2.2.2)⟩) (by omega)
                        · -- 59 to 62
                          refine zw_n 4 (ls' := [some (.ref 139), some (.int (nI x)), some (.int (nI ps)), some (.int (nI y)), some (.int (nI a)), some (.int 1), some (.int 0), none]) rfl ?_
                          have lp68 : ∀ (n68 : Nat) (s9 : Nat) (k : Nat), (k ≤ it (y * 4 + a) ∧ s9 = (if iaB tg (bR E3) (y * 4 + a) NO k = true then 1 else 0)) → it (y * 4 + a) - k < n68 → Zw 2 zm_MO_canBeEmpty 68 [some (.ref 139), some (.int (nI x)), some (.int (nI ps)), some (.int (nI y)), some (.int (nI a)), some (.int (nI s9)), some (.int (nI k)), none] [] M_48 (fun r9 M1 => ∃ E, r9 = some (.int (nI (if bR E x = true then 1 else 0))) ∧ MM M1 o (fset f 162 E) ∧ Sm Mq M1 [162] ∧ (∀ q, E q ≤ 1) ∧ IsEmp n al_ it tg (bR E)) := by
                            intro n68
                            induction n68 with
                            | zero => intro s9 k _ h; exact absurd h (Nat.not_lt_zero _)
                            | succ n68 ih68 =>
                              intro s9 k hi68 hm68
                              have hit5 := hG.2.2.2.1 (y * 4 + a)
                              have hs1 : s9 ≤ 1 := by rw [hi68.2]; split <;> decide
                              refine zw_n 4 rfl ?_
                              refine zw_callV (as := [.int (nI y), .int (nI a)]) (rest := [.int (nI k)]) rfl rfl rfl (Sm.at s_48 (by decide) hM.1) rfl rfl rfl (by decide) (m_items M_48 o (fset f 162 E3) (MM.of (o' := o) (f' := fset f 162 E3) hM s_48 (Sm.at s_48 (by decide) hM.1) (c1_cons f48_0 c1_nil) (fs_c fs_n)) n gn al_ it pt tg bd hg hG hF y a (by omega) (by omega)) (fun rz3513 Mz3514 hz3515 => ?_)
                              rw [hz3515.1, hz3515.2]
                              show Zw 2 zm_MO_canBeEmpty 77 [some (.ref 139), some (.int (nI x)), some (.int (nI ps)), some (.int (nI y)), some (.int (nI a)), some (.int (nI s9)), some (.int (nI k)), none] [.int (nI (it (y * 4 + a))), .int (nI k)] M_48 _
                              refine zw_igeN (a := k) (b := it (y * 4 + a)) rfl rfl rfl (by omega) (by omega) (fun c77 => ?_) (fun c77 => ?_)
                              · -- 77 to 128
                                refine zw_n 1 rfl ?_
                                refine zw_get (v := .ref 162) rfl (Sm.at s_48 (by decide) hM.1) rfl ?_
                                refine zw_n 1 rfl ?_
                                have j133 : Zw 2 zm_MO_canBeEmpty 152 [some (.ref 139), some (.int (nI x)), some (.int (nI ps)), some (.int (nI y)), some (.int (nI a)), some (.int (nI s9)), some (.int (nI k)), none] [.int (nI (if E3 y ≠ 0 ∨ iaB tg (bR E3) (y * 4 + a) NO (it (y * 4 + a)) = true then 1 else 0)), .int (nI y), .ref 162] M_48 (fun r9 M1 => ∃ E, r9 = some (.int (nI (if bR E x = true then 1 else 0))) ∧ MM M1 o (fset f 162 E) ∧ Sm Mq M1 [162] ∧ (∀ q, E q ≤ 1) ∧ IsEmp n al_ it tg (bR E)) := by
                                  refine zw_zastN (g := E3) (j := y) (v := (if E3 y ≠ 0 ∨ iaB tg (bR E3) (y * 4 + a) NO (it (y * 4 + a)) = true then 1 else 0)) rfl f48_0 rfl (by decide) (by omega) (rfl) (by split <;> decide) ?_
                                  generalize ez3517 : List.set M_48 162 _ = Mz3516
                                  refine zw_inc rfl (x' := (nI (a + 1))) (ls' := [some (.ref 139), some (.int (nI x)), some (.int (nI ps)), some (.int (nI y)), some (.int (nI (a + 1))), some (.int (nI s9)), some (.int (nI k)), none]) rfl (na (a := a) (b := 1) rfl rfl) rfl ?_
                                  refine zw_n 1 rfl ?_
                                  refine zw_ls (ls' := [some (.ref 139), some (.int (nI x)), some (.int (nI ps)), some (.int (nI y)), some (.int (nI (a + 1))), none, none, none]) ⟨Or.inr rfl, Or.inr rfl, Or.inr rfl, Or.inr rfl, Or.inr rfl, Or.inl rfl, Or.inl rfl, Or.inl rfl, trivial⟩ ?_
                                  exact ih48 (a + 1) (up E3 y (if E3 y ≠ 0 ∨ iaB tg (bR E3) (y * 4 + a) NO (it (y * 4 + a)) = true then 1 else 0)) Mz3516 (Sm.tset s_48 ez3517 (by decide)) (zat_self ez3517 f48_0) (le_step hi35.1 (by omega) hi48.2.1 hi48.2.2.1 hi48.2.2.2 (hG.2.2.2.1 (y * 4 + a))) (by omega)
                                refine zw_n 1 rfl ?_
                                refine zw_get (v := .ref 162) rfl (Sm.at s_48 (by decide) hM.1) rfl ?_
                                refine zw_n 1 rfl ?_
                                refine zw_bald (f := ai E3) (j := y) rfl f48_0 rfl rfl (by decide) (by omega) ?_
                                refine zw_top (x' := (nI (E3 y))) (rfl) ?_
                                refine zw_ne0N (a := E3 y) rfl rfl (by omega) (fun c139 => ?_) (fun c139 => ?_)
                                · -- 139 to 147
                                  refine zw_n 2 rfl ?_
                                  refine zw_top (x' := nI (if E3 y ≠ 0 ∨ iaB tg (bR E3) (y * 4 + a) NO (it (y * 4 + a)) = true then 1 else 0)) (show nI 1 = nI (if E3 y ≠ 0 ∨ iaB tg (bR E3) (y * 4 + a) NO (it (y * 4 + a)) = true then 1 else 0) by rw [if_pos (by first | exact Or.inl c139 | exact Or.inr (by have h9 := hi68.2; rw [show k = it (y * 4 + a) by omega] at h9; rw [h9] at c144; exact ite_ne c144))]) ?_
                                  exact j133
                                · -- 139 to 142
                                  refine zw_n 1 rfl ?_
                                  refine zw_eq0N (a := s9) rfl rfl (by omega) (fun c144 => ?_) (fun c144 => ?_)
                                  · -- 144 to 151
                                    refine zw_n 1 rfl ?_
                                    refine zw_top (x' := nI (if E3 y ≠ 0 ∨ iaB tg (bR E3) (y * 4 + a) NO (it (y * 4 + a)) = true then 1 else 0)) (show nI 0 = nI (if E3 y ≠ 0 ∨ iaB tg (bR E3) (y * 4 + a) NO (it (y * 4 + a)) = true then 1 else 0) by rw [if_neg (fun q9 => by rcases q9 with q9 | q9; exact q9 c139; (have h9 := hi68.2; rw [show k = it (y * 4 + a) by omega, if_pos q9] at h9; omega))]) ?_
                                    exact j133
                                  · -- 144 to 147
                                    refine zw_n 2 rfl ?_
                                    refine zw_top (x' := nI (if E3 y ≠ 0 ∨ iaB tg (bR E3) (y * 4 + a) NO (it (y * 4 + a)) = true then 1 else 0)) (show nI 1 = nI (if E3 y ≠ 0 ∨ iaB tg (bR E3) (y * 4 + a) NO (it (y * 4 + a)) = true then 1 else 0) by rw [if_pos (by first | exact Or.inl c139 | exact Or.inr (by have h9 := hi68.2; rw [show k = it (y * 4 + a) by omega] at h9; rw [h9] at c144; exact ite_ne c144))]) ?_
                                    exact j133
                              · -- 77 to 80
                                have hval : Slt n al_ it ((y * 4 + a) * 5 + k) := ⟨y, a, k, by omega, by omega, by omega, rfl⟩
                                have htg8 := hG.2.2.2.2.2.1 ((y * 4 + a) * 5 + k)
                                refine zw_n 4 rfl ?_
                                refine zw_callS (as := [.int (nI y), .int (nI a), .int (nI k)]) (rest := [.ref 139]) rfl rfl rfl rfl rfl rfl (by decide) (m_itemAt _ y a k) (fun rz3518 Mz3519 hz3520 => ?_)
                                rw [hz3520.1, hz3520.2]
                                show Zw 2 zm_MO_canBeEmpty 89 [some (.ref 139), some (.int (nI x)), some (.int (nI ps)), some (.int (nI y)), some (.int (nI a)), some (.int (nI s9)), some (.int (nI k)), none] [.int (nI (49 + 3 * ((y * 4 + a) * 5 + k))), .ref 139] M_48 _
                                refine zw_callV (as := [.int (nI (49 + 3 * ((y * 4 + a) * 5 + k)))]) (rest := []) rfl rfl rfl (Sm.at s_48 (by decide) hM.1) rfl rfl rfl (by decide) (m_partOf M_48 o (fset f 162 E3) (MM.of (o' := o) (f' := fset f 162 E3) hM s_48 (Sm.at s_48 (by decide) hM.1) (c1_cons f48_0 c1_nil) (fs_c fs_n)) n gn al_ it pt tg bd hg hG hF ((y * 4 + a) * 5 + k) hval (by omega)) (fun rz3521 Mz3522 hz3523 => ?_)
                                rw [hz3523.1, hz3523.2]
                                show Zw 2 zm_MO_canBeEmpty 92 [some (.ref 139), some (.int (nI x)), some (.int (nI ps)), some (.int (nI y)), some (.int (nI a)), some (.int (nI s9)), some (.int (nI k)), none] [.int (nI (tg ((y * 4 + a) * 5 + k)))] M_48 _
                                refine zw_n 1 (ls' := [some (.ref 139), some (.int (nI x)), some (.int (nI ps)), some (.int (nI y)), some (.int (nI a)), some (.int (nI s9)), some (.int (nI k)), some (.int (nI (tg ((y * 4 + a) * 5 + k))))]) rfl ?_
                                have j94 : Zw 2 zm_MO_canBeEmpty 120 [some (.ref 139), some (.int (nI x)), some (.int (nI ps)), some (.int (nI y)), some (.int (nI a)), some (.int (nI s9)), some (.int (nI k)), some (.int (nI (tg ((y * 4 + a) * 5 + k))))] [.int (nI (if s9 ≠ 0 ∧ (k = NO ∨ (tg ((y * 4 + a) * 5 + k) ≠ NO ∧ bR E3 (tg ((y * 4 + a) * 5 + k)) = true)) then 1 else 0))] M_48 (fun r9 M1 => ∃ E, r9 = some (.int (nI (if bR E x = true then 1 else 0))) ∧ MM M1 o (fset f 162 E) ∧ Sm Mq M1 [162] ∧ (∀ q, E q ≤ 1) ∧ IsEmp n al_ it tg (bR E)) := by
                                  refine zw_n 1 (ls' := [some (.ref 139), some (.int (nI x)), some (.int (nI ps)), some (.int (nI y)), some (.int (nI a)), some (.int (nI (if s9 ≠ 0 ∧ (k = NO ∨ (tg ((y * 4 + a) * 5 + k) ≠ NO ∧ bR E3 (tg ((y * 4 + a) * 5 + k)) = true)) then 1 else 0))), some (.int (nI k)), some (.int (nI (tg ((y * 4 + a) * 5 + k))))]) rfl ?_
                                  refine zw_inc rfl (x' := (nI (k + 1))) (ls' := [some (.ref 139), some (.int (nI x)), some (.int (nI ps)), some (.int (nI y)), some (.int (nI a)), some (.int (nI (if s9 ≠ 0 ∧ (k = NO ∨ (tg ((y * 4 + a) * 5 + k) ≠ NO ∧ bR E3 (tg ((y * 4 + a) * 5 + k)) = true)) then 1 else 0))), some (.int (nI (k + 1))), some (.int (nI (tg ((y * 4 + a) * 5 + k))))]) rfl (na (a := k) (b := 1) rfl rfl) rfl ?_
                                  refine zw_n 1 rfl ?_
                                  refine zw_ls (ls' := [some (.ref 139), some (.int (nI x)), some (.int (nI ps)), some (.int (nI y)), some (.int (nI a)), some (.int (nI (if s9 ≠ 0 ∧ (k = NO ∨ (tg ((y * 4 + a) * 5 + k) ≠ NO ∧ bR E3 (tg ((y * 4 + a) * 5 + k)) = true)) then 1 else 0))), some (.int (nI (k + 1))), none]) ⟨Or.inr rfl, Or.inr rfl, Or.inr rfl, Or.inr rfl, Or.inr rfl, Or.inr rfl, Or.inr rfl, Or.inl rfl, trivial⟩ ?_
                                  exact ih68 (if s9 ≠ 0 ∧ (k = NO ∨ (tg ((y * 4 + a) * 5 + k) ≠ NO ∧ bR E3 (tg ((y * 4 + a) * 5 + k)) = true)) then 1 else 0) (k + 1) (⟨by omega, iaB_s hi68.2 Iff.rfl⟩) (by omega)
                                refine zw_n 1 rfl ?_
                                refine zw_eq0N (a := s9) rfl rfl (by omega) (fun c96 => ?_) (fun c96 => ?_)
                                · -- 96 to 119
                                  refine zw_n 1 rfl ?_
                                  refine zw_top (x' := nI (if s9 ≠ 0 ∧ (k = NO ∨ (tg ((y * 4 + a) * 5 + k) ≠ NO ∧ bR E3 (tg ((y * 4 + a) * 5 + k)) = true)) then 1 else 0)) (show nI 0 = nI (if s9 ≠ 0 ∧ (k = NO ∨ (tg ((y * 4 + a) * 5 + k) ≠ NO ∧ bR E3 (tg ((y * 4 + a) * 5 + k)) = true)) then 1 else 0) by rw [if_neg (fun q9 => by first | exact q9.1 c96 | (rcases q9.2 with q8 | q8; (unfold NO at q8; omega); first | exact q8.1 c102 | (have h8 := of_decide_eq_true q8.2; omega)))]) ?_
                                  exact j94
                                · -- 96 to 99
                                  refine zw_n 2 rfl ?_
                                  refine zw_ieqM (a := tg ((y * 4 + a) * 5 + k)) rfl rfl (by omega) (fun c102 => ?_) (fun c102 => ?_)
                                  · -- 102 to 119
                                    refine zw_n 1 rfl ?_
                                    refine zw_top (x' := nI (if s9 ≠ 0 ∧ (k = NO ∨ (tg ((y * 4 + a) * 5 + k) ≠ NO ∧ bR E3 (tg ((y * 4 + a) * 5 + k)) = true)) then 1 else 0)) (show nI 0 = nI (if s9 ≠ 0 ∧ (k = NO ∨ (tg ((y * 4 + a) * 5 + k) ≠ NO ∧ bR E3 (tg ((y * 4 + a) * 5 + k)) = true)) then 1 else 0) by rw [if_neg (fun q9 => by first | exact q9.1 c96 | (rcases q9.2 with q8 | q8; (unfold NO at q8; omega); first | exact q8.1 c102 | (have h8 := of_decide_eq_true q8.2; omega)))]) ?_
                                    exact j94
                                  · -- 102 to 105
                                    refine zw_n 1 rfl ?_
                                    refine zw_get (v := .ref 162) rfl (Sm.at s_48 (by decide) hM.1) rfl ?_
                                    refine zw_n 1 rfl ?_
                                    refine zw_bald (f := ai E3) (j := (tg ((y * 4 + a) * 5 + k))) rfl f48_0 rfl rfl (by decide) (by omega) ?_
                                    have bz3524 := hi48.2.1 (tg ((y * 4 + a) * 5 + k))
                                    refine zw_eq0N (a := E3 (tg ((y * 4 + a) * 5 + k))) rfl rfl (by omega) (fun c112 => ?_) (fun c112 => ?_)
                                    · -- 112 to 119
                                      refine zw_n 1 rfl ?_
                                      refine zw_top (x' := nI (if s9 ≠ 0 ∧ (k = NO ∨ (tg ((y * 4 + a) * 5 + k) ≠ NO ∧ bR E3 (tg ((y * 4 + a) * 5 + k)) = true)) then 1 else 0)) (show nI 0 = nI (if s9 ≠ 0 ∧ (k = NO ∨ (tg ((y * 4 + a) * 5 + k) ≠ NO ∧ bR E3 (tg ((y * 4 + a) * 5 + k)) = true)) then 1 else 0) by rw [if_neg (fun q9 => by first | exact q9.1 c96 | (rcases q9.2 with q8 | q8; (unfold NO at q8; omega); first | exact q8.1 c102 | (have h8 := of_decide_eq_true q8.2; omega)))]) ?_
                                      exact j94
                                    · -- 112 to 115
                                      refine zw_n 2 rfl ?_
                                      refine zw_top (x' := nI (if s9 ≠ 0 ∧ (k = NO ∨ (tg ((y * 4 + a) * 5 + k) ≠ NO ∧ bR E3 (tg ((y * 4 + a) * 5 + k)) = true)) then 1 else 0)) (show nI 1 = nI (if s9 ≠ 0 ∧ (k = NO ∨ (tg ((y * 4 + a) * 5 + k) ≠ NO ∧ bR E3 (tg ((y * 4 + a) * 5 + k)) = true)) then 1 else 0) by rw [if_pos (⟨c96, Or.inr ⟨c102, decide_eq_true (by have := hi48.2.1 (tg ((y * 4 + a) * 5 + k)); omega)⟩⟩)]) ?_
                                      exact j94
                          exact lp68 _ 1 0 (⟨Nat.zero_le _, rfl⟩) (Nat.lt_succ_self _)
                    exact lp48 _ 0 E2 M_35 s_35 f35_0 (⟨Nat.zero_le _, hi35.1, fun _ _ => rfl, ⟨Or.inl, fun q => q.elim id (fun ⟨a9, h9, _⟩ => absurd h9 (Nat.not_lt_zero _))⟩⟩) (Nat.lt_succ_self _)
              exact lp35 _ 0 E1 M_23 s_23 f23_0 (⟨hi23.2.1, hi23.2.2.go⟩) (Nat.lt_succ_self _)
        exact lp23 _ 0 E0 M_2 s_2 f2_0 (⟨Nat.zero_le _, hi2.2.1, EmP.start (fun r h9 => decide_eq_false (by rw [hi2.2.2 r (by omega)]; decide))⟩) (Nat.lt_succ_self _)
      · -- 5 to 8
        refine zw_n 1 rfl ?_
        refine zw_get (v := .ref 162) rfl (Sm.at s_2 (by decide) hM.1) rfl ?_
        refine zw_n 2 rfl ?_
        refine zw_zastN (g := E0) (j := i) (v := 0) rfl f2_0 rfl (by decide) (by omega) (rfl) (by omega) ?_
        generalize ez3526 : List.set M_2 162 _ = Mz3525
        refine zw_inc rfl (x' := (nI (i + 1))) (ls' := [some (.ref 139), some (.int (nI x)), some (.int (nI (i + 1))), none, none, none, none, none]) rfl (na (a := i) (b := 1) rfl rfl) rfl ?_
        refine zw_n 1 rfl ?_
        exact ih2 (i + 1) (up E0 i 0) Mz3525 (Sm.tset s_2 ez3526 (by decide)) (zat_self ez3526 f2_0) (⟨by omega, fun q => by unfold up; split <;> first | omega | exact hi2.2.1 q, fun q hq => by unfold up; split <;> first | rfl | exact hi2.2.2 q (by omega)⟩) (by omega)
  exact lp2 _ 0 (f 162) Mq Sm.rf (hM.2 162 (by decide) (by decide)) (⟨Nat.zero_le _, he0, fun q hq => absurd hq (Nat.not_lt_zero _)⟩) (Nat.lt_succ_self _)
