set_option maxHeartbeats 4000000 in
set_option maxRecDepth 100000 in
theorem m_layRounds (Mq : zM) (o : Nat → Nat) (f : Nat → Nat → Nat) (hM : MM Mq o f) (n : Nat) (gn al_ it pt tg : Nat → Nat) (hd : DrG f n gn al_ it pt tg) (hn8 : n ≤ 8) (hb0 : ∀ q, f 145 q < 2147483648) (hres : DrR n gn al_ it pt tg) (he1 : ∀ q, f 148 q ≤ 1) : Zm 3 zm_MO_layRounds [.ref 139] Mq (fun r9 M1 => r9 = none ∧ ∃ C, MM M1 o (fset f 149 C) ∧ Sm Mq M1 [149] ∧ (∀ r, r < n → C r < 256) ∧ ∀ r, r < n → ((C r).testBit r = true ↔ Rnd n al_ it tg (bR (f 148)) r)) := by
  show Zw 3 zm_MO_layRounds 0 [some (.ref 139), none, none, none, none] [] Mq _
  have hcl := hres.clo
  have hE1 := ed_cl (e := (bR (f 148))) hcl
  refine zw_n 2 (ls' := [some (.ref 139), some (.int 0), none, none, none]) rfl ?_
  have lp2 : ∀ (n2 : Nat) (r : Nat) (C1 : Nat → Nat) (M_2 : zM), Sm Mq M_2 [149] → M_2[149]? = some (.inl (0, 8, .inl (ai C1))) → (mcE n al_ it tg (bR (f 148)) r C1) → n - r < n2 → Zw 3 zm_MO_layRounds 2 [some (.ref 139), some (.int (nI r)), none, none, none] [] M_2 (fun r9 M1 => r9 = none ∧ ∃ C, MM M1 o (fset f 149 C) ∧ Sm Mq M1 [149] ∧ (∀ r, r < n → C r < 256) ∧ ∀ r, r < n → ((C r).testBit r = true ↔ Rnd n al_ it tg (bR (f 148)) r)) := by
    intro n2
    induction n2 with
    | zero => intro r C1 M_2 _ _ _ h; exact absurd h (Nat.not_lt_zero _)
    | succ n2 ih2 =>
      intro r C1 M_2 s_2 f2_0 hi2 hm2
      have hrn := hi2.1
      refine zw_n 2 rfl ?_
      refine zw_get (v := .ref 145) rfl (Sm.at s_2 (by decide) hM.1) rfl ?_
      refine zw_n 1 rfl ?_
      refine zw_iald (f := ai (f 145)) (j := 0) rfl (Sm.at s_2 (by decide) (hM.2 145 (by decide) (by decide))) rfl (by decide) (by omega) ?_
      refine zw_top (x' := (nI n)) (congrArg nI hd.1) ?_
      refine zw_igeN (a := r) (b := n) rfl rfl rfl (by omega) (by omega) (fun c9 => ?_) (fun c9 => ?_)
      · -- 9 to 128
        refine zw_n 2 (ls' := [some (.ref 139), some (.int 0), none, none, none]) rfl ?_
        have lp130 : ∀ (n130 : Nat) (ps : Nat) (C4 : Nat → Nat) (M_130 : zM), Sm Mq M_130 [149] → M_130[149]? = some (.inl (0, 8, .inl (ai C4))) → (ps ≤ n ∧ mcR n (fun r t => r < n ∧ ed al_ it tg (bR (f 148)) r t) ps 0 C4) → n - ps < n130 → Zw 3 zm_MO_layRounds 130 [some (.ref 139), some (.int (nI ps)), none, none, none] [] M_130 (fun r9 M1 => r9 = none ∧ ∃ C, MM M1 o (fset f 149 C) ∧ Sm Mq M1 [149] ∧ (∀ r, r < n → C r < 256) ∧ ∀ r, r < n → ((C r).testBit r = true ↔ Rnd n al_ it tg (bR (f 148)) r)) := by
          intro n130
          induction n130 with
          | zero => intro ps C4 M_130 _ _ _ h; exact absurd h (Nat.not_lt_zero _)
          | succ n130 ih130 =>
            intro ps C4 M_130 s_130 f130_0 hi130 hm130
            refine zw_n 2 rfl ?_
            refine zw_get (v := .ref 145) rfl (Sm.at s_130 (by decide) hM.1) rfl ?_
            refine zw_n 1 rfl ?_
            refine zw_iald (f := ai (f 145)) (j := 0) rfl (Sm.at s_130 (by decide) (hM.2 145 (by decide) (by decide))) rfl (by decide) (by omega) ?_
            refine zw_top (x' := (nI n)) (congrArg nI hd.1) ?_
            refine zw_igeN (a := ps) (b := n) rfl rfl rfl (by omega) (by omega) (fun c137 => ?_) (fun c137 => ?_)
            · -- 137 to 215
              exact zw_vret rfl rfl (⟨rfl, C4, (MM.of (o' := o) (f' := fset f 149 C4) hM s_130 (Sm.at s_130 (by decide) hM.1) (c1_cons f130_0 c1_nil) (fs_c fs_n)), s_130, fun r9 h9 => (hi130.2.2 r9 h9).1.1, fun r9 h9 => mcR.rnd ((show ps = n by omega) ▸ hi130.2) (fun r o h => (hE1 r o h).2) h9⟩)
            · -- 137 to 140
              refine zw_n 2 (ls' := [some (.ref 139), some (.int (nI ps)), some (.int 0), none, none]) rfl ?_
              have lp142 : ∀ (n142 : Nat) (w : Nat) (C6 : Nat → Nat) (M_142 : zM), Sm Mq M_142 [149] → M_142[149]? = some (.inl (0, 8, .inl (ai C6))) → (mcR n (fun r t => r < n ∧ ed al_ it tg (bR (f 148)) r t) ps w C6) → n - w < n142 → Zw 3 zm_MO_layRounds 142 [some (.ref 139), some (.int (nI ps)), some (.int (nI w)), none, none] [] M_142 (fun r9 M1 => r9 = none ∧ ∃ C, MM M1 o (fset f 149 C) ∧ Sm Mq M1 [149] ∧ (∀ r, r < n → C r < 256) ∧ ∀ r, r < n → ((C r).testBit r = true ↔ Rnd n al_ it tg (bR (f 148)) r)) := by
                intro n142
                induction n142 with
                | zero => intro w C6 M_142 _ _ _ h; exact absurd h (Nat.not_lt_zero _)
                | succ n142 ih142 =>
                  intro w C6 M_142 s_142 f142_0 hi142 hm142
                  have hwn := hi142.1
                  refine zw_n 2 rfl ?_
                  refine zw_get (v := .ref 145) rfl (Sm.at s_142 (by decide) hM.1) rfl ?_
                  refine zw_n 1 rfl ?_
                  refine zw_iald (f := ai (f 145)) (j := 0) rfl (Sm.at s_142 (by decide) (hM.2 145 (by decide) (by decide))) rfl (by decide) (by omega) ?_
                  refine zw_top (x' := (nI n)) (congrArg nI hd.1) ?_
                  refine zw_igeN (a := w) (b := n) rfl rfl rfl (by omega) (by omega) (fun c149 => ?_) (fun c149 => ?_)
                  · -- 149 to 209
                    refine zw_inc rfl (x' := (nI (ps + 1))) (ls' := [some (.ref 139), some (.int (nI (ps + 1))), some (.int (nI w)), none, none]) rfl (na (a := ps) (b := 1) rfl rfl) rfl ?_
                    refine zw_n 1 rfl ?_
                    refine zw_ls (ls' := [some (.ref 139), some (.int (nI (ps + 1))), none, none, none]) ⟨Or.inr rfl, Or.inr rfl, Or.inl rfl, Or.inl rfl, Or.inl rfl, trivial⟩ ?_
                    exact ih130 (ps + 1) C6 M_142 s_142 f142_0 (⟨by omega, mcR.next ((show w = n by omega) ▸ hi142)⟩) (by omega)
                  · -- 149 to 152
                    refine zw_n 2 (ls' := [some (.ref 139), some (.int (nI ps)), some (.int (nI w)), some (.int 0), none]) rfl ?_
                    have lp154 : ∀ (n154 : Nat) (x : Nat) (C5 : Nat → Nat) (M_154 : zM), Sm Mq M_154 [149] → M_154[149]? = some (.inl (0, 8, .inl (ai C5))) → (mcY n (fun r t => r < n ∧ ed al_ it tg (bR (f 148)) r t) ps w x C5) → n - x < n154 → Zw 3 zm_MO_layRounds 154 [some (.ref 139), some (.int (nI ps)), some (.int (nI w)), some (.int (nI x)), none] [] M_154 (fun r9 M1 => r9 = none ∧ ∃ C, MM M1 o (fset f 149 C) ∧ Sm Mq M1 [149] ∧ (∀ r, r < n → C r < 256) ∧ ∀ r, r < n → ((C r).testBit r = true ↔ Rnd n al_ it tg (bR (f 148)) r)) := by
                      intro n154
                      induction n154 with
                      | zero => intro x C5 M_154 _ _ _ h; exact absurd h (Nat.not_lt_zero _)
                      | succ n154 ih154 =>
                        intro x C5 M_154 s_154 f154_0 hi154 hm154
                        have hxn := hi154.1
                        have hcw : w < n → C5 w < 256 := fun q => (hi154.2.1 w q).1.1
                        have hcx : x < n → C5 x < 256 := fun q => (hi154.2.1 x q).1.1
                        refine zw_n 2 rfl ?_
                        refine zw_get (v := .ref 145) rfl (Sm.at s_154 (by decide) hM.1) rfl ?_
                        refine zw_n 1 rfl ?_
                        refine zw_iald (f := ai (f 145)) (j := 0) rfl (Sm.at s_154 (by decide) (hM.2 145 (by decide) (by decide))) rfl (by decide) (by omega) ?_
                        refine zw_top (x' := (nI n)) (congrArg nI hd.1) ?_
                        refine zw_igeN (a := x) (b := n) rfl rfl rfl (by omega) (by omega) (fun c161 => ?_) (fun c161 => ?_)
                        · -- 161 to 203
                          refine zw_inc rfl (x' := (nI (w + 1))) (ls' := [some (.ref 139), some (.int (nI ps)), some (.int (nI (w + 1))), some (.int (nI x)), none]) rfl (na (a := w) (b := 1) rfl rfl) rfl ?_
                          refine zw_n 1 rfl ?_
                          refine zw_ls (ls' := [some (.ref 139), some (.int (nI ps)), some (.int (nI (w + 1))), none, none]) ⟨Or.inr rfl, Or.inr rfl, Or.inr rfl, Or.inl rfl, Or.inl rfl, trivial⟩ ?_
                          exact ih142 (w + 1) C5 M_154 s_154 f154_0 (mcY.fin ((show x = n by omega) ▸ hi154) (by omega) hE1) (by omega)
                        · -- 161 to 164
                          refine zw_n 1 rfl ?_
                          refine zw_get (v := .ref 149) rfl (Sm.at s_154 (by decide) hM.1) rfl ?_
                          refine zw_n 2 rfl ?_
                          refine zw_iald (f := ai C5) (j := w) rfl f154_0 rfl (by decide) (by omega) ?_
                          refine zw_n 1 rfl ?_
                          refine zw_get (v := .ref 149) rfl (Sm.at s_154 (by decide) hM.1) rfl ?_
                          refine zw_n 1 rfl ?_
                          refine zw_iald (f := ai C5) (j := w) rfl f154_0 rfl (by decide) (by omega) ?_
                          refine zw_n 4 rfl ?_
                          refine zw_top (x' := (nI (C5 w / 2 ^ x % 2))) (isr (by omega) (by omega)) ?_
                          refine zw_n 1 rfl ?_
                          refine zw_ineN (a := C5 w / 2 ^ x % 2) (b := 1) rfl rfl rfl (by omega) (by omega) (fun c182 => ?_) (fun c182 => ?_)
                          · -- 182 to 194
                            refine zw_n 2 rfl ?_
                            refine zw_top (x' := (nI (C5 w ||| 0))) (ior rfl rfl (by omega) (by decide)) ?_
                            refine zw_iastN (g := C5) (j := w) (v := (C5 w ||| 0)) rfl f154_0 rfl (by decide) (by omega) (rfl) ?_
                            generalize ez3338 : List.set M_154 149 _ = Mz3337
                            refine zw_inc rfl (x' := (nI (x + 1))) (ls' := [some (.ref 139), some (.int (nI ps)), some (.int (nI w)), some (.int (nI (x + 1))), none]) rfl (na (a := x) (b := 1) rfl rfl) rfl ?_
                            refine zw_n 1 rfl ?_
                            exact ih154 (x + 1) (up C5 w (C5 w ||| 0)) Mz3337 (Sm.tset s_154 ez3338 (by decide)) (zat_self ez3338 f154_0) (hi154.skip (by omega) (by omega) (fun q9 => c182 (by rw [tb2, if_pos q9]))) (by omega)
                          · -- 182 to 185
                            refine zw_n 1 rfl ?_
                            refine zw_get (v := .ref 149) rfl (Sm.at s_154 (by decide) hM.1) rfl ?_
                            refine zw_n 1 rfl ?_
                            refine zw_iald (f := ai C5) (j := x) rfl f154_0 rfl (by decide) (by omega) ?_
                            refine zw_n 2 rfl ?_
                            refine zw_top (x' := (nI (C5 w ||| C5 x))) (ior rfl rfl (by omega) (by omega)) ?_
                            refine zw_iastN (g := C5) (j := w) (v := (C5 w ||| C5 x)) rfl f154_0 rfl (by decide) (by omega) (rfl) ?_
                            generalize ez3340 : List.set M_154 149 _ = Mz3339
                            refine zw_inc rfl (x' := (nI (x + 1))) (ls' := [some (.ref 139), some (.int (nI ps)), some (.int (nI w)), some (.int (nI (x + 1))), none]) rfl (na (a := x) (b := 1) rfl rfl) rfl ?_
                            refine zw_n 1 rfl ?_
                            exact ih154 (x + 1) (up C5 w (C5 w ||| C5 x)) Mz3339 (Sm.tset s_154 ez3340 (by decide)) (zat_self ez3340 f154_0) (hi154.step (by omega) (by omega) (by rw [tb2] at c182; revert c182; split <;> simp_all)) (by omega)
                    exact lp154 _ 0 C6 M_142 s_142 f142_0 (mcY.start hi142) (Nat.lt_succ_self _)
              exact lp142 _ 0 C4 M_130 s_130 f130_0 (hi130.2) (Nat.lt_succ_self _)
        exact lp130 _ 0 C1 M_2 s_2 f2_0 (⟨Nat.zero_le _, mcE.go ((show r = n by omega) ▸ hi2)⟩) (Nat.lt_succ_self _)
      · -- 9 to 12
        refine zw_n 1 rfl ?_
        refine zw_get (v := .ref 149) rfl (Sm.at s_2 (by decide) hM.1) rfl ?_
        refine zw_n 2 rfl ?_
        refine zw_iastN (g := C1) (j := r) (v := 0) rfl f2_0 rfl (by decide) (by omega) (rfl) ?_
        generalize ez3342 : List.set M_2 149 _ = Mz3341
        refine zw_n 2 (ls' := [some (.ref 139), some (.int (nI r)), some (.int 0), none, none]) rfl ?_
        have mz3343 : Mz3341[145]? = some (.inl (0, 529, .inl (ai (f 145)))) := zat_set ez3342 (by decide) (Sm.at s_2 (by decide) (hM.2 145 (by decide) (by decide)))
        have mz3344 : Mz3341[148]? = some (.inl (3, 8, .inl (ai (f 148)))) := zat_set ez3342 (by decide) (Sm.at s_2 (by decide) (hM.2 148 (by decide) (by decide)))
        have lp21 : ∀ (n21 : Nat) (a : Nat) (C2 : Nat → Nat) (M_21 : zM), Sm Mq M_21 [149] → M_21[149]? = some (.inl (0, 8, .inl (ai C2))) → (a ≤ al_ r ∧ (∀ q, q ≠ r → C2 q = C1 q) ∧ cmI al_ it tg (bR (f 148)) r a 0 (C2 r)) → al_ r - a < n21 → Zw 3 zm_MO_layRounds 21 [some (.ref 139), some (.int (nI r)), some (.int (nI a)), none, none] [] M_21 (fun r9 M1 => r9 = none ∧ ∃ C, MM M1 o (fset f 149 C) ∧ Sm Mq M1 [149] ∧ (∀ r, r < n → C r < 256) ∧ ∀ r, r < n → ((C r).testBit r = true ↔ Rnd n al_ it tg (bR (f 148)) r)) := by
          intro n21
          induction n21 with
          | zero => intro a C2 M_21 _ _ _ h; exact absurd h (Nat.not_lt_zero _)
          | succ n21 ih21 =>
            intro a C2 M_21 s_21 f21_0 hi21 hm21
            have hal4 : r < n → al_ r ≤ 4 := fun q => (hd.2.2.1 r q).2
            refine zw_n 2 rfl ?_
            refine zw_get (v := .ref 145) rfl (Sm.at s_21 (by decide) hM.1) rfl ?_
            refine zw_n 3 rfl ?_
            refine zw_top (na (a := 9) (b := r) rfl rfl) ?_
            refine zw_iald (f := ai (f 145)) (j := (9 + r)) rfl (Sm.at s_21 (by decide) (hM.2 145 (by decide) (by decide))) rfl (by decide) (by omega) ?_
            refine zw_top (x' := (nI (al_ r))) (congrArg nI (hd.2.2.1 r (by omega)).1) ?_
            refine zw_igeN (a := a) (b := al_ r) rfl rfl rfl (by omega) (by omega) (fun c31 => ?_) (fun c31 => ?_)
            · -- 31 to 122
              refine zw_inc rfl (x' := (nI (r + 1))) (ls' := [some (.ref 139), some (.int (nI (r + 1))), some (.int (nI a)), none, none]) rfl (na (a := r) (b := 1) rfl rfl) rfl ?_
              refine zw_n 1 rfl ?_
              refine zw_ls (ls' := [some (.ref 139), some (.int (nI (r + 1))), none, none, none]) ⟨Or.inr rfl, Or.inr rfl, Or.inl rfl, Or.inl rfl, Or.inl rfl, trivial⟩ ?_
              exact ih2 (r + 1) C2 M_21 s_21 f21_0 (hi2.row (by omega) hi21.2.1 hi21.2.2.1 (hi21.2.2.ed (by omega))) (by omega)
            · -- 31 to 34
              refine zw_n 2 (ls' := [some (.ref 139), some (.int (nI r)), some (.int (nI a)), some (.int 0), none]) rfl ?_
              have lp36 : ∀ (n36 : Nat) (k : Nat) (C3 : Nat → Nat) (M_36 : zM), Sm Mq M_36 [149] → M_36[149]? = some (.inl (0, 8, .inl (ai C3))) → (k ≤ it (r * 4 + a) ∧ (∀ q, q ≠ r → C3 q = C1 q) ∧ cmI al_ it tg (bR (f 148)) r a k (C3 r)) → it (r * 4 + a) - k < n36 → Zw 3 zm_MO_layRounds 36 [some (.ref 139), some (.int (nI r)), some (.int (nI a)), some (.int (nI k)), none] [] M_36 (fun r9 M1 => r9 = none ∧ ∃ C, MM M1 o (fset f 149 C) ∧ Sm Mq M1 [149] ∧ (∀ r, r < n → C r < 256) ∧ ∀ r, r < n → ((C r).testBit r = true ↔ Rnd n al_ it tg (bR (f 148)) r)) := by
                intro n36
                induction n36 with
                | zero => intro k C3 M_36 _ _ _ h; exact absurd h (Nat.not_lt_zero _)
                | succ n36 ih36 =>
                  intro k C3 M_36 s_36 f36_0 hi36 hm36
                  have hit5 : r < n → a < al_ r → it (r * 4 + a) ≤ 5 := fun q q2 => (hd.2.2.2.1 r a q q2).2
                  have hc3 := hi36.2.2.1
                  refine zw_n 2 rfl ?_
                  refine zw_get (v := .ref 145) rfl (Sm.at s_36 (by decide) hM.1) rfl ?_
                  refine zw_n 3 rfl ?_
                  refine zw_callS (as := [.int (nI r), .int (nI a)]) (rest := [.int 17, .ref 145, .int (nI k)]) rfl rfl rfl rfl rfl rfl (by decide) (m_altAt _ r a) (fun rz3345 Mz3346 hz3347 => ?_)
                  rw [hz3347.1, hz3347.2]
                  show Zw 3 zm_MO_layRounds 48 [some (.ref 139), some (.int (nI r)), some (.int (nI a)), some (.int (nI k)), none] [.int (nI (r * 4 + a)), .int 17, .ref 145, .int (nI k)] M_36 _
                  refine zw_n 1 rfl ?_
                  refine zw_top (na (a := 17) (b := r * 4 + a) rfl rfl) ?_
                  refine zw_iald (f := ai (f 145)) (j := (17 + (r * 4 + a))) rfl (Sm.at s_36 (by decide) (hM.2 145 (by decide) (by decide))) rfl (by decide) (by omega) ?_
                  refine zw_top (x' := (nI (it (r * 4 + a)))) (congrArg nI (hd.2.2.2.1 r a (by omega) (by omega)).1) ?_
                  refine zw_igeN (a := k) (b := it (r * 4 + a)) rfl rfl rfl (by omega) (by omega) (fun c50 => ?_) (fun c50 => ?_)
                  · -- 50 to 116
                    refine zw_inc rfl (x' := (nI (a + 1))) (ls' := [some (.ref 139), some (.int (nI r)), some (.int (nI (a + 1))), some (.int (nI k)), none]) rfl (na (a := a) (b := 1) rfl rfl) rfl ?_
                    refine zw_n 1 rfl ?_
                    refine zw_ls (ls' := [some (.ref 139), some (.int (nI r)), some (.int (nI (a + 1))), none, none]) ⟨Or.inr rfl, Or.inr rfl, Or.inr rfl, Or.inl rfl, Or.inl rfl, trivial⟩ ?_
                    exact ih21 (a + 1) C3 M_36 s_36 f36_0 (⟨by omega, hi36.2.1, hi36.2.2.next (by omega)⟩) (by omega)
                  · -- 50 to 53
                    have hsl := hd.2.2.2.2 r a k (by omega) (by omega) (by omega)
                    have hpb := hb0 (49 + 3 * ((r * 4 + a) * 5 + k))
                    rw [hsl.1] at hpb
                    refine zw_n 3 rfl ?_
                    refine zw_callS (as := [.int (nI r), .int (nI a), .int (nI k)]) (rest := []) rfl rfl rfl rfl rfl rfl (by decide) (m_itemAt _ r a k) (fun rz3348 Mz3349 hz3350 => ?_)
                    rw [hz3350.1, hz3350.2]
                    show Zw 3 zm_MO_layRounds 59 [some (.ref 139), some (.int (nI r)), some (.int (nI a)), some (.int (nI k)), none] [.int (nI (49 + 3 * ((r * 4 + a) * 5 + k)))] M_36 _
                    refine zw_n 2 (ls' := [some (.ref 139), some (.int (nI r)), some (.int (nI a)), some (.int (nI k)), some (.int (nI (49 + 3 * ((r * 4 + a) * 5 + k))))]) rfl ?_
                    refine zw_get (v := .ref 149) rfl (Sm.at s_36 (by decide) hM.1) rfl ?_
                    refine zw_n 2 rfl ?_
                    refine zw_iald (f := ai C3) (j := r) rfl f36_0 rfl (by decide) (by omega) ?_
                    refine zw_n 1 rfl ?_
                    refine zw_get (v := .ref 145) rfl (Sm.at s_36 (by decide) hM.1) rfl ?_
                    refine zw_n 3 rfl ?_
                    refine zw_top (na (a := 49 + 3 * ((r * 4 + a) * 5 + k)) (b := 1) rfl rfl) ?_
                    refine zw_iald (f := ai (f 145)) (j := ((49 + 3 * ((r * 4 + a) * 5 + k)) + 1)) rfl (Sm.at s_36 (by decide) (hM.2 145 (by decide) (by decide))) rfl (by decide) (by omega) ?_
                    refine zw_top (x' := (nI (if tg ((r * 4 + a) * 5 + k) = NO then 0 else 1))) (congrArg nI hsl.2) ?_
                    refine zw_n 1 rfl ?_
                    refine zw_ineN (a := if tg ((r * 4 + a) * 5 + k) = NO then 0 else 1) (b := 1) rfl rfl rfl (by first | (split <;> decide) | decide) (by first | (split <;> decide) | decide) (fun c78 => ?_) (fun c78 => ?_)
                    · -- 78 to 107
                      refine zw_n 2 rfl ?_
                      refine zw_top (x' := (nI (C3 r ||| 0))) (ior rfl rfl (by omega) (by decide)) ?_
                      refine zw_iastN (g := C3) (j := r) (v := (C3 r ||| 0)) rfl f36_0 rfl (by decide) (by omega) (rfl) ?_
                      generalize ez3352 : List.set M_36 149 _ = Mz3351
                      refine zw_inc rfl (x' := (nI (k + 1))) (ls' := [some (.ref 139), some (.int (nI r)), some (.int (nI a)), some (.int (nI (k + 1))), some (.int (nI (49 + 3 * ((r * 4 + a) * 5 + k))))]) rfl (na (a := k) (b := 1) rfl rfl) rfl ?_
                      refine zw_n 1 rfl ?_
                      refine zw_ls (ls' := [some (.ref 139), some (.int (nI r)), some (.int (nI a)), some (.int (nI (k + 1))), none]) ⟨Or.inr rfl, Or.inr rfl, Or.inr rfl, Or.inr rfl, Or.inl rfl, trivial⟩ ?_
                      exact ih36 (k + 1) (up C3 r (C3 r ||| 0)) Mz3351 (Sm.tset s_36 ez3352 (by decide)) (zat_self ez3352 f36_0) (⟨by omega, fun q hq => (up_n hq).trans (hi36.2.1 q hq), by rw [up_s]; rw [Nat.or_zero]; exact hi36.2.2.no (fun t q9 => by first | exact ite_eq0 c88 (iaB_all.mpr q9.2.2) | (have h9 : tg ((r * 4 + a) * 5 + k) ≠ NO := fun e9 => q9.2.1 (q9.1.symm.trans e9); rw [if_neg h9] at c78; exact c78 rfl))⟩) (by omega)
                    · -- 78 to 81
                      have htn : tg ((r * 4 + a) * 5 + k) ≠ NO := ite_tg1 (by rw [c78]; decide)
                      have hrs := hres r a k (by omega) (by omega) (by omega) htn
                      refine zw_n 4 rfl ?_
                      refine zw_callV (as := [.int (nI r), .int (nI a), .int (nI k)]) (rest := [.int (nI (C3 r)), .int (nI r), .ref 149]) rfl rfl rfl (Sm.at s_36 (by decide) hM.1) rfl rfl rfl (by decide) (m_isEmptyAltK M_36 o (fset f 149 C3) (MM.of (o' := o) (f' := fset f 149 C3) hM s_36 (Sm.at s_36 (by decide) hM.1) (c1_cons f36_0 c1_nil) (fs_c fs_n)) n gn al_ it pt tg hd hn8 hb0 hres he1 r a (by omega) (by omega) k (by omega)) (fun rz3353 Mz3354 hz3355 => ?_)
                      rw [hz3355.1, hz3355.2]
                      show Zw 3 zm_MO_layRounds 88 [some (.ref 139), some (.int (nI r)), some (.int (nI a)), some (.int (nI k)), some (.int (nI (49 + 3 * ((r * 4 + a) * 5 + k))))] [.int (nI (if iaB tg (bR (f 148)) (r * 4 + a) k (it (r * 4 + a)) = true then 1 else 0)), .int (nI (C3 r)), .int (nI r), .ref 149] M_36 _
                      refine zw_eq0N (a := if iaB tg (bR (f 148)) (r * 4 + a) k (it (r * 4 + a)) = true then 1 else 0) rfl rfl (ite_b) (fun c88 => ?_) (fun c88 => ?_)
                      · -- 88 to 107
                        refine zw_n 2 rfl ?_
                        refine zw_top (x' := (nI (C3 r ||| 0))) (ior rfl rfl (by omega) (by decide)) ?_
                        refine zw_iastN (g := C3) (j := r) (v := (C3 r ||| 0)) rfl f36_0 rfl (by decide) (by omega) (rfl) ?_
                        generalize ez3357 : List.set M_36 149 _ = Mz3356
                        refine zw_inc rfl (x' := (nI (k + 1))) (ls' := [some (.ref 139), some (.int (nI r)), some (.int (nI a)), some (.int (nI (k + 1))), some (.int (nI (49 + 3 * ((r * 4 + a) * 5 + k))))]) rfl (na (a := k) (b := 1) rfl rfl) rfl ?_
                        refine zw_n 1 rfl ?_
                        refine zw_ls (ls' := [some (.ref 139), some (.int (nI r)), some (.int (nI a)), some (.int (nI (k + 1))), none]) ⟨Or.inr rfl, Or.inr rfl, Or.inr rfl, Or.inr rfl, Or.inl rfl, trivial⟩ ?_
                        exact ih36 (k + 1) (up C3 r (C3 r ||| 0)) Mz3356 (Sm.tset s_36 ez3357 (by decide)) (zat_self ez3357 f36_0) (⟨by omega, fun q hq => (up_n hq).trans (hi36.2.1 q hq), by rw [up_s]; rw [Nat.or_zero]; exact hi36.2.2.no (fun t q9 => by first | exact ite_eq0 c88 (iaB_all.mpr q9.2.2) | (have h9 : tg ((r * 4 + a) * 5 + k) ≠ NO := fun e9 => q9.2.1 (q9.1.symm.trans e9); rw [if_neg h9] at c78; exact c78 rfl))⟩) (by omega)
                      · -- 88 to 91
                        refine zw_n 3 rfl ?_
                        refine zw_get (v := .ref 145) rfl (Sm.at s_36 (by decide) hM.1) rfl ?_
                        refine zw_n 1 rfl ?_
                        refine zw_iald (f := ai (f 145)) (j := (49 + 3 * ((r * 4 + a) * 5 + k))) rfl (Sm.at s_36 (by decide) (hM.2 145 (by decide) (by decide))) rfl (by decide) (by omega) ?_
                        refine zw_top (x' := (nI (pt ((r * 4 + a) * 5 + k)))) (congrArg nI hsl.1) ?_
                        refine zw_callV (as := [.int (nI (pt ((r * 4 + a) * 5 + k)))]) (rest := [.int 1, .int (nI (C3 r)), .int (nI r), .ref 149]) rfl rfl rfl (Sm.at s_36 (by decide) hM.1) rfl rfl rfl (by decide) (m_draftG M_36 o (fset f 149 C3) (MM.of (o' := o) (f' := fset f 149 C3) hM s_36 (Sm.at s_36 (by decide) hM.1) (c1_cons f36_0 c1_nil) (fs_c fs_n)) n gn al_ it pt tg hd hn8 hb0 (pt ((r * 4 + a) * 5 + k)) (by omega)) (fun rz3358 Mz3359 hz3360 => ?_)
                        rw [hz3360.1, hz3360.2]
                        show Zw 3 zm_MO_layRounds 103 [some (.ref 139), some (.int (nI r)), some (.int (nI a)), some (.int (nI k)), some (.int (nI (49 + 3 * ((r * 4 + a) * 5 + k))))] [.int (nI (srch (fun q => gn q == (pt ((r * 4 + a) * 5 + k))) 0 n)), .int 1, .int (nI (C3 r)), .int (nI r), .ref 149] M_36 _
                        refine zw_top (x' := nI (tg ((r * 4 + a) * 5 + k))) (congrArg nI hrs.1) ?_
                        refine zw_n 1 rfl ?_
                        refine zw_top (x' := (nI (2 ^ tg ((r * 4 + a) * 5 + k)))) (isl (by omega)) ?_
                        refine zw_n 2 rfl ?_
                        refine zw_top (x' := (nI (C3 r ||| 2 ^ tg ((r * 4 + a) * 5 + k)))) (ior rfl rfl (by omega) (by have := pow_lt8 (show tg ((r * 4 + a) * 5 + k) < 8 by omega); omega)) ?_
                        refine zw_iastN (g := C3) (j := r) (v := (C3 r ||| 2 ^ tg ((r * 4 + a) * 5 + k))) rfl f36_0 rfl (by decide) (by omega) (rfl) ?_
                        generalize ez3362 : List.set M_36 149 _ = Mz3361
                        refine zw_inc rfl (x' := (nI (k + 1))) (ls' := [some (.ref 139), some (.int (nI r)), some (.int (nI a)), some (.int (nI (k + 1))), some (.int (nI (49 + 3 * ((r * 4 + a) * 5 + k))))]) rfl (na (a := k) (b := 1) rfl rfl) rfl ?_
                        refine zw_n 1 rfl ?_
                        refine zw_ls (ls' := [some (.ref 139), some (.int (nI r)), some (.int (nI a)), some (.int (nI (k + 1))), none]) ⟨Or.inr rfl, Or.inr rfl, Or.inr rfl, Or.inr rfl, Or.inl rfl, trivial⟩ ?_
                        exact ih36 (k + 1) (up C3 r (C3 r ||| 2 ^ tg ((r * 4 + a) * 5 + k))) Mz3361 (Sm.tset s_36 ez3362 (by decide)) (zat_self ez3362 f36_0) (⟨by omega, fun q hq => (up_n hq).trans (hi36.2.1 q hq), by rw [up_s]; exact hi36.2.2.yes (by omega) ⟨rfl, htn, iaB_all.mp (ite_ne c88)⟩⟩) (by omega)
              exact lp36 _ 0 C2 M_21 s_21 f21_0 (⟨Nat.zero_le _, hi21.2.1, hi21.2.2⟩) (Nat.lt_succ_self _)
        exact lp21 _ 0 (up C1 r 0) Mz3341 (Sm.tset s_2 ez3342 (by decide)) (zat_self ez3342 f2_0) (⟨Nat.zero_le _, fun q hq => up_n hq, by rw [up_s]; exact cmI.start⟩) (Nat.lt_succ_self _)
  exact lp2 _ 0 (f 149) Mq Sm.rf (hM.2 149 (by decide) (by decide)) (⟨Nat.zero_le _, fun t ht => absurd ht (Nat.not_lt_zero _)⟩) (Nat.lt_succ_self _)
