set_option maxHeartbeats 4000000 in
set_option maxRecDepth 100000 in
theorem m_ruleOf (Mq : zM) (o : Nat → Nat) (f : Nat → Nat → Nat) (hM : MM Mq o f) (n : Nat) (gn al_ it pt tg bd : Nat → Nat) (hw : RowG f n gn al_ it pt tg bd) (hG : SafeG n gn al_ it pt tg bd) (hF : SafeF f) (x : Nat) (hx : x < 2147483648) : Zm 0 zm_MO_ruleOf [.ref 139, .int (nI x)] Mq (fun r9 M1 => r9 = some (.int (nI (srch (fun q => gn q == x) 0 n))) ∧ M1 = Mq) := by
  show Zw 0 zm_MO_ruleOf 0 [some (.ref 139), some (.int (nI x)), none] [] Mq _
  have hn8 := hG.1
  refine zw_n 2 (ls' := [some (.ref 139), some (.int (nI x)), some (.int 0)]) rfl ?_
  have lp2 : ∀ (n2 : Nat) (i : Nat), (i ≤ n ∧ srch (fun q => gn q == x) 0 n = srch (fun q => gn q == x) i (n - i)) → n - i < n2 → Zw 0 zm_MO_ruleOf 2 [some (.ref 139), some (.int (nI x)), some (.int (nI i))] [] Mq (fun r9 M1 => r9 = some (.int (nI (srch (fun q => gn q == x) 0 n))) ∧ M1 = Mq) := by
    intro n2
    induction n2 with
    | zero => intro i _ h; exact absurd h (Nat.not_lt_zero _)
    | succ n2 ih2 =>
      intro i hi2 hm2
      have hgi := hG.2.1 i
      refine zw_n 2 rfl ?_
      refine zw_get (v := .ref 140) rfl hM.1 rfl ?_
      refine zw_n 1 rfl ?_
      refine zw_iald (f := ai (f 140)) (j := 0) rfl (hM.2 140 (by decide) (by decide)) rfl (by decide) (by omega) ?_
      refine zw_top (x' := (nI n)) (congrArg nI hw.1) ?_
      refine zw_igeN (a := i) (b := n) rfl rfl rfl (by omega) (by omega) (fun c9 => ?_) (fun c9 => ?_)
      · -- 9 to 32
        refine zw_n 1 rfl ?_
        exact zw_iret rfl rfl (⟨by rw [hi2.2, srch_end (by omega)]; decide, rfl⟩)
      · -- 9 to 12
        refine zw_n 1 rfl ?_
        refine zw_get (v := .ref 140) rfl hM.1 rfl ?_
        refine zw_n 3 rfl ?_
        refine zw_top (na (a := 1) (b := i) rfl rfl) ?_
        refine zw_iald (f := ai (f 140)) (j := (1 + i)) rfl (hM.2 140 (by decide) (by decide)) rfl (by decide) (by omega) ?_
        refine zw_top (x' := (nI (gn i))) (congrArg nI (hw.2.1 i (by omega))) ?_
        refine zw_n 1 rfl ?_
        refine zw_ineN (a := gn i) (b := x) rfl rfl rfl (by omega) (by omega) (fun c21 => ?_) (fun c21 => ?_)
        · -- 21 to 26
          refine zw_inc rfl (x' := (nI (i + 1))) (ls' := [some (.ref 139), some (.int (nI x)), some (.int (nI (i + 1)))]) rfl (na (a := i) (b := 1) rfl rfl) rfl ?_
          refine zw_n 1 rfl ?_
          exact ih2 (i + 1) (⟨by omega, by rw [hi2.2, srch_no (by omega) (by simpa using c21), show n - (i + 1) = n - i - 1 by omega]⟩) (by omega)
        · -- 21 to 24
          refine zw_n 1 rfl ?_
          exact zw_iret rfl rfl (⟨by rw [hi2.2, srch_yes (by omega) (by simpa using c21)], rfl⟩)
  exact lp2 _ 0 (⟨Nat.zero_le _, rfl⟩) (Nat.lt_succ_self _)

set_option maxHeartbeats 4000000 in
set_option maxRecDepth 100000 in
theorem m_items2 (Mq : zM) (o : Nat → Nat) (f : Nat → Nat → Nat) (hM : MM Mq o f) (n : Nat) (gn al_ it pt tg bd : Nat → Nat) (hw : RowG f n gn al_ it pt tg bd) (hG : SafeG n gn al_ it pt tg bd) (hF : SafeF f) (r a : Nat) (hr : r < n) (ha : a < al_ r) : Zm 1 zm_MO_items [.ref 139, .int (nI r), .int (nI a)] Mq (fun r9 M1 => r9 = some (.int (nI (it (r * 4 + a)))) ∧ M1 = Mq) := by
  show Zw 1 zm_MO_items 0 [some (.ref 139), some (.int (nI r)), some (.int (nI a))] [] Mq _
  have hn8 := hG.1
  have ha4 := hG.2.2.1 r
  refine zw_n 1 rfl ?_
  refine zw_get (v := .ref 140) rfl hM.1 rfl ?_
  refine zw_n 3 rfl ?_
  refine zw_callS (as := [.int (nI r), .int (nI a)]) (rest := [.int 17, .ref 140]) rfl rfl rfl rfl rfl rfl (by decide) (m_altAt _ r a) (fun rz3408 Mz3409 hz3410 => ?_)
  rw [hz3410.1, hz3410.2]
  show Zw 1 zm_MO_items 11 [some (.ref 139), some (.int (nI r)), some (.int (nI a))] [.int (nI (r * 4 + a)), .int 17, .ref 140] Mq _
  refine zw_n 1 rfl ?_
  refine zw_top (na (a := 17) (b := r * 4 + a) rfl rfl) ?_
  refine zw_iald (f := ai (f 140)) (j := (17 + (r * 4 + a))) rfl (hM.2 140 (by decide) (by decide)) rfl (by decide) (by omega) ?_
  refine zw_top (x' := (nI (it (r * 4 + a)))) (congrArg nI (hw.2.2.2.1 r a hr ha)) ?_
  exact zw_iret rfl rfl (⟨rfl, rfl⟩)

set_option maxHeartbeats 4000000 in
set_option maxRecDepth 100000 in
theorem m_layFree (Mq : zM) (o : Nat → Nat) (f : Nat → Nat → Nat) (hM : MM Mq o f) (n : Nat) (gn al_ it pt tg bd : Nat → Nat) (hw : RowG f n gn al_ it pt tg bd) (hG : SafeG n gn al_ it pt tg bd) (hF : SafeF f) (hres : DrR n gn al_ it pt tg) (h4 : SafeM (f 154)) (h5 : SafeM (f 155)) : Zm 4 zm_MO_layFree [.ref 139] Mq (fun r9 M1 => r9 = none ∧ ∃ P F B, MM M1 o (fset (fset (fset f 155 B) 154 F) 153 P) ∧ Sm Mq M1 [153, 154, 155] ∧ SafeM F ∧ SafeM B ∧ RelG (fset (fset (fset f 155 B) 154 F) 153 P) n gn al_ it pt tg bd ∧ IsLfp n (frR al_ it tg bd) F ∧ IsLfp n (brR al_ it tg bd) B) := by
  show Zw 4 zm_MO_layFree 0 [some (.ref 139), none, none, none, none, none, none, none] [] Mq _
  have hn8 := hG.1
  have hcl := hres.clo
  have hbV : ∀ r a k, sVl n al_ it r a k → a < 4 ∧ k < 5 := fun r a k q => by
    have h1 := hG.2.2.1 r
    have h2 := hG.2.2.2.1 (r * 4 + a)
    have h3 := q.2.1
    have h4 := q.2.2
    omega
  refine zw_n 2 (ls' := [some (.ref 139), some (.int 0), none, none, none, none, none, none]) rfl ?_
  have lp2 : ∀ (n2 : Nat) (r : Nat) (P0 : Nat → Nat) (F0 : Nat → Nat) (B0 : Nat → Nat) (M_2 : zM), Sm Mq M_2 [153, 154, 155] → M_2[153]? = some (.inl (0, 160, .inl (ai P0))) → M_2[154]? = some (.inl (1, 8, .inr (.inl (al F0)))) → M_2[155]? = some (.inl (1, 8, .inr (.inl (al B0)))) → (r ≤ n ∧ ptI n al_ it tg (r * 20) P0 ∧ SafeM F0 ∧ SafeM B0 ∧ (∀ q, q < r → F0 q = 0) ∧ (∀ q, q < r → B0 q = 0)) → n - r < n2 → Zw 4 zm_MO_layFree 2 [some (.ref 139), some (.int (nI r)), none, none, none, none, none, none] [] M_2 (fun r9 M1 => r9 = none ∧ ∃ P F B, MM M1 o (fset (fset (fset f 155 B) 154 F) 153 P) ∧ Sm Mq M1 [153, 154, 155] ∧ SafeM F ∧ SafeM B ∧ RelG (fset (fset (fset f 155 B) 154 F) 153 P) n gn al_ it pt tg bd ∧ IsLfp n (frR al_ it tg bd) F ∧ IsLfp n (brR al_ it tg bd) B) := by
    intro n2
    induction n2 with
    | zero => intro r P0 F0 B0 M_2 _ _ _ _ _ h; exact absurd h (Nat.not_lt_zero _)
    | succ n2 ih2 =>
      intro r P0 F0 B0 M_2 s_2 f2_0 f2_1 f2_2 hi2 hm2
      refine zw_n 2 rfl ?_
      refine zw_get (v := .ref 140) rfl (Sm.at s_2 (by decide) hM.1) rfl ?_
      refine zw_n 1 rfl ?_
      refine zw_iald (f := ai (f 140)) (j := 0) rfl (Sm.at s_2 (by decide) (hM.2 140 (by decide) (by decide))) rfl (by decide) (by omega) ?_
      refine zw_top (x' := (nI n)) (congrArg nI hw.1) ?_
      refine zw_igeN (a := r) (b := n) rfl rfl rfl (by omega) (by omega) (fun c9 => ?_) (fun c9 => ?_)
      · -- 9 to 119
        refine zw_n 2 (ls' := [some (.ref 139), some (.int 1), none, none, none, none, none, none]) rfl ?_
        have lp121 : ∀ (n121 : Nat) (mo : Nat) (F1 : Nat → Nat) (B1 : Nat → Nat) (M_121 : zM), Sm Mq M_121 [153, 154, 155] → M_121[154]? = some (.inl (1, 8, .inr (.inl (al F1)))) → M_121[155]? = some (.inl (1, 8, .inr (.inl (al B1)))) → M_121[153]? = some (.inl (0, 160, .inl (ai P0))) → (laP n al_ it tg bd mo F1 B1) → (if mo = 0 then 0 else 642 - (tb F1 n + tb B1 n)) < n121 → Zw 4 zm_MO_layFree 121 [some (.ref 139), some (.int (nI mo)), none, none, none, none, none, none] [] M_121 (fun r9 M1 => r9 = none ∧ ∃ P F B, MM M1 o (fset (fset (fset f 155 B) 154 F) 153 P) ∧ Sm Mq M1 [153, 154, 155] ∧ SafeM F ∧ SafeM B ∧ RelG (fset (fset (fset f 155 B) 154 F) 153 P) n gn al_ it pt tg bd ∧ IsLfp n (frR al_ it tg bd) F ∧ IsLfp n (brR al_ it tg bd) B) := by
          intro n121
          induction n121 with
          | zero => intro mo F1 B1 M_121 _ _ _ _ _ h; exact absurd h (Nat.not_lt_zero _)
          | succ n121 ih121 =>
            intro mo F1 B1 M_121 s_121 f121_0 f121_1 f121_2 hi121 hm121
            have hmo := hi121.1
            have hP : ∀ x, Slt n al_ it x → P0 x = tg x := fun x ⟨r2, a2, k2, q1, q2, q3, q4⟩ => by rw [q4]; exact hi2.2.1 r2 a2 k2 ⟨q1, q2, q3⟩ (by have := hbV r2 a2 k2 ⟨q1, q2, q3⟩; omega)
            refine zw_n 1 rfl ?_
            refine zw_eq0N (a := mo) rfl rfl (by omega) (fun c122 => ?_) (fun c122 => ?_)
            · -- 122 to 253
              exact zw_vret rfl rfl (⟨rfl, P0, F1, B1, (MM.of (o' := o) (f' := fset (fset (fset f 155 B1) 154 F1) 153 P0) hM s_121 (Sm.at s_121 (by decide) hM.1) (c1_cons f121_2 (c1_cons f121_0 (c1_cons f121_1 c1_nil))) (fs_c (fs_c (fs_c fs_n)))), s_121, hi121.2.1, hi121.2.2.1, RowG.rel hw hP, (hi121.2.2.2.2.2 c122).1, (hi121.2.2.2.2.2 c122).2⟩)
            · -- 122 to 125
              refine zw_n 4 (ls' := [some (.ref 139), some (.int 0), some (.int 0), none, none, none, none, none]) rfl ?_
              have lp129 : ∀ (n129 : Nat) (m2 : Nat) (y : Nat) (F2 : Nat → Nat) (B2 : Nat → Nat) (M_129 : zM), Sm Mq M_129 [153, 154, 155] → M_129[154]? = some (.inl (1, 8, .inr (.inl (al F2)))) → M_129[155]? = some (.inl (1, 8, .inr (.inl (al B2)))) → M_129[153]? = some (.inl (0, 160, .inl (ai P0))) → (laI n al_ it tg bd F1 B1 y m2 F2 B2) → n - y < n129 → Zw 4 zm_MO_layFree 129 [some (.ref 139), some (.int (nI m2)), some (.int (nI y)), none, none, none, none, none] [] M_129 (fun r9 M1 => r9 = none ∧ ∃ P F B, MM M1 o (fset (fset (fset f 155 B) 154 F) 153 P) ∧ Sm Mq M1 [153, 154, 155] ∧ SafeM F ∧ SafeM B ∧ RelG (fset (fset (fset f 155 B) 154 F) 153 P) n gn al_ it pt tg bd ∧ IsLfp n (frR al_ it tg bd) F ∧ IsLfp n (brR al_ it tg bd) B) := by
                intro n129
                induction n129 with
                | zero => intro m2 y F2 B2 M_129 _ _ _ _ _ h; exact absurd h (Nat.not_lt_zero _)
                | succ n129 ih129 =>
                  intro m2 y F2 B2 M_129 s_129 f129_0 f129_1 f129_2 hi129 hm129
                  have hyn := hi129.1
                  have hm2 := hi129.2.1
                  refine zw_n 2 rfl ?_
                  refine zw_get (v := .ref 140) rfl (Sm.at s_129 (by decide) hM.1) rfl ?_
                  refine zw_n 1 rfl ?_
                  refine zw_iald (f := ai (f 140)) (j := 0) rfl (Sm.at s_129 (by decide) (hM.2 140 (by decide) (by decide))) rfl (by decide) (by omega) ?_
                  refine zw_top (x' := (nI n)) (congrArg nI hw.1) ?_
                  refine zw_igeN (a := y) (b := n) rfl rfl rfl (by omega) (by omega) (fun c136 => ?_) (fun c136 => ?_)
                  · -- 136 to 250
                    refine zw_n 1 rfl ?_
                    refine zw_ls (ls' := [some (.ref 139), some (.int (nI m2)), none, none, none, none, none, none]) ⟨Or.inr rfl, Or.inr rfl, Or.inl rfl, Or.inl rfl, Or.inl rfl, Or.inl rfl, Or.inl rfl, Or.inl rfl, trivial⟩ ?_
                    exact ih121 m2 F2 B2 M_129 s_129 f129_0 f129_1 f129_2 (laI.fin hcl ((show y = n by omega) ▸ hi129)) (la_meas hn8 c122 hm121 hi129.2.2.2.2.2)
                  · -- 136 to 139
                    refine zw_n 1 rfl ?_
                    refine zw_get (v := .ref 154) rfl (Sm.at s_129 (by decide) hM.1) rfl ?_
                    refine zw_n 1 rfl ?_
                    refine zw_lald (f := al F2) (j := y) rfl f129_0 rfl (by decide) (by omega) ?_
                    refine zw_n 2 (ls' := [some (.ref 139), some (.int (nI m2)), some (.int (nI y)), some (.long (lN (F2 y))), none, none, none, none]) rfl ?_
                    refine zw_get (v := .ref 155) rfl (Sm.at s_129 (by decide) hM.1) rfl ?_
                    refine zw_n 1 rfl ?_
                    refine zw_lald (f := al B2) (j := y) rfl f129_1 rfl (by decide) (by omega) ?_
                    refine zw_n 3 (ls' := [some (.ref 139), some (.int (nI m2)), some (.int (nI y)), some (.long (lN (F2 y))), none, some (.long (lN (B2 y))), none, some (.int 0)]) rfl ?_
                    have lp157 : ∀ (n157 : Nat) (a : Nat) (F3 : Nat → Nat) (B3 : Nat → Nat) (M_157 : zM), Sm Mq M_157 [153, 154, 155] → M_157[154]? = some (.inl (1, 8, .inr (.inl (al F3)))) → M_157[155]? = some (.inl (1, 8, .inr (.inl (al B3)))) → M_157[153]? = some (.inl (0, 160, .inl (ai P0))) → (a ≤ al_ y ∧ AlI n al_ (fun fr x => frA tg bd it fr x) F2 y a F3 ∧ AlI n al_ (fun fr x => brA tg bd it fr x) B2 y a B3) → al_ y - a < n157 → Zw 4 zm_MO_layFree 157 [some (.ref 139), some (.int (nI m2)), some (.int (nI y)), some (.long (lN (F2 y))), none, some (.long (lN (B2 y))), none, some (.int (nI a))] [] M_157 (fun r9 M1 => r9 = none ∧ ∃ P F B, MM M1 o (fset (fset (fset f 155 B) 154 F) 153 P) ∧ Sm Mq M1 [153, 154, 155] ∧ SafeM F ∧ SafeM B ∧ RelG (fset (fset (fset f 155 B) 154 F) 153 P) n gn al_ it pt tg bd ∧ IsLfp n (frR al_ it tg bd) F ∧ IsLfp n (brR al_ it tg bd) B) := by
                      intro n157
                      induction n157 with
                      | zero => intro a F3 B3 M_157 _ _ _ _ _ h; exact absurd h (Nat.not_lt_zero _)
                      | succ n157 ih157 =>
                        intro a F3 B3 M_157 s_157 f157_0 f157_1 f157_2 hi157 hm157
                        have hal4 := hG.2.2.1 y
                        refine zw_n 2 rfl ?_
                        refine zw_get (v := .ref 140) rfl (Sm.at s_157 (by decide) hM.1) rfl ?_
                        refine zw_n 3 rfl ?_
                        refine zw_top (na (a := 9) (b := y) rfl rfl) ?_
                        refine zw_iald (f := ai (f 140)) (j := (9 + y)) rfl (Sm.at s_157 (by decide) (hM.2 140 (by decide) (by decide))) rfl (by decide) (by omega) ?_
                        refine zw_top (x' := (nI (al_ y))) (congrArg nI (hw.2.2.1 y (by omega))) ?_
                        refine zw_igeN (a := a) (b := al_ y) rfl rfl rfl (by omega) (by omega) (fun c168 => ?_) (fun c168 => ?_)
                        · -- 168 to 211
                          have j211 : Zw 4 zm_MO_layFree 243 [some (.ref 139), some (.int (nI m2)), some (.int (nI y)), some (.long (lN (F2 y))), none, some (.long (lN (B2 y))), none, some (.int (nI a))] [.int (nI (if m2 ≠ 0 ∨ F3 y ≠ F2 y ∨ B3 y ≠ B2 y then 1 else 0))] M_157 (fun r9 M1 => r9 = none ∧ ∃ P F B, MM M1 o (fset (fset (fset f 155 B) 154 F) 153 P) ∧ Sm Mq M1 [153, 154, 155] ∧ SafeM F ∧ SafeM B ∧ RelG (fset (fset (fset f 155 B) 154 F) 153 P) n gn al_ it pt tg bd ∧ IsLfp n (frR al_ it tg bd) F ∧ IsLfp n (brR al_ it tg bd) B) := by
                            refine zw_n 1 (ls' := [some (.ref 139), some (.int (nI (if m2 ≠ 0 ∨ F3 y ≠ F2 y ∨ B3 y ≠ B2 y then 1 else 0))), some (.int (nI y)), some (.long (lN (F2 y))), none, some (.long (lN (B2 y))), none, some (.int (nI a))]) rfl ?_
                            refine zw_inc rfl (x' := (nI (y + 1))) (ls' := [some (.ref 139), some (.int (nI (if m2 ≠ 0 ∨ F3 y ≠ F2 y ∨ B3 y ≠ B2 y then 1 else 0))), some (.int (nI (y + 1))), some (.long (lN (F2 y))), none, some (.long (lN (B2 y))), none, some (.int (nI a))]) rfl (na (a := y) (b := 1) rfl rfl) rfl ?_
                            refine zw_n 1 rfl ?_
                            refine zw_ls (ls' := [some (.ref 139), some (.int (nI (if m2 ≠ 0 ∨ F3 y ≠ F2 y ∨ B3 y ≠ B2 y then 1 else 0))), some (.int (nI (y + 1))), none, none, none, none, none]) ⟨Or.inr rfl, Or.inr rfl, Or.inr rfl, Or.inl rfl, Or.inl rfl, Or.inl rfl, Or.inl rfl, Or.inl rfl, trivial⟩ ?_
                            exact ih129 (if m2 ≠ 0 ∨ F3 y ≠ F2 y ∨ B3 y ≠ B2 y then 1 else 0) (y + 1) F3 B3 M_157 s_157 f157_0 f157_1 f157_2 (hi129.step (by omega) hi157.2.1 hi157.2.2 (by omega)) (by omega)
                          refine zw_n 1 rfl ?_
                          refine zw_ne0N (a := m2) rfl rfl (by omega) (fun c212 => ?_) (fun c212 => ?_)
                          · -- 212 to 238
                            refine zw_n 2 rfl ?_
                            refine zw_top (x' := nI (if m2 ≠ 0 ∨ F3 y ≠ F2 y ∨ B3 y ≠ B2 y then 1 else 0)) (show nI 1 = nI (if m2 ≠ 0 ∨ F3 y ≠ F2 y ∨ B3 y ≠ B2 y then 1 else 0) by rw [if_pos (by first | exact Or.inl c212 | exact Or.inr (Or.inl c223) | exact Or.inr (Or.inr c235))]) ?_
                            exact j211
                          · -- 212 to 215
                            refine zw_n 1 rfl ?_
                            refine zw_get (v := .ref 154) rfl (Sm.at s_157 (by decide) hM.1) rfl ?_
                            refine zw_n 1 rfl ?_
                            refine zw_lald (f := al F3) (j := y) rfl f157_0 rfl (by decide) (by omega) ?_
                            refine zw_n 2 rfl ?_
                            refine zw_lneN (a := F3 y) (b := F2 y) rfl rfl rfl (by first | exact Nat.lt_trans (hi157.2.1.sfr _) (by decide) | exact Nat.lt_trans (hi129.2.2.1.sfr _) (by decide)) (by first | exact Nat.lt_trans (hi157.2.1.sfr _) (by decide) | exact Nat.lt_trans (hi129.2.2.1.sfr _) (by decide)) (fun c223 => ?_) (fun c223 => ?_)
                            · -- 223 to 238
                              refine zw_n 2 rfl ?_
                              refine zw_top (x' := nI (if m2 ≠ 0 ∨ F3 y ≠ F2 y ∨ B3 y ≠ B2 y then 1 else 0)) (show nI 1 = nI (if m2 ≠ 0 ∨ F3 y ≠ F2 y ∨ B3 y ≠ B2 y then 1 else 0) by rw [if_pos (by first | exact Or.inl c212 | exact Or.inr (Or.inl c223) | exact Or.inr (Or.inr c235))]) ?_
                              exact j211
                            · -- 223 to 226
                              refine zw_n 1 rfl ?_
                              refine zw_get (v := .ref 155) rfl (Sm.at s_157 (by decide) hM.1) rfl ?_
                              refine zw_n 1 rfl ?_
                              refine zw_lald (f := al B3) (j := y) rfl f157_1 rfl (by decide) (by omega) ?_
                              refine zw_n 2 rfl ?_
                              refine zw_leqN (a := B3 y) (b := B2 y) rfl rfl rfl (by first | exact Nat.lt_trans (hi157.2.2.sfr _) (by decide) | exact Nat.lt_trans (hi129.2.2.2.1.sfr _) (by decide)) (by first | exact Nat.lt_trans (hi157.2.2.sfr _) (by decide) | exact Nat.lt_trans (hi129.2.2.2.1.sfr _) (by decide)) (fun c235 => ?_) (fun c235 => ?_)
                              · -- 235 to 242
                                refine zw_n 1 rfl ?_
                                refine zw_top (x' := nI (if m2 ≠ 0 ∨ F3 y ≠ F2 y ∨ B3 y ≠ B2 y then 1 else 0)) (show nI 0 = nI (if m2 ≠ 0 ∨ F3 y ≠ F2 y ∨ B3 y ≠ B2 y then 1 else 0) by rw [if_neg (fun q9 => by rcases q9 with q9 | q9 | q9; exact q9 c212; exact q9 c223; exact q9 c235)]) ?_
                                exact j211
                              · -- 235 to 238
                                refine zw_n 2 rfl ?_
                                refine zw_top (x' := nI (if m2 ≠ 0 ∨ F3 y ≠ F2 y ∨ B3 y ≠ B2 y then 1 else 0)) (show nI 1 = nI (if m2 ≠ 0 ∨ F3 y ≠ F2 y ∨ B3 y ≠ B2 y then 1 else 0) by rw [if_pos (by first | exact Or.inl c212 | exact Or.inr (Or.inl c223) | exact Or.inr (Or.inr c235))]) ?_
                                exact j211
                        · -- 168 to 171
                          refine zw_n 1 rfl ?_
                          refine zw_get (v := .ref 154) rfl (Sm.at s_157 (by decide) hM.1) rfl ?_
                          refine zw_n 2 rfl ?_
                          refine zw_lald (f := al F3) (j := y) rfl f157_0 rfl (by decide) (by omega) ?_
                          refine zw_n 4 rfl ?_
                          refine zw_callV (as := [.int (nI y), .int (nI a), .int 0]) (rest := [.long (lN (F3 y)), .int (nI y), .ref 154]) rfl rfl rfl (Sm.at s_157 (by decide) hM.1) rfl rfl rfl (by decide) (m_ofAltF M_157 o (fset (fset (fset f 155 B3) 154 F3) 153 P0) (MM.of (o' := o) (f' := fset (fset (fset f 155 B3) 154 F3) 153 P0) hM s_157 (Sm.at s_157 (by decide) hM.1) (c1_cons f157_2 (c1_cons f157_0 (c1_cons f157_1 c1_nil))) (fs_c (fs_c (fs_c fs_n)))) n gn al_ it pt tg bd (RowG.rel hw hP) hG hF hi157.2.1.sfr hi157.2.2.sfr y a (by omega) (by omega)) (fun rz3411 Mz3412 hz3413 => ?_)
                          rw [hz3413.1, hz3413.2]
                          show Zw 4 zm_MO_layFree 186 [some (.ref 139), some (.int (nI m2)), some (.int (nI y)), some (.long (lN (F2 y))), none, some (.long (lN (B2 y))), none, some (.int (nI a))] [.long (lN (frA tg bd it F3 (y * 4 + a))), .long (lN (F3 y)), .int (nI y), .ref 154] M_157 _
                          refine zw_n 1 rfl ?_
                          refine zw_topl (lo (a := F3 y) (b := frA tg bd it F3 (y * 4 + a)) rfl rfl) ?_
                          refine zw_lastN (g := F3) (j := y) (v := ((F3 y) ||| (frA tg bd it F3 (y * 4 + a)))) rfl f157_0 rfl (by decide) (by omega) (rfl) ?_
                          generalize ez3415 : List.set M_157 154 _ = Mz3414
                          refine zw_n 1 rfl ?_
                          refine zw_get (v := .ref 155) rfl (zat_set ez3415 (by decide) (Sm.at s_157 (by decide) hM.1)) rfl ?_
                          refine zw_n 2 rfl ?_
                          refine zw_lald (f := al B3) (j := y) rfl (zat_set ez3415 (by decide) f157_1) rfl (by decide) (by omega) ?_
                          refine zw_n 4 rfl ?_
                          refine zw_callV (as := [.int (nI y), .int (nI a), .int 1]) (rest := [.long (lN (B3 y)), .int (nI y), .ref 155]) rfl rfl rfl (zat_set ez3415 (by decide) (Sm.at s_157 (by decide) hM.1)) rfl rfl rfl (by decide) (m_ofAltB Mz3414 o (fset (fset (fset f 155 B3) 154 (up F3 y ((F3 y) ||| (frA tg bd it F3 (y * 4 + a))))) 153 P0) (MM.of (o' := o) (f' := fset (fset (fset f 155 B3) 154 (up F3 y ((F3 y) ||| (frA tg bd it F3 (y * 4 + a))))) 153 P0) hM (Sm.tset s_157 ez3415 (by decide)) (zat_set ez3415 (by decide) (Sm.at s_157 (by decide) hM.1)) (c1_cons (zat_set ez3415 (by decide) f157_2) (c1_cons (zat_self ez3415 f157_0) (c1_cons (zat_set ez3415 (by decide) f157_1) c1_nil))) (fs_c (fs_c (fs_c fs_n)))) n gn al_ it pt tg bd (RowG.rel hw hP) hG hF (hi157.2.1.step (gMo_f hcl) (by omega) (by omega)).sfr hi157.2.2.sfr y a (by omega) (by omega)) (fun rz3416 Mz3417 hz3418 => ?_)
                          rw [hz3418.1, hz3418.2]
                          show Zw 4 zm_MO_layFree 203 [some (.ref 139), some (.int (nI m2)), some (.int (nI y)), some (.long (lN (F2 y))), none, some (.long (lN (B2 y))), none, some (.int (nI a))] [.long (lN (brA tg bd it B3 (y * 4 + a))), .long (lN (B3 y)), .int (nI y), .ref 155] Mz3414 _
                          refine zw_n 1 rfl ?_
                          refine zw_topl (lo (a := B3 y) (b := brA tg bd it B3 (y * 4 + a)) rfl rfl) ?_
                          refine zw_lastN (g := B3) (j := y) (v := ((B3 y) ||| (brA tg bd it B3 (y * 4 + a)))) rfl (zat_set ez3415 (by decide) f157_1) rfl (by decide) (by omega) (rfl) ?_
                          generalize ez3420 : List.set Mz3414 155 _ = Mz3419
                          refine zw_inc rfl (x' := (nI (a + 1))) (ls' := [some (.ref 139), some (.int (nI m2)), some (.int (nI y)), some (.long (lN (F2 y))), none, some (.long (lN (B2 y))), none, some (.int (nI (a + 1)))]) rfl (na (a := a) (b := 1) rfl rfl) rfl ?_
                          refine zw_n 1 rfl ?_
                          exact ih157 (a + 1) (up F3 y ((F3 y) ||| (frA tg bd it F3 (y * 4 + a)))) (up B3 y ((B3 y) ||| (brA tg bd it B3 (y * 4 + a)))) Mz3419 (Sm.tset (Sm.tset s_157 ez3415 (by decide)) ez3420 (by decide)) (zat_set ez3420 (by decide) (zat_self ez3415 f157_0)) (zat_self ez3420 (zat_set ez3415 (by decide) f157_1)) (zat_set ez3420 (by decide) (zat_set ez3415 (by decide) f157_2)) (⟨by omega, hi157.2.1.step (gMo_f hcl) (by omega) (by omega), hi157.2.2.step (gMo_b hcl) (by omega) (by omega)⟩) (by omega)
                    exact lp157 _ 0 F2 B2 M_129 s_129 f129_0 f129_1 f129_2 (⟨Nat.zero_le _, AlI.start hi129.2.2.1.sfr hi129.2.2.1.lst, AlI.start hi129.2.2.2.1.sfr hi129.2.2.2.1.lst⟩) (Nat.lt_succ_self _)
              exact lp129 _ 0 0 F1 B1 M_121 s_121 f121_0 f121_1 f121_2 (hi121.go) (Nat.lt_succ_self _)
        exact lp121 _ 1 F0 B0 M_2 s_2 f2_1 f2_2 f2_0 (laP.start hi2.2.2.1 hi2.2.2.2.1 (fun q hq => hi2.2.2.2.2.1 q (by omega)) (fun q hq => hi2.2.2.2.2.2 q (by omega))) (Nat.lt_succ_self _)
      · -- 9 to 12
        refine zw_n 1 rfl ?_
        refine zw_get (v := .ref 154) rfl (Sm.at s_2 (by decide) hM.1) rfl ?_
        refine zw_n 2 rfl ?_
        refine zw_lastN (g := F0) (j := r) (v := 0) rfl f2_1 rfl (by decide) (by omega) (rfl) ?_
        generalize ez3422 : List.set M_2 154 _ = Mz3421
        refine zw_n 1 rfl ?_
        refine zw_get (v := .ref 155) rfl (zat_set ez3422 (by decide) (Sm.at s_2 (by decide) hM.1)) rfl ?_
        refine zw_n 2 rfl ?_
        refine zw_lastN (g := B0) (j := r) (v := 0) rfl (zat_set ez3422 (by decide) f2_2) rfl (by decide) (by omega) (rfl) ?_
        generalize ez3424 : List.set Mz3421 155 _ = Mz3423
        refine zw_n 2 (ls' := [some (.ref 139), some (.int (nI r)), some (.int 0), none, none, none, none, none]) rfl ?_
        have mz3425 : Mz3423[139]? = some (.inr (12, [.int (nI (o 0)), .ref 140, .ref 141, .ref 142, .ref 143, .int (nI (o 5)), .ref 144, .int (nI (o 7)), .int (nI (o 8)), .int (nI (o 9)), .int (nI (o 10)), .ref 145, .ref 146, .ref 147, .ref 148, .ref 149, .ref 150, .ref 151, .ref 152, .ref 153, .ref 154, .ref 155, .ref 156, .ref 157, .ref 158, .ref 159, .ref 160, .ref 161, .ref 162, .ref 163, .ref 164, .int (nI (o 31)), .ref 165, .int (nI (o 33)), .ref 166, .ref 167, .ref 168, .ref 169, .int (nI (o 38)), .ref 170, .ref 171, .ref 172, .ref 173, .ref 174, .ref 175, .int (nI (o 45)), .int (nI (o 46)), .int (nI (o 47)), .long (lN (o 48)), .ref 176])) := zat_set ez3424 (by decide) (zat_set ez3422 (by decide) (Sm.at s_2 (by decide) hM.1))
        have mz3426 : Mz3423[140]? = some (.inl (0, 590, .inl (ai (f 140)))) := zat_set ez3424 (by decide) (zat_set ez3422 (by decide) (Sm.at s_2 (by decide) (hM.2 140 (by decide) (by decide))))
        have lp28 : ∀ (n28 : Nat) (a : Nat) (P1 : Nat → Nat) (M_28 : zM), Sm Mq M_28 [153, 154, 155] → M_28[153]? = some (.inl (0, 160, .inl (ai P1))) → M_28[154]? = some (.inl (1, 8, .inr (.inl (al (up F0 r 0))))) → M_28[155]? = some (.inl (1, 8, .inr (.inl (al (up B0 r 0))))) → (a ≤ al_ r ∧ ptI n al_ it tg ((r * 4 + a) * 5) P1) → al_ r - a < n28 → Zw 4 zm_MO_layFree 28 [some (.ref 139), some (.int (nI r)), some (.int (nI a)), none, none, none, none, none] [] M_28 (fun r9 M1 => r9 = none ∧ ∃ P F B, MM M1 o (fset (fset (fset f 155 B) 154 F) 153 P) ∧ Sm Mq M1 [153, 154, 155] ∧ SafeM F ∧ SafeM B ∧ RelG (fset (fset (fset f 155 B) 154 F) 153 P) n gn al_ it pt tg bd ∧ IsLfp n (frR al_ it tg bd) F ∧ IsLfp n (brR al_ it tg bd) B) := by
          intro n28
          induction n28 with
          | zero => intro a P1 M_28 _ _ _ _ _ h; exact absurd h (Nat.not_lt_zero _)
          | succ n28 ih28 =>
            intro a P1 M_28 s_28 f28_0 f28_1 f28_2 hi28 hm28
            have hal4 := hG.2.2.1 r
            refine zw_n 2 rfl ?_
            refine zw_get (v := .ref 140) rfl (Sm.at s_28 (by decide) hM.1) rfl ?_
            refine zw_n 3 rfl ?_
            refine zw_top (na (a := 9) (b := r) rfl rfl) ?_
            refine zw_iald (f := ai (f 140)) (j := (9 + r)) rfl (Sm.at s_28 (by decide) (hM.2 140 (by decide) (by decide))) rfl (by decide) (by omega) ?_
            refine zw_top (x' := (nI (al_ r))) (congrArg nI (hw.2.2.1 r (by omega))) ?_
            refine zw_igeN (a := a) (b := al_ r) rfl rfl rfl (by omega) (by omega) (fun c38 => ?_) (fun c38 => ?_)
            · -- 38 to 113
              refine zw_inc rfl (x' := (nI (r + 1))) (ls' := [some (.ref 139), some (.int (nI (r + 1))), some (.int (nI a)), none, none, none, none, none]) rfl (na (a := r) (b := 1) rfl rfl) rfl ?_
              refine zw_n 1 rfl ?_
              refine zw_ls (ls' := [some (.ref 139), some (.int (nI (r + 1))), none, none, none, none, none, none]) ⟨Or.inr rfl, Or.inr rfl, Or.inl rfl, Or.inl rfl, Or.inl rfl, Or.inl rfl, Or.inl rfl, Or.inl rfl, trivial⟩ ?_
              exact ih2 (r + 1) P1 (up F0 r 0) (up B0 r 0) M_28 s_28 f28_0 f28_1 f28_2 (⟨by omega, hi28.2.to (fun r2 a2 k2 q1 q2 => by have := hbV r2 a2 k2 q1; have := q1.2.1; by_cases e : r2 = r; (subst e; omega); omega), safe_up hi2.2.2.1 (by decide), safe_up hi2.2.2.2.1 (by decide), fun q hq => by unfold up; split <;> first | rfl | exact hi2.2.2.2.2.1 q (by omega), fun q hq => by unfold up; split <;> first | rfl | exact hi2.2.2.2.2.2 q (by omega)⟩) (by omega)
            · -- 38 to 41
              refine zw_n 2 (ls' := [some (.ref 139), some (.int (nI r)), some (.int (nI a)), some (.int 0), none, none, none, none]) rfl ?_
              have lp43 : ∀ (n43 : Nat) (k : Nat) (P2 : Nat → Nat) (M_43 : zM), Sm Mq M_43 [153, 154, 155] → M_43[153]? = some (.inl (0, 160, .inl (ai P2))) → M_43[154]? = some (.inl (1, 8, .inr (.inl (al (up F0 r 0))))) → M_43[155]? = some (.inl (1, 8, .inr (.inl (al (up B0 r 0))))) → (k ≤ it (r * 4 + a) ∧ ptI n al_ it tg ((r * 4 + a) * 5 + k) P2) → it (r * 4 + a) - k < n43 → Zw 4 zm_MO_layFree 43 [some (.ref 139), some (.int (nI r)), some (.int (nI a)), some (.int (nI k)), none, none, none, none] [] M_43 (fun r9 M1 => r9 = none ∧ ∃ P F B, MM M1 o (fset (fset (fset f 155 B) 154 F) 153 P) ∧ Sm Mq M1 [153, 154, 155] ∧ SafeM F ∧ SafeM B ∧ RelG (fset (fset (fset f 155 B) 154 F) 153 P) n gn al_ it pt tg bd ∧ IsLfp n (frR al_ it tg bd) F ∧ IsLfp n (brR al_ it tg bd) B) := by
                intro n43
                induction n43 with
                | zero => intro k P2 M_43 _ _ _ _ _ h; exact absurd h (Nat.not_lt_zero _)
                | succ n43 ih43 =>
                  intro k P2 M_43 s_43 f43_0 f43_1 f43_2 hi43 hm43
                  have hit5 := hG.2.2.2.1 (r * 4 + a)
                  refine zw_n 4 rfl ?_
                  refine zw_callV (as := [.int (nI r), .int (nI a)]) (rest := [.int (nI k)]) rfl rfl rfl (Sm.at s_43 (by decide) hM.1) rfl rfl rfl (by decide) (m_items2 M_43 o (fset (fset (fset f 155 (up B0 r 0)) 154 (up F0 r 0)) 153 P2) (MM.of (o' := o) (f' := fset (fset (fset f 155 (up B0 r 0)) 154 (up F0 r 0)) 153 P2) hM s_43 (Sm.at s_43 (by decide) hM.1) (c1_cons f43_0 (c1_cons f43_1 (c1_cons f43_2 c1_nil))) (fs_c (fs_c (fs_c fs_n)))) n gn al_ it pt tg bd hw hG hF r a (by omega) (by omega)) (fun rz3427 Mz3428 hz3429 => ?_)
                  rw [hz3429.1, hz3429.2]
                  show Zw 4 zm_MO_layFree 50 [some (.ref 139), some (.int (nI r)), some (.int (nI a)), some (.int (nI k)), none, none, none, none] [.int (nI (it (r * 4 + a))), .int (nI k)] M_43 _
                  refine zw_igeN (a := k) (b := it (r * 4 + a)) rfl rfl rfl (by omega) (by omega) (fun c50 => ?_) (fun c50 => ?_)
                  · -- 50 to 107
                    refine zw_inc rfl (x' := (nI (a + 1))) (ls' := [some (.ref 139), some (.int (nI r)), some (.int (nI (a + 1))), some (.int (nI k)), none, none, none, none]) rfl (na (a := a) (b := 1) rfl rfl) rfl ?_
                    refine zw_n 1 rfl ?_
                    refine zw_ls (ls' := [some (.ref 139), some (.int (nI r)), some (.int (nI (a + 1))), none, none, none, none, none]) ⟨Or.inr rfl, Or.inr rfl, Or.inr rfl, Or.inl rfl, Or.inl rfl, Or.inl rfl, Or.inl rfl, Or.inl rfl, trivial⟩ ?_
                    exact ih28 (a + 1) P2 M_43 s_43 f43_0 f43_1 f43_2 (⟨by omega, hi43.2.to (fun r2 a2 k2 q1 q2 => by have := hbV r2 a2 k2 q1; have := q1.2.2; by_cases e : r2 = r ∧ a2 = a; (obtain ⟨rfl, rfl⟩ := e; omega); omega)⟩) (by omega)
                  · -- 50 to 53
                    have hsx : Slt n al_ it ((r * 4 + a) * 5 + k) := ⟨r, a, k, by omega, by omega, by omega, rfl⟩
                    refine zw_n 3 rfl ?_
                    refine zw_callS (as := [.int (nI r), .int (nI a), .int (nI k)]) (rest := []) rfl rfl rfl rfl rfl rfl (by decide) (m_itemAt _ r a k) (fun rz3430 Mz3431 hz3432 => ?_)
                    rw [hz3432.1, hz3432.2]
                    show Zw 4 zm_MO_layFree 59 [some (.ref 139), some (.int (nI r)), some (.int (nI a)), some (.int (nI k)), none, none, none, none] [.int (nI (49 + 3 * ((r * 4 + a) * 5 + k)))] M_43 _
                    refine zw_n 2 (ls' := [some (.ref 139), some (.int (nI r)), some (.int (nI a)), some (.int (nI k)), some (.int (nI (49 + 3 * ((r * 4 + a) * 5 + k)))), none, none, none]) rfl ?_
                    refine zw_get (v := .ref 153) rfl (Sm.at s_43 (by decide) hM.1) rfl ?_
                    refine zw_n 3 rfl ?_
                    refine zw_top (ns (a := 49 + 3 * ((r * 4 + a) * 5 + k)) (b := 49) rfl rfl (by omega)) ?_
                    refine zw_n 2 rfl ?_
                    refine zw_top (x' := (nI ((r * 4 + a) * 5 + k))) ((ndiv (a := 49 + 3 * ((r * 4 + a) * 5 + k) - 49) (b := 3) rfl rfl (by omega) (by decide) (by decide)).trans (congrArg nI (by omega))) ?_
                    refine zw_n 1 rfl ?_
                    refine zw_get (v := .ref 140) rfl (Sm.at s_43 (by decide) hM.1) rfl ?_
                    refine zw_n 3 rfl ?_
                    refine zw_top (na (a := 49 + 3 * ((r * 4 + a) * 5 + k)) (b := 1) rfl rfl) ?_
                    refine zw_iald (f := ai (f 140)) (j := ((49 + 3 * ((r * 4 + a) * 5 + k)) + 1)) rfl (Sm.at s_43 (by decide) (hM.2 140 (by decide) (by decide))) rfl (by decide) (by omega) ?_
                    refine zw_top (x' := (nI (if tg ((r * 4 + a) * 5 + k) = NO then 0 else 1))) (congrArg nI (hw.2.2.2.2 _ hsx).2.1) ?_
                    refine zw_n 1 rfl ?_
                    refine zw_ineN (a := if tg ((r * 4 + a) * 5 + k) = NO then 0 else 1) (b := 1) rfl rfl rfl (by first | (split <;> decide) | decide) (by first | (split <;> decide) | decide) (fun c82 => ?_) (fun c82 => ?_)
                    · -- 82 to 99
                      refine zw_n 1 rfl ?_
                      refine zw_iastN (g := P2) (j := ((r * 4 + a) * 5 + k)) (v := (tg ((r * 4 + a) * 5 + k))) rfl f43_0 rfl (by decide) (by omega) (by first | exact congrArg nI (hres r a k (by omega) (by omega) (by omega) (ite_tg1 (by rw [c82]; decide))).1 | (rw [lf_no c82]; decide)) ?_
                      generalize ez3434 : List.set M_43 153 _ = Mz3433
                      refine zw_inc rfl (x' := (nI (k + 1))) (ls' := [some (.ref 139), some (.int (nI r)), some (.int (nI a)), some (.int (nI (k + 1))), some (.int (nI (49 + 3 * ((r * 4 + a) * 5 + k)))), none, none, none]) rfl (na (a := k) (b := 1) rfl rfl) rfl ?_
                      refine zw_n 1 rfl ?_
                      refine zw_ls (ls' := [some (.ref 139), some (.int (nI r)), some (.int (nI a)), some (.int (nI (k + 1))), none, none, none, none]) ⟨Or.inr rfl, Or.inr rfl, Or.inr rfl, Or.inr rfl, Or.inl rfl, Or.inl rfl, Or.inl rfl, Or.inl rfl, trivial⟩ ?_
                      exact ih43 (k + 1) (up P2 ((r * 4 + a) * 5 + k) (tg ((r * 4 + a) * 5 + k))) Mz3433 (Sm.tset s_43 ez3434 (by decide)) (zat_self ez3434 f43_0) (zat_set ez3434 (by decide) f43_1) (zat_set ez3434 (by decide) f43_2) (⟨by omega, hi43.2.step⟩) (by omega)
                    · -- 82 to 85
                      refine zw_n 2 rfl ?_
                      refine zw_get (v := .ref 140) rfl (Sm.at s_43 (by decide) hM.1) rfl ?_
                      refine zw_n 1 rfl ?_
                      refine zw_iald (f := ai (f 140)) (j := (49 + 3 * ((r * 4 + a) * 5 + k))) rfl (Sm.at s_43 (by decide) (hM.2 140 (by decide) (by decide))) rfl (by decide) (by omega) ?_
                      refine zw_top (x' := (nI (pt ((r * 4 + a) * 5 + k)))) (congrArg nI (hw.2.2.2.2 _ hsx).1) ?_
                      refine zw_callV (as := [.int (nI (pt ((r * 4 + a) * 5 + k)))]) (rest := [.int (nI ((r * 4 + a) * 5 + k)), .ref 153]) rfl rfl rfl (Sm.at s_43 (by decide) hM.1) rfl rfl rfl (by decide) (m_ruleOf M_43 o (fset (fset (fset f 155 (up B0 r 0)) 154 (up F0 r 0)) 153 P2) (MM.of (o' := o) (f' := fset (fset (fset f 155 (up B0 r 0)) 154 (up F0 r 0)) 153 P2) hM s_43 (Sm.at s_43 (by decide) hM.1) (c1_cons f43_0 (c1_cons f43_1 (c1_cons f43_2 c1_nil))) (fs_c (fs_c (fs_c fs_n)))) n gn al_ it pt tg bd hw hG hF (pt ((r * 4 + a) * 5 + k)) (by have := hG.2.2.2.2.1 ((r * 4 + a) * 5 + k); omega)) (fun rz3435 Mz3436 hz3437 => ?_)
                      rw [hz3437.1, hz3437.2]
                      show Zw 4 zm_MO_layFree 96 [some (.ref 139), some (.int (nI r)), some (.int (nI a)), some (.int (nI k)), some (.int (nI (49 + 3 * ((r * 4 + a) * 5 + k)))), none, none, none] [.int (nI (srch (fun q => gn q == (pt ((r * 4 + a) * 5 + k))) 0 n)), .int (nI ((r * 4 + a) * 5 + k)), .ref 153] M_43 _
                      refine zw_n 1 rfl ?_
                      refine zw_iastN (g := P2) (j := ((r * 4 + a) * 5 + k)) (v := (tg ((r * 4 + a) * 5 + k))) rfl f43_0 rfl (by decide) (by omega) (by first | exact congrArg nI (hres r a k (by omega) (by omega) (by omega) (ite_tg1 (by rw [c82]; decide))).1 | (rw [lf_no c82]; decide)) ?_
                      generalize ez3439 : List.set M_43 153 _ = Mz3438
                      refine zw_inc rfl (x' := (nI (k + 1))) (ls' := [some (.ref 139), some (.int (nI r)), some (.int (nI a)), some (.int (nI (k + 1))), some (.int (nI (49 + 3 * ((r * 4 + a) * 5 + k)))), none, none, none]) rfl (na (a := k) (b := 1) rfl rfl) rfl ?_
                      refine zw_n 1 rfl ?_
                      refine zw_ls (ls' := [some (.ref 139), some (.int (nI r)), some (.int (nI a)), some (.int (nI (k + 1))), none, none, none, none]) ⟨Or.inr rfl, Or.inr rfl, Or.inr rfl, Or.inr rfl, Or.inl rfl, Or.inl rfl, Or.inl rfl, Or.inl rfl, trivial⟩ ?_
                      exact ih43 (k + 1) (up P2 ((r * 4 + a) * 5 + k) (tg ((r * 4 + a) * 5 + k))) Mz3438 (Sm.tset s_43 ez3439 (by decide)) (zat_self ez3439 f43_0) (zat_set ez3439 (by decide) f43_1) (zat_set ez3439 (by decide) f43_2) (⟨by omega, hi43.2.step⟩) (by omega)
              exact lp43 _ 0 P1 M_28 s_28 f28_0 f28_1 f28_2 (⟨Nat.zero_le _, hi28.2⟩) (Nat.lt_succ_self _)
        exact lp28 _ 0 P0 Mz3423 (Sm.tset (Sm.tset s_2 ez3422 (by decide)) ez3424 (by decide)) (zat_set ez3424 (by decide) (zat_set ez3422 (by decide) f2_0)) (zat_set ez3424 (by decide) (zat_self ez3422 f2_1)) (zat_self ez3424 (zat_set ez3422 (by decide) f2_2)) (⟨Nat.zero_le _, hi2.2.1.to (fun r2 a2 k2 q1 q2 => by omega)⟩) (Nat.lt_succ_self _)
  exact lp2 _ 0 (f 153) (f 154) (f 155) Mq Sm.rf (hM.2 153 (by decide) (by decide)) (hM.2 154 (by decide) (by decide)) (hM.2 155 (by decide) (by decide)) (⟨Nat.zero_le _, fun r a k _ q => absurd q (by omega), h4, h5, fun q hq => absurd hq (Nat.not_lt_zero _), fun q hq => absurd hq (Nat.not_lt_zero _)⟩) (Nat.lt_succ_self _)
