set_option maxHeartbeats 4000000 in
set_option maxRecDepth 100000 in
theorem m_growNo (Mq : zM) (o : Nat → Nat) (f : Nat → Nat → Nat) (hM : MM Mq o f) (x : Int32) (hx : ¬ (0 ≤ x.toInt ∧ x.toInt ≤ 999999)) : Zm 6 zm_MO_grow [.ref 139, .int x] Mq (fun r9 M1 => r9 = some (.int (-1)) ∧ MM M1 (up o 0 0) f ∧ Sm Mq M1 [139]) := by
  show Zw 6 zm_MO_grow 0 [some (.ref 139), some (.int x), none] [] Mq _
  refine zw_n 2 rfl ?_
  refine zw_put rfl hM.1 (rfl) (Nat.le_of_ble_eq_true rfl) ?_
  generalize ez6145 : List.set Mq 139 _ = Mz6144
  refine zw_n 4 rfl ?_
  refine zw_callS (as := [.long (Int32.toInt64 x), .long 0, .long 999999]) (rest := []) rfl rfl rfl rfl rfl rfl (by decide) (m_in Mz6144 (Int32.toInt64 x) 0 999999 x.toInt 0 999999 (Int32.toInt_toInt64 _) (by decide) (by decide)) (fun rz6146 Mz6147 hz6148 => ?_)
  rw [hz6148.1, hz6148.2]
  show Zw 6 zm_MO_grow 14 [some (.ref 139), some (.int x), none] [.int (nI (if 0 ≤ x.toInt ∧ x.toInt ≤ 999999 then 1 else 0))] Mz6144 _
  refine zw_ne0N (a := if 0 ≤ x.toInt ∧ x.toInt ≤ 999999 then 1 else 0) rfl rfl (ite_b) (fun c14 => ?_) (fun c14 => ?_)
  · -- 14 to 19
    exfalso
    exact hx (ite_ne c14)
  · -- 14 to 17
    refine zw_n 1 rfl ?_
    exact zw_iret rfl rfl (⟨rfl, (MM.of (o' := up o 0 0) (f' := f) hM (Sm.tset Sm.rf ez6145 (by decide)) (zat_self ez6145 hM.1) (c1_skip c1_nil) (fs_k fs_n)), Sm.tset Sm.rf ez6145 (by decide)⟩)

set_option maxHeartbeats 4000000 in
set_option maxRecDepth 100000 in
theorem m_growOk (Mq : zM) (o : Nat → Nat) (f : Nat → Nat → Nat) (hM : MM Mq o f)(n : Nat) (gn al_ it pt tg bd : Nat → Nat) (hg : RelG f n gn al_ it pt tg bd) (hG : SafeG n gn al_ it pt tg bd) (hF : SafeF f) (h4 : SafeM (f 154)) (h5 : SafeM (f 155)) (fr af : Nat → Nat) (hfr : ∀ r, r < n → f 154 r = fr r) (haf : ∀ r a, r < n → a < al_ r → frA tg bd it (f 154) (r * 4 + a) = af (r * 4 + a)) (hsa : SafeM af) (hne : ∀ r c, r < n → (fr r).testBit c = true → ∃ a, a < al_ r ∧ (af (r * 4 + a)).testBit c = true) (hni : ∀ r a k d, r < n → a < al_ r → k < it (r * 4 + a) → d < 40 → (af (r * 4 + a)).testBit d = true → grM (gE al_ it tg pt bd fr af) ((r * 4 + a) * 5 + k) d ≠ 0) (hp : ∀ x, Slt n al_ it x → (tg x = NO → 33 ≤ pt x ∧ pt x ≤ 126) ∧ (tg x ≠ NO → tg x < n)) (ho : o 5 ≤ 10) (x : Nat) (hx : x < 1000000) : Zm 6 zm_MO_grow [.ref 139, .int (nI x)] Mq (fun r9 M1 => ∃ o9 f9, MM M1 o9 f9 ∧ Sm Mq M1 [139, 140, 143, 150, 151, 152, 172, 173, 174, 175] ∧ (∀ a, a ∉ [139, 140, 143, 150, 151, 152, 172, 173, 174, 175] → f9 a = f a) ∧ (∀ j, j ≠ 0 → j ≠ 5 → j ≠ 45 → j ≠ 46 → j ≠ 47 → j ≠ 48 → o9 j = o j) ∧ o9 0 = 0 ∧ ((∃ t, grR (gE al_ it tg pt bd fr af) n x = some t ∧ r9 = some (.int (nI t.2.1)) ∧ o9 5 = (if o 5 = 10 then 10 else o 5 + 1) ∧ UnS (o 5) (f 143) (f 140) (f9 143) ∧ (∀ q, q < 529 → f9 140 q = f 140 q) ∧ (∀ q, f9 140 q < 2147483648) ∧ RelT f9 t.2.1 t.2.2.1 t.2.2.2.1 t.2.2.2.2) ∨ (grR (gE al_ it tg pt bd fr af) n x = none ∧ r9 = some (.int (-3)) ∧ o9 5 = o 5 ∧ f9 140 = f 140 ∧ f9 143 = f 143))) := by
  show Zw 6 zm_MO_grow 0 [some (.ref 139), some (.int (nI x)), none] [] Mq _
  have hn8 := hG.1
  refine zw_n 2 rfl ?_
  refine zw_put rfl hM.1 (rfl) (Nat.le_of_ble_eq_true rfl) ?_
  generalize ez6150 : List.set Mq 139 _ = Mz6149
  refine zw_n 4 rfl ?_
  refine zw_callS (as := [.long (Int32.toInt64 (nI x)), .long 0, .long 999999]) (rest := []) rfl rfl rfl rfl rfl rfl (by decide) (m_in Mz6149 (Int32.toInt64 (nI x)) 0 999999 ((x : Nat) : Int) 0 999999 (l_nI (by omega)) (by decide) (by decide)) (fun rz6151 Mz6152 hz6153 => ?_)
  rw [hz6153.1, hz6153.2]
  show Zw 6 zm_MO_grow 14 [some (.ref 139), some (.int (nI x)), none] [.int (nI (if 0 ≤ ((x : Nat) : Int) ∧ ((x : Nat) : Int) ≤ 999999 then 1 else 0))] Mz6149 _
  refine zw_ne0N (a := if 0 ≤ ((x : Nat) : Int) ∧ ((x : Nat) : Int) ≤ 999999 then 1 else 0) rfl rfl (ite_b) (fun c14 => ?_) (fun c14 => ?_)
  · -- 14 to 19
    refine zw_n 1 rfl ?_
    refine zw_callV (as := []) (rest := []) rfl rfl rfl (zat_self ez6150 hM.1) rfl rfl rfl (by decide) (m_isGrammar Mz6149 (up o 0 0) f (MM.of (o' := up o 0 0) (f' := f) hM (Sm.tset Sm.rf ez6150 (by decide)) (zat_self ez6150 hM.1) (c1_skip (c1_cons (zat_set ez6150 (by decide) (hM.2 140 (by decide) (by decide))) (c1_cons (zat_set ez6150 (by decide) (hM.2 143 (by decide) (by decide))) (c1_cons (zat_set ez6150 (by decide) (hM.2 150 (by decide) (by decide))) (c1_cons (zat_set ez6150 (by decide) (hM.2 151 (by decide) (by decide))) (c1_cons (zat_set ez6150 (by decide) (hM.2 152 (by decide) (by decide))) (c1_cons (zat_set ez6150 (by decide) (hM.2 172 (by decide) (by decide))) (c1_cons (zat_set ez6150 (by decide) (hM.2 173 (by decide) (by decide))) (c1_cons (zat_set ez6150 (by decide) (hM.2 174 (by decide) (by decide))) (c1_cons (zat_set ez6150 (by decide) (hM.2 175 (by decide) (by decide))) c1_nil)))))))))) (fs_k (fs_k (fs_k (fs_k (fs_k (fs_k (fs_k (fs_k (fs_k (fs_k fs_n))))))))))) n gn al_ it pt tg bd hg hG hF) (fun rz6154 Mz6155 hz6156 => ?_)
    rw [hz6156.1, hz6156.2]
    show Zw 6 zm_MO_grow 23 [some (.ref 139), some (.int (nI x)), none] [.int (nI (if 0 < n then 1 else 0))] Mz6149 _
    refine zw_eq0N (a := if 0 < n then 1 else 0) rfl rfl (ite_b) (fun c23 => ?_) (fun c23 => ?_)
    · -- 23 to 37
      refine zw_n 1 rfl ?_
      exact zw_iret rfl rfl (⟨up o 0 0, f, (MM.of (o' := up o 0 0) (f' := f) hM (Sm.tset Sm.rf ez6150 (by decide)) (zat_self ez6150 hM.1) (c1_skip (c1_cons (zat_set ez6150 (by decide) (hM.2 140 (by decide) (by decide))) (c1_cons (zat_set ez6150 (by decide) (hM.2 143 (by decide) (by decide))) (c1_cons (zat_set ez6150 (by decide) (hM.2 150 (by decide) (by decide))) (c1_cons (zat_set ez6150 (by decide) (hM.2 151 (by decide) (by decide))) (c1_cons (zat_set ez6150 (by decide) (hM.2 152 (by decide) (by decide))) (c1_cons (zat_set ez6150 (by decide) (hM.2 172 (by decide) (by decide))) (c1_cons (zat_set ez6150 (by decide) (hM.2 173 (by decide) (by decide))) (c1_cons (zat_set ez6150 (by decide) (hM.2 174 (by decide) (by decide))) (c1_cons (zat_set ez6150 (by decide) (hM.2 175 (by decide) (by decide))) c1_nil)))))))))) (fs_k (fs_k (fs_k (fs_k (fs_k (fs_k (fs_k (fs_k (fs_k (fs_k fs_n))))))))))), Sm.tset Sm.rf ez6150 (by decide), fun _ _ => rfl, fun j h0 h1 h2 h3 h4 h5 => up_n h0, rfl, Or.inr ⟨if_pos (by first | exact Or.inl (by have h9 := ite_eq0 c23; omega) | exact Or.inr c34), rfl, rfl, rfl, rfl⟩⟩)
    · -- 23 to 26
      refine zw_n 1 rfl ?_
      refine zw_get (v := .ref 154) rfl (zat_self ez6150 hM.1) rfl ?_
      refine zw_n 1 rfl ?_
      refine zw_lald (f := al (f 154)) (j := 0) rfl (zat_set ez6150 (by decide) (hM.2 154 (by decide) (by decide))) rfl (by decide) (by omega) ?_
      refine zw_topl (x' := (lN (fr 0))) (congrArg lN (hfr 0 (by have := ite_ne c23; omega))) ?_
      refine zw_n 2 rfl ?_
      refine zw_lneN (a := fr 0) (b := 0) rfl rfl rfl (by first | (rw [← hfr 0 (by have := ite_ne c23; omega)]; exact Nat.lt_trans (h4 0) (by decide)) | decide) (by first | (rw [← hfr 0 (by have := ite_ne c23; omega)]; exact Nat.lt_trans (h4 0) (by decide)) | decide) (fun c34 => ?_) (fun c34 => ?_)
      · -- 34 to 40
        have hn0 := ite_ne c23
        have hf0 : fr 0 < 1099511627776 := by rw [← hfr 0 (by omega)]; exact h4 0
        refine zw_n 3 rfl ?_
        refine zw_topl (x' := (lN x)) (i2lN (by omega)) ?_
        refine zw_put rfl (zat_self ez6150 hM.1) (rfl) (Nat.le_of_ble_eq_true rfl) ?_
        generalize ez6158 : List.set Mz6149 139 _ = Mz6157
        refine zw_n 2 rfl ?_
        refine zw_put rfl (zat_self ez6158 (zat_self ez6150 hM.1)) (rfl) (Nat.le_of_ble_eq_true rfl) ?_
        generalize ez6160 : List.set Mz6157 139 _ = Mz6159
        refine zw_n 2 rfl ?_
        refine zw_put rfl (zat_self ez6160 (zat_self ez6158 (zat_self ez6150 hM.1))) (rfl) (Nat.le_of_ble_eq_true rfl) ?_
        generalize ez6162 : List.set Mz6159 139 _ = Mz6161
        refine zw_n 2 rfl ?_
        refine zw_put rfl (zat_self ez6162 (zat_self ez6160 (zat_self ez6158 (zat_self ez6150 hM.1)))) (rfl) (Nat.le_of_ble_eq_true rfl) ?_
        generalize ez6164 : List.set Mz6161 139 _ = Mz6163
        refine zw_n 4 rfl ?_
        refine zw_get (v := .ref 154) rfl (zat_self ez6164 (zat_self ez6162 (zat_self ez6160 (zat_self ez6158 (zat_self ez6150 hM.1))))) rfl ?_
        refine zw_n 1 rfl ?_
        refine zw_lald (f := al (f 154)) (j := 0) rfl (zat_set ez6164 (by decide) (zat_set ez6162 (by decide) (zat_set ez6160 (by decide) (zat_set ez6158 (by decide) (zat_set ez6150 (by decide) (hM.2 154 (by decide) (by decide))))))) rfl (by decide) (by omega) ?_
        refine zw_topl (x' := (lN (fr 0))) (congrArg lN (hfr 0 (by have := ite_ne c23; omega))) ?_
        refine zw_callV (as := [.long (lN (fr 0))]) (rest := [.int 0, .ref 139]) rfl rfl rfl (zat_self ez6164 (zat_self ez6162 (zat_self ez6160 (zat_self ez6158 (zat_self ez6150 hM.1))))) rfl rfl rfl (by decide) (m_drawColumn Mz6163 (up (up (up (up (up o 0 0) 45 0) 46 0) 47 1) 48 x) f (MM.of (o' := up (up (up (up (up o 0 0) 45 0) 46 0) 47 1) 48 x) (f' := f) hM (Sm.tset (Sm.tset (Sm.tset (Sm.tset (Sm.tset Sm.rf ez6150 (by decide)) ez6158 (by decide)) ez6160 (by decide)) ez6162 (by decide)) ez6164 (by decide)) (zat_self ez6164 (zat_self ez6162 (zat_self ez6160 (zat_self ez6158 (zat_self ez6150 hM.1))))) (c1_skip (c1_cons (zat_set ez6164 (by decide) (zat_set ez6162 (by decide) (zat_set ez6160 (by decide) (zat_set ez6158 (by decide) (zat_set ez6150 (by decide) (hM.2 140 (by decide) (by decide))))))) (c1_cons (zat_set ez6164 (by decide) (zat_set ez6162 (by decide) (zat_set ez6160 (by decide) (zat_set ez6158 (by decide) (zat_set ez6150 (by decide) (hM.2 143 (by decide) (by decide))))))) (c1_cons (zat_set ez6164 (by decide) (zat_set ez6162 (by decide) (zat_set ez6160 (by decide) (zat_set ez6158 (by decide) (zat_set ez6150 (by decide) (hM.2 150 (by decide) (by decide))))))) (c1_cons (zat_set ez6164 (by decide) (zat_set ez6162 (by decide) (zat_set ez6160 (by decide) (zat_set ez6158 (by decide) (zat_set ez6150 (by decide) (hM.2 151 (by decide) (by decide))))))) (c1_cons (zat_set ez6164 (by decide) (zat_set ez6162 (by decide) (zat_set ez6160 (by decide) (zat_set ez6158 (by decide) (zat_set ez6150 (by decide) (hM.2 152 (by decide) (by decide))))))) (c1_cons (zat_set ez6164 (by decide) (zat_set ez6162 (by decide) (zat_set ez6160 (by decide) (zat_set ez6158 (by decide) (zat_set ez6150 (by decide) (hM.2 172 (by decide) (by decide))))))) (c1_cons (zat_set ez6164 (by decide) (zat_set ez6162 (by decide) (zat_set ez6160 (by decide) (zat_set ez6158 (by decide) (zat_set ez6150 (by decide) (hM.2 173 (by decide) (by decide))))))) (c1_cons (zat_set ez6164 (by decide) (zat_set ez6162 (by decide) (zat_set ez6160 (by decide) (zat_set ez6158 (by decide) (zat_set ez6150 (by decide) (hM.2 174 (by decide) (by decide))))))) (c1_cons (zat_set ez6164 (by decide) (zat_set ez6162 (by decide) (zat_set ez6160 (by decide) (zat_set ez6158 (by decide) (zat_set ez6150 (by decide) (hM.2 175 (by decide) (by decide))))))) c1_nil)))))))))) (fs_k (fs_k (fs_k (fs_k (fs_k (fs_k (fs_k (fs_k (fs_k (fs_k fs_n))))))))))) (fr 0) (c34) (hf0) (show x < 1000003 by omega)) (fun rz6168 Mz6169 hz6170 => ?_)
        obtain ⟨hAz6165, hBz6166, hSz6167⟩ := hz6170
        rw [hAz6165]
        show Zw 6 zm_MO_grow 73 [some (.ref 139), some (.int (nI x)), none] [.int (nI (grC (fr 0) x)), .int 0, .ref 139] Mz6169 _
        refine zw_callV (as := [.int 0, .int (nI (grC (fr 0) x))]) (rest := []) rfl rfl rfl hBz6166.1 rfl rfl rfl (by decide) (m_beginOk Mz6169 (up (up (up (up (up o 0 0) 45 0) 46 0) 47 1) 48 (drN x)) f (MM.of (o' := up (up (up (up (up o 0 0) 45 0) 46 0) 47 1) 48 (drN x)) (f' := f) hM (Sm.tw (Sm.tset (Sm.tset (Sm.tset (Sm.tset (Sm.tset Sm.rf ez6150 (by decide)) ez6158 (by decide)) ez6160 (by decide)) ez6162 (by decide)) ez6164 (by decide)) hSz6167 (by decide)) hBz6166.1 (c1_skip (c1_cons (Sm.at hSz6167 (by decide) (zat_set ez6164 (by decide) (zat_set ez6162 (by decide) (zat_set ez6160 (by decide) (zat_set ez6158 (by decide) (zat_set ez6150 (by decide) (hM.2 140 (by decide) (by decide)))))))) (c1_cons (Sm.at hSz6167 (by decide) (zat_set ez6164 (by decide) (zat_set ez6162 (by decide) (zat_set ez6160 (by decide) (zat_set ez6158 (by decide) (zat_set ez6150 (by decide) (hM.2 143 (by decide) (by decide)))))))) (c1_cons (Sm.at hSz6167 (by decide) (zat_set ez6164 (by decide) (zat_set ez6162 (by decide) (zat_set ez6160 (by decide) (zat_set ez6158 (by decide) (zat_set ez6150 (by decide) (hM.2 150 (by decide) (by decide)))))))) (c1_cons (Sm.at hSz6167 (by decide) (zat_set ez6164 (by decide) (zat_set ez6162 (by decide) (zat_set ez6160 (by decide) (zat_set ez6158 (by decide) (zat_set ez6150 (by decide) (hM.2 151 (by decide) (by decide)))))))) (c1_cons (Sm.at hSz6167 (by decide) (zat_set ez6164 (by decide) (zat_set ez6162 (by decide) (zat_set ez6160 (by decide) (zat_set ez6158 (by decide) (zat_set ez6150 (by decide) (hM.2 152 (by decide) (by decide)))))))) (c1_cons (Sm.at hSz6167 (by decide) (zat_set ez6164 (by decide) (zat_set ez6162 (by decide) (zat_set ez6160 (by decide) (zat_set ez6158 (by decide) (zat_set ez6150 (by decide) (hM.2 172 (by decide) (by decide)))))))) (c1_cons (Sm.at hSz6167 (by decide) (zat_set ez6164 (by decide) (zat_set ez6162 (by decide) (zat_set ez6160 (by decide) (zat_set ez6158 (by decide) (zat_set ez6150 (by decide) (hM.2 173 (by decide) (by decide)))))))) (c1_cons (Sm.at hSz6167 (by decide) (zat_set ez6164 (by decide) (zat_set ez6162 (by decide) (zat_set ez6160 (by decide) (zat_set ez6158 (by decide) (zat_set ez6150 (by decide) (hM.2 174 (by decide) (by decide)))))))) (c1_cons (Sm.at hSz6167 (by decide) (zat_set ez6164 (by decide) (zat_set ez6162 (by decide) (zat_set ez6160 (by decide) (zat_set ez6158 (by decide) (zat_set ez6150 (by decide) (hM.2 175 (by decide) (by decide)))))))) c1_nil)))))))))) (fs_k (fs_k (fs_k (fs_k (fs_k (fs_k (fs_k (fs_k (fs_k (fs_k fs_n))))))))))) n gn al_ it pt tg bd hg hG hF h4 h5 fr af hfr haf hsa hne hni (Nat.zero_le _) (drN_lt _) 0 (grC (fr 0) x) (by omega) (grC_lt _ _) (grC_in c34 hf0)) (fun rz6176 Mz6177 hz6178 => ?_)
        obtain ⟨hAz6171, hBz6172, hSz6173, hgAz6174, hgBz6175⟩ := hz6178
        rw [hAz6171]
        have ginit1 : ∀ j, j < 0 + 1 → mgF (gE al_ it tg pt bd fr af) n (up (f 172) 0 0) (up (f 173) 0 (grA (gE al_ it tg pt bd fr af) 0 (grC (fr 0) x) (drN x))) (up (f 174) 0 ((grC (fr 0) x))) (up (f 175) 0 0) j := fun j hj => by cases (show j = 0 by omega); exact ⟨by rw [up_s]; omega, by rw [up_s, up_s]; exact hgAz6174, by rw [up_s]; exact grC_lt _ _, by rw [up_s, up_s, up_s]; exact hgBz6175, by rw [up_s]; exact Nat.zero_le _⟩
        have ginit2 : mgG (gE al_ it tg pt bd fr af) (up (f 172) 0 0) (up (f 173) 0 (grA (gE al_ it tg pt bd fr af) 0 (grC (fr 0) x) (drN x))) (up (f 174) 0 ((grC (fr 0) x))) (up (f 175) 0 0) (0 + 1) (drN (drN x), 0, fun _ => 0, fun _ => 0, fun _ => 0) = grR (gE al_ it tg pt bd fr af) n x := mg_begin (G := (gE al_ it tg pt bd fr af)) (by omega) c34
        show Zw 6 zm_MO_grow 76 [some (.ref 139), some (.int (nI x)), none] [] Mz6177 _
        have lp76 : ∀ (n76 : Nat) (o2 : Nat → Nat) (f2 : Nat → Nat → Nat) (M_76 : zM), Sm Mq M_76 [139, 140, 143, 150, 151, 152, 172, 173, 174, 175] → MM M_76 o2 f2 → (((o2 47 = 1 ∧ mgK (gE al_ it tg pt bd fr af) n (f2 172) (f2 173) (f2 174) (f2 175) (o2 45) ∧ ∃ s2, mgS o2 f2 s2 ∧ mgG (gE al_ it tg pt bd fr af) (f2 172) (f2 173) (f2 174) (f2 175) (o2 45) s2 = grR (gE al_ it tg pt bd fr af) n x) ∨ (o2 47 = 0 ∧ grR (gE al_ it tg pt bd fr af) n x = none)) ∧ (∀ a, a ∉ [139, 150, 151, 152, 172, 173, 174, 175] → f2 a = f a) ∧ (∀ j, j ≠ 0 → j ≠ 45 → j ≠ 46 → j ≠ 47 → j ≠ 48 → o2 j = o j) ∧ o2 0 = 0) → (if o2 47 = 0 then 0 else mgM (f2 175) (o2 45) + 1) < n76 → Zw 6 zm_MO_grow 76 [some (.ref 139), some (.int (nI x)), none] [] M_76 (fun r9 M1 => ∃ o9 f9, MM M1 o9 f9 ∧ Sm Mq M1 [139, 140, 143, 150, 151, 152, 172, 173, 174, 175] ∧ (∀ a, a ∉ [139, 140, 143, 150, 151, 152, 172, 173, 174, 175] → f9 a = f a) ∧ (∀ j, j ≠ 0 → j ≠ 5 → j ≠ 45 → j ≠ 46 → j ≠ 47 → j ≠ 48 → o9 j = o j) ∧ o9 0 = 0 ∧ ((∃ t, grR (gE al_ it tg pt bd fr af) n x = some t ∧ r9 = some (.int (nI t.2.1)) ∧ o9 5 = (if o 5 = 10 then 10 else o 5 + 1) ∧ UnS (o 5) (f 143) (f 140) (f9 143) ∧ (∀ q, q < 529 → f9 140 q = f 140 q) ∧ (∀ q, f9 140 q < 2147483648) ∧ RelT f9 t.2.1 t.2.2.1 t.2.2.2.1 t.2.2.2.2) ∨ (grR (gE al_ it tg pt bd fr af) n x = none ∧ r9 = some (.int (-3)) ∧ o9 5 = o 5 ∧ f9 140 = f 140 ∧ f9 143 = f 143))) := by
          intro n76
          induction n76 with
          | zero => intro o2 f2 M_76 _ _ _ h; exact absurd h (Nat.not_lt_zero _)
          | succ n76 ih76 =>
            intro o2 f2 M_76 s_76 hM76 hi76 hm76
            obtain ⟨hinv, hF2s, hO2, hO20⟩ := hi76
            have h47b : o2 47 ≤ 1 := by rcases hinv with q | q <;> omega
            have e140 : f2 140 = f 140 := hF2s 140 (by decide)
            have hg2 : RelG f2 n gn al_ it pt tg bd := hg.keep e140 (hF2s 153 (by decide))
            have hF2 : SafeF f2 := ⟨by rw [e140]; exact hF.1, by rw [hF2s 156 (by decide)]; exact hF.2.1, by rw [hF2s 157 (by decide)]; exact hF.2.2.1, by rw [hF2s 158 (by decide)]; exact hF.2.2.2.1, by rw [hF2s 159 (by decide)]; exact hF.2.2.2.2.1, by rw [hF2s 160 (by decide)]; exact hF.2.2.2.2.2⟩
            have e154 : f2 154 = f 154 := hF2s 154 (by decide)
            have ho2 : o2 5 ≤ 10 := by rw [hO2 5 (by decide) (by decide) (by decide) (by decide) (by decide)]; exact ho
            have h42 : SafeM (f2 154) := by rw [e154]; exact h4
            have h52 : SafeM (f2 155) := by rw [hF2s 155 (by decide)]; exact h5
            refine zw_n 1 rfl ?_
            refine zw_get (v := .int (nI (o2 47))) rfl hM76.1 rfl ?_
            refine zw_eq0N (a := o2 47) rfl rfl (by omega) (fun c80 => ?_) (fun c80 => ?_)
            · -- 80 to 97
              refine zw_n 1 rfl ?_
              refine zw_get (v := .int (nI (o2 47))) rfl hM76.1 rfl ?_
              refine zw_ne0N (a := o2 47) rfl rfl (by omega) (fun c101 => ?_) (fun c101 => ?_)
              · -- 101 to 107
                exfalso
                exact c101 c80
              · -- 101 to 104
                refine zw_n 1 rfl ?_
                exact zw_iret rfl rfl (⟨o2, f2, hM76, s_76, fun a ha => hF2s a (fun q9 => ha ((by decide : ∀ a, a ∈ [139, 150, 151, 152, 172, 173, 174, 175] → a ∈ [139, 140, 143, 150, 151, 152, 172, 173, 174, 175]) a q9)), fun j h0 h1 h2 h3 h4 h5 => hO2 j h0 h2 h3 h4 h5, hO20, Or.inr ⟨(hinv.resolve_left (fun q9 => by have := q9.1; omega)).2, rfl, hO2 5 (by decide) (by decide) (by decide) (by decide) (by decide), hF2s 140 (by decide), hF2s 143 (by decide)⟩⟩)
            · -- 80 to 83
              obtain ⟨h47, hK2, s2, hS2, hfin⟩ := hinv.resolve_right (fun q9 => c80 q9.1)
              have hk31 := hK2.1
              have hw20 := hS2.2.2.2.2.1
              have hs46 := hS2.2.1
              refine zw_n 1 rfl ?_
              refine zw_get (v := .int (nI (o2 45))) rfl hM76.1 rfl ?_
              refine zw_le0N (a := o2 45) rfl rfl (by omega) (fun c87 => ?_) (fun c87 => ?_)
              · -- 87 to 97
                refine zw_n 1 rfl ?_
                refine zw_get (v := .int (nI (o2 47))) rfl hM76.1 rfl ?_
                refine zw_ne0N (a := o2 47) rfl rfl (by omega) (fun c101 => ?_) (fun c101 => ?_)
                · -- 101 to 107
                  refine zw_n 1 rfl ?_
                  refine zw_callV (as := []) (rest := []) rfl rfl rfl hM76.1 rfl rfl rfl (by decide) (m_remember M_76 o2 f2 hM76 (by first | exact ho | omega)) (fun rz6184 Mz6185 hz6186 => ?_)
                  obtain ⟨hAz6179, Uz6180, hMMz6181, hSz6182, hUz6183⟩ := hz6186
                  rw [hAz6179]
                  show Zw 6 zm_MO_grow 111 [some (.ref 139), some (.int (nI x)), none] [] Mz6185 _
                  refine zw_n 1 rfl ?_
                  refine zw_get (v := .ref 140) rfl hMMz6181.1 rfl ?_
                  refine zw_n 2 rfl ?_
                  refine zw_get (v := .int (nI (o2 46))) rfl hMMz6181.1 rfl ?_
                  refine zw_iastN (g := (f2 140)) (j := 529) (v := (o2 46)) rfl (Sm.at hSz6182 (by decide) (hM76.2 140 (by decide) (by decide))) rfl (by decide) (by omega) (rfl) ?_
                  generalize ez6188 : List.set Mz6185 140 _ = Mz6187
                  refine zw_n 2 (ls' := [some (.ref 139), some (.int (nI x)), some (.int 0)]) rfl ?_
                  have mz6189 : Mz6187[140]? = some (.inl (0, 590, .inl (ai (up (f2 140) 529 (o2 46))))) := zat_self ez6188 (Sm.at hSz6182 (by decide) (hM76.2 140 (by decide) (by decide)))
                  have mz6190 : Mz6187[153]? = some (.inl (0, 160, .inl (ai (f2 153)))) := zat_set ez6188 (by decide) (Sm.at hSz6182 (by decide) (hM76.2 153 (by decide) (by decide)))
                  have mz6191 : Mz6187[154]? = some (.inl (1, 8, .inr (.inl (al (f2 154))))) := zat_set ez6188 (by decide) (Sm.at hSz6182 (by decide) (hM76.2 154 (by decide) (by decide)))
                  have mz6192 : Mz6187[155]? = some (.inl (1, 8, .inr (.inl (al (f2 155))))) := zat_set ez6188 (by decide) (Sm.at hSz6182 (by decide) (hM76.2 155 (by decide) (by decide)))
                  have mz6193 : Mz6187[143]? = some (.inl (0, 610, .inl (ai Uz6180))) := zat_set ez6188 (by decide) (hMMz6181.2 143 (by decide) (by decide))
                  have mz6194 : Mz6187[150]? = some (.inl (0, 20, .inl (ai (f2 150)))) := zat_set ez6188 (by decide) (Sm.at hSz6182 (by decide) (hM76.2 150 (by decide) (by decide)))
                  have mz6195 : Mz6187[151]? = some (.inl (0, 20, .inl (ai (f2 151)))) := zat_set ez6188 (by decide) (Sm.at hSz6182 (by decide) (hM76.2 151 (by decide) (by decide)))
                  have mz6196 : Mz6187[152]? = some (.inl (0, 20, .inl (ai (f2 152)))) := zat_set ez6188 (by decide) (Sm.at hSz6182 (by decide) (hM76.2 152 (by decide) (by decide)))
                  have mz6197 : Mz6187[172]? = some (.inl (0, 32, .inl (ai (f2 172)))) := zat_set ez6188 (by decide) (Sm.at hSz6182 (by decide) (hM76.2 172 (by decide) (by decide)))
                  have mz6198 : Mz6187[173]? = some (.inl (0, 32, .inl (ai (f2 173)))) := zat_set ez6188 (by decide) (Sm.at hSz6182 (by decide) (hM76.2 173 (by decide) (by decide)))
                  have mz6199 : Mz6187[174]? = some (.inl (0, 32, .inl (ai (f2 174)))) := zat_set ez6188 (by decide) (Sm.at hSz6182 (by decide) (hM76.2 174 (by decide) (by decide)))
                  have mz6200 : Mz6187[175]? = some (.inl (0, 32, .inl (ai (f2 175)))) := zat_set ez6188 (by decide) (Sm.at hSz6182 (by decide) (hM76.2 175 (by decide) (by decide)))
                  have lp125 : ∀ (n125 : Nat) (j : Nat) (R : Nat → Nat) (M_125 : zM), Sm M_76 M_125 [139, 140, 143, 150, 151, 152, 172, 173, 174, 175] → M_125[140]? = some (.inl (0, 590, .inl (ai R))) → M_125[139]? = some (.inr (12, [.int (nI (o2 0)), .ref 140, .ref 141, .ref 142, .ref 143, .int (nI (if o2 5 = 10 then 10 else o2 5 + 1)), .ref 144, .int (nI (o2 7)), .int (nI (o2 8)), .int (nI (o2 9)), .int (nI (o2 10)), .ref 145, .ref 146, .ref 147, .ref 148, .ref 149, .ref 150, .ref 151, .ref 152, .ref 153, .ref 154, .ref 155, .ref 156, .ref 157, .ref 158, .ref 159, .ref 160, .ref 161, .ref 162, .ref 163, .ref 164, .int (nI (o2 31)), .ref 165, .int (nI (o2 33)), .ref 166, .ref 167, .ref 168, .ref 169, .int (nI (o2 38)), .ref 170, .ref 171, .ref 172, .ref 173, .ref 174, .ref 175, .int (nI (o2 45)), .int (nI (o2 46)), .int (nI (o2 47)), .long (lN (o2 48)), .ref 176])) → M_125[143]? = some (.inl (0, 610, .inl (ai Uz6180))) → M_125[150]? = some (.inl (0, 20, .inl (ai (f2 150)))) → M_125[151]? = some (.inl (0, 20, .inl (ai (f2 151)))) → M_125[152]? = some (.inl (0, 20, .inl (ai (f2 152)))) → M_125[172]? = some (.inl (0, 32, .inl (ai (f2 172)))) → M_125[173]? = some (.inl (0, 32, .inl (ai (f2 173)))) → M_125[174]? = some (.inl (0, 32, .inl (ai (f2 174)))) → M_125[175]? = some (.inl (0, 32, .inl (ai (f2 175)))) → (j ≤ o2 46 ∧ ∀ q, R q = if q = 529 then o2 46 else if 530 ≤ q ∧ q < 530 + j then f2 150 (q - 530) else if 550 ≤ q ∧ q < 550 + j then f2 151 (q - 550) else if 570 ≤ q ∧ q < 570 + j then f2 152 (q - 570) else f2 140 q) → o2 46 - j < n125 → Zw 6 zm_MO_grow 125 [some (.ref 139), some (.int (nI x)), some (.int (nI j))] [] M_125 (fun r9 M1 => ∃ o9 f9, MM M1 o9 f9 ∧ Sm Mq M1 [139, 140, 143, 150, 151, 152, 172, 173, 174, 175] ∧ (∀ a, a ∉ [139, 140, 143, 150, 151, 152, 172, 173, 174, 175] → f9 a = f a) ∧ (∀ j, j ≠ 0 → j ≠ 5 → j ≠ 45 → j ≠ 46 → j ≠ 47 → j ≠ 48 → o9 j = o j) ∧ o9 0 = 0 ∧ ((∃ t, grR (gE al_ it tg pt bd fr af) n x = some t ∧ r9 = some (.int (nI t.2.1)) ∧ o9 5 = (if o 5 = 10 then 10 else o 5 + 1) ∧ UnS (o 5) (f 143) (f 140) (f9 143) ∧ (∀ q, q < 529 → f9 140 q = f 140 q) ∧ (∀ q, f9 140 q < 2147483648) ∧ RelT f9 t.2.1 t.2.2.1 t.2.2.2.1 t.2.2.2.2) ∨ (grR (gE al_ it tg pt bd fr af) n x = none ∧ r9 = some (.int (-3)) ∧ o9 5 = o 5 ∧ f9 140 = f 140 ∧ f9 143 = f 143))) := by
                    intro n125
                    induction n125 with
                    | zero => intro j R M_125 _ _ _ _ _ _ _ _ _ _ _ _ h; exact absurd h (Nat.not_lt_zero _)
                    | succ n125 ih125 =>
                      intro j R M_125 s_125 f125_0 f125_1 f125_2 f125_3 f125_4 f125_5 f125_6 f125_7 f125_8 f125_9 hi125 hm125
                      refine zw_n 2 rfl ?_
                      refine zw_get (v := .int (nI (o2 46))) rfl f125_1 rfl ?_
                      refine zw_igeN (a := j) (b := o2 46) rfl rfl rfl (by omega) (by omega) (fun c130 => ?_) (fun c130 => ?_)
                      · -- 130 to 187
                        have hj9 : j = o2 46 := by omega
                        have hR529 : ∀ q, q < 529 → R q = f 140 q := fun q hq => by rw [hi125.2 q, if_neg (by omega), if_neg (by omega), if_neg (by omega), if_neg (by omega), e140]
                        have hRT : RelT (fset f2 140 R) s2.2.1 s2.2.2.1 s2.2.2.2.1 s2.2.2.2.2 := mg_relT hi125.2 hj9 hS2
                        have hRlt : ∀ q, R q < 2147483648 := fun q => mg_lt hi125.2 hj9 hS2 (by rw [e140]; exact hF.1) q
                        have gr5 : (if o2 5 = 10 then 10 else o2 5 + 1) = (if o 5 = 10 then 10 else o 5 + 1) := by rw [hO2 5 (by decide) (by decide) (by decide) (by decide) (by decide)]
                        have grU : UnS (o 5) (f 143) (f 140) Uz6180 := by rw [← hO2 5 (by decide) (by decide) (by decide) (by decide) (by decide), ← hF2s 143 (by decide), ← e140]; exact hUz6183
                        refine zw_n 1 rfl ?_
                        refine zw_get (v := .int (nI (o2 46))) rfl f125_1 rfl ?_
                        exact zw_iret rfl rfl (⟨up o2 5 (if o2 5 = 10 then 10 else o2 5 + 1), fset (fset f2 143 Uz6180) 140 R, (MM.of (o' := up o2 5 (if o2 5 = 10 then 10 else o2 5 + 1)) (f' := fset (fset f2 143 Uz6180) 140 R) hM76 s_125 f125_1 (c1_skip (c1_cons f125_0 (c1_cons f125_2 (c1_cons f125_3 (c1_cons f125_4 (c1_cons f125_5 (c1_cons f125_6 (c1_cons f125_7 (c1_cons f125_8 (c1_cons f125_9 c1_nil)))))))))) (fs_k (fs_c (fs_c (fs_k (fs_k (fs_k (fs_k (fs_k (fs_k (fs_k fs_n))))))))))), Sm.trans s_76 s_125, fun a ha => (fs_k (fs_c (fs_c (fs_k (fs_k (fs_k (fs_k (fs_k (fs_k (fs_k fs_n))))))))) a ha).trans (hF2s a (fun q9 => ha ((by decide : ∀ a, a ∈ [139, 150, 151, 152, 172, 173, 174, 175] → a ∈ [139, 140, 143, 150, 151, 152, 172, 173, 174, 175]) a q9))), fun j h0 h1 h2 h3 h4 h5 => (up_n h1).trans (hO2 j h0 h2 h3 h4 h5), hO20, Or.inl ⟨s2, hfin.symm.trans (by rw [show o2 45 = 0 by omega]; rfl), congrArg (fun z => some (Value.int (nI z))) hS2.2.1, gr5, by first | exact grU | skip, hR529, hRlt, hRT⟩⟩)
                      · -- 130 to 133
                        refine zw_n 1 rfl ?_
                        refine zw_get (v := .ref 140) rfl f125_1 rfl ?_
                        refine zw_n 3 rfl ?_
                        refine zw_top (na (a := 530) (b := j) rfl rfl) ?_
                        refine zw_n 1 rfl ?_
                        refine zw_get (v := .ref 150) rfl f125_1 rfl ?_
                        refine zw_n 1 rfl ?_
                        refine zw_iald (f := ai (f2 150)) (j := j) rfl f125_3 rfl (by decide) (by omega) ?_
                        refine zw_iastN (g := R) (j := (530 + j)) (v := ((f2 150) j)) rfl f125_0 rfl (by decide) (by omega) (rfl) ?_
                        generalize ez6202 : List.set M_125 140 _ = Mz6201
                        refine zw_n 1 rfl ?_
                        refine zw_get (v := .ref 140) rfl (zat_set ez6202 (by decide) f125_1) rfl ?_
                        refine zw_n 3 rfl ?_
                        refine zw_top (na (a := 550) (b := j) rfl rfl) ?_
                        refine zw_n 1 rfl ?_
                        refine zw_get (v := .ref 151) rfl (zat_set ez6202 (by decide) f125_1) rfl ?_
                        refine zw_n 1 rfl ?_
                        refine zw_iald (f := ai (f2 151)) (j := j) rfl (zat_set ez6202 (by decide) f125_4) rfl (by decide) (by omega) ?_
                        refine zw_iastN (g := (up R (530 + j) ((f2 150) j))) (j := (550 + j)) (v := ((f2 151) j)) rfl (zat_self ez6202 f125_0) rfl (by decide) (by omega) (rfl) ?_
                        generalize ez6204 : List.set Mz6201 140 _ = Mz6203
                        refine zw_n 1 rfl ?_
                        refine zw_get (v := .ref 140) rfl (zat_set ez6204 (by decide) (zat_set ez6202 (by decide) f125_1)) rfl ?_
                        refine zw_n 3 rfl ?_
                        refine zw_top (na (a := 570) (b := j) rfl rfl) ?_
                        refine zw_n 1 rfl ?_
                        refine zw_get (v := .ref 152) rfl (zat_set ez6204 (by decide) (zat_set ez6202 (by decide) f125_1)) rfl ?_
                        refine zw_n 1 rfl ?_
                        refine zw_iald (f := ai (f2 152)) (j := j) rfl (zat_set ez6204 (by decide) (zat_set ez6202 (by decide) f125_5)) rfl (by decide) (by omega) ?_
                        refine zw_iastN (g := (up (up R (530 + j) ((f2 150) j)) (550 + j) ((f2 151) j))) (j := (570 + j)) (v := ((f2 152) j)) rfl (zat_self ez6204 (zat_self ez6202 f125_0)) rfl (by decide) (by omega) (rfl) ?_
                        generalize ez6206 : List.set Mz6203 140 _ = Mz6205
                        refine zw_inc rfl (x' := (nI (j + 1))) (ls' := [some (.ref 139), some (.int (nI x)), some (.int (nI (j + 1)))]) rfl (na (a := j) (b := 1) rfl rfl) rfl ?_
                        refine zw_n 1 rfl ?_
                        exact ih125 (j + 1) (up (up (up R (530 + j) ((f2 150) j)) (550 + j) ((f2 151) j)) (570 + j) ((f2 152) j)) Mz6205 (Sm.tset (Sm.tset (Sm.tset s_125 ez6202 (by decide)) ez6204 (by decide)) ez6206 (by decide)) (zat_self ez6206 (zat_self ez6204 (zat_self ez6202 f125_0))) (zat_set ez6206 (by decide) (zat_set ez6204 (by decide) (zat_set ez6202 (by decide) f125_1))) (zat_set ez6206 (by decide) (zat_set ez6204 (by decide) (zat_set ez6202 (by decide) f125_2))) (zat_set ez6206 (by decide) (zat_set ez6204 (by decide) (zat_set ez6202 (by decide) f125_3))) (zat_set ez6206 (by decide) (zat_set ez6204 (by decide) (zat_set ez6202 (by decide) f125_4))) (zat_set ez6206 (by decide) (zat_set ez6204 (by decide) (zat_set ez6202 (by decide) f125_5))) (zat_set ez6206 (by decide) (zat_set ez6204 (by decide) (zat_set ez6202 (by decide) f125_6))) (zat_set ez6206 (by decide) (zat_set ez6204 (by decide) (zat_set ez6202 (by decide) f125_7))) (zat_set ez6206 (by decide) (zat_set ez6204 (by decide) (zat_set ez6202 (by decide) f125_8))) (zat_set ez6206 (by decide) (zat_set ez6204 (by decide) (zat_set ez6202 (by decide) f125_9))) (⟨by omega, mg_rs (by omega) hi125.2⟩) (by omega)
                  exact lp125 _ 0 (up (f2 140) 529 (o2 46)) Mz6187 (Sm.tset (Sm.tw Sm.rf hSz6182 (by decide)) ez6188 (by decide)) mz6189 (zat_set ez6188 (by decide) hMMz6181.1) mz6193 mz6194 mz6195 mz6196 mz6197 mz6198 mz6199 mz6200 (⟨Nat.zero_le _, mg_r0⟩) (Nat.lt_succ_self _)
                · -- 101 to 104
                  exfalso
                  have := h47; omega
              · -- 87 to 90
                refine zw_n 1 rfl ?_
                refine zw_callV (as := []) (rest := []) rfl rfl rfl hM76.1 rfl rfl rfl (by decide) (m_growItem M_76 o2 f2 hM76 n gn al_ it pt tg bd hg2 hG hF2 h42 h52 fr af (fun r9 h9 => by rw [e154]; exact hfr r9 h9) (fun r9 a9 h8 h9 => by rw [e154]; exact haf r9 a9 h8 h9) hsa hne hni hp s2 hS2 hK2 (by omega) h47) (fun rz6215 Mz6216 hz6217 => ?_)
                obtain ⟨hAz6207, oz6208, fz6209, hMz6210, hSz6211, hFz6212, hOz6213, hcz6214⟩ := hz6217
                rw [hAz6207]
                show Zw 6 zm_MO_grow 94 [some (.ref 139), some (.int (nI x)), none] [] Mz6216 _
                refine zw_n 1 rfl ?_
                refine ih76 oz6208 fz6209 Mz6216 (Sm.tw s_76 hSz6211 (by decide)) hMz6210 ⟨?_, fun a ha => (hFz6212 a ha).trans (hF2s a ha), fun j h0 h1 h2 h3 h4 => (hOz6213 j h1 h2 h3 h4).trans (hO2 j h0 h1 h2 h3 h4), (hOz6213 0 (by decide) (by decide) (by decide) (by decide)).trans hO20⟩ ?_
                · rcases hcz6214 with q9 | q9
                  · obtain ⟨a1, a2, ⟨s9, a3, a4⟩, a5⟩ := q9; exact Or.inl ⟨a1, a2, s9, a3, a4.trans hfin⟩
                  · exact Or.inr ⟨q9.1, hfin.symm.trans q9.2⟩
                · rw [if_neg c80] at hm76
                  rcases hcz6214 with q9 | q9
                  · have h9 := q9.2.2.2; split <;> omega
                  · rw [if_pos q9.1]; omega
        exact lp76 _ (up (up (up (up (up o 0 0) 45 (0 + 1)) 46 0) 47 1) 48 (drN (drN x))) (fset (fset (fset (fset f 175 (up (f 175) 0 0)) 174 (up (f 174) 0 ((grC (fr 0) x)))) 173 (up (f 173) 0 (grA (gE al_ it tg pt bd fr af) 0 (grC (fr 0) x) (drN x)))) 172 (up (f 172) 0 0)) Mz6177 (Sm.tw (Sm.tw (Sm.tset (Sm.tset (Sm.tset (Sm.tset (Sm.tset Sm.rf ez6150 (by decide)) ez6158 (by decide)) ez6160 (by decide)) ez6162 (by decide)) ez6164 (by decide)) hSz6167 (by decide)) hSz6173 (by decide)) (MM.of (o' := up (up (up (up (up o 0 0) 45 (0 + 1)) 46 0) 47 1) 48 (drN (drN x))) (f' := fset (fset (fset (fset f 175 (up (f 175) 0 0)) 174 (up (f 174) 0 ((grC (fr 0) x)))) 173 (up (f 173) 0 (grA (gE al_ it tg pt bd fr af) 0 (grC (fr 0) x) (drN x)))) 172 (up (f 172) 0 0)) hM (Sm.tw (Sm.tw (Sm.tset (Sm.tset (Sm.tset (Sm.tset (Sm.tset Sm.rf ez6150 (by decide)) ez6158 (by decide)) ez6160 (by decide)) ez6162 (by decide)) ez6164 (by decide)) hSz6167 (by decide)) hSz6173 (by decide)) hBz6172.1 (c1_skip (c1_cons (Sm.at hSz6173 (by decide) (Sm.at hSz6167 (by decide) (zat_set ez6164 (by decide) (zat_set ez6162 (by decide) (zat_set ez6160 (by decide) (zat_set ez6158 (by decide) (zat_set ez6150 (by decide) (hM.2 140 (by decide) (by decide))))))))) (c1_cons (Sm.at hSz6173 (by decide) (Sm.at hSz6167 (by decide) (zat_set ez6164 (by decide) (zat_set ez6162 (by decide) (zat_set ez6160 (by decide) (zat_set ez6158 (by decide) (zat_set ez6150 (by decide) (hM.2 143 (by decide) (by decide))))))))) (c1_cons (Sm.at hSz6173 (by decide) (Sm.at hSz6167 (by decide) (zat_set ez6164 (by decide) (zat_set ez6162 (by decide) (zat_set ez6160 (by decide) (zat_set ez6158 (by decide) (zat_set ez6150 (by decide) (hM.2 150 (by decide) (by decide))))))))) (c1_cons (Sm.at hSz6173 (by decide) (Sm.at hSz6167 (by decide) (zat_set ez6164 (by decide) (zat_set ez6162 (by decide) (zat_set ez6160 (by decide) (zat_set ez6158 (by decide) (zat_set ez6150 (by decide) (hM.2 151 (by decide) (by decide))))))))) (c1_cons (Sm.at hSz6173 (by decide) (Sm.at hSz6167 (by decide) (zat_set ez6164 (by decide) (zat_set ez6162 (by decide) (zat_set ez6160 (by decide) (zat_set ez6158 (by decide) (zat_set ez6150 (by decide) (hM.2 152 (by decide) (by decide))))))))) (c1_cons (hBz6172.2 172 (by decide) (by decide)) (c1_cons (hBz6172.2 173 (by decide) (by decide)) (c1_cons (hBz6172.2 174 (by decide) (by decide)) (c1_cons (hBz6172.2 175 (by decide) (by decide)) c1_nil)))))))))) (fs_k (fs_k (fs_k (fs_k (fs_k (fs_k (fs_c (fs_c (fs_c (fs_c fs_n))))))))))) ⟨Or.inl ⟨rfl, ⟨(by decide : 0 + 1 ≤ 31), ginit1⟩, (drN (drN x), 0, fun _ => 0, fun _ => 0, fun _ => 0), ⟨rfl, rfl, fun q hq => absurd hq (Nat.not_lt_zero _), ⟨drN_lt _, (grW_0 x).2⟩⟩, ginit2⟩, (fun a ha => by rw [fset_n (fun q9 => ha (by rw [q9]; decide)), fset_n (fun q9 => ha (by rw [q9]; decide)), fset_n (fun q9 => ha (by rw [q9]; decide)), fset_n (fun q9 => ha (by rw [q9]; decide))]), (fun j h0 h1 h2 h3 h4 => by rw [up_n h4, up_n h3, up_n h2, up_n h1, up_n h0]), rfl⟩ (Nat.lt_succ_self _)
      · -- 34 to 37
        refine zw_n 1 rfl ?_
        exact zw_iret rfl rfl (⟨up o 0 0, f, (MM.of (o' := up o 0 0) (f' := f) hM (Sm.tset Sm.rf ez6150 (by decide)) (zat_self ez6150 hM.1) (c1_skip (c1_cons (zat_set ez6150 (by decide) (hM.2 140 (by decide) (by decide))) (c1_cons (zat_set ez6150 (by decide) (hM.2 143 (by decide) (by decide))) (c1_cons (zat_set ez6150 (by decide) (hM.2 150 (by decide) (by decide))) (c1_cons (zat_set ez6150 (by decide) (hM.2 151 (by decide) (by decide))) (c1_cons (zat_set ez6150 (by decide) (hM.2 152 (by decide) (by decide))) (c1_cons (zat_set ez6150 (by decide) (hM.2 172 (by decide) (by decide))) (c1_cons (zat_set ez6150 (by decide) (hM.2 173 (by decide) (by decide))) (c1_cons (zat_set ez6150 (by decide) (hM.2 174 (by decide) (by decide))) (c1_cons (zat_set ez6150 (by decide) (hM.2 175 (by decide) (by decide))) c1_nil)))))))))) (fs_k (fs_k (fs_k (fs_k (fs_k (fs_k (fs_k (fs_k (fs_k (fs_k fs_n))))))))))), Sm.tset Sm.rf ez6150 (by decide), fun _ _ => rfl, fun j h0 h1 h2 h3 h4 h5 => up_n h0, rfl, Or.inr ⟨if_pos (by first | exact Or.inl (by have h9 := ite_eq0 c23; omega) | exact Or.inr c34), rfl, rfl, rfl, rfl⟩⟩)
  · -- 14 to 17
    exfalso
    exact ite_eq0 c14 (by omega)
