set_option maxHeartbeats 4000000 in
set_option maxRecDepth 100000 in
theorem m_layWhere (Mq : zM) (o : Nat → Nat) (f : Nat → Nat → Nat) (hM : MM Mq o f)(n : Nat) (gn al_ it pt tg bd : Nat → Nat) (hg : RelG f n gn al_ it pt tg bd) (hG : SafeG n gn al_ it pt tg bd) (hF : SafeF f) (emp : Nat → Prop) (rk : Nat → Nat) (hA : Acyc (gE al_ it tg pt bd (f 156) (f 157)) n emp rk) (m : Nat) (hm : m < 22) : Zm 5 zm_MO_layWhere [.ref 139, .int (nI m)] Mq (fun r9 M1 => r9 = none ∧ ∃ V A B, MM M1 o (fset (fset (fset f 160 B) 159 A) 158 V) ∧ Sm Mq M1 [158, 159, 160] ∧ SafeM V ∧ SafeM A ∧ SafeM B ∧ VAll (gE al_ it tg pt bd (f 156) (f 157)) n (m + 1) V) := by
  show Zw 5 zm_MO_layWhere 0 [some (.ref 139), some (.int (nI m)), none] [] Mq _
  refine zw_n 2 (ls' := [some (.ref 139), some (.int (nI m)), some (.int 0)]) rfl ?_
  have lp2 : ∀ (n2 : Nat) (j : Nat) (V0 : Nat → Nat) (A0 : Nat → Nat) (B0 : Nat → Nat) (M_2 : zM), Sm Mq M_2 [158, 159, 160] → M_2[158]? = some (.inl (1, 3872, .inr (.inl (al V0)))) → M_2[159]? = some (.inl (1, 22, .inr (.inl (al A0)))) → M_2[160]? = some (.inl (1, 22, .inr (.inl (al B0)))) → (j ≤ m + 1 ∧ SafeM V0 ∧ SafeM A0 ∧ SafeM B0 ∧ VAll (gE al_ it tg pt bd (f 156) (f 157)) n j V0) → m + 1 - j < n2 → Zw 5 zm_MO_layWhere 2 [some (.ref 139), some (.int (nI m)), some (.int (nI j))] [] M_2 (fun r9 M1 => r9 = none ∧ ∃ V A B, MM M1 o (fset (fset (fset f 160 B) 159 A) 158 V) ∧ Sm Mq M1 [158, 159, 160] ∧ SafeM V ∧ SafeM A ∧ SafeM B ∧ VAll (gE al_ it tg pt bd (f 156) (f 157)) n (m + 1) V) := by
    intro n2
    induction n2 with
    | zero => intro j V0 A0 B0 M_2 _ _ _ _ _ h; exact absurd h (Nat.not_lt_zero _)
    | succ n2 ih2 =>
      intro j V0 A0 B0 M_2 s_2 f2_0 f2_1 f2_2 hi2 hm2
      refine zw_n 2 rfl ?_
      refine zw_igtN (a := j) (b := m) rfl rfl rfl (by omega) (by omega) (fun c4 => ?_) (fun c4 => ?_)
      · -- 4 to 18
        exact zw_vret rfl rfl (⟨rfl, V0, A0, B0, (MM.of (o' := o) (f' := fset (fset (fset f 160 B0) 159 A0) 158 V0) hM s_2 (Sm.at s_2 (by decide) hM.1) (c1_cons f2_0 (c1_cons f2_1 (c1_cons f2_2 c1_nil))) (fs_c (fs_c (fs_c fs_n)))), s_2, hi2.2.1, hi2.2.2.1, hi2.2.2.2.1, (show j = m + 1 by omega) ▸ hi2.2.2.2.2⟩)
      · -- 4 to 7
        refine zw_n 2 rfl ?_
        refine zw_callV (as := [.int (nI j)]) (rest := []) rfl rfl rfl (Sm.at s_2 (by decide) hM.1) rfl rfl rfl (by decide) (m_layEnd M_2 o (fset (fset (fset f 160 B0) 159 A0) 158 V0) (MM.of (o' := o) (f' := fset (fset (fset f 160 B0) 159 A0) 158 V0) hM s_2 (Sm.at s_2 (by decide) hM.1) (c1_cons f2_0 (c1_cons f2_1 (c1_cons f2_2 c1_nil))) (fs_c (fs_c (fs_c fs_n)))) n gn al_ it pt tg bd hg hG (⟨hF.1, hF.2.1, hF.2.2.1, hi2.2.1, hi2.2.2.1, hi2.2.2.2.1⟩) emp rk hA j (by omega) (hi2.2.2.2.2)) (fun rz192 Mz193 hz194 => ?_)
        obtain ⟨hAz185, Az182, Az183, Az184, hMMz186, hSz187, hz188, hz189, hz190, hz191⟩ := hz194
        rw [hAz185]
        show Zw 5 zm_MO_layWhere 12 [some (.ref 139), some (.int (nI m)), some (.int (nI j))] [] Mz193 _
        refine zw_inc rfl (x' := (nI (j + 1))) (ls' := [some (.ref 139), some (.int (nI m)), some (.int (nI (j + 1)))]) rfl (na (a := j) (b := 1) rfl rfl) rfl ?_
        refine zw_n 1 rfl ?_
        exact ih2 (j + 1) Az182 Az183 Az184 Mz193 (Sm.trans s_2 hSz187) (hMMz186.2 158 (by decide) (by decide)) (hMMz186.2 159 (by decide) (by decide)) (hMMz186.2 160 (by decide) (by decide)) (⟨by omega, hz188, hz189, hz190, hz191⟩) (by omega)
  exact lp2 _ 0 (f 158) (f 159) (f 160) Mq Sm.rf (hM.2 158 (by decide) (by decide)) (hM.2 159 (by decide) (by decide)) (hM.2 160 (by decide) (by decide)) (⟨Nat.zero_le _, hF.2.2.2.1, hF.2.2.2.2.1, hF.2.2.2.2.2, VAll.zero⟩) (Nat.lt_succ_self _)

set_option maxHeartbeats 4000000 in
set_option maxRecDepth 100000 in
theorem m_takeTokens (Mq : zM) (o : Nat → Nat) (f : Nat → Nat → Nat) (hM : MM Mq o f) (c : Nat) (sg li co : Nat → Nat) (ht : RelT f c sg li co) (hS : SafeT c sg li co) (hF : SafeF f) : Zm 1 zm_MO_takeTokens [.ref 139] Mq (fun r9 M1 => r9 = none ∧ ∃ a b, MM M1 o (fset (fset f 157 b) 156 a) ∧ Sm Mq M1 [156, 157] ∧ (∀ q, a q < 2147483648) ∧ (∀ q, b q < 40) ∧ ∀ p, p < c → a p = sg p ∧ b p = co p) := by
  show Zw 1 zm_MO_takeTokens 0 [some (.ref 139), none] [] Mq _
  have hc20 := hS.1
  refine zw_n 2 (ls' := [some (.ref 139), some (.int 0)]) rfl ?_
  have lp2 : ∀ (n2 : Nat) (k : Nat) (a : Nat → Nat) (b : Nat → Nat) (M_2 : zM), Sm Mq M_2 [156, 157] → M_2[156]? = some (.inl (0, 21, .inl (ai a))) → M_2[157]? = some (.inl (0, 21, .inl (ai b))) → (k ≤ c ∧ (∀ q, a q < 2147483648) ∧ (∀ q, b q < 40) ∧ ∀ p, p < k → a p = sg p ∧ b p = co p) → c - k < n2 → Zw 1 zm_MO_takeTokens 2 [some (.ref 139), some (.int (nI k))] [] M_2 (fun r9 M1 => r9 = none ∧ ∃ a b, MM M1 o (fset (fset f 157 b) 156 a) ∧ Sm Mq M1 [156, 157] ∧ (∀ q, a q < 2147483648) ∧ (∀ q, b q < 40) ∧ ∀ p, p < c → a p = sg p ∧ b p = co p) := by
    intro n2
    induction n2 with
    | zero => intro k a b M_2 _ _ _ _ h; exact absurd h (Nat.not_lt_zero _)
    | succ n2 ih2 =>
      intro k a b M_2 s_2 f2_0 f2_1 hi2 hm2
      refine zw_n 2 rfl ?_
      refine zw_callV (as := []) (rest := [.int (nI k)]) rfl rfl rfl (Sm.at s_2 (by decide) hM.1) rfl rfl rfl (by decide) (m_tokens M_2 o (fset (fset f 157 b) 156 a) (MM.of (o' := o) (f' := fset (fset f 157 b) 156 a) hM s_2 (Sm.at s_2 (by decide) hM.1) (c1_cons f2_0 (c1_cons f2_1 c1_nil)) (fs_c (fs_c fs_n))) c sg li co ht) (fun rz195 Mz196 hz197 => ?_)
      rw [hz197.1, hz197.2]
      show Zw 1 zm_MO_takeTokens 7 [some (.ref 139), some (.int (nI k))] [.int (nI c), .int (nI k)] M_2 _
      refine zw_igeN (a := k) (b := c) rfl rfl rfl (by omega) (by omega) (fun c7 => ?_) (fun c7 => ?_)
      · -- 7 to 48
        exact zw_vret rfl rfl (⟨rfl, a, b, (MM.of (o' := o) (f' := fset (fset f 157 b) 156 a) hM s_2 (Sm.at s_2 (by decide) hM.1) (c1_cons f2_0 (c1_cons f2_1 c1_nil)) (fs_c (fs_c fs_n))), s_2, hi2.2.1, hi2.2.2.1, fun p hp => hi2.2.2.2 p (by omega)⟩)
      · -- 7 to 10
        refine zw_n 1 rfl ?_
        refine zw_get (v := .ref 156) rfl (Sm.at s_2 (by decide) hM.1) rfl ?_
        refine zw_n 2 rfl ?_
        refine zw_get (v := .ref 140) rfl (Sm.at s_2 (by decide) hM.1) rfl ?_
        refine zw_n 3 rfl ?_
        refine zw_top (na (a := 530) (b := k) rfl rfl) ?_
        refine zw_iald (f := ai (f 140)) (j := (530 + k)) rfl (Sm.at s_2 (by decide) (hM.2 140 (by decide) (by decide))) rfl (by decide) (by omega) ?_
        refine zw_top (congrArg nI (ht.2 k (by omega)).1) ?_
        refine zw_iastN (g := a) (j := k) (v := (sg k)) rfl f2_0 rfl (by decide) (by omega) (rfl) ?_
        generalize ez199 : List.set M_2 156 _ = Mz198
        refine zw_n 1 rfl ?_
        refine zw_get (v := .ref 157) rfl (zat_set ez199 (by decide) (Sm.at s_2 (by decide) hM.1)) rfl ?_
        refine zw_n 2 rfl ?_
        refine zw_get (v := .ref 140) rfl (zat_set ez199 (by decide) (Sm.at s_2 (by decide) hM.1)) rfl ?_
        refine zw_n 3 rfl ?_
        refine zw_top (na (a := 570) (b := k) rfl rfl) ?_
        refine zw_iald (f := ai (f 140)) (j := (570 + k)) rfl (zat_set ez199 (by decide) (Sm.at s_2 (by decide) (hM.2 140 (by decide) (by decide)))) rfl (by decide) (by omega) ?_
        refine zw_top (congrArg nI (ht.2 k (by omega)).2.2) ?_
        refine zw_iastN (g := b) (j := k) (v := (co k)) rfl (zat_set ez199 (by decide) f2_1) rfl (by decide) (by omega) (rfl) ?_
        generalize ez201 : List.set Mz198 157 _ = Mz200
        refine zw_inc rfl (x' := (nI (k + 1))) (ls' := [some (.ref 139), some (.int (nI (k + 1)))]) rfl (na (a := k) (b := 1) rfl rfl) rfl ?_
        refine zw_n 1 rfl ?_
        exact ih2 (k + 1) (up a k (sg k)) (up b k (co k)) Mz200 (Sm.tset (Sm.tset s_2 ez199 (by decide)) ez201 (by decide)) (zat_set ez201 (by decide) (zat_self ez199 f2_0)) (zat_self ez201 (zat_set ez199 (by decide) f2_1)) (⟨by omega, fun q => by unfold up; split <;> first | exact hi2.2.1 q | (have := hS.2.1 k; omega), fun q => by unfold up; split <;> first | exact hi2.2.2.1 q | exact hS.2.2.2 k, fun p hp => by unfold up; split <;> first | (rename_i e; rw [e]; exact ⟨rfl, rfl⟩) | exact hi2.2.2.2 p (by omega)⟩) (by omega)
  exact lp2 _ 0 (f 156) (f 157) Mq Sm.rf (hM.2 156 (by decide) (by decide)) (hM.2 157 (by decide) (by decide)) (⟨Nat.zero_le _, hF.2.1, hF.2.2.1, fun p hp => by omega⟩) (Nat.lt_succ_self _)

set_option maxHeartbeats 4000000 in
set_option maxRecDepth 100000 in
theorem m_layAll (Mq : zM) (o : Nat → Nat) (f : Nat → Nat → Nat) (hM : MM Mq o f)(n : Nat) (gn al_ it pt tg bd : Nat → Nat) (hg : RelG f n gn al_ it pt tg bd) (hG : SafeG n gn al_ it pt tg bd) (hF : SafeF f) (c : Nat) (sg li co : Nat → Nat) (ht : RelT f c sg li co) (hS : SafeT c sg li co) (emp : Nat → Prop) (rk : Nat → Nat) (hA : Acyc (gE al_ it tg pt bd sg co) n emp rk) : Zm 6 zm_MO_layAll [.ref 139] Mq (fun r9 M1 => r9 = none ∧ ∃ f9, MM M1 o f9 ∧ Sm Mq M1 [156, 157, 158, 159, 160] ∧ Fsame f f9 [156, 157, 158, 159, 160] ∧ SafeF f9 ∧ (∀ p, p < c → f9 156 p = sg p ∧ f9 157 p = co p) ∧ VAll (gE al_ it tg pt bd sg co) n (c + 1) (f9 158)) := by
  show Zw 6 zm_MO_layAll 0 [some (.ref 139)] [] Mq _
  have hc20 := hS.1
  refine zw_n 1 rfl ?_
  refine zw_callV (as := []) (rest := []) rfl rfl rfl hM.1 rfl rfl rfl (by decide) (m_takeTokens Mq o f hM c sg li co ht hS hF) (fun rz210 Mz211 hz212 => ?_)
  obtain ⟨hAz204, Az202, Az203, hMMz205, hSz206, hz207, hz208, hz209⟩ := hz212
  rw [hAz204]
  show Zw 6 zm_MO_layAll 4 [some (.ref 139)] [] Mz211 _
  refine zw_n 2 rfl ?_
  refine zw_callV (as := []) (rest := [.ref 139]) rfl rfl rfl (Sm.at hSz206 (by decide) hM.1) rfl rfl rfl (by decide) (m_tokens Mz211 o (fset (fset f 157 Az203) 156 Az202) (MM.of (o' := o) (f' := fset (fset f 157 Az203) 156 Az202) hM (Sm.tw Sm.rf hSz206 (by decide)) (Sm.at hSz206 (by decide) hM.1) (c1_cons (hMMz205.2 156 (by decide) (by decide)) (c1_cons (hMMz205.2 157 (by decide) (by decide)) (c1_cons (Sm.at hSz206 (by decide) (hM.2 158 (by decide) (by decide))) (c1_cons (Sm.at hSz206 (by decide) (hM.2 159 (by decide) (by decide))) (c1_cons (Sm.at hSz206 (by decide) (hM.2 160 (by decide) (by decide))) c1_nil))))) (fs_c (fs_c (fs_k (fs_k (fs_k fs_n)))))) c sg li co ht) (fun rz213 Mz214 hz215 => ?_)
  rw [hz215.1, hz215.2]
  show Zw 6 zm_MO_layAll 9 [some (.ref 139)] [.int (nI c), .ref 139] Mz211 _
  refine zw_callV (as := [.int (nI c)]) (rest := []) rfl rfl rfl (Sm.at hSz206 (by decide) hM.1) rfl rfl rfl (by decide) (m_layWhere Mz211 o (fset (fset f 157 Az203) 156 Az202) (MM.of (o' := o) (f' := fset (fset f 157 Az203) 156 Az202) hM (Sm.tw Sm.rf hSz206 (by decide)) (Sm.at hSz206 (by decide) hM.1) (c1_cons (hMMz205.2 156 (by decide) (by decide)) (c1_cons (hMMz205.2 157 (by decide) (by decide)) (c1_cons (Sm.at hSz206 (by decide) (hM.2 158 (by decide) (by decide))) (c1_cons (Sm.at hSz206 (by decide) (hM.2 159 (by decide) (by decide))) (c1_cons (Sm.at hSz206 (by decide) (hM.2 160 (by decide) (by decide))) c1_nil))))) (fs_c (fs_c (fs_k (fs_k (fs_k fs_n)))))) n gn al_ it pt tg bd hg hG (⟨hF.1, hz207, hz208, hF.2.2.2.1, hF.2.2.2.2.1, hF.2.2.2.2.2⟩) emp rk hA c (by omega)) (fun rz226 Mz227 hz228 => ?_)
  obtain ⟨hAz219, Az216, Az217, Az218, hMMz220, hSz221, hz222, hz223, hz224, hz225⟩ := hz228
  rw [hAz219]
  show Zw 6 zm_MO_layAll 12 [some (.ref 139)] [] Mz227 _
  exact zw_vret rfl rfl (⟨rfl, fset (fset (fset (fset (fset f 160 Az218) 159 Az217) 158 Az216) 157 Az203) 156 Az202, (MM.of (o' := o) (f' := fset (fset (fset (fset (fset f 160 Az218) 159 Az217) 158 Az216) 157 Az203) 156 Az202) hM (Sm.tw (Sm.tw Sm.rf hSz206 (by decide)) hSz221 (by decide)) (Sm.at hSz221 (by decide) (Sm.at hSz206 (by decide) hM.1)) (c1_cons (Sm.at hSz221 (by decide) (hMMz205.2 156 (by decide) (by decide))) (c1_cons (Sm.at hSz221 (by decide) (hMMz205.2 157 (by decide) (by decide))) (c1_cons (hMMz220.2 158 (by decide) (by decide)) (c1_cons (hMMz220.2 159 (by decide) (by decide)) (c1_cons (hMMz220.2 160 (by decide) (by decide)) c1_nil))))) (fs_c (fs_c (fs_c (fs_c (fs_c fs_n)))))), Sm.tw (Sm.tw Sm.rf hSz206 (by decide)) hSz221 (by decide), fs_c (fs_c (fs_c (fs_c (fs_c fs_n)))), ⟨hF.1, hz207, hz208, hz222, hz223, hz224⟩, hz209, VAll.congE hz225 hz209⟩)

set_option maxHeartbeats 4000000 in
set_option maxRecDepth 100000 in
theorem m_isFitting (Mq : zM) (o : Nat → Nat) (f : Nat → Nat → Nat) (hM : MM Mq o f)(n : Nat) (gn al_ it pt tg bd : Nat → Nat) (hg : RelG f n gn al_ it pt tg bd) (hG : SafeG n gn al_ it pt tg bd) (hF : SafeF f) (c : Nat) (sg li co : Nat → Nat) (ht : RelT f c sg li co) (hS : SafeT c sg li co) (emp : Nat → Prop) (rk : Nat → Nat) (hA : Acyc (gE al_ it tg pt bd sg co) n emp rk) (hn : 0 < n) : Zm 7 zm_MO_isFitting [.ref 139] Mq (fun r9 M1 => r9 = some (.int (nI (if wh (gE al_ it tg pt bd sg co) n 0 0 c ≠ 0 then 1 else 0))) ∧ ∃ f9, MM M1 o f9 ∧ Sm Mq M1 [156, 157, 158, 159, 160] ∧ Fsame f f9 [156, 157, 158, 159, 160] ∧ SafeF f9 ∧ (∀ p, p < c → f9 156 p = sg p ∧ f9 157 p = co p) ∧ VAll (gE al_ it tg pt bd sg co) n (c + 1) (f9 158)) := by
  show Zw 7 zm_MO_isFitting 0 [some (.ref 139)] [] Mq _
  have hc20 := hS.1
  refine zw_n 1 rfl ?_
  refine zw_callV (as := []) (rest := []) rfl rfl rfl hM.1 rfl rfl rfl (by decide) (m_layAll Mq o f hM n gn al_ it pt tg bd hg hG hF c sg li co ht hS emp rk hA) (fun rz237 Mz238 hz239 => ?_)
  obtain ⟨hAz230, fz229, hMMz231, hSz232, hFsz233, hSFz234, hz235, hz236⟩ := hz239
  rw [hAz230]
  show Zw 7 zm_MO_isFitting 4 [some (.ref 139)] [] Mz238 _
  refine zw_n 1 rfl ?_
  refine zw_get (v := .ref 158) rfl (Sm.at hSz232 (by decide) hM.1) rfl ?_
  refine zw_n 3 rfl ?_
  refine zw_callV (as := []) (rest := [.int 0, .int 0, .ref 158]) rfl rfl rfl (Sm.at hSz232 (by decide) hM.1) rfl rfl rfl (by decide) (m_tokens Mz238 o (fset (fset (fset (fset (fset f 160 (fz229 160)) 159 (fz229 159)) 158 (fz229 158)) 157 (fz229 157)) 156 (fz229 156)) (MM.of (o' := o) (f' := fset (fset (fset (fset (fset f 160 (fz229 160)) 159 (fz229 159)) 158 (fz229 158)) 157 (fz229 157)) 156 (fz229 156)) hM (Sm.trans Sm.rf hSz232) (Sm.at hSz232 (by decide) hM.1) (c1_cons (hMMz231.2 156 (by decide) (by decide)) (c1_cons (hMMz231.2 157 (by decide) (by decide)) (c1_cons (hMMz231.2 158 (by decide) (by decide)) (c1_cons (hMMz231.2 159 (by decide) (by decide)) (c1_cons (hMMz231.2 160 (by decide) (by decide)) c1_nil))))) (fs_c (fs_c (fs_c (fs_c (fs_c fs_n)))))) c sg li co ht) (fun rz240 Mz241 hz242 => ?_)
  rw [hz242.1, hz242.2]
  show Zw 7 zm_MO_isFitting 14 [some (.ref 139)] [.int (nI c), .int 0, .int 0, .ref 158] Mz238 _
  refine zw_callS (as := [.int 0, .int 0, .int (nI c)]) (rest := [.ref 158]) rfl rfl rfl rfl rfl rfl (by decide) (m_at _ 0 0 c) (fun rz243 Mz244 hz245 => ?_)
  rw [hz245.1, hz245.2]
  show Zw 7 zm_MO_isFitting 17 [some (.ref 139)] [.int (nI (22 * (22 * 0 + 0) + c)), .ref 158] Mz238 _
  refine zw_lald (f := al (fz229 158)) (j := (22 * (22 * 0 + 0) + c)) rfl (hMMz231.2 158 (by decide) (by decide)) rfl (by decide) (by omega) ?_
  refine zw_topl (x' := (lN (wh (gE al_ it tg pt bd sg co) n 0 0 c))) (congrArg lN (hz236 0 0 c hn (Nat.zero_le _) (by omega))) ?_
  refine zw_n 2 rfl ?_
  refine zw_leqN (a := wh (gE al_ it tg pt bd sg co) n 0 0 c) (b := 0) rfl rfl rfl (by first | exact Nat.lt_trans wh_lt (by decide) | decide) (by first | exact Nat.lt_trans wh_lt (by decide) | decide) (fun c20 => ?_) (fun c20 => ?_)
  · -- 20 to 27
    refine zw_n 1 rfl ?_
    exact zw_zret rfl rfl (Or.inl rfl) (⟨by rw [if_neg (fun h => h c20)]; rfl, fset (fset (fset (fset (fset f 160 (fz229 160)) 159 (fz229 159)) 158 (fz229 158)) 157 (fz229 157)) 156 (fz229 156), (MM.of (o' := o) (f' := fset (fset (fset (fset (fset f 160 (fz229 160)) 159 (fz229 159)) 158 (fz229 158)) 157 (fz229 157)) 156 (fz229 156)) hM (Sm.trans Sm.rf hSz232) (Sm.at hSz232 (by decide) hM.1) (c1_cons (hMMz231.2 156 (by decide) (by decide)) (c1_cons (hMMz231.2 157 (by decide) (by decide)) (c1_cons (hMMz231.2 158 (by decide) (by decide)) (c1_cons (hMMz231.2 159 (by decide) (by decide)) (c1_cons (hMMz231.2 160 (by decide) (by decide)) c1_nil))))) (fs_c (fs_c (fs_c (fs_c (fs_c fs_n)))))), Sm.trans Sm.rf hSz232, fs_c (fs_c (fs_c (fs_c (fs_c fs_n)))), ⟨hF.1, hSFz234.2.1, hSFz234.2.2.1, hSFz234.2.2.2.1, hSFz234.2.2.2.2.1, hSFz234.2.2.2.2.2⟩, hz235, hz236⟩)
  · -- 20 to 23
    refine zw_n 2 rfl ?_
    exact zw_zret rfl rfl (Or.inr rfl) (⟨by rw [if_pos c20]; rfl, fset (fset (fset (fset (fset f 160 (fz229 160)) 159 (fz229 159)) 158 (fz229 158)) 157 (fz229 157)) 156 (fz229 156), (MM.of (o' := o) (f' := fset (fset (fset (fset (fset f 160 (fz229 160)) 159 (fz229 159)) 158 (fz229 158)) 157 (fz229 157)) 156 (fz229 156)) hM (Sm.trans Sm.rf hSz232) (Sm.at hSz232 (by decide) hM.1) (c1_cons (hMMz231.2 156 (by decide) (by decide)) (c1_cons (hMMz231.2 157 (by decide) (by decide)) (c1_cons (hMMz231.2 158 (by decide) (by decide)) (c1_cons (hMMz231.2 159 (by decide) (by decide)) (c1_cons (hMMz231.2 160 (by decide) (by decide)) c1_nil))))) (fs_c (fs_c (fs_c (fs_c (fs_c fs_n)))))), Sm.trans Sm.rf hSz232, fs_c (fs_c (fs_c (fs_c (fs_c fs_n)))), ⟨hF.1, hSFz234.2.1, hSFz234.2.2.1, hSFz234.2.2.2.1, hSFz234.2.2.2.2.1, hSFz234.2.2.2.2.2⟩, hz235, hz236⟩)
