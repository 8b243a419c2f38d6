set_option maxHeartbeats 4000000 in
set_option maxRecDepth 100000 in
theorem m_altOf (Mq : zM) (o : Nat → Nat) (f : Nat → Nat → Nat) (hM : MM Mq o f)(n : Nat) (gn al_ it pt tg bd : Nat → Nat) (hg : RelG f n gn al_ it pt tg bd) (hG : SafeG n gn al_ it pt tg bd) (hF : SafeF f) (c : Nat) (sg li co : Nat → Nat) (hS : SafeT c sg li co) (h5 : ∀ p, p < c → f 156 p = sg p ∧ f 157 p = co p) (hv : VAll (gE al_ it tg pt bd sg co) n (c + 1) (f 158)) (hcl : Clo (gE al_ it tg pt bd sg co) n) (emp : Nat → Prop) (rk : Nat → Nat) (hA : Acyc (gE al_ it tg pt bd sg co) n emp rk) (r i j d : Nat) (hr : r < n) (hij : i ≤ j) (hjc : j ≤ c) (hd : d < 40) (hbit : (wh (gE al_ it tg pt bd sg co) n r i j).testBit d = true) : Zm 4 zm_MO_altOf [.ref 139, .int (nI r), .int (nI i), .int (nI j), .int (nI d)] Mq (fun r9 M1 => r9 = some (.int (nI (tA (gE al_ it tg pt bd sg co) n r i j d))) ∧ ∃ A B, MM M1 o (fset (fset f 160 B) 159 A) ∧ Sm Mq M1 [159, 160] ∧ SafeM A ∧ SafeM B) := by
  show Zw 4 zm_MO_altOf 0 [some (.ref 139), some (.int (nI r)), some (.int (nI i)), some (.int (nI j)), some (.int (nI d)), none] [] Mq _
  have hn8 := hG.1
  have ha4 := hG.2.2.1 r
  have hc20 := hS.1
  have hta : tA (gE al_ it tg pt bd sg co) n r i j d < al_ r := (tA_ok hA hG.2.2.1 hr hij (show j < 4294967295 by omega) hd hbit).1
  refine zw_n 2 (ls' := [some (.ref 139), some (.int (nI r)), some (.int (nI i)), some (.int (nI j)), some (.int (nI d)), some (.int 0)]) rfl ?_
  have lp3 : ∀ (n3 : Nat) (a : Nat) (A1 : Nat → Nat) (B1 : Nat → Nat) (M_3 : zM), Sm Mq M_3 [159, 160] → M_3[159]? = some (.inl (1, 22, .inr (.inl (al A1)))) → M_3[160]? = some (.inl (1, 22, .inr (.inl (al B1)))) → (a ≤ tA (gE al_ it tg pt bd sg co) n r i j d ∧ SafeM A1 ∧ SafeM B1) → tA (gE al_ it tg pt bd sg co) n r i j d + 1 - a < n3 → Zw 4 zm_MO_altOf 3 [some (.ref 139), some (.int (nI r)), some (.int (nI i)), some (.int (nI j)), some (.int (nI d)), some (.int (nI a))] [] M_3 (fun r9 M1 => r9 = some (.int (nI (tA (gE al_ it tg pt bd sg co) n r i j d))) ∧ ∃ A B, MM M1 o (fset (fset f 160 B) 159 A) ∧ Sm Mq M1 [159, 160] ∧ SafeM A ∧ SafeM B) := by
    intro n3
    induction n3 with
    | zero => intro a A1 B1 M_3 _ _ _ _ h; exact absurd h (Nat.not_lt_zero _)
    | succ n3 ih3 =>
      intro a A1 B1 M_3 s_3 f3_0 f3_1 hi3 hm3
      refine zw_n 5 rfl ?_
      refine zw_callV (as := [.int (nI r), .int (nI a), .int (nI i), .int (nI j)]) (rest := []) rfl rfl rfl (Sm.at s_3 (by decide) hM.1) rfl rfl rfl (by decide) (m_overAlt M_3 o (fset (fset f 160 B1) 159 A1) (MM.of (o' := o) (f' := fset (fset f 160 B1) 159 A1) hM s_3 (Sm.at s_3 (by decide) hM.1) (c1_cons f3_0 (c1_cons f3_1 c1_nil)) (fs_c (fs_c fs_n))) n gn al_ it pt tg bd hg hG (⟨hF.1, hF.2.1, hF.2.2.1, hF.2.2.2.1, hi3.2.1, hi3.2.2⟩) r a i j (by omega) (by omega) (by omega) (by omega)) (fun rz5240 Mz5241 hz5242 => ?_)
      obtain ⟨hAz5235, Az5233, Az5234, hMMz5236, hSz5237, hz5238, hz5239⟩ := hz5242
      rw [hAz5235]
      show Zw 4 zm_MO_altOf 12 [some (.ref 139), some (.int (nI r)), some (.int (nI i)), some (.int (nI j)), some (.int (nI d)), some (.int (nI a))] [.long (lN (rch (gE al_ it tg pt bd (f 156) (f 157)) (v3 (f 158)) i (r * 4 + a) (it (r * 4 + a)) j))] Mz5241 _
      refine zw_topl (x' := lN (rch (gE al_ it tg pt bd sg co) (wh (gE al_ it tg pt bd sg co) n) i (r * 4 + a) (it (r * 4 + a)) j)) (congrArg lN (rch_m h5 hv hcl hr (by omega) (Nat.le_refl _) hjc)) ?_
      refine zw_n 2 rfl ?_
      refine zw_topl (x' := (lN (rch (gE al_ it tg pt bd sg co) (wh (gE al_ it tg pt bd sg co) n) i (r * 4 + a) (it (r * 4 + a)) j / 2 ^ d))) (lsr rfl rfl (Nat.lt_trans (rch_lt _ _) (by decide)) (by omega)) ?_
      refine zw_n 2 rfl ?_
      refine zw_topl (lan (a := rch (gE al_ it tg pt bd sg co) (wh (gE al_ it tg pt bd sg co) n) i (r * 4 + a) (it (r * 4 + a)) j / 2 ^ d) (b := 1) rfl rfl) ?_
      refine zw_topl (x' := (lN (rch (gE al_ it tg pt bd sg co) (wh (gE al_ it tg pt bd sg co) n) i (r * 4 + a) (it (r * 4 + a)) j / 2 ^ d % 2))) (congrArg lN (Nat.and_one_is_mod _)) ?_
      refine zw_n 2 rfl ?_
      refine zw_lneN (a := rch (gE al_ it tg pt bd sg co) (wh (gE al_ it tg pt bd sg co) n) i (r * 4 + a) (it (r * 4 + a)) j / 2 ^ d % 2) (b := 0) rfl rfl rfl (by omega) (by omega) (fun c19 => ?_) (fun c19 => ?_)
      · -- 19 to 28
        have hae : a = tA (gE al_ it tg pt bd sg co) n r i j d := tA_eq hA hG.2.2.1 hr hij (show j < 4294967295 by omega) hd hbit hi3.1 (tbT c19)
        refine zw_n 1 rfl ?_
        exact zw_iret rfl rfl (⟨by rw [hae], _, _, (MM.of (o' := o) (f' := fset (fset f 160 Az5234) 159 Az5233) hM (Sm.trans s_3 hSz5237) (Sm.at hSz5237 (by decide) (Sm.at s_3 (by decide) hM.1)) (c1_cons (hMMz5236.2 159 (by decide) (by decide)) (c1_cons (hMMz5236.2 160 (by decide) (by decide)) c1_nil)) (fs_c (fs_c fs_n))), Sm.trans s_3 hSz5237, hz5238, hz5239⟩)
      · -- 19 to 22
        refine zw_inc rfl (x' := (nI (a + 1))) (ls' := [some (.ref 139), some (.int (nI r)), some (.int (nI i)), some (.int (nI j)), some (.int (nI d)), some (.int (nI (a + 1)))]) rfl (na (a := a) (b := 1) rfl rfl) rfl ?_
        refine zw_n 1 rfl ?_
        exact ih3 (a + 1) Az5233 Az5234 Mz5241 (Sm.trans s_3 hSz5237) (hMMz5236.2 159 (by decide) (by decide)) (hMMz5236.2 160 (by decide) (by decide)) (⟨tA_nx hA hG.2.2.1 hr hij (show j < 4294967295 by omega) hd hbit hi3.1 (tbF c19), hz5238, hz5239⟩) (by omega)
  exact lp3 _ 0 (f 159) (f 160) Mq Sm.rf (hM.2 159 (by decide) (by decide)) (hM.2 160 (by decide) (by decide)) (⟨Nat.zero_le _, hF.2.2.2.2.1, hF.2.2.2.2.2⟩) (Nat.lt_succ_self _)

set_option maxHeartbeats 4000000 in
set_option maxRecDepth 100000 in
theorem m_layEnds (Mq : zM) (o : Nat → Nat) (f : Nat → Nat → Nat) (hM : MM Mq o f)(n : Nat) (gn al_ it pt tg bd : Nat → Nat) (hg : RelG f n gn al_ it pt tg bd) (hG : SafeG n gn al_ it pt tg bd) (hF : SafeF f) (c : Nat) (sg li co : Nat → Nat) (hS : SafeT c sg li co) (h5 : ∀ p, p < c → f 156 p = sg p ∧ f 157 p = co p) (hv : VAll (gE al_ it tg pt bd sg co) n (c + 1) (f 158)) (hcl : Clo (gE al_ it tg pt bd sg co) n) (r a i j d : Nat) (hr : r < n) (ha : a < al_ r) (hij : i ≤ j) (hjc : j ≤ c) (hd : d < 40) (hC1 : tC (gE al_ it tg pt bd sg co) n (r * 4 + a) j d (it (r * 4 + a)) i = true) : Zm 4 zm_MO_layEnds [.ref 139, .int (nI r), .int (nI a), .int (nI i), .int (nI j), .int (nI d)] Mq (fun r9 M1 => r9 = none ∧ ∃ E9 C, MM M1 o (fset (fset f 169 C) 168 E9) ∧ Sm Mq M1 [168, 169] ∧ ∀ z, z < it (r * 4 + a) → E9 z = tP (gE al_ it tg pt bd sg co) n (r * 4 + a) i j d (z + 1)) := by
  show Zw 4 zm_MO_layEnds 0 [some (.ref 139), some (.int (nI r)), some (.int (nI a)), some (.int (nI i)), some (.int (nI j)), some (.int (nI d)), none, none, none] [] Mq _
  have hn8 := hG.1
  have ha4 := hG.2.2.1 r
  have hi5 := hG.2.2.2.1 (r * 4 + a)
  have hc20 := hS.1
  refine zw_n 6 rfl ?_
  refine zw_callV (as := [.int (nI r), .int (nI a), .int (nI i), .int (nI j), .int (nI d)]) (rest := []) rfl rfl rfl hM.1 rfl rfl rfl (by decide) (m_layCan Mq o f hM n gn al_ it pt tg bd hg hG hF c sg li co hS h5 hv hcl r a i j d (by omega) (by omega) (by omega) (by omega) (by omega)) (fun rz5248 Mz5249 hz5250 => ?_)
  obtain ⟨hAz5244, Az5243, hMMz5245, hSz5246, hz5247⟩ := hz5250
  rw [hAz5244]
  show Zw 4 zm_MO_layEnds 11 [some (.ref 139), some (.int (nI r)), some (.int (nI a)), some (.int (nI i)), some (.int (nI j)), some (.int (nI d)), none, none, none] [] Mz5249 _
  refine zw_n 4 (ls' := [some (.ref 139), some (.int (nI r)), some (.int (nI a)), some (.int (nI i)), some (.int (nI j)), some (.int (nI d)), some (.int (nI i)), some (.int 0), none]) rfl ?_
  have lp17 : ∀ (n17 : Nat) (pk : Nat) (k : Nat) (E1 : Nat → Nat) (M_17 : zM), Sm Mq M_17 [168, 169] → M_17[168]? = some (.inl (0, 6, .inl (ai E1))) → M_17[169]? = some (.inl (3, 126, .inl (ai Az5243))) → (k ≤ it (r * 4 + a) ∧ pk = tP (gE al_ it tg pt bd sg co) n (r * 4 + a) i j d k ∧ ∀ z, z < k → E1 z = tP (gE al_ it tg pt bd sg co) n (r * 4 + a) i j d (z + 1)) → it (r * 4 + a) - k < n17 → Zw 4 zm_MO_layEnds 17 [some (.ref 139), some (.int (nI r)), some (.int (nI a)), some (.int (nI i)), some (.int (nI j)), some (.int (nI d)), some (.int (nI pk)), some (.int (nI k)), none] [] M_17 (fun r9 M1 => r9 = none ∧ ∃ E9 C, MM M1 o (fset (fset f 169 C) 168 E9) ∧ Sm Mq M1 [168, 169] ∧ ∀ z, z < it (r * 4 + a) → E9 z = tP (gE al_ it tg pt bd sg co) n (r * 4 + a) i j d (z + 1)) := by
    intro n17
    induction n17 with
    | zero => intro pk k E1 M_17 _ _ _ _ h; exact absurd h (Nat.not_lt_zero _)
    | succ n17 ih17 =>
      intro pk k E1 M_17 s_17 f17_0 f17_1 hi17 hm17
      refine zw_n 4 rfl ?_
      refine zw_callV (as := [.int (nI r), .int (nI a)]) (rest := [.int (nI k)]) rfl rfl rfl (Sm.at s_17 (by decide) hM.1) rfl rfl rfl (by decide) (m_items M_17 o (fset (fset f 169 Az5243) 168 E1) (MM.of (o' := o) (f' := fset (fset f 169 Az5243) 168 E1) hM s_17 (Sm.at s_17 (by decide) hM.1) (c1_cons f17_0 (c1_cons f17_1 c1_nil)) (fs_c (fs_c fs_n))) n gn al_ it pt tg bd hg hG hF r a (by omega) (by omega)) (fun rz5251 Mz5252 hz5253 => ?_)
      rw [hz5253.1, hz5253.2]
      show Zw 4 zm_MO_layEnds 25 [some (.ref 139), some (.int (nI r)), some (.int (nI a)), some (.int (nI i)), some (.int (nI j)), some (.int (nI d)), some (.int (nI pk)), some (.int (nI k)), none] [.int (nI (it (r * 4 + a))), .int (nI k)] M_17 _
      refine zw_igeN (a := k) (b := it (r * 4 + a)) rfl rfl rfl (by omega) (by omega) (fun c25 => ?_) (fun c25 => ?_)
      · -- 25 to 95
        exact zw_vret rfl rfl (⟨rfl, E1, Az5243, (MM.of (o' := o) (f' := fset (fset f 169 Az5243) 168 E1) hM s_17 (Sm.at s_17 (by decide) hM.1) (c1_cons f17_0 (c1_cons f17_1 c1_nil)) (fs_c (fs_c fs_n))), s_17, fun z hz => hi17.2.2 z (by omega)⟩)
      · -- 25 to 28
        obtain rfl := hi17.2.1
        have hpk := tP_ok (show j < 4294967295 by omega) hij hC1 k (show k ≤ it (r * 4 + a) by omega)
        have hst := tP_st (show j < 4294967295 by omega) hij hC1 (show k < it (r * 4 + a) by omega)
        have hpk1 := tP_ok (show j < 4294967295 by omega) hij hC1 (k + 1) (show k + 1 ≤ it (r * 4 + a) by omega)
        have htl : tL (gE al_ it tg pt bd sg co) n (r * 4 + a) j d k (tP (gE al_ it tg pt bd sg co) n (r * 4 + a) i j d k) = tP (gE al_ it tg pt bd sg co) n (r * 4 + a) i j d (k + 1) := rfl
        refine zw_n 2 (ls' := [some (.ref 139), some (.int (nI r)), some (.int (nI a)), some (.int (nI i)), some (.int (nI j)), some (.int (nI d)), some (.int (nI (tP (gE al_ it tg pt bd sg co) n (r * 4 + a) i j d k))), some (.int (nI k)), some (.int (nI (tP (gE al_ it tg pt bd sg co) n (r * 4 + a) i j d k)))]) rfl ?_
        have lp32 : ∀ (n32 : Nat) (q : Nat), (tP (gE al_ it tg pt bd sg co) n (r * 4 + a) i j d k ≤ q ∧ q ≤ tL (gE al_ it tg pt bd sg co) n (r * 4 + a) j d k (tP (gE al_ it tg pt bd sg co) n (r * 4 + a) i j d k)) → tL (gE al_ it tg pt bd sg co) n (r * 4 + a) j d k (tP (gE al_ it tg pt bd sg co) n (r * 4 + a) i j d k) + 1 - q < n32 → Zw 4 zm_MO_layEnds 32 [some (.ref 139), some (.int (nI r)), some (.int (nI a)), some (.int (nI i)), some (.int (nI j)), some (.int (nI d)), some (.int (nI (tP (gE al_ it tg pt bd sg co) n (r * 4 + a) i j d k))), some (.int (nI k)), some (.int (nI q))] [] M_17 (fun r9 M1 => r9 = none ∧ ∃ E9 C, MM M1 o (fset (fset f 169 C) 168 E9) ∧ Sm Mq M1 [168, 169] ∧ ∀ z, z < it (r * 4 + a) → E9 z = tP (gE al_ it tg pt bd sg co) n (r * 4 + a) i j d (z + 1)) := by
          intro n32
          induction n32 with
          | zero => intro q _ h; exact absurd h (Nat.not_lt_zero _)
          | succ n32 ih32 =>
            intro q hi32 hm32
            refine zw_n 1 rfl ?_
            refine zw_get (v := .ref 169) rfl (Sm.at s_17 (by decide) hM.1) rfl ?_
            refine zw_n 4 rfl ?_
            refine zw_top (na (a := k) (b := 1) rfl rfl) ?_
            refine zw_n 1 rfl ?_
            refine zw_top (nm (a := 21) (b := k + 1) rfl rfl) ?_
            refine zw_n 2 rfl ?_
            refine zw_top (na (a := 21 * (k + 1)) (b := q) rfl rfl) ?_
            refine zw_bald (f := ai Az5243) (j := ((21 * (k + 1)) + q)) rfl f17_1 rfl rfl (by decide) (by omega) ?_
            refine zw_top (x' := (nI (if tC (gE al_ it tg pt bd sg co) n (r * 4 + a) j d (it (r * 4 + a) - (k + 1)) q = true then 1 else 0))) (congrArg nI (hz5247 (k + 1) (Nat.zero_le _) (show k + 1 ≤ it (r * 4 + a) by omega) q (by omega) (by omega))) ?_
            refine zw_eq0N (a := if tC (gE al_ it tg pt bd sg co) n (r * 4 + a) j d (it (r * 4 + a) - (k + 1)) q = true then 1 else 0) rfl rfl (ite_b) (fun c47 => ?_) (fun c47 => ?_)
            · -- 47 to 70
              refine zw_inc rfl (x' := (nI (q + 1))) (ls' := [some (.ref 139), some (.int (nI r)), some (.int (nI a)), some (.int (nI i)), some (.int (nI j)), some (.int (nI d)), some (.int (nI (tP (gE al_ it tg pt bd sg co) n (r * 4 + a) i j d k))), some (.int (nI k)), some (.int (nI (q + 1)))]) rfl (na (a := q) (b := 1) rfl rfl) rfl ?_
              refine zw_n 1 rfl ?_
              exact ih32 (q + 1) (⟨by omega, by first | exact tL_le hst.2.2 hi32.2 hi32.1 (fun q9 => ite_eq0 c47 q9.1) | exact tL_le hst.2.2 hi32.2 hi32.1 (fun q9 => ite_eq0 c67 q9.2)⟩) (by omega)
            · -- 47 to 50
              refine zw_n 4 rfl ?_
              refine zw_callS (as := [.int (nI r), .int (nI a), .int (nI k)]) (rest := [.ref 139]) rfl rfl rfl rfl rfl rfl (by decide) (m_itemAt _ r a k) (fun rz5254 Mz5255 hz5256 => ?_)
              rw [hz5256.1, hz5256.2]
              show Zw 4 zm_MO_layEnds 58 [some (.ref 139), some (.int (nI r)), some (.int (nI a)), some (.int (nI i)), some (.int (nI j)), some (.int (nI d)), some (.int (nI (tP (gE al_ it tg pt bd sg co) n (r * 4 + a) i j d k))), some (.int (nI k)), some (.int (nI q))] [.int (nI (49 + 3 * ((r * 4 + a) * 5 + k))), .ref 139] M_17 _
              refine zw_n 3 rfl ?_
              refine zw_callV (as := [.int (nI (49 + 3 * ((r * 4 + a) * 5 + k))), .int (nI (tP (gE al_ it tg pt bd sg co) n (r * 4 + a) i j d k)), .int (nI q), .int (nI d)]) (rest := []) rfl rfl rfl (Sm.at s_17 (by decide) hM.1) rfl rfl rfl (by decide) (m_has M_17 o (fset (fset f 169 Az5243) 168 E1) (MM.of (o' := o) (f' := fset (fset f 169 Az5243) 168 E1) hM s_17 (Sm.at s_17 (by decide) hM.1) (c1_cons f17_0 (c1_cons f17_1 c1_nil)) (fs_c (fs_c fs_n))) n gn al_ it pt tg bd hg hG hF c sg li co hS h5 hv hcl ((r * 4 + a) * 5 + k) (tP (gE al_ it tg pt bd sg co) n (r * 4 + a) i j d k) q d ⟨r, a, k, hr, ha, by omega, rfl⟩ (by omega) (by omega) (by omega) (by omega)) (fun rz5257 Mz5258 hz5259 => ?_)
              rw [hz5259.1, hz5259.2]
              show Zw 4 zm_MO_layEnds 67 [some (.ref 139), some (.int (nI r)), some (.int (nI a)), some (.int (nI i)), some (.int (nI j)), some (.int (nI d)), some (.int (nI (tP (gE al_ it tg pt bd sg co) n (r * 4 + a) i j d k))), some (.int (nI k)), some (.int (nI q))] [.int (nI (if tH (gE al_ it tg pt bd sg co) n ((r * 4 + a) * 5 + k) (tP (gE al_ it tg pt bd sg co) n (r * 4 + a) i j d k) q d = true then 1 else 0))] M_17 _
              refine zw_ne0N (a := if tH (gE al_ it tg pt bd sg co) n ((r * 4 + a) * 5 + k) (tP (gE al_ it tg pt bd sg co) n (r * 4 + a) i j d k) q d = true then 1 else 0) rfl rfl (ite_b) (fun c67 => ?_) (fun c67 => ?_)
              · -- 67 to 76
                have hqe : q = tL (gE al_ it tg pt bd sg co) n (r * 4 + a) j d k (tP (gE al_ it tg pt bd sg co) n (r * 4 + a) i j d k) := tL_eq hst.2.2 hi32.2 hi32.1 (ite_ne c47) (ite_ne c67)
                refine zw_n 1 rfl ?_
                refine zw_get (v := .ref 168) rfl (Sm.at s_17 (by decide) hM.1) rfl ?_
                refine zw_n 2 rfl ?_
                refine zw_iastN (g := E1) (j := k) (v := q) rfl f17_0 rfl (by decide) (by omega) (rfl) ?_
                generalize ez5261 : List.set M_17 168 _ = Mz5260
                refine zw_n 2 (ls' := [some (.ref 139), some (.int (nI r)), some (.int (nI a)), some (.int (nI i)), some (.int (nI j)), some (.int (nI d)), some (.int (nI q)), some (.int (nI k)), some (.int (nI q))]) rfl ?_
                refine zw_inc rfl (x' := (nI (k + 1))) (ls' := [some (.ref 139), some (.int (nI r)), some (.int (nI a)), some (.int (nI i)), some (.int (nI j)), some (.int (nI d)), some (.int (nI q)), some (.int (nI (k + 1))), some (.int (nI q))]) rfl (na (a := k) (b := 1) rfl rfl) rfl ?_
                refine zw_n 1 rfl ?_
                refine zw_ls (ls' := [some (.ref 139), some (.int (nI r)), some (.int (nI a)), some (.int (nI i)), some (.int (nI j)), some (.int (nI d)), some (.int (nI q)), some (.int (nI (k + 1))), none]) ⟨Or.inr rfl, Or.inr rfl, Or.inr rfl, Or.inr rfl, Or.inr rfl, Or.inr rfl, Or.inr rfl, Or.inr rfl, Or.inl rfl, trivial⟩ ?_
                exact ih17 q (k + 1) (up E1 k q) Mz5260 (Sm.tset s_17 ez5261 (by decide)) (zat_self ez5261 f17_0) (zat_set ez5261 (by decide) f17_1) (⟨by omega, hqe, fun z hz => by
              by_cases e9 : z = k
              · rw [e9, up_s, hqe]; rfl
              · rw [up_n e9]; exact hi17.2.2 z (by omega)⟩) (by omega)
              · -- 67 to 70
                refine zw_inc rfl (x' := (nI (q + 1))) (ls' := [some (.ref 139), some (.int (nI r)), some (.int (nI a)), some (.int (nI i)), some (.int (nI j)), some (.int (nI d)), some (.int (nI (tP (gE al_ it tg pt bd sg co) n (r * 4 + a) i j d k))), some (.int (nI k)), some (.int (nI (q + 1)))]) rfl (na (a := q) (b := 1) rfl rfl) rfl ?_
                refine zw_n 1 rfl ?_
                exact ih32 (q + 1) (⟨by omega, by first | exact tL_le hst.2.2 hi32.2 hi32.1 (fun q9 => ite_eq0 c47 q9.1) | exact tL_le hst.2.2 hi32.2 hi32.1 (fun q9 => ite_eq0 c67 q9.2)⟩) (by omega)
        exact lp32 _ (tP (gE al_ it tg pt bd sg co) n (r * 4 + a) i j d k) (⟨Nat.le_refl _, hst.1⟩) (Nat.lt_succ_self _)
  exact lp17 _ i 0 (f 168) Mz5249 (Sm.tw Sm.rf hSz5246 (by decide)) (Sm.at hSz5246 (by decide) (hM.2 168 (by decide) (by decide))) (hMMz5245.2 169 (by decide) (by decide)) (⟨Nat.zero_le _, rfl, fun z hz => by omega⟩) (Nat.lt_succ_self _)

set_option maxHeartbeats 4000000 in
set_option maxRecDepth 100000 in
theorem m_waits (Mq : zM) (o : Nat → Nat) (f : Nat → Nat → Nat) (hM : MM Mq o f) (hw : o 38 < 400) (t i j d ab lv bd : Nat) : Zm 0 zm_MO_waitsFor [.ref 139, .int (nI t), .int (nI i), .int (nI j), .int (nI d), .int (nI ab), .int (nI lv), .int (nI bd)] Mq (fun r9 M1 => r9 = none ∧ MM M1 (up o 38 (o 38 + 1)) (fset f 167 (pu8 (f 167) (o 38) t i j d ab lv bd)) ∧ Sm Mq M1 [139, 167]) := by
  show Zw 0 zm_MO_waitsFor 0 [some (.ref 139), some (.int (nI t)), some (.int (nI i)), some (.int (nI j)), some (.int (nI d)), some (.int (nI ab)), some (.int (nI lv)), some (.int (nI bd)), none] [] Mq _
  refine zw_n 2 rfl ?_
  refine zw_get (v := .int (nI (o 38))) rfl hM.1 rfl ?_
  refine zw_n 1 rfl ?_
  refine zw_top (nm (a := 8) (b := o 38) rfl rfl) ?_
  refine zw_n 2 (ls' := [some (.ref 139), some (.int (nI t)), some (.int (nI i)), some (.int (nI j)), some (.int (nI d)), some (.int (nI ab)), some (.int (nI lv)), some (.int (nI bd)), some (.int (nI (8 * (o 38))))]) rfl ?_
  refine zw_get (v := .ref 167) rfl hM.1 rfl ?_
  refine zw_n 2 rfl ?_
  refine zw_iastN (g := (f 167)) (j := (o 38 * 8 + 0)) (v := t) rfl (hM.2 167 (by decide) (by decide)) (congrArg nI (by omega)) (by decide) (by omega) (rfl) ?_
  generalize ez5263 : List.set Mq 167 _ = Mz5262
  refine zw_n 1 rfl ?_
  refine zw_get (v := .ref 167) rfl (zat_set ez5263 (by decide) hM.1) rfl ?_
  refine zw_n 3 rfl ?_
  refine zw_top (na (a := 8 * (o 38)) (b := 2) rfl rfl) ?_
  refine zw_n 1 rfl ?_
  refine zw_iastN (g := (up (f 167) (o 38 * 8 + 0) t)) (j := (o 38 * 8 + 2)) (v := i) rfl (zat_self ez5263 (hM.2 167 (by decide) (by decide))) (congrArg nI (by omega)) (by decide) (by omega) (rfl) ?_
  generalize ez5265 : List.set Mz5262 167 _ = Mz5264
  refine zw_n 1 rfl ?_
  refine zw_get (v := .ref 167) rfl (zat_set ez5265 (by decide) (zat_set ez5263 (by decide) hM.1)) rfl ?_
  refine zw_n 3 rfl ?_
  refine zw_top (na (a := 8 * (o 38)) (b := 3) rfl rfl) ?_
  refine zw_n 1 rfl ?_
  refine zw_iastN (g := (up (up (f 167) (o 38 * 8 + 0) t) (o 38 * 8 + 2) i)) (j := (o 38 * 8 + 3)) (v := j) rfl (zat_self ez5265 (zat_self ez5263 (hM.2 167 (by decide) (by decide)))) (congrArg nI (by omega)) (by decide) (by omega) (rfl) ?_
  generalize ez5267 : List.set Mz5264 167 _ = Mz5266
  refine zw_n 1 rfl ?_
  refine zw_get (v := .ref 167) rfl (zat_set ez5267 (by decide) (zat_set ez5265 (by decide) (zat_set ez5263 (by decide) hM.1))) rfl ?_
  refine zw_n 3 rfl ?_
  refine zw_top (na (a := 8 * (o 38)) (b := 4) rfl rfl) ?_
  refine zw_n 1 rfl ?_
  refine zw_iastN (g := (up (up (up (f 167) (o 38 * 8 + 0) t) (o 38 * 8 + 2) i) (o 38 * 8 + 3) j)) (j := (o 38 * 8 + 4)) (v := d) rfl (zat_self ez5267 (zat_self ez5265 (zat_self ez5263 (hM.2 167 (by decide) (by decide))))) (congrArg nI (by omega)) (by decide) (by omega) (rfl) ?_
  generalize ez5269 : List.set Mz5266 167 _ = Mz5268
  refine zw_n 1 rfl ?_
  refine zw_get (v := .ref 167) rfl (zat_set ez5269 (by decide) (zat_set ez5267 (by decide) (zat_set ez5265 (by decide) (zat_set ez5263 (by decide) hM.1)))) rfl ?_
  refine zw_n 3 rfl ?_
  refine zw_top (na (a := 8 * (o 38)) (b := 5) rfl rfl) ?_
  refine zw_n 1 rfl ?_
  refine zw_iastN (g := (up (up (up (up (f 167) (o 38 * 8 + 0) t) (o 38 * 8 + 2) i) (o 38 * 8 + 3) j) (o 38 * 8 + 4) d)) (j := (o 38 * 8 + 5)) (v := ab) rfl (zat_self ez5269 (zat_self ez5267 (zat_self ez5265 (zat_self ez5263 (hM.2 167 (by decide) (by decide)))))) (congrArg nI (by omega)) (by decide) (by omega) (rfl) ?_
  generalize ez5271 : List.set Mz5268 167 _ = Mz5270
  refine zw_n 1 rfl ?_
  refine zw_get (v := .ref 167) rfl (zat_set ez5271 (by decide) (zat_set ez5269 (by decide) (zat_set ez5267 (by decide) (zat_set ez5265 (by decide) (zat_set ez5263 (by decide) hM.1))))) rfl ?_
  refine zw_n 3 rfl ?_
  refine zw_top (na (a := 8 * (o 38)) (b := 6) rfl rfl) ?_
  refine zw_n 1 rfl ?_
  refine zw_iastN (g := (up (up (up (up (up (f 167) (o 38 * 8 + 0) t) (o 38 * 8 + 2) i) (o 38 * 8 + 3) j) (o 38 * 8 + 4) d) (o 38 * 8 + 5) ab)) (j := (o 38 * 8 + 6)) (v := lv) rfl (zat_self ez5271 (zat_self ez5269 (zat_self ez5267 (zat_self ez5265 (zat_self ez5263 (hM.2 167 (by decide) (by decide))))))) (congrArg nI (by omega)) (by decide) (by omega) (rfl) ?_
  generalize ez5273 : List.set Mz5270 167 _ = Mz5272
  refine zw_n 1 rfl ?_
  refine zw_get (v := .ref 167) rfl (zat_set ez5273 (by decide) (zat_set ez5271 (by decide) (zat_set ez5269 (by decide) (zat_set ez5267 (by decide) (zat_set ez5265 (by decide) (zat_set ez5263 (by decide) hM.1)))))) rfl ?_
  refine zw_n 3 rfl ?_
  refine zw_top (na (a := 8 * (o 38)) (b := 7) rfl rfl) ?_
  refine zw_n 1 rfl ?_
  refine zw_iastN (g := (up (up (up (up (up (up (f 167) (o 38 * 8 + 0) t) (o 38 * 8 + 2) i) (o 38 * 8 + 3) j) (o 38 * 8 + 4) d) (o 38 * 8 + 5) ab) (o 38 * 8 + 6) lv)) (j := (o 38 * 8 + 7)) (v := bd) rfl (zat_self ez5273 (zat_self ez5271 (zat_self ez5269 (zat_self ez5267 (zat_self ez5265 (zat_self ez5263 (hM.2 167 (by decide) (by decide)))))))) (congrArg nI (by omega)) (by decide) (by omega) (rfl) ?_
  generalize ez5275 : List.set Mz5272 167 _ = Mz5274
  refine zw_n 2 rfl ?_
  refine zw_get (v := .int (nI (o 38))) rfl (zat_set ez5275 (by decide) (zat_set ez5273 (by decide) (zat_set ez5271 (by decide) (zat_set ez5269 (by decide) (zat_set ez5267 (by decide) (zat_set ez5265 (by decide) (zat_set ez5263 (by decide) hM.1))))))) rfl ?_
  refine zw_n 2 rfl ?_
  refine zw_top (na (a := o 38) (b := 1) rfl rfl) ?_
  refine zw_put rfl (zat_set ez5275 (by decide) (zat_set ez5273 (by decide) (zat_set ez5271 (by decide) (zat_set ez5269 (by decide) (zat_set ez5267 (by decide) (zat_set ez5265 (by decide) (zat_set ez5263 (by decide) hM.1))))))) (rfl) (Nat.le_of_ble_eq_true rfl) ?_
  generalize ez5277 : List.set Mz5274 139 _ = Mz5276
  exact zw_vret rfl rfl (⟨rfl, (MM.of (o' := up o 38 ((o 38) + 1)) (f' := fset f 167 (up (up (up (up (up (up (up (f 167) (o 38 * 8 + 0) t) (o 38 * 8 + 2) i) (o 38 * 8 + 3) j) (o 38 * 8 + 4) d) (o 38 * 8 + 5) ab) (o 38 * 8 + 6) lv) (o 38 * 8 + 7) bd)) hM (Sm.tset (Sm.tset (Sm.tset (Sm.tset (Sm.tset (Sm.tset (Sm.tset (Sm.tset Sm.rf ez5263 (by decide)) ez5265 (by decide)) ez5267 (by decide)) ez5269 (by decide)) ez5271 (by decide)) ez5273 (by decide)) ez5275 (by decide)) ez5277 (by decide)) (zat_self ez5277 (zat_set ez5275 (by decide) (zat_set ez5273 (by decide) (zat_set ez5271 (by decide) (zat_set ez5269 (by decide) (zat_set ez5267 (by decide) (zat_set ez5265 (by decide) (zat_set ez5263 (by decide) hM.1)))))))) (c1_skip (c1_cons (zat_set ez5277 (by decide) (zat_self ez5275 (zat_self ez5273 (zat_self ez5271 (zat_self ez5269 (zat_self ez5267 (zat_self ez5265 (zat_self ez5263 (hM.2 167 (by decide) (by decide)))))))))) c1_nil)) (fs_k (fs_c fs_n))), Sm.tset (Sm.tset (Sm.tset (Sm.tset (Sm.tset (Sm.tset (Sm.tset (Sm.tset Sm.rf ez5263 (by decide)) ez5265 (by decide)) ez5267 (by decide)) ez5269 (by decide)) ez5271 (by decide)) ez5273 (by decide)) ez5275 (by decide)) ez5277 (by decide)⟩)

set_option maxHeartbeats 4000000 in
set_option maxRecDepth 100000 in
theorem m_waits0 (Mq : zM) (o : Nat → Nat) (f : Nat → Nat → Nat) (hM : MM Mq o f) (hw : o 38 < 400) (j d : Nat) : Zm 0 zm_MO_waitsFor [.ref 139, .int 0, .int 0, .int (nI j), .int (nI d), .int (-1), .int 0, .int 0] Mq (fun r9 M1 => r9 = none ∧ MM M1 (up o 38 (o 38 + 1)) (fset f 167 (pu8 (f 167) (o 38) 0 0 j d 4294967295 0 0)) ∧ Sm Mq M1 [139, 167]) := by
  show Zw 0 zm_MO_waitsFor 0 [some (.ref 139), some (.int 0), some (.int 0), some (.int (nI j)), some (.int (nI d)), some (.int (-1)), some (.int 0), some (.int 0), none] [] Mq _
  refine zw_n 2 rfl ?_
  refine zw_get (v := .int (nI (o 38))) rfl hM.1 rfl ?_
  refine zw_n 1 rfl ?_
  refine zw_top (nm (a := 8) (b := o 38) rfl rfl) ?_
  refine zw_n 2 (ls' := [some (.ref 139), some (.int 0), some (.int 0), some (.int (nI j)), some (.int (nI d)), some (.int (-1)), some (.int 0), some (.int 0), some (.int (nI (8 * (o 38))))]) rfl ?_
  refine zw_get (v := .ref 167) rfl hM.1 rfl ?_
  refine zw_n 2 rfl ?_
  refine zw_iastN (g := (f 167)) (j := (o 38 * 8 + 0)) (v := 0) rfl (hM.2 167 (by decide) (by decide)) (congrArg nI (by omega)) (by decide) (by omega) (rfl) ?_
  generalize ez5279 : List.set Mq 167 _ = Mz5278
  refine zw_n 1 rfl ?_
  refine zw_get (v := .ref 167) rfl (zat_set ez5279 (by decide) hM.1) rfl ?_
  refine zw_n 3 rfl ?_
  refine zw_top (na (a := 8 * (o 38)) (b := 2) rfl rfl) ?_
  refine zw_n 1 rfl ?_
  refine zw_iastN (g := (up (f 167) (o 38 * 8 + 0) 0)) (j := (o 38 * 8 + 2)) (v := 0) rfl (zat_self ez5279 (hM.2 167 (by decide) (by decide))) (congrArg nI (by omega)) (by decide) (by omega) (rfl) ?_
  generalize ez5281 : List.set Mz5278 167 _ = Mz5280
  refine zw_n 1 rfl ?_
  refine zw_get (v := .ref 167) rfl (zat_set ez5281 (by decide) (zat_set ez5279 (by decide) hM.1)) rfl ?_
  refine zw_n 3 rfl ?_
  refine zw_top (na (a := 8 * (o 38)) (b := 3) rfl rfl) ?_
  refine zw_n 1 rfl ?_
  refine zw_iastN (g := (up (up (f 167) (o 38 * 8 + 0) 0) (o 38 * 8 + 2) 0)) (j := (o 38 * 8 + 3)) (v := j) rfl (zat_self ez5281 (zat_self ez5279 (hM.2 167 (by decide) (by decide)))) (congrArg nI (by omega)) (by decide) (by omega) (rfl) ?_
  generalize ez5283 : List.set Mz5280 167 _ = Mz5282
  refine zw_n 1 rfl ?_
  refine zw_get (v := .ref 167) rfl (zat_set ez5283 (by decide) (zat_set ez5281 (by decide) (zat_set ez5279 (by decide) hM.1))) rfl ?_
  refine zw_n 3 rfl ?_
  refine zw_top (na (a := 8 * (o 38)) (b := 4) rfl rfl) ?_
  refine zw_n 1 rfl ?_
  refine zw_iastN (g := (up (up (up (f 167) (o 38 * 8 + 0) 0) (o 38 * 8 + 2) 0) (o 38 * 8 + 3) j)) (j := (o 38 * 8 + 4)) (v := d) rfl (zat_self ez5283 (zat_self ez5281 (zat_self ez5279 (hM.2 167 (by decide) (by decide))))) (congrArg nI (by omega)) (by decide) (by omega) (rfl) ?_
  generalize ez5285 : List.set Mz5282 167 _ = Mz5284
  refine zw_n 1 rfl ?_
  refine zw_get (v := .ref 167) rfl (zat_set ez5285 (by decide) (zat_set ez5283 (by decide) (zat_set ez5281 (by decide) (zat_set ez5279 (by decide) hM.1)))) rfl ?_
  refine zw_n 3 rfl ?_
  refine zw_top (na (a := 8 * (o 38)) (b := 5) rfl rfl) ?_
  refine zw_n 1 rfl ?_
  refine zw_iastN (g := (up (up (up (up (f 167) (o 38 * 8 + 0) 0) (o 38 * 8 + 2) 0) (o 38 * 8 + 3) j) (o 38 * 8 + 4) d)) (j := (o 38 * 8 + 5)) (v := 4294967295) rfl (zat_self ez5285 (zat_self ez5283 (zat_self ez5281 (zat_self ez5279 (hM.2 167 (by decide) (by decide)))))) (congrArg nI (by omega)) (by decide) (by omega) (by decide) ?_
  generalize ez5287 : List.set Mz5284 167 _ = Mz5286
  refine zw_n 1 rfl ?_
  refine zw_get (v := .ref 167) rfl (zat_set ez5287 (by decide) (zat_set ez5285 (by decide) (zat_set ez5283 (by decide) (zat_set ez5281 (by decide) (zat_set ez5279 (by decide) hM.1))))) rfl ?_
  refine zw_n 3 rfl ?_
  refine zw_top (na (a := 8 * (o 38)) (b := 6) rfl rfl) ?_
  refine zw_n 1 rfl ?_
  refine zw_iastN (g := (up (up (up (up (up (f 167) (o 38 * 8 + 0) 0) (o 38 * 8 + 2) 0) (o 38 * 8 + 3) j) (o 38 * 8 + 4) d) (o 38 * 8 + 5) 4294967295)) (j := (o 38 * 8 + 6)) (v := 0) rfl (zat_self ez5287 (zat_self ez5285 (zat_self ez5283 (zat_self ez5281 (zat_self ez5279 (hM.2 167 (by decide) (by decide))))))) (congrArg nI (by omega)) (by decide) (by omega) (rfl) ?_
  generalize ez5289 : List.set Mz5286 167 _ = Mz5288
  refine zw_n 1 rfl ?_
  refine zw_get (v := .ref 167) rfl (zat_set ez5289 (by decide) (zat_set ez5287 (by decide) (zat_set ez5285 (by decide) (zat_set ez5283 (by decide) (zat_set ez5281 (by decide) (zat_set ez5279 (by decide) hM.1)))))) rfl ?_
  refine zw_n 3 rfl ?_
  refine zw_top (na (a := 8 * (o 38)) (b := 7) rfl rfl) ?_
  refine zw_n 1 rfl ?_
  refine zw_iastN (g := (up (up (up (up (up (up (f 167) (o 38 * 8 + 0) 0) (o 38 * 8 + 2) 0) (o 38 * 8 + 3) j) (o 38 * 8 + 4) d) (o 38 * 8 + 5) 4294967295) (o 38 * 8 + 6) 0)) (j := (o 38 * 8 + 7)) (v := 0) rfl (zat_self ez5289 (zat_self ez5287 (zat_self ez5285 (zat_self ez5283 (zat_self ez5281 (zat_self ez5279 (hM.2 167 (by decide) (by decide)))))))) (congrArg nI (by omega)) (by decide) (by omega) (rfl) ?_
  generalize ez5291 : List.set Mz5288 167 _ = Mz5290
  refine zw_n 2 rfl ?_
  refine zw_get (v := .int (nI (o 38))) rfl (zat_set ez5291 (by decide) (zat_set ez5289 (by decide) (zat_set ez5287 (by decide) (zat_set ez5285 (by decide) (zat_set ez5283 (by decide) (zat_set ez5281 (by decide) (zat_set ez5279 (by decide) hM.1))))))) rfl ?_
  refine zw_n 2 rfl ?_
  refine zw_top (na (a := o 38) (b := 1) rfl rfl) ?_
  refine zw_put rfl (zat_set ez5291 (by decide) (zat_set ez5289 (by decide) (zat_set ez5287 (by decide) (zat_set ez5285 (by decide) (zat_set ez5283 (by decide) (zat_set ez5281 (by decide) (zat_set ez5279 (by decide) hM.1))))))) (rfl) (Nat.le_of_ble_eq_true rfl) ?_
  generalize ez5293 : List.set Mz5290 139 _ = Mz5292
  exact zw_vret rfl rfl (⟨rfl, (MM.of (o' := up o 38 ((o 38) + 1)) (f' := fset f 167 (up (up (up (up (up (up (up (f 167) (o 38 * 8 + 0) 0) (o 38 * 8 + 2) 0) (o 38 * 8 + 3) j) (o 38 * 8 + 4) d) (o 38 * 8 + 5) 4294967295) (o 38 * 8 + 6) 0) (o 38 * 8 + 7) 0)) hM (Sm.tset (Sm.tset (Sm.tset (Sm.tset (Sm.tset (Sm.tset (Sm.tset (Sm.tset Sm.rf ez5279 (by decide)) ez5281 (by decide)) ez5283 (by decide)) ez5285 (by decide)) ez5287 (by decide)) ez5289 (by decide)) ez5291 (by decide)) ez5293 (by decide)) (zat_self ez5293 (zat_set ez5291 (by decide) (zat_set ez5289 (by decide) (zat_set ez5287 (by decide) (zat_set ez5285 (by decide) (zat_set ez5283 (by decide) (zat_set ez5281 (by decide) (zat_set ez5279 (by decide) hM.1)))))))) (c1_skip (c1_cons (zat_set ez5293 (by decide) (zat_self ez5291 (zat_self ez5289 (zat_self ez5287 (zat_self ez5285 (zat_self ez5283 (zat_self ez5281 (zat_self ez5279 (hM.2 167 (by decide) (by decide)))))))))) c1_nil)) (fs_k (fs_c fs_n))), Sm.tset (Sm.tset (Sm.tset (Sm.tset (Sm.tset (Sm.tset (Sm.tset (Sm.tset Sm.rf ez5279 (by decide)) ez5281 (by decide)) ez5283 (by decide)) ez5285 (by decide)) ez5287 (by decide)) ez5289 (by decide)) ez5291 (by decide)) ez5293 (by decide)⟩)
