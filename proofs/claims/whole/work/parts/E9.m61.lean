set_option maxHeartbeats 4000000 in
set_option maxRecDepth 100000 in
theorem m_ways (Mq : zM) (o : Nat → Nat) (f : Nat → Nat → Nat) (hM : MM Mq o f)(n : Nat) (gn al_ it pt tg bd : Nat → Nat) (hg : RelG f n gn al_ it pt tg bd) (hG : SafeG n gn al_ it pt tg bd) (hF : SafeF f) (c : Nat) (sg li co : Nat → Nat) (ht : RelT f c sg li co) (hS : SafeT c sg li co) (emp : Nat → Prop) (rk : Nat → Nat) (hA : Acyc (gE al_ it tg pt bd sg co) n emp rk) (x : Int32) : Zm 10 zm_MO_ways [.ref 139, .int x] Mq (fun r9 M1 => r9 = some (.int (if tFit (gE al_ it tg pt bd sg co) n c then wayA (gE al_ it tg pt bd sg co) n (tSz (gE al_ it tg pt bd sg co) n c) (tRw (gE al_ it tg pt bd sg co) n c) x else -1)) ∧ ∃ o9 f9, MM M1 o9 f9 ∧ Sm Mq M1 [139, 156, 157, 158, 159, 160, 165, 167, 168, 169, 170, 171] ∧ Fsame f f9 [139, 156, 157, 158, 159, 160, 165, 167, 168, 169, 170, 171] ∧ SafeF f9 ∧ (∀ j, j ≠ 0 → j ≠ 33 → j ≠ 38 → o9 j = o j) ∧ o9 0 = 0) := by
  show Zw 10 zm_MO_ways 0 [some (.ref 139), some (.int x), none, none] [] Mq _
  have hc20 := hS.1
  have hn8 := hG.1
  refine zw_n 2 rfl ?_
  refine zw_put rfl hM.1 (rfl) (Nat.le_of_ble_eq_true rfl) ?_
  generalize ez5612 : List.set Mq 139 _ = Mz5611
  refine zw_n 2 rfl ?_
  refine zw_callV (as := [.int x]) (rest := []) rfl rfl rfl (zat_self ez5612 hM.1) rfl rfl rfl (by decide) (m_isNode Mz5611 (up o 0 0) f (MM.of (o' := up o 0 0) (f' := f) hM (Sm.tset Sm.rf ez5612 (by decide)) (zat_self ez5612 hM.1) (c1_skip (c1_cons (zat_set ez5612 (by decide) (hM.2 156 (by decide) (by decide))) (c1_cons (zat_set ez5612 (by decide) (hM.2 157 (by decide) (by decide))) (c1_cons (zat_set ez5612 (by decide) (hM.2 158 (by decide) (by decide))) (c1_cons (zat_set ez5612 (by decide) (hM.2 159 (by decide) (by decide))) (c1_cons (zat_set ez5612 (by decide) (hM.2 160 (by decide) (by decide))) (c1_cons (zat_set ez5612 (by decide) (hM.2 165 (by decide) (by decide))) (c1_cons (zat_set ez5612 (by decide) (hM.2 167 (by decide) (by decide))) (c1_cons (zat_set ez5612 (by decide) (hM.2 168 (by decide) (by decide))) (c1_cons (zat_set ez5612 (by decide) (hM.2 169 (by decide) (by decide))) (c1_cons (zat_set ez5612 (by decide) (hM.2 170 (by decide) (by decide))) (c1_cons (zat_set ez5612 (by decide) (hM.2 171 (by decide) (by decide))) c1_nil)))))))))))) (fs_k (fs_k (fs_k (fs_k (fs_k (fs_k (fs_k (fs_k (fs_k (fs_k (fs_k (fs_k fs_n))))))))))))) n gn al_ it pt tg bd hg hG hF c sg li co ht hS emp rk hA x) (fun rz5613 Mz5614 hz5615 => ?_)
  obtain ⟨hAT, oT, fT, hMT, hST, hFsT, hSFT, hoT, ho0T, hTT⟩ := hz5615
  rw [hAT]
  have hgT : RelG fT n gn al_ it pt tg bd := hg.keep (hFsT 140 (by decide)) (hFsT 153 (by decide))
  have htT : RelT fT c sg li co := ht.keep (hFsT 140 (by decide))
  show Zw 10 zm_MO_ways 10 [some (.ref 139), some (.int x), none, none] [.int (nI (if tFit (gE al_ it tg pt bd sg co) n c ∧ vlp x (tSz (gE al_ it tg pt bd sg co) n c) then 1 else 0))] Mz5614 _
  refine zw_ne0N (a := if tFit (gE al_ it tg pt bd sg co) n c ∧ vlp x (tSz (gE al_ it tg pt bd sg co) n c) then 1 else 0) rfl rfl (ite_b) (fun c10 => ?_) (fun c10 => ?_)
  · -- 10 to 15
    have hfit : tFit (gE al_ it tg pt bd sg co) n c := (ite_ne c10).1
    have hTs := (hTT hfit).1
    have hTr : TrR (gE al_ it tg pt bd sg co) n c (oT 33) (fT 165) := hTs.rows (E := (gE al_ it tg pt bd sg co)) hA hn8 hG.2.2.1 hS.2.2.2 hG.2.2.2.2.2.2 hc20 hfit
    have hle := hTr.le
    obtain ⟨hcz, hcT⟩ := hTs.can (by omega)
    have hcq : tEq (oT 33) (fT 165) (tRw (gE al_ it tg pt bd sg co) n c) := hcT
    have hx9 := (ite_ne c10).2
    have hx8 : x.toInt < oT 33 := by rw [hcz]; exact hx9.2
    obtain ⟨xq, hqx⟩ : ∃ xq : Nat, x.toInt.toNat = xq := ⟨_, rfl⟩
    have hex : x = nI xq := by rw [← hqx]; exact i32_nat (hx9.1)
    refine zw_lse (ls' := [some (.ref 139), some (.int (nI xq)), none, none]) (by rw [← hex]) ?_
    have hcq2 : tEq (tSz (gE al_ it tg pt bd sg co) n c) (fT 165) (tRw (gE al_ it tg pt bd sg co) n c) := hcz ▸ hcq
    have h0 := hTr.f0 xq (by omega)
    have h23 := hTr.f23 xq (by omega)
    have h3 := hTr.f3 xq (by omega)
    have h4 := hTr.f4 xq (by omega)
    have ha4 := hG.2.2.1 (fT 165 (xq * 8 + 0))
    refine zw_n 4 (ls' := [some (.ref 139), some (.int (nI xq)), some (.int 0), some (.int 0)]) rfl ?_
    have lp19 : ∀ (n19 : Nat) (b : Nat) (a : Nat) (C1 : Nat → Nat) (N1 : Nat → Nat) (M_19 : zM), Sm Mz5614 M_19 [139, 156, 157, 158, 159, 160, 165, 167, 168, 169, 170, 171] → M_19[170]? = some (.inl (0, 21, .inl (ai C1))) → M_19[171]? = some (.inl (0, 21, .inl (ai N1))) → M_19[139]? = some (.inr (12, [.int (nI (oT 0)), .ref 140, .ref 141, .ref 142, .ref 143, .int (nI (oT 5)), .ref 144, .int (nI (oT 7)), .int (nI (oT 8)), .int (nI (oT 9)), .int (nI (oT 10)), .ref 145, .ref 146, .ref 147, .ref 148, .ref 149, .ref 150, .ref 151, .ref 152, .ref 153, .ref 154, .ref 155, .ref 156, .ref 157, .ref 158, .ref 159, .ref 160, .ref 161, .ref 162, .ref 163, .ref 164, .int (nI (oT 31)), .ref 165, .int (nI (oT 33)), .ref 166, .ref 167, .ref 168, .ref 169, .int (nI (oT 38)), .ref 170, .ref 171, .ref 172, .ref 173, .ref 174, .ref 175, .int (nI (oT 45)), .int (nI (oT 46)), .int (nI (oT 47)), .long (lN (oT 48)), .ref 176])) → M_19[156]? = some (.inl (0, 21, .inl (ai (fT 156)))) → M_19[157]? = some (.inl (0, 21, .inl (ai (fT 157)))) → M_19[158]? = some (.inl (1, 3872, .inr (.inl (al (fT 158))))) → M_19[159]? = some (.inl (1, 22, .inr (.inl (al (fT 159))))) → M_19[160]? = some (.inl (1, 22, .inr (.inl (al (fT 160))))) → M_19[165]? = some (.inl (0, 3200, .inl (ai (fT 165)))) → M_19[167]? = some (.inl (0, 3200, .inl (ai (fT 167)))) → M_19[168]? = some (.inl (0, 6, .inl (ai (fT 168)))) → M_19[169]? = some (.inl (3, 126, .inl (ai (fT 169)))) → (a ≤ al_ (fT 165 (xq * 8 + 0)) ∧ b = sumN (fun a => wS (gE al_ it tg pt bd sg co) n ((fT 165 (xq * 8 + 0)) * 4 + a) (fT 165 (xq * 8 + 2)) (fT 165 (xq * 8 + 4)) (it ((fT 165 (xq * 8 + 0)) * 4 + a)) (fT 165 (xq * 8 + 3))) a) → al_ (fT 165 (xq * 8 + 0)) - a < n19 → Zw 10 zm_MO_ways 19 [some (.ref 139), some (.int (nI xq)), some (.int (nI b)), some (.int (nI a))] [] M_19 (fun r9 M1 => r9 = some (.int (if tFit (gE al_ it tg pt bd sg co) n c then wayA (gE al_ it tg pt bd sg co) n (tSz (gE al_ it tg pt bd sg co) n c) (tRw (gE al_ it tg pt bd sg co) n c) x else -1)) ∧ ∃ o9 f9, MM M1 o9 f9 ∧ Sm Mq M1 [139, 156, 157, 158, 159, 160, 165, 167, 168, 169, 170, 171] ∧ Fsame f f9 [139, 156, 157, 158, 159, 160, 165, 167, 168, 169, 170, 171] ∧ SafeF f9 ∧ (∀ j, j ≠ 0 → j ≠ 33 → j ≠ 38 → o9 j = o j) ∧ o9 0 = 0) := by
      intro n19
      induction n19 with
      | zero => intro b a C1 N1 M_19 _ _ _ _ _ _ _ _ _ _ _ _ _ _ h; exact absurd h (Nat.not_lt_zero _)
      | succ n19 ih19 =>
        intro b a C1 N1 M_19 s_19 f19_0 f19_1 f19_2 f19_3 f19_4 f19_5 f19_6 f19_7 f19_8 f19_9 f19_10 f19_11 hi19 hm19
        refine zw_n 2 rfl ?_
        refine zw_get (v := .ref 140) rfl f19_2 rfl ?_
        refine zw_n 4 rfl ?_
        refine zw_callV (as := [.int (nI xq), .int 0]) (rest := [.int 9, .ref 140, .int (nI a)]) rfl rfl rfl f19_2 rfl rfl rfl (by decide) (m_of M_19 oT (fset (fset fT 171 N1) 170 C1) (MM.of (o' := oT) (f' := fset (fset fT 171 N1) 170 C1) hMT s_19 f19_2 (c1_skip (c1_cons f19_3 (c1_cons f19_4 (c1_cons f19_5 (c1_cons f19_6 (c1_cons f19_7 (c1_cons f19_8 (c1_cons f19_9 (c1_cons f19_10 (c1_cons f19_11 (c1_cons f19_0 (c1_cons f19_1 c1_nil)))))))))))) (fs_k (fs_k (fs_k (fs_k (fs_k (fs_k (fs_k (fs_k (fs_k (fs_k (fs_c (fs_c fs_n))))))))))))) xq 0 (by omega) (by omega)) (fun rz5616 Mz5617 hz5618 => ?_)
        rw [hz5618.1, hz5618.2]
        show Zw 10 zm_MO_ways 32 [some (.ref 139), some (.int (nI xq)), some (.int (nI b)), some (.int (nI a))] [.int (nI ((fT 165) (xq * 8 + 0))), .int 9, .ref 140, .int (nI a)] M_19 _
        refine zw_n 1 rfl ?_
        refine zw_top (na (a := 9) (b := (fT 165) (xq * 8 + 0)) rfl rfl) ?_
        refine zw_iald (f := ai (fT 140)) (j := (9 + ((fT 165) (xq * 8 + 0)))) rfl (Sm.at s_19 (by decide) (hMT.2 140 (by decide) (by decide))) rfl (by decide) (by omega) ?_
        refine zw_top (x' := (nI (al_ (fT 165 (xq * 8 + 0))))) (congrArg nI (hgT.2.2.1 (fT 165 (xq * 8 + 0)) (by omega))) ?_
        refine zw_igeN (a := a) (b := al_ (fT 165 (xq * 8 + 0))) rfl rfl rfl (by omega) (by omega) (fun c34 => ?_) (fun c34 => ?_)
        · -- 34 to 75
          refine zw_n 1 rfl ?_
          exact zw_iret rfl rfl (⟨by rw [if_pos hfit, ← wayA_cg hcq2]; unfold wayA; rw [if_pos hx9, hqx]; unfold wyN; rw [hi19.2, show a = al_ (fT 165 (xq * 8 + 0)) by omega]; rfl, oT, fset (fset fT 171 N1) 170 C1, (MM.of (o' := oT) (f' := fset (fset fT 171 N1) 170 C1) hMT s_19 f19_2 (c1_skip (c1_cons f19_3 (c1_cons f19_4 (c1_cons f19_5 (c1_cons f19_6 (c1_cons f19_7 (c1_cons f19_8 (c1_cons f19_9 (c1_cons f19_10 (c1_cons f19_11 (c1_cons f19_0 (c1_cons f19_1 c1_nil)))))))))))) (fs_k (fs_k (fs_k (fs_k (fs_k (fs_k (fs_k (fs_k (fs_k (fs_k (fs_c (fs_c fs_n))))))))))))), Sm.trans (Sm.tw (Sm.tset Sm.rf ez5612 (by decide)) hST (by decide)) s_19, (fun a ha => ((fs_k (fs_k (fs_k (fs_k (fs_k (fs_k (fs_k (fs_k (fs_k (fs_k (fs_c (fs_c fs_n)))))))))))) a ha).trans (hFsT a (fun q9 => ha ((by decide : ∀ a, a ∈ [139, 156, 157, 158, 159, 160, 165, 167, 168, 169] → a ∈ [139, 156, 157, 158, 159, 160, 165, 167, 168, 169, 170, 171]) a q9)))), hSFT, (fun j h0 h1 h2 => (hoT j h0 h1 h2).trans (up_n h0)), ho0T⟩)
        · -- 34 to 37
          refine zw_n 5 rfl ?_
          refine zw_callV (as := [.int (nI xq), .int 0]) (rest := [.ref 139, .int (nI b)]) rfl rfl rfl f19_2 rfl rfl rfl (by decide) (m_of M_19 oT (fset (fset fT 171 N1) 170 C1) (MM.of (o' := oT) (f' := fset (fset fT 171 N1) 170 C1) hMT s_19 f19_2 (c1_skip (c1_cons f19_3 (c1_cons f19_4 (c1_cons f19_5 (c1_cons f19_6 (c1_cons f19_7 (c1_cons f19_8 (c1_cons f19_9 (c1_cons f19_10 (c1_cons f19_11 (c1_cons f19_0 (c1_cons f19_1 c1_nil)))))))))))) (fs_k (fs_k (fs_k (fs_k (fs_k (fs_k (fs_k (fs_k (fs_k (fs_k (fs_c (fs_c fs_n))))))))))))) xq 0 (by omega) (by omega)) (fun rz5619 Mz5620 hz5621 => ?_)
          rw [hz5621.1, hz5621.2]
          show Zw 10 zm_MO_ways 45 [some (.ref 139), some (.int (nI xq)), some (.int (nI b)), some (.int (nI a))] [.int (nI ((fT 165) (xq * 8 + 0))), .ref 139, .int (nI b)] M_19 _
          refine zw_n 4 rfl ?_
          refine zw_callV (as := [.int (nI xq), .int 2]) (rest := [.int (nI a), .int (nI ((fT 165) (xq * 8 + 0))), .ref 139, .int (nI b)]) rfl rfl rfl f19_2 rfl rfl rfl (by decide) (m_of M_19 oT (fset (fset fT 171 N1) 170 C1) (MM.of (o' := oT) (f' := fset (fset fT 171 N1) 170 C1) hMT s_19 f19_2 (c1_skip (c1_cons f19_3 (c1_cons f19_4 (c1_cons f19_5 (c1_cons f19_6 (c1_cons f19_7 (c1_cons f19_8 (c1_cons f19_9 (c1_cons f19_10 (c1_cons f19_11 (c1_cons f19_0 (c1_cons f19_1 c1_nil)))))))))))) (fs_k (fs_k (fs_k (fs_k (fs_k (fs_k (fs_k (fs_k (fs_k (fs_k (fs_c (fs_c fs_n))))))))))))) xq 2 (by omega) (by omega)) (fun rz5622 Mz5623 hz5624 => ?_)
          rw [hz5624.1, hz5624.2]
          show Zw 10 zm_MO_ways 52 [some (.ref 139), some (.int (nI xq)), some (.int (nI b)), some (.int (nI a))] [.int (nI ((fT 165) (xq * 8 + 2))), .int (nI a), .int (nI ((fT 165) (xq * 8 + 0))), .ref 139, .int (nI b)] M_19 _
          refine zw_n 3 rfl ?_
          refine zw_callV (as := [.int (nI xq), .int 3]) (rest := [.int (nI ((fT 165) (xq * 8 + 2))), .int (nI a), .int (nI ((fT 165) (xq * 8 + 0))), .ref 139, .int (nI b)]) rfl rfl rfl f19_2 rfl rfl rfl (by decide) (m_of M_19 oT (fset (fset fT 171 N1) 170 C1) (MM.of (o' := oT) (f' := fset (fset fT 171 N1) 170 C1) hMT s_19 f19_2 (c1_skip (c1_cons f19_3 (c1_cons f19_4 (c1_cons f19_5 (c1_cons f19_6 (c1_cons f19_7 (c1_cons f19_8 (c1_cons f19_9 (c1_cons f19_10 (c1_cons f19_11 (c1_cons f19_0 (c1_cons f19_1 c1_nil)))))))))))) (fs_k (fs_k (fs_k (fs_k (fs_k (fs_k (fs_k (fs_k (fs_k (fs_k (fs_c (fs_c fs_n))))))))))))) xq 3 (by omega) (by omega)) (fun rz5625 Mz5626 hz5627 => ?_)
          rw [hz5627.1, hz5627.2]
          show Zw 10 zm_MO_ways 58 [some (.ref 139), some (.int (nI xq)), some (.int (nI b)), some (.int (nI a))] [.int (nI ((fT 165) (xq * 8 + 3))), .int (nI ((fT 165) (xq * 8 + 2))), .int (nI a), .int (nI ((fT 165) (xq * 8 + 0))), .ref 139, .int (nI b)] M_19 _
          refine zw_n 3 rfl ?_
          refine zw_callV (as := [.int (nI xq), .int 4]) (rest := [.int (nI ((fT 165) (xq * 8 + 3))), .int (nI ((fT 165) (xq * 8 + 2))), .int (nI a), .int (nI ((fT 165) (xq * 8 + 0))), .ref 139, .int (nI b)]) rfl rfl rfl f19_2 rfl rfl rfl (by decide) (m_of M_19 oT (fset (fset fT 171 N1) 170 C1) (MM.of (o' := oT) (f' := fset (fset fT 171 N1) 170 C1) hMT s_19 f19_2 (c1_skip (c1_cons f19_3 (c1_cons f19_4 (c1_cons f19_5 (c1_cons f19_6 (c1_cons f19_7 (c1_cons f19_8 (c1_cons f19_9 (c1_cons f19_10 (c1_cons f19_11 (c1_cons f19_0 (c1_cons f19_1 c1_nil)))))))))))) (fs_k (fs_k (fs_k (fs_k (fs_k (fs_k (fs_k (fs_k (fs_k (fs_k (fs_c (fs_c fs_n))))))))))))) xq 4 (by omega) (by omega)) (fun rz5628 Mz5629 hz5630 => ?_)
          rw [hz5630.1, hz5630.2]
          show Zw 10 zm_MO_ways 64 [some (.ref 139), some (.int (nI xq)), some (.int (nI b)), some (.int (nI a))] [.int (nI ((fT 165) (xq * 8 + 4))), .int (nI ((fT 165) (xq * 8 + 3))), .int (nI ((fT 165) (xq * 8 + 2))), .int (nI a), .int (nI ((fT 165) (xq * 8 + 0))), .ref 139, .int (nI b)] M_19 _
          refine zw_callV (as := [.int (nI ((fT 165) (xq * 8 + 0))), .int (nI a), .int (nI ((fT 165) (xq * 8 + 2))), .int (nI ((fT 165) (xq * 8 + 3))), .int (nI ((fT 165) (xq * 8 + 4)))]) (rest := [.int (nI b)]) rfl rfl rfl f19_2 rfl rfl rfl (by decide) (m_waysBy M_19 oT (fset (fset fT 171 N1) 170 C1) (MM.of (o' := oT) (f' := fset (fset fT 171 N1) 170 C1) hMT s_19 f19_2 (c1_skip (c1_cons f19_3 (c1_cons f19_4 (c1_cons f19_5 (c1_cons f19_6 (c1_cons f19_7 (c1_cons f19_8 (c1_cons f19_9 (c1_cons f19_10 (c1_cons f19_11 (c1_cons f19_0 (c1_cons f19_1 c1_nil)))))))))))) (fs_k (fs_k (fs_k (fs_k (fs_k (fs_k (fs_k (fs_k (fs_k (fs_k (fs_c (fs_c fs_n))))))))))))) n gn al_ it pt tg bd hgT hG hSFT c sg li co hS (hTT hfit).2.1 (hTT hfit).2.2 hA.1 ((fT 165) (xq * 8 + 0)) a ((fT 165) (xq * 8 + 2)) ((fT 165) (xq * 8 + 3)) ((fT 165) (xq * 8 + 4)) (by omega) (by omega) (by omega) (by omega) (by omega)) (fun rz5636 Mz5637 hz5638 => ?_)
          obtain ⟨hAz5631, Az5632, Bz5633, hMz5634, hSz5635⟩ := hz5638
          rw [hAz5631]
          have hwb9 := @wS_b (gE al_ it tg pt bd sg co) n (((fT 165) (xq * 8 + 0)) * 4 + a) ((fT 165) (xq * 8 + 2)) ((fT 165) (xq * 8 + 4)) (it (((fT 165) (xq * 8 + 0)) * 4 + a)) ((fT 165) (xq * 8 + 3)) (hG.2.2.2.1 _) (by omega)
          show Zw 10 zm_MO_ways 67 [some (.ref 139), some (.int (nI xq)), some (.int (nI b)), some (.int (nI a))] [.int (nI (wS (gE al_ it tg pt bd sg co) n (((fT 165) (xq * 8 + 0)) * 4 + a) ((fT 165) (xq * 8 + 2)) ((fT 165) (xq * 8 + 4)) (it (((fT 165) (xq * 8 + 0)) * 4 + a)) ((fT 165) (xq * 8 + 3)))), .int (nI b)] Mz5637 _
          refine zw_n 1 rfl ?_
          refine zw_top (na (a := b) (b := wS (gE al_ it tg pt bd sg co) n (((fT 165) (xq * 8 + 0)) * 4 + a) ((fT 165) (xq * 8 + 2)) ((fT 165) (xq * 8 + 4)) (it (((fT 165) (xq * 8 + 0)) * 4 + a)) ((fT 165) (xq * 8 + 3))) rfl rfl) ?_
          refine zw_n 1 (ls' := [some (.ref 139), some (.int (nI xq)), some (.int (nI (b + (wS (gE al_ it tg pt bd sg co) n (((fT 165) (xq * 8 + 0)) * 4 + a) ((fT 165) (xq * 8 + 2)) ((fT 165) (xq * 8 + 4)) (it (((fT 165) (xq * 8 + 0)) * 4 + a)) ((fT 165) (xq * 8 + 3)))))), some (.int (nI a))]) rfl ?_
          refine zw_inc rfl (x' := (nI (a + 1))) (ls' := [some (.ref 139), some (.int (nI xq)), some (.int (nI (b + (wS (gE al_ it tg pt bd sg co) n (((fT 165) (xq * 8 + 0)) * 4 + a) ((fT 165) (xq * 8 + 2)) ((fT 165) (xq * 8 + 4)) (it (((fT 165) (xq * 8 + 0)) * 4 + a)) ((fT 165) (xq * 8 + 3)))))), some (.int (nI (a + 1)))]) rfl (na (a := a) (b := 1) rfl rfl) rfl ?_
          refine zw_n 1 rfl ?_
          exact ih19 (b + (wS (gE al_ it tg pt bd sg co) n (((fT 165) (xq * 8 + 0)) * 4 + a) ((fT 165) (xq * 8 + 2)) ((fT 165) (xq * 8 + 4)) (it (((fT 165) (xq * 8 + 0)) * 4 + a)) ((fT 165) (xq * 8 + 3)))) (a + 1) Az5632 Bz5633 Mz5637 (Sm.tw s_19 hSz5635 (by decide)) (hMz5634.2 170 (by decide) (by decide)) (hMz5634.2 171 (by decide) (by decide)) (Sm.at hSz5635 (by decide) f19_2) (Sm.at hSz5635 (by decide) f19_3) (Sm.at hSz5635 (by decide) f19_4) (Sm.at hSz5635 (by decide) f19_5) (Sm.at hSz5635 (by decide) f19_6) (Sm.at hSz5635 (by decide) f19_7) (Sm.at hSz5635 (by decide) f19_8) (Sm.at hSz5635 (by decide) f19_9) (Sm.at hSz5635 (by decide) f19_10) (Sm.at hSz5635 (by decide) f19_11) (⟨by omega, sumN_s hi19.2 rfl⟩) (by omega)
    exact lp19 _ 0 0 (fT 170) (fT 171) Mz5614 Sm.rf (hMT.2 170 (by decide) (by decide)) (hMT.2 171 (by decide) (by decide)) hMT.1 (hMT.2 156 (by decide) (by decide)) (hMT.2 157 (by decide) (by decide)) (hMT.2 158 (by decide) (by decide)) (hMT.2 159 (by decide) (by decide)) (hMT.2 160 (by decide) (by decide)) (hMT.2 165 (by decide) (by decide)) (hMT.2 167 (by decide) (by decide)) (hMT.2 168 (by decide) (by decide)) (hMT.2 169 (by decide) (by decide)) (⟨Nat.zero_le _, rfl⟩) (Nat.lt_succ_self _)
  · -- 10 to 13
    refine zw_n 1 rfl ?_
    exact zw_iret rfl rfl (⟨by split; (unfold wayA; rw [if_neg (fun q9 => ite_eq0 c10 ⟨by assumption, q9⟩)]); rfl, oT, fT, hMT, Sm.tw (Sm.tset Sm.rf ez5612 (by decide)) hST (by decide), (fun a ha => hFsT a (fun q9 => ha ((by decide : ∀ a, a ∈ [139, 156, 157, 158, 159, 160, 165, 167, 168, 169] → a ∈ [139, 156, 157, 158, 159, 160, 165, 167, 168, 169, 170, 171]) a q9))), hSFT, (fun j h0 h1 h2 => (hoT j h0 h1 h2).trans (up_n h0)), ho0T⟩)

set_option maxHeartbeats 4000000 in
set_option maxRecDepth 100000 in
theorem m_extent (Mq : zM) (o : Nat → Nat) (f : Nat → Nat → Nat) (hM : MM Mq o f)(n : Nat) (gn al_ it pt tg bd : Nat → Nat) (hg : RelG f n gn al_ it pt tg bd) (hG : SafeG n gn al_ it pt tg bd) (hF : SafeF f) (c : Nat) (sg li co : Nat → Nat) (ht : RelT f c sg li co) (hS : SafeT c sg li co) (emp : Nat → Prop) (rk : Nat → Nat) (hA : Acyc (gE al_ it tg pt bd sg co) n emp rk) (x w : Int32) : Zm 10 zm_MO_extent [.ref 139, .int x, .int w] Mq (fun r9 M1 => r9 = some (.int (if tFit (gE al_ it tg pt bd sg co) n c then extA li co (tSz (gE al_ it tg pt bd sg co) n c) (tRw (gE al_ it tg pt bd sg co) n c) x w else -1)) ∧ ∃ o9 f9, MM M1 o9 f9 ∧ Sm Mq M1 [139, 156, 157, 158, 159, 160, 165, 167, 168, 169] ∧ Fsame f f9 [139, 156, 157, 158, 159, 160, 165, 167, 168, 169] ∧ SafeF f9 ∧ (∀ j, j ≠ 0 → j ≠ 33 → j ≠ 38 → o9 j = o j) ∧ o9 0 = 0) := by
  show Zw 10 zm_MO_extent 0 [some (.ref 139), some (.int x), some (.int w), none, none, none, none, none, none, none] [] Mq _
  have hc20 := hS.1
  have hn8 := hG.1
  refine zw_n 2 rfl ?_
  refine zw_put rfl hM.1 (rfl) (Nat.le_of_ble_eq_true rfl) ?_
  generalize ez5640 : List.set Mq 139 _ = Mz5639
  refine zw_n 4 rfl ?_
  refine zw_callS (as := [.long (Int32.toInt64 w), .long 0, .long 4]) (rest := []) rfl rfl rfl rfl rfl rfl (by decide) (m_in Mz5639 (Int32.toInt64 w) 0 4 w.toInt 0 4 (Int32.toInt_toInt64 _) (by decide) (by decide)) (fun rz5641 Mz5642 hz5643 => ?_)
  rw [hz5643.1, hz5643.2]
  show Zw 10 zm_MO_extent 14 [some (.ref 139), some (.int x), some (.int w), none, none, none, none, none, none, none] [.int (nI (if 0 ≤ w.toInt ∧ w.toInt ≤ 4 then 1 else 0))] Mz5639 _
  refine zw_eq0N (a := if 0 ≤ w.toInt ∧ w.toInt ≤ 4 then 1 else 0) rfl rfl (ite_b) (fun c14 => ?_) (fun c14 => ?_)
  · -- 14 to 25
    refine zw_n 1 rfl ?_
    exact zw_iret rfl rfl (⟨by split; (unfold extA; split; (unfold extK; rw [if_neg (wne (by omega) (by have := ite_eq0 c14; omega)), if_neg (wne (by omega) (by have := ite_eq0 c14; omega)), if_neg (wne (by omega) (by have := ite_eq0 c14; omega)), if_neg (wne (by omega) (by have := ite_eq0 c14; omega)), if_neg (wne (by omega) (by have := ite_eq0 c14; omega))]); rfl); rfl, up o 0 0, f, (MM.of (o' := up o 0 0) (f' := f) hM (Sm.tset Sm.rf ez5640 (by decide)) (zat_self ez5640 hM.1) (c1_skip (c1_cons (zat_set ez5640 (by decide) (hM.2 156 (by decide) (by decide))) (c1_cons (zat_set ez5640 (by decide) (hM.2 157 (by decide) (by decide))) (c1_cons (zat_set ez5640 (by decide) (hM.2 158 (by decide) (by decide))) (c1_cons (zat_set ez5640 (by decide) (hM.2 159 (by decide) (by decide))) (c1_cons (zat_set ez5640 (by decide) (hM.2 160 (by decide) (by decide))) (c1_cons (zat_set ez5640 (by decide) (hM.2 165 (by decide) (by decide))) (c1_cons (zat_set ez5640 (by decide) (hM.2 167 (by decide) (by decide))) (c1_cons (zat_set ez5640 (by decide) (hM.2 168 (by decide) (by decide))) (c1_cons (zat_set ez5640 (by decide) (hM.2 169 (by decide) (by decide))) c1_nil)))))))))) (fs_k (fs_k (fs_k (fs_k (fs_k (fs_k (fs_k (fs_k (fs_k (fs_k fs_n))))))))))), Sm.tset Sm.rf ez5640 (by decide), fun _ _ => rfl, hF, (fun j h0 h1 h2 => up_n h0), rfl⟩)
  · -- 14 to 17
    refine zw_n 2 rfl ?_
    refine zw_callV (as := [.int x]) (rest := []) rfl rfl rfl (zat_self ez5640 hM.1) rfl rfl rfl (by decide) (m_isNode Mz5639 (up o 0 0) f (MM.of (o' := up o 0 0) (f' := f) hM (Sm.tset Sm.rf ez5640 (by decide)) (zat_self ez5640 hM.1) (c1_skip (c1_cons (zat_set ez5640 (by decide) (hM.2 156 (by decide) (by decide))) (c1_cons (zat_set ez5640 (by decide) (hM.2 157 (by decide) (by decide))) (c1_cons (zat_set ez5640 (by decide) (hM.2 158 (by decide) (by decide))) (c1_cons (zat_set ez5640 (by decide) (hM.2 159 (by decide) (by decide))) (c1_cons (zat_set ez5640 (by decide) (hM.2 160 (by decide) (by decide))) (c1_cons (zat_set ez5640 (by decide) (hM.2 165 (by decide) (by decide))) (c1_cons (zat_set ez5640 (by decide) (hM.2 167 (by decide) (by decide))) (c1_cons (zat_set ez5640 (by decide) (hM.2 168 (by decide) (by decide))) (c1_cons (zat_set ez5640 (by decide) (hM.2 169 (by decide) (by decide))) c1_nil)))))))))) (fs_k (fs_k (fs_k (fs_k (fs_k (fs_k (fs_k (fs_k (fs_k (fs_k fs_n))))))))))) n gn al_ it pt tg bd hg hG hF c sg li co ht hS emp rk hA x) (fun rz5644 Mz5645 hz5646 => ?_)
    obtain ⟨hAT, oT, fT, hMT, hST, hFsT, hSFT, hoT, ho0T, hTT⟩ := hz5646
    rw [hAT]
    have hgT : RelG fT n gn al_ it pt tg bd := hg.keep (hFsT 140 (by decide)) (hFsT 153 (by decide))
    have htT : RelT fT c sg li co := ht.keep (hFsT 140 (by decide))
    show Zw 10 zm_MO_extent 22 [some (.ref 139), some (.int x), some (.int w), none, none, none, none, none, none, none] [.int (nI (if tFit (gE al_ it tg pt bd sg co) n c ∧ vlp x (tSz (gE al_ it tg pt bd sg co) n c) then 1 else 0))] Mz5645 _
    refine zw_ne0N (a := if tFit (gE al_ it tg pt bd sg co) n c ∧ vlp x (tSz (gE al_ it tg pt bd sg co) n c) then 1 else 0) rfl rfl (ite_b) (fun c22 => ?_) (fun c22 => ?_)
    · -- 22 to 27
      have hfit : tFit (gE al_ it tg pt bd sg co) n c := (ite_ne c22).1
      have hTs := (hTT hfit).1
      have hTr : TrR (gE al_ it tg pt bd sg co) n c (oT 33) (fT 165) := hTs.rows (E := (gE al_ it tg pt bd sg co)) hA hn8 hG.2.2.1 hS.2.2.2 hG.2.2.2.2.2.2 hc20 hfit
      have hle := hTr.le
      obtain ⟨hcz, hcT⟩ := hTs.can (by omega)
      have hcq : tEq (oT 33) (fT 165) (tRw (gE al_ it tg pt bd sg co) n c) := hcT
      have hx9 := (ite_ne c22).2
      have hx8 : x.toInt < oT 33 := by rw [hcz]; exact hx9.2
      obtain ⟨xq, hqx⟩ : ∃ xq : Nat, x.toInt.toNat = xq := ⟨_, rfl⟩
      have hex : x = nI xq := by rw [← hqx]; exact i32_nat (hx9.1)
      refine zw_lse (ls' := [some (.ref 139), some (.int (nI xq)), some (.int w), none, none, none, none, none, none, none]) (by rw [← hex]) ?_
      have hcq2 : tEq (tSz (gE al_ it tg pt bd sg co) n c) (fT 165) (tRw (gE al_ it tg pt bd sg co) n c) := hcz ▸ hcq
      have h23 := hTr.f23 xq (by omega)
      have h3 := hTr.f3 xq (by omega)
      have h4 := hTr.f4 xq (by omega)
      refine zw_n 3 rfl ?_
      refine zw_callV (as := [.int (nI xq), .int 2]) (rest := []) rfl rfl rfl hMT.1 rfl rfl rfl (by decide) (m_of Mz5645 oT fT hMT xq 2 (by omega) (by omega)) (fun rz5647 Mz5648 hz5649 => ?_)
      rw [hz5649.1, hz5649.2]
      show Zw 10 zm_MO_extent 33 [some (.ref 139), some (.int (nI xq)), some (.int w), none, none, none, none, none, none, none] [.int (nI ((fT 165) (xq * 8 + 2)))] Mz5645 _
      refine zw_n 4 (ls' := [some (.ref 139), some (.int (nI xq)), some (.int w), some (.int (nI ((fT 165) (xq * 8 + 2)))), none, none, none, none, none, none]) rfl ?_
      refine zw_callV (as := [.int (nI xq), .int 3]) (rest := []) rfl rfl rfl hMT.1 rfl rfl rfl (by decide) (m_of Mz5645 oT fT hMT xq 3 (by omega) (by omega)) (fun rz5650 Mz5651 hz5652 => ?_)
      rw [hz5652.1, hz5652.2]
      show Zw 10 zm_MO_extent 40 [some (.ref 139), some (.int (nI xq)), some (.int w), some (.int (nI ((fT 165) (xq * 8 + 2)))), none, none, none, none, none, none] [.int (nI ((fT 165) (xq * 8 + 3)))] Mz5645 _
      refine zw_n 9 (ls' := [some (.ref 139), some (.int (nI xq)), some (.int w), some (.int (nI ((fT 165) (xq * 8 + 2)))), some (.int (nI ((fT 165) (xq * 8 + 3)))), some (.int 39), some (.int 0), some (.int 0), some (.int (nI ((fT 165) (xq * 8 + 2)))), none]) rfl ?_
      have lp55 : ∀ (n55 : Nat) (mn : Nat) (mx : Nat) (cn : Nat) (q : Nat), ((fT 165 (xq * 8 + 2)) ≤ q ∧ q ≤ (fT 165 (xq * 8 + 3)) ∧ mn = (if q = (fT 165 (xq * 8 + 2)) then 39 else mnc co (fT 165 (xq * 8 + 2)) (q - (fT 165 (xq * 8 + 2)))) ∧ mx = (if q = (fT 165 (xq * 8 + 2)) then 0 else mxc co (fT 165 (xq * 8 + 2)) (q - (fT 165 (xq * 8 + 2)))) ∧ cn = cnt (fun i => decide ((fT 165 (xq * 8 + 2)) ≤ i ∧ co i < (fT 165 (xq * 8 + 4)))) q) → (fT 165 (xq * 8 + 3)) - q < n55 → Zw 10 zm_MO_extent 55 [some (.ref 139), some (.int (nI xq)), some (.int w), some (.int (nI ((fT 165) (xq * 8 + 2)))), some (.int (nI ((fT 165) (xq * 8 + 3)))), some (.int (nI mn)), some (.int (nI mx)), some (.int (nI cn)), some (.int (nI q)), none] [] Mz5645 (fun r9 M1 => r9 = some (.int (if tFit (gE al_ it tg pt bd sg co) n c then extA li co (tSz (gE al_ it tg pt bd sg co) n c) (tRw (gE al_ it tg pt bd sg co) n c) x w else -1)) ∧ ∃ o9 f9, MM M1 o9 f9 ∧ Sm Mq M1 [139, 156, 157, 158, 159, 160, 165, 167, 168, 169] ∧ Fsame f f9 [139, 156, 157, 158, 159, 160, 165, 167, 168, 169] ∧ SafeF f9 ∧ (∀ j, j ≠ 0 → j ≠ 33 → j ≠ 38 → o9 j = o j) ∧ o9 0 = 0) := by
        intro n55
        induction n55 with
        | zero => intro mn mx cn q _ h; exact absurd h (Nat.not_lt_zero _)
        | succ n55 ih55 =>
          intro mn mx cn q hi55 hm55
          refine zw_n 2 rfl ?_
          refine zw_igeN (a := q) (b := (fT 165) (xq * 8 + 3)) rfl rfl rfl (by omega) (by omega) (fun c59 => ?_) (fun c59 => ?_)
          · -- 59 to 134
            refine zw_n 1 rfl ?_
            refine zw_ne0Z (a := w.toInt) rfl (rfl) (fun c135 => ?_) (fun c135 => ?_)
            · -- 135 to 151
              refine zw_n 2 rfl ?_
              refine zw_ineZ (a := w.toInt) (b := 1) rfl (rfl) (by decide) (fun c153 => ?_) (fun c153 => ?_)
              · -- 153 to 172
                refine zw_n 2 rfl ?_
                refine zw_ineZ (a := w.toInt) (b := 2) rfl (rfl) (by decide) (fun c174 => ?_) (fun c174 => ?_)
                · -- 174 to 182
                  refine zw_n 2 rfl ?_
                  refine zw_ineZ (a := w.toInt) (b := 3) rfl (rfl) (by decide) (fun c184 => ?_) (fun c184 => ?_)
                  · -- 184 to 192
                    refine zw_n 1 rfl ?_
                    exact zw_iret rfl rfl (⟨by rw [if_pos hfit, ← extA_cg hcq2]; unfold extA extK; rw [if_pos hx9, hqx, if_neg (wne (by omega) (by omega)), if_neg (wne (by omega) (by omega)), if_neg (wne (by omega) (by omega)), if_neg (wne (by omega) (by omega)), if_pos (weq (by have := ite_ne c14; omega)), hi55.2.2.2.2, show q = (fT 165 (xq * 8 + 3)) by omega], oT, fT, hMT, Sm.trans (Sm.tset Sm.rf ez5640 (by decide)) hST, hFsT, hSFT, (fun j h0 h1 h2 => (hoT j h0 h1 h2).trans (up_n h0)), ho0T⟩)
                  · -- 184 to 187
                    refine zw_n 2 rfl ?_
                    exact zw_iret rfl rfl (⟨by rw [if_pos hfit, ← extA_cg hcq2]; unfold extA extK; rw [if_pos hx9, hqx, if_neg (wne (by omega) (by omega)), if_neg (wne (by omega) (by omega)), if_neg (wne (by omega) (by omega)), if_pos (weq (by have := ite_ne c14; omega)), hi55.2.2.2.1, if_neg (show ¬ q = (fT 165 (xq * 8 + 2)) by omega), show q = (fT 165 (xq * 8 + 3)) by omega], oT, fT, hMT, Sm.trans (Sm.tset Sm.rf ez5640 (by decide)) hST, hFsT, hSFT, (fun j h0 h1 h2 => (hoT j h0 h1 h2).trans (up_n h0)), ho0T⟩)
                · -- 174 to 177
                  refine zw_n 2 rfl ?_
                  exact zw_iret rfl rfl (⟨by rw [if_pos hfit, ← extA_cg hcq2]; unfold extA extK; rw [if_pos hx9, hqx, if_neg (wne (by omega) (by omega)), if_neg (wne (by omega) (by omega)), if_pos (weq (by have := ite_ne c14; omega)), hi55.2.2.1, if_neg (show ¬ q = (fT 165 (xq * 8 + 2)) by omega), show q = (fT 165 (xq * 8 + 3)) by omega], oT, fT, hMT, Sm.trans (Sm.tset Sm.rf ez5640 (by decide)) hST, hFsT, hSFT, (fun j h0 h1 h2 => (hoT j h0 h1 h2).trans (up_n h0)), ho0T⟩)
              · -- 153 to 156
                refine zw_n 1 rfl ?_
                refine zw_get (v := .ref 140) rfl hMT.1 rfl ?_
                refine zw_n 3 rfl ?_
                refine zw_top (na (a := 550) (b := (fT 165) (xq * 8 + 3)) rfl rfl) ?_
                refine zw_n 2 rfl ?_
                refine zw_top (ns (a := 550 + ((fT 165) (xq * 8 + 3))) (b := 1) rfl rfl (by omega)) ?_
                refine zw_iald (f := ai (fT 140)) (j := (550 + ((fT 165 (xq * 8 + 3)) - 1))) rfl (hMT.2 140 (by decide) (by decide)) (congrArg nI (by omega)) (by decide) (by omega) ?_
                refine zw_top (x' := (nI (li ((fT 165 (xq * 8 + 3)) - 1)))) (congrArg nI (htT.2 ((fT 165 (xq * 8 + 3)) - 1) (by omega)).2.1) ?_
                refine zw_n 1 rfl ?_
                exact zw_iret rfl rfl (⟨by rw [if_pos hfit, ← extA_cg hcq2]; unfold extA extK; rw [if_pos hx9, hqx, if_neg (wne (by omega) (by omega)), if_pos (weq (by have := ite_ne c14; omega))], oT, fT, hMT, Sm.trans (Sm.tset Sm.rf ez5640 (by decide)) hST, hFsT, hSFT, (fun j h0 h1 h2 => (hoT j h0 h1 h2).trans (up_n h0)), ho0T⟩)
            · -- 135 to 138
              refine zw_n 1 rfl ?_
              refine zw_get (v := .ref 140) rfl hMT.1 rfl ?_
              refine zw_n 3 rfl ?_
              refine zw_top (na (a := 550) (b := (fT 165) (xq * 8 + 2)) rfl rfl) ?_
              refine zw_iald (f := ai (fT 140)) (j := (550 + ((fT 165) (xq * 8 + 2)))) rfl (hMT.2 140 (by decide) (by decide)) rfl (by decide) (by omega) ?_
              refine zw_top (x' := (nI (li (fT 165 (xq * 8 + 2))))) (congrArg nI (htT.2 (fT 165 (xq * 8 + 2)) (by omega)).2.1) ?_
              refine zw_n 1 rfl ?_
              exact zw_iret rfl rfl (⟨by rw [if_pos hfit, ← extA_cg hcq2]; unfold extA extK; rw [if_pos hx9, hqx, if_pos (weq (by have := ite_ne c14; omega))], oT, fT, hMT, Sm.trans (Sm.tset Sm.rf ez5640 (by decide)) hST, hFsT, hSFT, (fun j h0 h1 h2 => (hoT j h0 h1 h2).trans (up_n h0)), ho0T⟩)
          · -- 59 to 62
            have hmn := mn_b hS.2.2.2 hi55.2.2.1 hi55.1
            have hmx := mx_b hS.2.2.2 hi55.2.2.2.1 hi55.1
            have hco9 := hS.2.2.2 q
            refine zw_n 1 rfl ?_
            refine zw_get (v := .ref 140) rfl hMT.1 rfl ?_
            refine zw_n 3 rfl ?_
            refine zw_top (na (a := 570) (b := q) rfl rfl) ?_
            refine zw_iald (f := ai (fT 140)) (j := (570 + q)) rfl (hMT.2 140 (by decide) (by decide)) rfl (by decide) (by omega) ?_
            refine zw_top (x' := (nI (co q))) (congrArg nI (htT.2 q (by omega)).2.2) ?_
            refine zw_n 1 (ls' := [some (.ref 139), some (.int (nI xq)), some (.int w), some (.int (nI ((fT 165) (xq * 8 + 2)))), some (.int (nI ((fT 165) (xq * 8 + 3)))), some (.int (nI mn)), some (.int (nI mx)), some (.int (nI cn)), some (.int (nI q)), some (.int (nI (co q)))]) rfl ?_
            have j75 : Zw 10 zm_MO_extent 89 [some (.ref 139), some (.int (nI xq)), some (.int w), some (.int (nI ((fT 165) (xq * 8 + 2)))), some (.int (nI ((fT 165) (xq * 8 + 3)))), some (.int (nI mn)), some (.int (nI mx)), some (.int (nI cn)), some (.int (nI q)), some (.int (nI (co q)))] [.int (nI (if co q < mn then co q else mn))] Mz5645 (fun r9 M1 => r9 = some (.int (if tFit (gE al_ it tg pt bd sg co) n c then extA li co (tSz (gE al_ it tg pt bd sg co) n c) (tRw (gE al_ it tg pt bd sg co) n c) x w else -1)) ∧ ∃ o9 f9, MM M1 o9 f9 ∧ Sm Mq M1 [139, 156, 157, 158, 159, 160, 165, 167, 168, 169] ∧ Fsame f f9 [139, 156, 157, 158, 159, 160, 165, 167, 168, 169] ∧ SafeF f9 ∧ (∀ j, j ≠ 0 → j ≠ 33 → j ≠ 38 → o9 j = o j) ∧ o9 0 = 0) := by
              refine zw_n 1 (ls' := [some (.ref 139), some (.int (nI xq)), some (.int w), some (.int (nI ((fT 165) (xq * 8 + 2)))), some (.int (nI ((fT 165) (xq * 8 + 3)))), some (.int (nI (if co q < mn then co q else mn))), some (.int (nI mx)), some (.int (nI cn)), some (.int (nI q)), some (.int (nI (co q)))]) rfl ?_
              have j91 : Zw 10 zm_MO_extent 105 [some (.ref 139), some (.int (nI xq)), some (.int w), some (.int (nI ((fT 165) (xq * 8 + 2)))), some (.int (nI ((fT 165) (xq * 8 + 3)))), some (.int (nI (if co q < mn then co q else mn))), some (.int (nI mx)), some (.int (nI cn)), some (.int (nI q)), some (.int (nI (co q)))] [.int (nI (if mx < co q then co q else mx))] Mz5645 (fun r9 M1 => r9 = some (.int (if tFit (gE al_ it tg pt bd sg co) n c then extA li co (tSz (gE al_ it tg pt bd sg co) n c) (tRw (gE al_ it tg pt bd sg co) n c) x w else -1)) ∧ ∃ o9 f9, MM M1 o9 f9 ∧ Sm Mq M1 [139, 156, 157, 158, 159, 160, 165, 167, 168, 169] ∧ Fsame f f9 [139, 156, 157, 158, 159, 160, 165, 167, 168, 169] ∧ SafeF f9 ∧ (∀ j, j ≠ 0 → j ≠ 33 → j ≠ 38 → o9 j = o j) ∧ o9 0 = 0) := by
                refine zw_n 2 (ls' := [some (.ref 139), some (.int (nI xq)), some (.int w), some (.int (nI ((fT 165) (xq * 8 + 2)))), some (.int (nI ((fT 165) (xq * 8 + 3)))), some (.int (nI (if co q < mn then co q else mn))), some (.int (nI (if mx < co q then co q else mx))), some (.int (nI cn)), some (.int (nI q)), some (.int (nI (co q)))]) rfl ?_
                have j109 : Zw 10 zm_MO_extent 125 [some (.ref 139), some (.int (nI xq)), some (.int w), some (.int (nI ((fT 165) (xq * 8 + 2)))), some (.int (nI ((fT 165) (xq * 8 + 3)))), some (.int (nI (if co q < mn then co q else mn))), some (.int (nI (if mx < co q then co q else mx))), some (.int (nI cn)), some (.int (nI q)), some (.int (nI (co q)))] [.int (nI (if co q < fT 165 (xq * 8 + 4) then 1 else 0)), .int (nI cn)] Mz5645 (fun r9 M1 => r9 = some (.int (if tFit (gE al_ it tg pt bd sg co) n c then extA li co (tSz (gE al_ it tg pt bd sg co) n c) (tRw (gE al_ it tg pt bd sg co) n c) x w else -1)) ∧ ∃ o9 f9, MM M1 o9 f9 ∧ Sm Mq M1 [139, 156, 157, 158, 159, 160, 165, 167, 168, 169] ∧ Fsame f f9 [139, 156, 157, 158, 159, 160, 165, 167, 168, 169] ∧ SafeF f9 ∧ (∀ j, j ≠ 0 → j ≠ 33 → j ≠ 38 → o9 j = o j) ∧ o9 0 = 0) := by
                  refine zw_n 1 rfl ?_
                  refine zw_top (na (a := cn) (b := if co q < fT 165 (xq * 8 + 4) then 1 else 0) rfl rfl) ?_
                  refine zw_n 1 (ls' := [some (.ref 139), some (.int (nI xq)), some (.int w), some (.int (nI ((fT 165) (xq * 8 + 2)))), some (.int (nI ((fT 165) (xq * 8 + 3)))), some (.int (nI (if co q < mn then co q else mn))), some (.int (nI (if mx < co q then co q else mx))), some (.int (nI (cn + (if co q < fT 165 (xq * 8 + 4) then 1 else 0)))), some (.int (nI q)), some (.int (nI (co q)))]) rfl ?_
                  refine zw_inc rfl (x' := (nI (q + 1))) (ls' := [some (.ref 139), some (.int (nI xq)), some (.int w), some (.int (nI ((fT 165) (xq * 8 + 2)))), some (.int (nI ((fT 165) (xq * 8 + 3)))), some (.int (nI (if co q < mn then co q else mn))), some (.int (nI (if mx < co q then co q else mx))), some (.int (nI (cn + (if co q < fT 165 (xq * 8 + 4) then 1 else 0)))), some (.int (nI (q + 1))), some (.int (nI (co q)))]) rfl (na (a := q) (b := 1) rfl rfl) rfl ?_
                  refine zw_n 1 rfl ?_
                  refine zw_ls (ls' := [some (.ref 139), some (.int (nI xq)), some (.int w), some (.int (nI ((fT 165) (xq * 8 + 2)))), some (.int (nI ((fT 165) (xq * 8 + 3)))), some (.int (nI (if co q < mn then co q else mn))), some (.int (nI (if mx < co q then co q else mx))), some (.int (nI (cn + (if co q < fT 165 (xq * 8 + 4) then 1 else 0)))), some (.int (nI (q + 1))), none]) ⟨Or.inr rfl, Or.inr rfl, Or.inr rfl, Or.inr rfl, Or.inr rfl, Or.inr rfl, Or.inr rfl, Or.inr rfl, Or.inr rfl, Or.inl rfl, trivial⟩ ?_
                  exact ih55 (if co q < mn then co q else mn) (if mx < co q then co q else mx) (cn + (if co q < fT 165 (xq * 8 + 4) then 1 else 0)) (q + 1) (⟨by omega, by omega, mn_st hS.2.2.2 hi55.2.2.1 hi55.1, mx_st hS.2.2.2 hi55.2.2.2.1 hi55.1, cnt_s hi55.2.2.2.2 (by rw [decide_eq_true_eq]; exact ⟨fun q9 => ⟨hi55.1, q9⟩, fun q9 => q9.2⟩)⟩) (by omega)
                refine zw_n 4 rfl ?_
                refine zw_callV (as := [.int (nI xq), .int 4]) (rest := [.int (nI (co q)), .int (nI cn)]) rfl rfl rfl hMT.1 rfl rfl rfl (by decide) (m_of Mz5645 oT fT hMT xq 4 (by omega) (by omega)) (fun rz5653 Mz5654 hz5655 => ?_)
                rw [hz5655.1, hz5655.2]
                show Zw 10 zm_MO_extent 117 [some (.ref 139), some (.int (nI xq)), some (.int w), some (.int (nI ((fT 165) (xq * 8 + 2)))), some (.int (nI ((fT 165) (xq * 8 + 3)))), some (.int (nI (if co q < mn then co q else mn))), some (.int (nI (if mx < co q then co q else mx))), some (.int (nI cn)), some (.int (nI q)), some (.int (nI (co q)))] [.int (nI ((fT 165) (xq * 8 + 4))), .int (nI (co q)), .int (nI cn)] Mz5645 _
                refine zw_igeN (a := co q) (b := (fT 165) (xq * 8 + 4)) rfl rfl rfl (by omega) (by omega) (fun c117 => ?_) (fun c117 => ?_)
                · -- 117 to 124
                  refine zw_n 1 rfl ?_
                  refine zw_top (x' := nI (if co q < fT 165 (xq * 8 + 4) then 1 else 0)) (show nI 0 = nI (if co q < fT 165 (xq * 8 + 4) then 1 else 0) by rw [if_neg (by omega)]) ?_
                  exact j109
                · -- 117 to 120
                  refine zw_n 2 rfl ?_
                  refine zw_top (x' := nI (if co q < fT 165 (xq * 8 + 4) then 1 else 0)) (show nI 1 = nI (if co q < fT 165 (xq * 8 + 4) then 1 else 0) by rw [if_pos (by omega)]) ?_
                  exact j109
              refine zw_n 2 rfl ?_
              refine zw_ileN (a := co q) (b := mx) rfl rfl rfl (by omega) (by omega) (fun c95 => ?_) (fun c95 => ?_)
              · -- 95 to 103
                refine zw_n 1 rfl ?_
                refine zw_top (x' := nI (if mx < co q then co q else mx)) (show nI mx = nI (if mx < co q then co q else mx) by rw [if_neg (by omega)]) ?_
                exact j91
              · -- 95 to 98
                refine zw_n 2 rfl ?_
                refine zw_top (x' := nI (if mx < co q then co q else mx)) (show nI (co q) = nI (if mx < co q then co q else mx) by rw [if_pos (by omega)]) ?_
                exact j91
            refine zw_n 2 rfl ?_
            refine zw_igeN (a := co q) (b := mn) rfl rfl rfl (by omega) (by omega) (fun c79 => ?_) (fun c79 => ?_)
            · -- 79 to 87
              refine zw_n 1 rfl ?_
              refine zw_top (x' := nI (if co q < mn then co q else mn)) (show nI mn = nI (if co q < mn then co q else mn) by rw [if_neg (by omega)]) ?_
              exact j75
            · -- 79 to 82
              refine zw_n 2 rfl ?_
              refine zw_top (x' := nI (if co q < mn then co q else mn)) (show nI (co q) = nI (if co q < mn then co q else mn) by rw [if_pos (by omega)]) ?_
              exact j75
      exact lp55 _ 39 0 0 (fT 165 (xq * 8 + 2)) (⟨Nat.le_refl _, by omega, (if_pos rfl).symm, (if_pos rfl).symm, (cnt_0 (fun z hz => decide_eq_false (fun q9 => by have := q9.1; omega))).symm⟩) (Nat.lt_succ_self _)
    · -- 22 to 25
      refine zw_n 1 rfl ?_
      exact zw_iret rfl rfl (⟨by split; (unfold extA; rw [if_neg (fun q9 => ite_eq0 c22 ⟨by assumption, q9⟩)]); rfl, oT, fT, hMT, Sm.trans (Sm.tset Sm.rf ez5640 (by decide)) hST, hFsT, hSFT, (fun j h0 h1 h2 => (hoT j h0 h1 h2).trans (up_n h0)), ho0T⟩)
