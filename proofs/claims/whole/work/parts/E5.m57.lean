set_option maxHeartbeats 4000000 in
set_option maxRecDepth 100000 in
theorem m_layTree (Mq : zM) (o : Nat → Nat) (f : Nat → Nat → Nat) (hM : MM Mq o f)(n : Nat) (gn al_ it pt tg bd : Nat → Nat) (hg : RelG f n gn al_ it pt tg bd) (hG : SafeG n gn al_ it pt tg bd) (hF : SafeF f) (c : Nat) (sg li co : Nat → Nat) (hS : SafeT c sg li co) (h5 : ∀ p, p < c → f 156 p = sg p ∧ f 157 p = co p) (hv : VAll (gE al_ it tg pt bd sg co) n (c + 1) (f 158)) (hcl : Clo (gE al_ it tg pt bd sg co) n) (emp : Nat → Prop) (rk : Nat → Nat) (hA : Acyc (gE al_ it tg pt bd sg co) n emp rk) (ht : RelT f c sg li co) (h0 : tFit (gE al_ it tg pt bd sg co) n c) : Zm 6 zm_MO_layTree [.ref 139] Mq (fun r9 M1 => r9 = none ∧ ∃ sz9 wt9 f9, MM M1 (up (up o 33 sz9) 38 wt9) f9 ∧ Sm Mq M1 [139, 159, 160, 165, 167, 168, 169] ∧ Fsame f f9 [159, 160, 165, 167, 168, 169] ∧ SafeM (f9 159) ∧ SafeM (f9 160) ∧ TrS (gE al_ it tg pt bd sg co) n c sz9 (f9 165)) := by
  show Zw 6 zm_MO_layTree 0 [some (.ref 139), none, none] [] Mq _
  have hn8 := hG.1
  have hc20 := hS.1
  refine zw_n 2 rfl ?_
  refine zw_put rfl hM.1 (rfl) (Nat.le_of_ble_eq_true rfl) ?_
  generalize ez5331 : List.set Mq 139 _ = Mz5330
  refine zw_n 2 rfl ?_
  refine zw_put rfl (zat_self ez5331 hM.1) (rfl) (Nat.le_of_ble_eq_true rfl) ?_
  generalize ez5333 : List.set Mz5330 139 _ = Mz5332
  refine zw_n 1 rfl ?_
  refine zw_callV (as := []) (rest := []) rfl rfl rfl (zat_self ez5333 (zat_self ez5331 hM.1)) rfl rfl rfl (by decide) (m_tok1 Mz5332 (up (up o 33 0) 38 0) f (MM.of (o' := up (up o 33 0) 38 0) (f' := f) hM (Sm.tset (Sm.tset Sm.rf ez5331 (by decide)) ez5333 (by decide)) (zat_self ez5333 (zat_self ez5331 hM.1)) (c1_skip (c1_cons (zat_set ez5333 (by decide) (zat_set ez5331 (by decide) (hM.2 159 (by decide) (by decide)))) (c1_cons (zat_set ez5333 (by decide) (zat_set ez5331 (by decide) (hM.2 160 (by decide) (by decide)))) (c1_cons (zat_set ez5333 (by decide) (zat_set ez5331 (by decide) (hM.2 165 (by decide) (by decide)))) (c1_cons (zat_set ez5333 (by decide) (zat_set ez5331 (by decide) (hM.2 167 (by decide) (by decide)))) (c1_cons (zat_set ez5333 (by decide) (zat_set ez5331 (by decide) (hM.2 168 (by decide) (by decide)))) (c1_cons (zat_set ez5333 (by decide) (zat_set ez5331 (by decide) (hM.2 169 (by decide) (by decide)))) c1_nil))))))) (fs_k (fs_k (fs_k (fs_k (fs_k (fs_k (fs_k fs_n)))))))) c ht.1) (fun rz5334 Mz5335 hz5336 => ?_)
  rw [hz5336.1, hz5336.2]
  show Zw 6 zm_MO_layTree 14 [some (.ref 139), none, none] [.int (nI c)] Mz5332 _
  refine zw_le0N (a := c) rfl rfl (by omega) (fun c14 => ?_) (fun c14 => ?_)
  · -- 14 to 47
    have mz5337 : Mz5332[140]? = some (.inl (0, 590, .inl (ai (f 140)))) := zat_set ez5333 (by decide) (zat_set ez5331 (by decide) (hM.2 140 (by decide) (by decide)))
    have mz5338 : Mz5332[153]? = some (.inl (0, 160, .inl (ai (f 153)))) := zat_set ez5333 (by decide) (zat_set ez5331 (by decide) (hM.2 153 (by decide) (by decide)))
    have mz5339 : Mz5332[156]? = some (.inl (0, 21, .inl (ai (f 156)))) := zat_set ez5333 (by decide) (zat_set ez5331 (by decide) (hM.2 156 (by decide) (by decide)))
    have mz5340 : Mz5332[157]? = some (.inl (0, 21, .inl (ai (f 157)))) := zat_set ez5333 (by decide) (zat_set ez5331 (by decide) (hM.2 157 (by decide) (by decide)))
    have mz5341 : Mz5332[158]? = some (.inl (1, 3872, .inr (.inl (al (f 158))))) := zat_set ez5333 (by decide) (zat_set ez5331 (by decide) (hM.2 158 (by decide) (by decide)))
    have mz5342 : Mz5332[169]? = some (.inl (3, 126, .inl (ai (f 169)))) := zat_set ez5333 (by decide) (zat_set ez5331 (by decide) (hM.2 169 (by decide) (by decide)))
    have mz5343 : Mz5332[168]? = some (.inl (0, 6, .inl (ai (f 168)))) := zat_set ez5333 (by decide) (zat_set ez5331 (by decide) (hM.2 168 (by decide) (by decide)))
    have mz5344 : Mz5332[165]? = some (.inl (0, 3200, .inl (ai (f 165)))) := zat_set ez5333 (by decide) (zat_set ez5331 (by decide) (hM.2 165 (by decide) (by decide)))
    have mz5345 : Mz5332[167]? = some (.inl (0, 3200, .inl (ai (f 167)))) := zat_set ez5333 (by decide) (zat_set ez5331 (by decide) (hM.2 167 (by decide) (by decide)))
    have mz5346 : Mz5332[159]? = some (.inl (1, 22, .inr (.inl (al (f 159))))) := zat_set ez5333 (by decide) (zat_set ez5331 (by decide) (hM.2 159 (by decide) (by decide)))
    have mz5347 : Mz5332[160]? = some (.inl (1, 22, .inr (.inl (al (f 160))))) := zat_set ez5333 (by decide) (zat_set ez5331 (by decide) (hM.2 160 (by decide) (by decide)))
    have sz5348 : Sm Mq Mz5332 [139, 159, 160, 165, 167, 168, 169] := Sm.tset (Sm.tset Sm.rf ez5331 (by decide)) ez5333 (by decide)
    have lp47 : ∀ (n47 : Nat) (x : Nat) (wt1 : Nat) (T1 : Nat → Nat) (V1 : Nat → Nat) (E1 : Nat → Nat) (C1 : Nat → Nat) (A1 : Nat → Nat) (B1 : Nat → Nat) (M_47 : zM), Sm Mq M_47 [139, 159, 160, 165, 167, 168, 169] → M_47[139]? = some (.inr (12, [.int (nI (o 0)), .ref 140, .ref 141, .ref 142, .ref 143, .int (nI (o 5)), .ref 144, .int (nI (o 7)), .int (nI (o 8)), .int (nI (o 9)), .int (nI (o 10)), .ref 145, .ref 146, .ref 147, .ref 148, .ref 149, .ref 150, .ref 151, .ref 152, .ref 153, .ref 154, .ref 155, .ref 156, .ref 157, .ref 158, .ref 159, .ref 160, .ref 161, .ref 162, .ref 163, .ref 164, .int (nI (o 31)), .ref 165, .int (nI x), .ref 166, .ref 167, .ref 168, .ref 169, .int (nI wt1), .ref 170, .ref 171, .ref 172, .ref 173, .ref 174, .ref 175, .int (nI (o 45)), .int (nI (o 46)), .int (nI (o 47)), .long (lN (o 48)), .ref 176])) → M_47[165]? = some (.inl (0, 3200, .inl (ai T1))) → M_47[167]? = some (.inl (0, 3200, .inl (ai V1))) → M_47[168]? = some (.inl (0, 6, .inl (ai E1))) → M_47[169]? = some (.inl (3, 126, .inl (ai C1))) → M_47[159]? = some (.inl (1, 22, .inr (.inl (al A1)))) → M_47[160]? = some (.inl (1, 22, .inr (.inl (al B1)))) → ((∀ q, q < x → (tI (gE al_ it tg pt bd sg co) n c q).2.1 ≠ 0) ∧ wt1 = (tI (gE al_ it tg pt bd sg co) n c x).2.1 ∧ WtV V1 (tI (gE al_ it tg pt bd sg co) n c x).2 ∧ TtV T1 x (tI (gE al_ it tg pt bd sg co) n c x).1 ∧ SafeM A1 ∧ SafeM B1) → 400 - x < n47 → Zw 6 zm_MO_layTree 47 [some (.ref 139), none, none] [] M_47 (fun r9 M1 => r9 = none ∧ ∃ sz9 wt9 f9, MM M1 (up (up o 33 sz9) 38 wt9) f9 ∧ Sm Mq M1 [139, 159, 160, 165, 167, 168, 169] ∧ Fsame f f9 [159, 160, 165, 167, 168, 169] ∧ SafeM (f9 159) ∧ SafeM (f9 160) ∧ TrS (gE al_ it tg pt bd sg co) n c sz9 (f9 165)) := by
      intro n47
      induction n47 with
      | zero => intro x wt1 T1 V1 E1 C1 A1 B1 M_47 _ _ _ _ _ _ _ _ _ h; exact absurd h (Nat.not_lt_zero _)
      | succ n47 ih47 =>
        intro x wt1 T1 V1 E1 C1 A1 B1 M_47 s_47 f47_0 f47_1 f47_2 f47_3 f47_4 f47_5 f47_6 hi47 hm47
        have hR9 := tR.run hA hn8 hG.2.2.1 hS.2.2.2 hG.2.2.2.2.2.2 hc20 (fun _ => h0) x hi47.1
        have hsm9 := hR9.sum
        have hge9 := @tSum_ge n rk (tI (gE al_ it tg pt bd sg co) n c x).2
        refine zw_n 1 rfl ?_
        refine zw_get (v := .int (nI wt1)) rfl f47_0 rfl ?_
        refine zw_le0N (a := wt1) rfl rfl (by omega) (fun c51 => ?_) (fun c51 => ?_)
        · -- 51 to 168
          exact zw_vret rfl rfl (⟨rfl, x, wt1, _, (MM.of (o' := up (up o 33 x) 38 wt1) (f' := fset (fset (fset (fset (fset (fset f 169 C1) 168 E1) 167 V1) 165 T1) 160 B1) 159 A1) hM s_47 f47_0 (c1_skip (c1_cons f47_5 (c1_cons f47_6 (c1_cons f47_1 (c1_cons f47_2 (c1_cons f47_3 (c1_cons f47_4 c1_nil))))))) (fs_k (fs_c (fs_c (fs_c (fs_c (fs_c (fs_c fs_n)))))))), s_47, fun a ha => by unfold fset; simp only [List.mem_cons, not_or] at ha; simp [ha], hi47.2.2.2.2.1, hi47.2.2.2.2.2, TrS.of hi47.1 (by omega) hi47.2.2.2.1⟩)
        · -- 51 to 54
          refine zw_n 2 rfl ?_
          refine zw_get (v := .int (nI wt1)) rfl f47_0 rfl ?_
          refine zw_n 2 rfl ?_
          refine zw_top (ns (a := wt1) (b := 1) rfl rfl (by omega)) ?_
          refine zw_put rfl f47_0 (rfl) (Nat.le_of_ble_eq_true rfl) ?_
          generalize ez5350 : List.set M_47 139 _ = Mz5349
          refine zw_n 2 rfl ?_
          refine zw_get (v := .int (nI x)) rfl (zat_self ez5350 f47_0) rfl ?_
          refine zw_n 1 rfl ?_
          refine zw_top (nm (a := 8) (b := x) rfl rfl) ?_
          refine zw_n 3 (ls' := [some (.ref 139), some (.int (nI (8 * x))), some (.int 0)]) rfl ?_
          have mz5351 : Mz5349[140]? = some (.inl (0, 590, .inl (ai (f 140)))) := zat_set ez5350 (by decide) (Sm.at s_47 (by decide) (hM.2 140 (by decide) (by decide)))
          have mz5352 : Mz5349[153]? = some (.inl (0, 160, .inl (ai (f 153)))) := zat_set ez5350 (by decide) (Sm.at s_47 (by decide) (hM.2 153 (by decide) (by decide)))
          have mz5353 : Mz5349[156]? = some (.inl (0, 21, .inl (ai (f 156)))) := zat_set ez5350 (by decide) (Sm.at s_47 (by decide) (hM.2 156 (by decide) (by decide)))
          have mz5354 : Mz5349[157]? = some (.inl (0, 21, .inl (ai (f 157)))) := zat_set ez5350 (by decide) (Sm.at s_47 (by decide) (hM.2 157 (by decide) (by decide)))
          have mz5355 : Mz5349[158]? = some (.inl (1, 3872, .inr (.inl (al (f 158))))) := zat_set ez5350 (by decide) (Sm.at s_47 (by decide) (hM.2 158 (by decide) (by decide)))
          have lp74 : ∀ (n74 : Nat) (z : Nat) (T2 : Nat → Nat) (M_74 : zM), Sm Mq M_74 [139, 159, 160, 165, 167, 168, 169] → M_74[165]? = some (.inl (0, 3200, .inl (ai T2))) → M_74[139]? = some (.inr (12, [.int (nI (o 0)), .ref 140, .ref 141, .ref 142, .ref 143, .int (nI (o 5)), .ref 144, .int (nI (o 7)), .int (nI (o 8)), .int (nI (o 9)), .int (nI (o 10)), .ref 145, .ref 146, .ref 147, .ref 148, .ref 149, .ref 150, .ref 151, .ref 152, .ref 153, .ref 154, .ref 155, .ref 156, .ref 157, .ref 158, .ref 159, .ref 160, .ref 161, .ref 162, .ref 163, .ref 164, .int (nI (o 31)), .ref 165, .int (nI x), .ref 166, .ref 167, .ref 168, .ref 169, .int (nI (wt1 - 1)), .ref 170, .ref 171, .ref 172, .ref 173, .ref 174, .ref 175, .int (nI (o 45)), .int (nI (o 46)), .int (nI (o 47)), .long (lN (o 48)), .ref 176])) → M_74[159]? = some (.inl (1, 22, .inr (.inl (al A1)))) → M_74[160]? = some (.inl (1, 22, .inr (.inl (al B1)))) → M_74[167]? = some (.inl (0, 3200, .inl (ai V1))) → M_74[168]? = some (.inl (0, 6, .inl (ai E1))) → M_74[169]? = some (.inl (3, 126, .inl (ai C1))) → (z ≤ 8 ∧ (∀ w, w < z → T2 (x * 8 + w) = V1 ((wt1 - 1) * 8 + w)) ∧ ∀ q, q < x * 8 → T2 q = T1 q) → 8 - z < n74 → Zw 6 zm_MO_layTree 74 [some (.ref 139), some (.int (nI (8 * x))), some (.int (nI z))] [] M_74 (fun r9 M1 => r9 = none ∧ ∃ sz9 wt9 f9, MM M1 (up (up o 33 sz9) 38 wt9) f9 ∧ Sm Mq M1 [139, 159, 160, 165, 167, 168, 169] ∧ Fsame f f9 [159, 160, 165, 167, 168, 169] ∧ SafeM (f9 159) ∧ SafeM (f9 160) ∧ TrS (gE al_ it tg pt bd sg co) n c sz9 (f9 165)) := by
            intro n74
            induction n74 with
            | zero => intro z T2 M_74 _ _ _ _ _ _ _ _ _ h; exact absurd h (Nat.not_lt_zero _)
            | succ n74 ih74 =>
              intro z T2 M_74 s_74 f74_0 f74_1 f74_2 f74_3 f74_4 f74_5 f74_6 hi74 hm74
              refine zw_n 2 rfl ?_
              refine zw_igeN (a := z) (b := 8) rfl rfl rfl (by omega) (by omega) (fun c77 => ?_) (fun c77 => ?_)
              · -- 77 to 108
                have hop := hR9.open_ hA hG.2.2.1 (show c < 4294967295 by omega) (show (tI (gE al_ it tg pt bd sg co) n c x).2.1 ≠ 0 by omega)
                obtain ⟨u9, hu9⟩ : ∃ u9, u9 = (tI (gE al_ it tg pt bd sg co) n c x).2.2 ((tI (gE al_ it tg pt bd sg co) n c x).2.1 - 1) := ⟨_, rfl⟩
                rw [← hu9] at hop
                have hv9 := hop.1
                have hO9 := hop.2
                have hcp : ∀ w, w < 8 ∧ w ≠ 1 → T2 (x * 8 + w) = u9 w := fun w h1 => by
                  rw [hi74.2.1 w (by omega), hu9, ← hi47.2.1]
                  exact hi47.2.2.1 (wt1 - 1) w (by omega) h1.1 h1.2
                have hta9 := tA_ok hA hG.2.2.1 hv9.ok.1 (Nat.le_of_lt hv9.ok.2.1) (show u9 3 < 4294967295 by have := hv9.ok.2.2.1; omega) hv9.ok.2.2.2.1 hv9.ok.2.2.2.2
                refine zw_n 1 rfl ?_
                refine zw_get (v := .ref 165) rfl f74_1 rfl ?_
                refine zw_n 3 rfl ?_
                refine zw_top (na (a := 8 * x) (b := 1) rfl rfl) ?_
                refine zw_n 2 rfl ?_
                refine zw_get (v := .ref 165) rfl f74_1 rfl ?_
                refine zw_n 1 rfl ?_
                refine zw_iald (f := ai T2) (j := (x * 8 + 0)) rfl f74_0 (congrArg nI (by omega)) (by decide) (by omega) ?_
                refine zw_top (x' := (nI (u9 0))) (congrArg nI (hcp 0 (by decide))) ?_
                refine zw_n 1 rfl ?_
                refine zw_get (v := .ref 165) rfl f74_1 rfl ?_
                refine zw_n 3 rfl ?_
                refine zw_top (na (a := 8 * x) (b := 2) rfl rfl) ?_
                refine zw_iald (f := ai T2) (j := (x * 8 + 2)) rfl f74_0 (congrArg nI (by omega)) (by decide) (by omega) ?_
                refine zw_top (x' := (nI (u9 2))) (congrArg nI (hcp 2 (by decide))) ?_
                refine zw_n 1 rfl ?_
                refine zw_get (v := .ref 165) rfl f74_1 rfl ?_
                refine zw_n 3 rfl ?_
                refine zw_top (na (a := 8 * x) (b := 3) rfl rfl) ?_
                refine zw_iald (f := ai T2) (j := (x * 8 + 3)) rfl f74_0 (congrArg nI (by omega)) (by decide) (by omega) ?_
                refine zw_top (x' := (nI (u9 3))) (congrArg nI (hcp 3 (by decide))) ?_
                refine zw_n 1 rfl ?_
                refine zw_get (v := .ref 165) rfl f74_1 rfl ?_
                refine zw_n 3 rfl ?_
                refine zw_top (na (a := 8 * x) (b := 4) rfl rfl) ?_
                refine zw_iald (f := ai T2) (j := (x * 8 + 4)) rfl f74_0 (congrArg nI (by omega)) (by decide) (by omega) ?_
                refine zw_top (x' := (nI (u9 4))) (congrArg nI (hcp 4 (by decide))) ?_
                refine zw_callV (as := [.int (nI (u9 0)), .int (nI (u9 2)), .int (nI (u9 3)), .int (nI (u9 4))]) (rest := [.int (nI ((8 * x) + 1)), .ref 165]) rfl rfl rfl f74_1 rfl rfl rfl (by decide) (m_altOf M_74 (up (up o 33 x) 38 (wt1 - 1)) (fset (fset (fset (fset (fset (fset f 169 C1) 168 E1) 167 V1) 165 T2) 160 B1) 159 A1) (MM.of (o' := up (up o 33 x) 38 (wt1 - 1)) (f' := fset (fset (fset (fset (fset (fset f 169 C1) 168 E1) 167 V1) 165 T2) 160 B1) 159 A1) hM s_74 f74_1 (c1_skip (c1_cons f74_2 (c1_cons f74_3 (c1_cons f74_0 (c1_cons f74_4 (c1_cons f74_5 (c1_cons f74_6 c1_nil))))))) (fs_k (fs_c (fs_c (fs_c (fs_c (fs_c (fs_c fs_n)))))))) n gn al_ it pt tg bd hg hG (⟨hF.1, hF.2.1, hF.2.2.1, hF.2.2.2.1, hi47.2.2.2.2.1, hi47.2.2.2.2.2⟩) c sg li co hS h5 hv hcl emp rk hA (u9 0) (u9 2) (u9 3) (u9 4) hv9.ok.1 (Nat.le_of_lt hv9.ok.2.1) hv9.ok.2.2.1 hv9.ok.2.2.2.1 hv9.ok.2.2.2.2) (fun rz5363 Mz5364 hz5365 => ?_)
                obtain ⟨hAz5358, Az5356, Az5357, hMMz5359, hSz5360, hz5361, hz5362⟩ := hz5365
                rw [hAz5358]
                show Zw 6 zm_MO_layTree 149 [some (.ref 139), some (.int (nI (8 * x))), some (.int (nI z))] [.int (nI (tA (gE al_ it tg pt bd sg co) n (u9 0) (u9 2) (u9 3) (u9 4))), .int (nI ((8 * x) + 1)), .ref 165] Mz5364 _
                refine zw_iastN (g := T2) (j := (x * 8 + 1)) (v := (tA (gE al_ it tg pt bd sg co) n (u9 0) (u9 2) (u9 3) (u9 4))) rfl (Sm.at hSz5360 (by decide) f74_0) (congrArg nI (by omega)) (by decide) (by omega) (rfl) ?_
                generalize ez5367 : List.set Mz5364 165 _ = Mz5366
                refine zw_n 2 rfl ?_
                refine zw_get (v := .int (nI x)) rfl (zat_set ez5367 (by decide) (Sm.at hSz5360 (by decide) f74_1)) rfl ?_
                refine zw_n 2 rfl ?_
                refine zw_top (na (a := x) (b := 1) rfl rfl) ?_
                refine zw_put rfl (zat_set ez5367 (by decide) (Sm.at hSz5360 (by decide) f74_1)) (rfl) (Nat.le_of_ble_eq_true rfl) ?_
                generalize ez5369 : List.set Mz5366 139 _ = Mz5368
                refine zw_n 2 rfl ?_
                refine zw_callV (as := [.int (nI (8 * x))]) (rest := []) rfl rfl rfl (zat_self ez5369 (zat_set ez5367 (by decide) (Sm.at hSz5360 (by decide) f74_1))) rfl rfl rfl (by decide) (m_below Mz5368 (up (up o 33 (x + 1)) 38 (wt1 - 1)) (fset (fset (fset (fset (fset (fset f 169 C1) 168 E1) 167 V1) 165 (up T2 (x * 8 + 1) (tA (gE al_ it tg pt bd sg co) n (u9 0) (u9 2) (u9 3) (u9 4)))) 160 Az5357) 159 Az5356) (MM.of (o' := up (up o 33 (x + 1)) 38 (wt1 - 1)) (f' := fset (fset (fset (fset (fset (fset f 169 C1) 168 E1) 167 V1) 165 (up T2 (x * 8 + 1) (tA (gE al_ it tg pt bd sg co) n (u9 0) (u9 2) (u9 3) (u9 4)))) 160 Az5357) 159 Az5356) hM (Sm.tset (Sm.tset (Sm.tw s_74 hSz5360 (by decide)) ez5367 (by decide)) ez5369 (by decide)) (zat_self ez5369 (zat_set ez5367 (by decide) (Sm.at hSz5360 (by decide) f74_1))) (c1_skip (c1_cons (zat_set ez5369 (by decide) (zat_set ez5367 (by decide) (hMMz5359.2 159 (by decide) (by decide)))) (c1_cons (zat_set ez5369 (by decide) (zat_set ez5367 (by decide) (hMMz5359.2 160 (by decide) (by decide)))) (c1_cons (zat_set ez5369 (by decide) (zat_self ez5367 (Sm.at hSz5360 (by decide) f74_0))) (c1_cons (zat_set ez5369 (by decide) (zat_set ez5367 (by decide) (Sm.at hSz5360 (by decide) f74_4))) (c1_cons (zat_set ez5369 (by decide) (zat_set ez5367 (by decide) (Sm.at hSz5360 (by decide) f74_5))) (c1_cons (zat_set ez5369 (by decide) (zat_set ez5367 (by decide) (Sm.at hSz5360 (by decide) f74_6))) c1_nil))))))) (fs_k (fs_c (fs_c (fs_c (fs_c (fs_c (fs_c fs_n)))))))) n gn al_ it pt tg bd hg hG (⟨hF.1, hF.2.1, hF.2.2.1, hF.2.2.2.1, hz5361, hz5362⟩) c sg li co hS h5 hv hcl emp rk hA x (u9 0) (tA (gE al_ it tg pt bd sg co) n (u9 0) (u9 2) (u9 3) (u9 4)) (u9 2) (u9 3) (u9 4) (u9 6) ((tI (gE al_ it tg pt bd sg co) n c x).2.1 - 1, (tI (gE al_ it tg pt bd sg co) n c x).2.2) (tI (gE al_ it tg pt bd sg co) n c (x + 1)).2 (by omega) hv9.ok.1 hta9.1 hv9.ok.2.1 hv9.ok.2.2.1 hv9.ok.2.2.2.1 hv9.lv ((up_n (by omega)).trans (hcp 0 (by decide))) (up_s ..) ((up_n (by omega)).trans (hcp 2 (by decide))) ((up_n (by omega)).trans (hcp 3 (by decide))) ((up_n (by omega)).trans (hcp 4 (by decide))) ((up_n (by omega)).trans (hcp 6 (by decide))) hta9.2.2.1 (by show wt1 - 1 = _; rw [hi47.2.1]) hi47.2.2.1.pop hO9) (fun rz5379 Mz5380 hz5381 => ?_)
                obtain ⟨hAz5370, wtz5371, Vz5372, Ez5373, Cz5374, hMz5375, hSz5376, hwz5377, hVz5378⟩ := hz5381
                rw [hAz5370]
                show Zw 6 zm_MO_layTree 165 [some (.ref 139), some (.int (nI (8 * x))), some (.int (nI z))] [] Mz5380 _
                refine zw_n 1 rfl ?_
                refine zw_ls (ls' := [some (.ref 139), none, none]) ⟨Or.inr rfl, Or.inl rfl, Or.inl rfl, trivial⟩ ?_
                exact ih47 (x + 1) wtz5371 (up T2 (x * 8 + 1) (tA (gE al_ it tg pt bd sg co) n (u9 0) (u9 2) (u9 3) (u9 4))) Vz5372 Ez5373 Cz5374 Az5356 Az5357 Mz5380 (Sm.tw (Sm.tset (Sm.tset (Sm.tw s_74 hSz5360 (by decide)) ez5367 (by decide)) ez5369 (by decide)) hSz5376 (by decide)) hMz5375.1 (Sm.at hSz5376 (by decide) (zat_set ez5369 (by decide) (zat_self ez5367 (Sm.at hSz5360 (by decide) f74_0)))) (hMz5375.2 167 (by decide) (by decide)) (hMz5375.2 168 (by decide) (by decide)) (hMz5375.2 169 (by decide) (by decide)) (Sm.at hSz5376 (by decide) (zat_set ez5369 (by decide) (zat_set ez5367 (by decide) (hMMz5359.2 159 (by decide) (by decide))))) (Sm.at hSz5376 (by decide) (zat_set ez5369 (by decide) (zat_set ez5367 (by decide) (hMMz5359.2 160 (by decide) (by decide))))) (⟨fun q9 h9 => by
              by_cases e9 : q9 = x
              · rw [e9, ← hi47.2.1]; omega
              · exact hi47.1 q9 (by omega), hwz5377, hVz5378, TtV.take2 (E := (gE al_ it tg pt bd sg co)) (n := n) (a := tA (gE al_ it tg pt bd sg co) n (u9 0) (u9 2) (u9 3) (u9 4)) hi47.2.2.2.1 hi47.2.2.1 (by omega) (fun w9 h9 => by rw [← hi47.2.1]; exact hi74.2.1 w9 (by omega)) hi74.2.2 (by rw [hu9]), hz5361, hz5362⟩) (by omega)
              · -- 77 to 80
                refine zw_n 1 rfl ?_
                refine zw_get (v := .ref 165) rfl f74_1 rfl ?_
                refine zw_n 3 rfl ?_
                refine zw_top (na (a := 8 * x) (b := z) rfl rfl) ?_
                refine zw_n 1 rfl ?_
                refine zw_get (v := .ref 167) rfl f74_1 rfl ?_
                refine zw_n 2 rfl ?_
                refine zw_get (v := .int (nI (wt1 - 1))) rfl f74_1 rfl ?_
                refine zw_n 1 rfl ?_
                refine zw_top (nm (a := 8) (b := wt1 - 1) rfl rfl) ?_
                refine zw_n 2 rfl ?_
                refine zw_top (na (a := 8 * (wt1 - 1)) (b := z) rfl rfl) ?_
                refine zw_iald (f := ai V1) (j := ((wt1 - 1) * 8 + z)) rfl f74_4 (congrArg nI (by omega)) (by decide) (by omega) ?_
                refine zw_iastN (g := T2) (j := (x * 8 + z)) (v := (V1 ((wt1 - 1) * 8 + z))) rfl f74_0 (congrArg nI (by omega)) (by decide) (by omega) (rfl) ?_
                generalize ez5383 : List.set M_74 165 _ = Mz5382
                refine zw_inc rfl (x' := (nI (z + 1))) (ls' := [some (.ref 139), some (.int (nI (8 * x))), some (.int (nI (z + 1)))]) rfl (na (a := z) (b := 1) rfl rfl) rfl ?_
                refine zw_n 1 rfl ?_
                exact ih74 (z + 1) (up T2 (x * 8 + z) (V1 ((wt1 - 1) * 8 + z))) Mz5382 (Sm.tset s_74 ez5383 (by decide)) (zat_self ez5383 f74_0) (zat_set ez5383 (by decide) f74_1) (zat_set ez5383 (by decide) f74_2) (zat_set ez5383 (by decide) f74_3) (zat_set ez5383 (by decide) f74_4) (zat_set ez5383 (by decide) f74_5) (zat_set ez5383 (by decide) f74_6) (⟨by omega, fun w hw => by
              by_cases e9 : w = z
              · rw [e9, up_s]
              · rw [up_n (by omega)]; exact hi74.2.1 w (by omega), fun q hq => by rw [up_n (by omega)]; exact hi74.2.2 q hq⟩) (by omega)
          exact lp74 _ 0 T1 Mz5349 (Sm.tset s_47 ez5350 (by decide)) (zat_set ez5350 (by decide) f47_1) (zat_self ez5350 f47_0) (zat_set ez5350 (by decide) f47_5) (zat_set ez5350 (by decide) f47_6) (zat_set ez5350 (by decide) f47_2) (zat_set ez5350 (by decide) f47_3) (zat_set ez5350 (by decide) f47_4) (⟨by omega, fun w hw => by omega, fun q hq => rfl⟩) (Nat.lt_succ_self _)
    exact lp47 _ 0 0 (f 165) (f 167) (f 168) (f 169) (f 159) (f 160) Mz5332 sz5348 (zat_self ez5333 (zat_self ez5331 hM.1)) mz5344 mz5345 mz5343 mz5342 mz5346 mz5347 (⟨fun q9 h9 => by omega, (if_neg (by omega)).symm, fun w f h9 => absurd (show w < (if 0 < c then 1 else 0) from h9) (by rw [if_neg (by omega)]; omega), fun q9 f h9 => by omega, hF.2.2.2.2.1, hF.2.2.2.2.2⟩) (Nat.lt_succ_self _)
  · -- 14 to 17
    refine zw_n 4 rfl ?_
    refine zw_callV (as := []) (rest := [.int 0, .int 0, .ref 139]) rfl rfl rfl (zat_self ez5333 (zat_self ez5331 hM.1)) rfl rfl rfl (by decide) (m_tok1 Mz5332 (up (up o 33 0) 38 0) f (MM.of (o' := up (up o 33 0) 38 0) (f' := f) hM (Sm.tset (Sm.tset Sm.rf ez5331 (by decide)) ez5333 (by decide)) (zat_self ez5333 (zat_self ez5331 hM.1)) (c1_skip (c1_cons (zat_set ez5333 (by decide) (zat_set ez5331 (by decide) (hM.2 159 (by decide) (by decide)))) (c1_cons (zat_set ez5333 (by decide) (zat_set ez5331 (by decide) (hM.2 160 (by decide) (by decide)))) (c1_cons (zat_set ez5333 (by decide) (zat_set ez5331 (by decide) (hM.2 165 (by decide) (by decide)))) (c1_cons (zat_set ez5333 (by decide) (zat_set ez5331 (by decide) (hM.2 167 (by decide) (by decide)))) (c1_cons (zat_set ez5333 (by decide) (zat_set ez5331 (by decide) (hM.2 168 (by decide) (by decide)))) (c1_cons (zat_set ez5333 (by decide) (zat_set ez5331 (by decide) (hM.2 169 (by decide) (by decide)))) c1_nil))))))) (fs_k (fs_k (fs_k (fs_k (fs_k (fs_k (fs_k fs_n)))))))) c ht.1) (fun rz5384 Mz5385 hz5386 => ?_)
    rw [hz5386.1, hz5386.2]
    show Zw 6 zm_MO_layTree 24 [some (.ref 139), none, none] [.int (nI c), .int 0, .int 0, .ref 139] Mz5332 _
    refine zw_n 1 rfl ?_
    refine zw_get (v := .ref 158) rfl (zat_self ez5333 (zat_self ez5331 hM.1)) rfl ?_
    refine zw_n 3 rfl ?_
    refine zw_callV (as := []) (rest := [.int 0, .int 0, .ref 158, .int (nI c), .int 0, .int 0, .ref 139]) rfl rfl rfl (zat_self ez5333 (zat_self ez5331 hM.1)) rfl rfl rfl (by decide) (m_tok1 Mz5332 (up (up o 33 0) 38 0) f (MM.of (o' := up (up o 33 0) 38 0) (f' := f) hM (Sm.tset (Sm.tset Sm.rf ez5331 (by decide)) ez5333 (by decide)) (zat_self ez5333 (zat_self ez5331 hM.1)) (c1_skip (c1_cons (zat_set ez5333 (by decide) (zat_set ez5331 (by decide) (hM.2 159 (by decide) (by decide)))) (c1_cons (zat_set ez5333 (by decide) (zat_set ez5331 (by decide) (hM.2 160 (by decide) (by decide)))) (c1_cons (zat_set ez5333 (by decide) (zat_set ez5331 (by decide) (hM.2 165 (by decide) (by decide)))) (c1_cons (zat_set ez5333 (by decide) (zat_set ez5331 (by decide) (hM.2 167 (by decide) (by decide)))) (c1_cons (zat_set ez5333 (by decide) (zat_set ez5331 (by decide) (hM.2 168 (by decide) (by decide)))) (c1_cons (zat_set ez5333 (by decide) (zat_set ez5331 (by decide) (hM.2 169 (by decide) (by decide)))) c1_nil))))))) (fs_k (fs_k (fs_k (fs_k (fs_k (fs_k (fs_k fs_n)))))))) c ht.1) (fun rz5387 Mz5388 hz5389 => ?_)
    rw [hz5389.1, hz5389.2]
    show Zw 6 zm_MO_layTree 34 [some (.ref 139), none, none] [.int (nI c), .int 0, .int 0, .ref 158, .int (nI c), .int 0, .int 0, .ref 139] Mz5332 _
    refine zw_callS (as := [.int 0, .int 0, .int (nI c)]) (rest := [.ref 158, .int (nI c), .int 0, .int 0, .ref 139]) rfl rfl rfl rfl rfl rfl (by decide) (m_at _ 0 0 c) (fun rz5390 Mz5391 hz5392 => ?_)
    rw [hz5392.1, hz5392.2]
    show Zw 6 zm_MO_layTree 37 [some (.ref 139), none, none] [.int (nI (22 * (22 * 0 + 0) + c)), .ref 158, .int (nI c), .int 0, .int 0, .ref 139] Mz5332 _
    refine zw_lald (f := al (f 158)) (j := (22 * (22 * 0 + 0) + c)) rfl (zat_set ez5333 (by decide) (zat_set ez5331 (by decide) (hM.2 158 (by decide) (by decide)))) rfl (by decide) (by omega) ?_
    refine zw_callS (as := [.long (lN ((f 158) (22 * (22 * 0 + 0) + c)))]) (rest := [.int (nI c), .int 0, .int 0, .ref 139]) rfl rfl rfl rfl rfl rfl (by decide) (m_leastOf _ _ (by have h9 := hv 0 0 c h0.1 (Nat.zero_le _) (Nat.lt_succ_self _); have h8 : f 158 (22 * (22 * 0 + 0) + c) = wh (gE al_ it tg pt bd sg co) n 0 0 c := h9; rw [h8]; exact h0.2) (hF.2.2.2.1 _)) (fun rz5393 Mz5394 hz5395 => ?_)
    rw [hz5395.1, hz5395.2]
    show Zw 6 zm_MO_layTree 41 [some (.ref 139), none, none] [.int (nI (lsb ((f 158) (22 * (22 * 0 + 0) + c)))), .int (nI c), .int 0, .int 0, .ref 139] Mz5332 _
    refine zw_n 3 rfl ?_
    refine zw_callV (as := [.int 0, .int 0, .int (nI c), .int (nI (lsb ((f 158) (22 * (22 * 0 + 0) + c)))), .int (-1), .int 0, .int 0]) (rest := []) rfl rfl rfl (zat_self ez5333 (zat_self ez5331 hM.1)) rfl rfl rfl (by decide) (m_waits0 Mz5332 (up (up o 33 0) 38 0) f (MM.of (o' := up (up o 33 0) 38 0) (f' := f) hM (Sm.tset (Sm.tset Sm.rf ez5331 (by decide)) ez5333 (by decide)) (zat_self ez5333 (zat_self ez5331 hM.1)) (c1_skip (c1_cons (zat_set ez5333 (by decide) (zat_set ez5331 (by decide) (hM.2 159 (by decide) (by decide)))) (c1_cons (zat_set ez5333 (by decide) (zat_set ez5331 (by decide) (hM.2 160 (by decide) (by decide)))) (c1_cons (zat_set ez5333 (by decide) (zat_set ez5331 (by decide) (hM.2 165 (by decide) (by decide)))) (c1_cons (zat_set ez5333 (by decide) (zat_set ez5331 (by decide) (hM.2 167 (by decide) (by decide)))) (c1_cons (zat_set ez5333 (by decide) (zat_set ez5331 (by decide) (hM.2 168 (by decide) (by decide)))) (c1_cons (zat_set ez5333 (by decide) (zat_set ez5331 (by decide) (hM.2 169 (by decide) (by decide)))) c1_nil))))))) (fs_k (fs_k (fs_k (fs_k (fs_k (fs_k (fs_k fs_n)))))))) (show _ < 400 by show 0 < 400; omega) c (lsb ((f 158) (22 * (22 * 0 + 0) + c)))) (fun rz5399 Mz5400 hz5401 => ?_)
    obtain ⟨hAz5396, hMz5397, hSz5398⟩ := hz5401
    rw [hAz5396]
    show Zw 6 zm_MO_layTree 47 [some (.ref 139), none, none] [] Mz5400 _
    have mz5402 : Mz5400[140]? = some (.inl (0, 590, .inl (ai (f 140)))) := Sm.at hSz5398 (by decide) (zat_set ez5333 (by decide) (zat_set ez5331 (by decide) (hM.2 140 (by decide) (by decide))))
    have mz5403 : Mz5400[153]? = some (.inl (0, 160, .inl (ai (f 153)))) := Sm.at hSz5398 (by decide) (zat_set ez5333 (by decide) (zat_set ez5331 (by decide) (hM.2 153 (by decide) (by decide))))
    have mz5404 : Mz5400[156]? = some (.inl (0, 21, .inl (ai (f 156)))) := Sm.at hSz5398 (by decide) (zat_set ez5333 (by decide) (zat_set ez5331 (by decide) (hM.2 156 (by decide) (by decide))))
    have mz5405 : Mz5400[157]? = some (.inl (0, 21, .inl (ai (f 157)))) := Sm.at hSz5398 (by decide) (zat_set ez5333 (by decide) (zat_set ez5331 (by decide) (hM.2 157 (by decide) (by decide))))
    have mz5406 : Mz5400[158]? = some (.inl (1, 3872, .inr (.inl (al (f 158))))) := Sm.at hSz5398 (by decide) (zat_set ez5333 (by decide) (zat_set ez5331 (by decide) (hM.2 158 (by decide) (by decide))))
    have mz5407 : Mz5400[169]? = some (.inl (3, 126, .inl (ai (f 169)))) := Sm.at hSz5398 (by decide) (zat_set ez5333 (by decide) (zat_set ez5331 (by decide) (hM.2 169 (by decide) (by decide))))
    have mz5408 : Mz5400[168]? = some (.inl (0, 6, .inl (ai (f 168)))) := Sm.at hSz5398 (by decide) (zat_set ez5333 (by decide) (zat_set ez5331 (by decide) (hM.2 168 (by decide) (by decide))))
    have mz5409 : Mz5400[165]? = some (.inl (0, 3200, .inl (ai (f 165)))) := Sm.at hSz5398 (by decide) (zat_set ez5333 (by decide) (zat_set ez5331 (by decide) (hM.2 165 (by decide) (by decide))))
    have mz5410 : Mz5400[159]? = some (.inl (1, 22, .inr (.inl (al (f 159))))) := Sm.at hSz5398 (by decide) (zat_set ez5333 (by decide) (zat_set ez5331 (by decide) (hM.2 159 (by decide) (by decide))))
    have mz5411 : Mz5400[160]? = some (.inl (1, 22, .inr (.inl (al (f 160))))) := Sm.at hSz5398 (by decide) (zat_set ez5333 (by decide) (zat_set ez5331 (by decide) (hM.2 160 (by decide) (by decide))))
    have sz5412 : Sm Mq Mz5400 [139, 159, 160, 165, 167, 168, 169] := Sm.tw (Sm.tset (Sm.tset Sm.rf ez5331 (by decide)) ez5333 (by decide)) hSz5398 (by decide)
    have lp47 : ∀ (n47 : Nat) (x : Nat) (wt1 : Nat) (T1 : Nat → Nat) (V1 : Nat → Nat) (E1 : Nat → Nat) (C1 : Nat → Nat) (A1 : Nat → Nat) (B1 : Nat → Nat) (M_47 : zM), Sm Mq M_47 [139, 159, 160, 165, 167, 168, 169] → M_47[139]? = some (.inr (12, [.int (nI (o 0)), .ref 140, .ref 141, .ref 142, .ref 143, .int (nI (o 5)), .ref 144, .int (nI (o 7)), .int (nI (o 8)), .int (nI (o 9)), .int (nI (o 10)), .ref 145, .ref 146, .ref 147, .ref 148, .ref 149, .ref 150, .ref 151, .ref 152, .ref 153, .ref 154, .ref 155, .ref 156, .ref 157, .ref 158, .ref 159, .ref 160, .ref 161, .ref 162, .ref 163, .ref 164, .int (nI (o 31)), .ref 165, .int (nI x), .ref 166, .ref 167, .ref 168, .ref 169, .int (nI wt1), .ref 170, .ref 171, .ref 172, .ref 173, .ref 174, .ref 175, .int (nI (o 45)), .int (nI (o 46)), .int (nI (o 47)), .long (lN (o 48)), .ref 176])) → M_47[165]? = some (.inl (0, 3200, .inl (ai T1))) → M_47[167]? = some (.inl (0, 3200, .inl (ai V1))) → M_47[168]? = some (.inl (0, 6, .inl (ai E1))) → M_47[169]? = some (.inl (3, 126, .inl (ai C1))) → M_47[159]? = some (.inl (1, 22, .inr (.inl (al A1)))) → M_47[160]? = some (.inl (1, 22, .inr (.inl (al B1)))) → ((∀ q, q < x → (tI (gE al_ it tg pt bd sg co) n c q).2.1 ≠ 0) ∧ wt1 = (tI (gE al_ it tg pt bd sg co) n c x).2.1 ∧ WtV V1 (tI (gE al_ it tg pt bd sg co) n c x).2 ∧ TtV T1 x (tI (gE al_ it tg pt bd sg co) n c x).1 ∧ SafeM A1 ∧ SafeM B1) → 400 - x < n47 → Zw 6 zm_MO_layTree 47 [some (.ref 139), none, none] [] M_47 (fun r9 M1 => r9 = none ∧ ∃ sz9 wt9 f9, MM M1 (up (up o 33 sz9) 38 wt9) f9 ∧ Sm Mq M1 [139, 159, 160, 165, 167, 168, 169] ∧ Fsame f f9 [159, 160, 165, 167, 168, 169] ∧ SafeM (f9 159) ∧ SafeM (f9 160) ∧ TrS (gE al_ it tg pt bd sg co) n c sz9 (f9 165)) := by
      intro n47
      induction n47 with
      | zero => intro x wt1 T1 V1 E1 C1 A1 B1 M_47 _ _ _ _ _ _ _ _ _ h; exact absurd h (Nat.not_lt_zero _)
      | succ n47 ih47 =>
        intro x wt1 T1 V1 E1 C1 A1 B1 M_47 s_47 f47_0 f47_1 f47_2 f47_3 f47_4 f47_5 f47_6 hi47 hm47
        have hR9 := tR.run hA hn8 hG.2.2.1 hS.2.2.2 hG.2.2.2.2.2.2 hc20 (fun _ => h0) x hi47.1
        have hsm9 := hR9.sum
        have hge9 := @tSum_ge n rk (tI (gE al_ it tg pt bd sg co) n c x).2
        refine zw_n 1 rfl ?_
        refine zw_get (v := .int (nI wt1)) rfl f47_0 rfl ?_
        refine zw_le0N (a := wt1) rfl rfl (by omega) (fun c51 => ?_) (fun c51 => ?_)
        · -- 51 to 168
          exact zw_vret rfl rfl (⟨rfl, x, wt1, _, (MM.of (o' := up (up o 33 x) 38 wt1) (f' := fset (fset (fset (fset (fset (fset f 169 C1) 168 E1) 167 V1) 165 T1) 160 B1) 159 A1) hM s_47 f47_0 (c1_skip (c1_cons f47_5 (c1_cons f47_6 (c1_cons f47_1 (c1_cons f47_2 (c1_cons f47_3 (c1_cons f47_4 c1_nil))))))) (fs_k (fs_c (fs_c (fs_c (fs_c (fs_c (fs_c fs_n)))))))), s_47, fun a ha => by unfold fset; simp only [List.mem_cons, not_or] at ha; simp [ha], hi47.2.2.2.2.1, hi47.2.2.2.2.2, TrS.of hi47.1 (by omega) hi47.2.2.2.1⟩)
        · -- 51 to 54
          refine zw_n 2 rfl ?_
          refine zw_get (v := .int (nI wt1)) rfl f47_0 rfl ?_
          refine zw_n 2 rfl ?_
          refine zw_top (ns (a := wt1) (b := 1) rfl rfl (by omega)) ?_
          refine zw_put rfl f47_0 (rfl) (Nat.le_of_ble_eq_true rfl) ?_
          generalize ez5414 : List.set M_47 139 _ = Mz5413
          refine zw_n 2 rfl ?_
          refine zw_get (v := .int (nI x)) rfl (zat_self ez5414 f47_0) rfl ?_
          refine zw_n 1 rfl ?_
          refine zw_top (nm (a := 8) (b := x) rfl rfl) ?_
          refine zw_n 3 (ls' := [some (.ref 139), some (.int (nI (8 * x))), some (.int 0)]) rfl ?_
          have mz5415 : Mz5413[140]? = some (.inl (0, 590, .inl (ai (f 140)))) := zat_set ez5414 (by decide) (Sm.at s_47 (by decide) (hM.2 140 (by decide) (by decide)))
          have mz5416 : Mz5413[153]? = some (.inl (0, 160, .inl (ai (f 153)))) := zat_set ez5414 (by decide) (Sm.at s_47 (by decide) (hM.2 153 (by decide) (by decide)))
          have mz5417 : Mz5413[156]? = some (.inl (0, 21, .inl (ai (f 156)))) := zat_set ez5414 (by decide) (Sm.at s_47 (by decide) (hM.2 156 (by decide) (by decide)))
          have mz5418 : Mz5413[157]? = some (.inl (0, 21, .inl (ai (f 157)))) := zat_set ez5414 (by decide) (Sm.at s_47 (by decide) (hM.2 157 (by decide) (by decide)))
          have mz5419 : Mz5413[158]? = some (.inl (1, 3872, .inr (.inl (al (f 158))))) := zat_set ez5414 (by decide) (Sm.at s_47 (by decide) (hM.2 158 (by decide) (by decide)))
          have lp74 : ∀ (n74 : Nat) (z : Nat) (T2 : Nat → Nat) (M_74 : zM), Sm Mq M_74 [139, 159, 160, 165, 167, 168, 169] → M_74[165]? = some (.inl (0, 3200, .inl (ai T2))) → M_74[139]? = some (.inr (12, [.int (nI (o 0)), .ref 140, .ref 141, .ref 142, .ref 143, .int (nI (o 5)), .ref 144, .int (nI (o 7)), .int (nI (o 8)), .int (nI (o 9)), .int (nI (o 10)), .ref 145, .ref 146, .ref 147, .ref 148, .ref 149, .ref 150, .ref 151, .ref 152, .ref 153, .ref 154, .ref 155, .ref 156, .ref 157, .ref 158, .ref 159, .ref 160, .ref 161, .ref 162, .ref 163, .ref 164, .int (nI (o 31)), .ref 165, .int (nI x), .ref 166, .ref 167, .ref 168, .ref 169, .int (nI (wt1 - 1)), .ref 170, .ref 171, .ref 172, .ref 173, .ref 174, .ref 175, .int (nI (o 45)), .int (nI (o 46)), .int (nI (o 47)), .long (lN (o 48)), .ref 176])) → M_74[159]? = some (.inl (1, 22, .inr (.inl (al A1)))) → M_74[160]? = some (.inl (1, 22, .inr (.inl (al B1)))) → M_74[167]? = some (.inl (0, 3200, .inl (ai V1))) → M_74[168]? = some (.inl (0, 6, .inl (ai E1))) → M_74[169]? = some (.inl (3, 126, .inl (ai C1))) → (z ≤ 8 ∧ (∀ w, w < z → T2 (x * 8 + w) = V1 ((wt1 - 1) * 8 + w)) ∧ ∀ q, q < x * 8 → T2 q = T1 q) → 8 - z < n74 → Zw 6 zm_MO_layTree 74 [some (.ref 139), some (.int (nI (8 * x))), some (.int (nI z))] [] M_74 (fun r9 M1 => r9 = none ∧ ∃ sz9 wt9 f9, MM M1 (up (up o 33 sz9) 38 wt9) f9 ∧ Sm Mq M1 [139, 159, 160, 165, 167, 168, 169] ∧ Fsame f f9 [159, 160, 165, 167, 168, 169] ∧ SafeM (f9 159) ∧ SafeM (f9 160) ∧ TrS (gE al_ it tg pt bd sg co) n c sz9 (f9 165)) := by
            intro n74
            induction n74 with
            | zero => intro z T2 M_74 _ _ _ _ _ _ _ _ _ h; exact absurd h (Nat.not_lt_zero _)
            | succ n74 ih74 =>
              intro z T2 M_74 s_74 f74_0 f74_1 f74_2 f74_3 f74_4 f74_5 f74_6 hi74 hm74
              refine zw_n 2 rfl ?_
              refine zw_igeN (a := z) (b := 8) rfl rfl rfl (by omega) (by omega) (fun c77 => ?_) (fun c77 => ?_)
              · -- 77 to 108
                have hop := hR9.open_ hA hG.2.2.1 (show c < 4294967295 by omega) (show (tI (gE al_ it tg pt bd sg co) n c x).2.1 ≠ 0 by omega)
                obtain ⟨u9, hu9⟩ : ∃ u9, u9 = (tI (gE al_ it tg pt bd sg co) n c x).2.2 ((tI (gE al_ it tg pt bd sg co) n c x).2.1 - 1) := ⟨_, rfl⟩
                rw [← hu9] at hop
                have hv9 := hop.1
                have hO9 := hop.2
                have hcp : ∀ w, w < 8 ∧ w ≠ 1 → T2 (x * 8 + w) = u9 w := fun w h1 => by
                  rw [hi74.2.1 w (by omega), hu9, ← hi47.2.1]
                  exact hi47.2.2.1 (wt1 - 1) w (by omega) h1.1 h1.2
                have hta9 := tA_ok hA hG.2.2.1 hv9.ok.1 (Nat.le_of_lt hv9.ok.2.1) (show u9 3 < 4294967295 by have := hv9.ok.2.2.1; omega) hv9.ok.2.2.2.1 hv9.ok.2.2.2.2
                refine zw_n 1 rfl ?_
                refine zw_get (v := .ref 165) rfl f74_1 rfl ?_
                refine zw_n 3 rfl ?_
                refine zw_top (na (a := 8 * x) (b := 1) rfl rfl) ?_
                refine zw_n 2 rfl ?_
                refine zw_get (v := .ref 165) rfl f74_1 rfl ?_
                refine zw_n 1 rfl ?_
                refine zw_iald (f := ai T2) (j := (x * 8 + 0)) rfl f74_0 (congrArg nI (by omega)) (by decide) (by omega) ?_
                refine zw_top (x' := (nI (u9 0))) (congrArg nI (hcp 0 (by decide))) ?_
                refine zw_n 1 rfl ?_
                refine zw_get (v := .ref 165) rfl f74_1 rfl ?_
                refine zw_n 3 rfl ?_
                refine zw_top (na (a := 8 * x) (b := 2) rfl rfl) ?_
                refine zw_iald (f := ai T2) (j := (x * 8 + 2)) rfl f74_0 (congrArg nI (by omega)) (by decide) (by omega) ?_
                refine zw_top (x' := (nI (u9 2))) (congrArg nI (hcp 2 (by decide))) ?_
                refine zw_n 1 rfl ?_
                refine zw_get (v := .ref 165) rfl f74_1 rfl ?_
                refine zw_n 3 rfl ?_
                refine zw_top (na (a := 8 * x) (b := 3) rfl rfl) ?_
                refine zw_iald (f := ai T2) (j := (x * 8 + 3)) rfl f74_0 (congrArg nI (by omega)) (by decide) (by omega) ?_
                refine zw_top (x' := (nI (u9 3))) (congrArg nI (hcp 3 (by decide))) ?_
                refine zw_n 1 rfl ?_
                refine zw_get (v := .ref 165) rfl f74_1 rfl ?_
                refine zw_n 3 rfl ?_
                refine zw_top (na (a := 8 * x) (b := 4) rfl rfl) ?_
                refine zw_iald (f := ai T2) (j := (x * 8 + 4)) rfl f74_0 (congrArg nI (by omega)) (by decide) (by omega) ?_
                refine zw_top (x' := (nI (u9 4))) (congrArg nI (hcp 4 (by decide))) ?_
                refine zw_callV (as := [.int (nI (u9 0)), .int (nI (u9 2)), .int (nI (u9 3)), .int (nI (u9 4))]) (rest := [.int (nI ((8 * x) + 1)), .ref 165]) rfl rfl rfl f74_1 rfl rfl rfl (by decide) (m_altOf M_74 (up (up o 33 x) 38 (wt1 - 1)) (fset (fset (fset (fset (fset (fset f 169 C1) 168 E1) 167 V1) 165 T2) 160 B1) 159 A1) (MM.of (o' := up (up o 33 x) 38 (wt1 - 1)) (f' := fset (fset (fset (fset (fset (fset f 169 C1) 168 E1) 167 V1) 165 T2) 160 B1) 159 A1) hM s_74 f74_1 (c1_skip (c1_cons f74_2 (c1_cons f74_3 (c1_cons f74_0 (c1_cons f74_4 (c1_cons f74_5 (c1_cons f74_6 c1_nil))))))) (fs_k (fs_c (fs_c (fs_c (fs_c (fs_c (fs_c fs_n)))))))) n gn al_ it pt tg bd hg hG (⟨hF.1, hF.2.1, hF.2.2.1, hF.2.2.2.1, hi47.2.2.2.2.1, hi47.2.2.2.2.2⟩) c sg li co hS h5 hv hcl emp rk hA (u9 0) (u9 2) (u9 3) (u9 4) hv9.ok.1 (Nat.le_of_lt hv9.ok.2.1) hv9.ok.2.2.1 hv9.ok.2.2.2.1 hv9.ok.2.2.2.2) (fun rz5427 Mz5428 hz5429 => ?_)
                obtain ⟨hAz5422, Az5420, Az5421, hMMz5423, hSz5424, hz5425, hz5426⟩ := hz5429
                rw [hAz5422]
                show Zw 6 zm_MO_layTree 149 [some (.ref 139), some (.int (nI (8 * x))), some (.int (nI z))] [.int (nI (tA (gE al_ it tg pt bd sg co) n (u9 0) (u9 2) (u9 3) (u9 4))), .int (nI ((8 * x) + 1)), .ref 165] Mz5428 _
                refine zw_iastN (g := T2) (j := (x * 8 + 1)) (v := (tA (gE al_ it tg pt bd sg co) n (u9 0) (u9 2) (u9 3) (u9 4))) rfl (Sm.at hSz5424 (by decide) f74_0) (congrArg nI (by omega)) (by decide) (by omega) (rfl) ?_
                generalize ez5431 : List.set Mz5428 165 _ = Mz5430
                refine zw_n 2 rfl ?_
                refine zw_get (v := .int (nI x)) rfl (zat_set ez5431 (by decide) (Sm.at hSz5424 (by decide) f74_1)) rfl ?_
                refine zw_n 2 rfl ?_
                refine zw_top (na (a := x) (b := 1) rfl rfl) ?_
                refine zw_put rfl (zat_set ez5431 (by decide) (Sm.at hSz5424 (by decide) f74_1)) (rfl) (Nat.le_of_ble_eq_true rfl) ?_
                generalize ez5433 : List.set Mz5430 139 _ = Mz5432
                refine zw_n 2 rfl ?_
                refine zw_callV (as := [.int (nI (8 * x))]) (rest := []) rfl rfl rfl (zat_self ez5433 (zat_set ez5431 (by decide) (Sm.at hSz5424 (by decide) f74_1))) rfl rfl rfl (by decide) (m_below Mz5432 (up (up o 33 (x + 1)) 38 (wt1 - 1)) (fset (fset (fset (fset (fset (fset f 169 C1) 168 E1) 167 V1) 165 (up T2 (x * 8 + 1) (tA (gE al_ it tg pt bd sg co) n (u9 0) (u9 2) (u9 3) (u9 4)))) 160 Az5421) 159 Az5420) (MM.of (o' := up (up o 33 (x + 1)) 38 (wt1 - 1)) (f' := fset (fset (fset (fset (fset (fset f 169 C1) 168 E1) 167 V1) 165 (up T2 (x * 8 + 1) (tA (gE al_ it tg pt bd sg co) n (u9 0) (u9 2) (u9 3) (u9 4)))) 160 Az5421) 159 Az5420) hM (Sm.tset (Sm.tset (Sm.tw s_74 hSz5424 (by decide)) ez5431 (by decide)) ez5433 (by decide)) (zat_self ez5433 (zat_set ez5431 (by decide) (Sm.at hSz5424 (by decide) f74_1))) (c1_skip (c1_cons (zat_set ez5433 (by decide) (zat_set ez5431 (by decide) (hMMz5423.2 159 (by decide) (by decide)))) (c1_cons (zat_set ez5433 (by decide) (zat_set ez5431 (by decide) (hMMz5423.2 160 (by decide) (by decide)))) (c1_cons (zat_set ez5433 (by decide) (zat_self ez5431 (Sm.at hSz5424 (by decide) f74_0))) (c1_cons (zat_set ez5433 (by decide) (zat_set ez5431 (by decide) (Sm.at hSz5424 (by decide) f74_4))) (c1_cons (zat_set ez5433 (by decide) (zat_set ez5431 (by decide) (Sm.at hSz5424 (by decide) f74_5))) (c1_cons (zat_set ez5433 (by decide) (zat_set ez5431 (by decide) (Sm.at hSz5424 (by decide) f74_6))) c1_nil))))))) (fs_k (fs_c (fs_c (fs_c (fs_c (fs_c (fs_c fs_n)))))))) n gn al_ it pt tg bd hg hG (⟨hF.1, hF.2.1, hF.2.2.1, hF.2.2.2.1, hz5425, hz5426⟩) c sg li co hS h5 hv hcl emp rk hA x (u9 0) (tA (gE al_ it tg pt bd sg co) n (u9 0) (u9 2) (u9 3) (u9 4)) (u9 2) (u9 3) (u9 4) (u9 6) ((tI (gE al_ it tg pt bd sg co) n c x).2.1 - 1, (tI (gE al_ it tg pt bd sg co) n c x).2.2) (tI (gE al_ it tg pt bd sg co) n c (x + 1)).2 (by omega) hv9.ok.1 hta9.1 hv9.ok.2.1 hv9.ok.2.2.1 hv9.ok.2.2.2.1 hv9.lv ((up_n (by omega)).trans (hcp 0 (by decide))) (up_s ..) ((up_n (by omega)).trans (hcp 2 (by decide))) ((up_n (by omega)).trans (hcp 3 (by decide))) ((up_n (by omega)).trans (hcp 4 (by decide))) ((up_n (by omega)).trans (hcp 6 (by decide))) hta9.2.2.1 (by show wt1 - 1 = _; rw [hi47.2.1]) hi47.2.2.1.pop hO9) (fun rz5443 Mz5444 hz5445 => ?_)
                obtain ⟨hAz5434, wtz5435, Vz5436, Ez5437, Cz5438, hMz5439, hSz5440, hwz5441, hVz5442⟩ := hz5445
                rw [hAz5434]
                show Zw 6 zm_MO_layTree 165 [some (.ref 139), some (.int (nI (8 * x))), some (.int (nI z))] [] Mz5444 _
                refine zw_n 1 rfl ?_
                refine zw_ls (ls' := [some (.ref 139), none, none]) ⟨Or.inr rfl, Or.inl rfl, Or.inl rfl, trivial⟩ ?_
                exact ih47 (x + 1) wtz5435 (up T2 (x * 8 + 1) (tA (gE al_ it tg pt bd sg co) n (u9 0) (u9 2) (u9 3) (u9 4))) Vz5436 Ez5437 Cz5438 Az5420 Az5421 Mz5444 (Sm.tw (Sm.tset (Sm.tset (Sm.tw s_74 hSz5424 (by decide)) ez5431 (by decide)) ez5433 (by decide)) hSz5440 (by decide)) hMz5439.1 (Sm.at hSz5440 (by decide) (zat_set ez5433 (by decide) (zat_self ez5431 (Sm.at hSz5424 (by decide) f74_0)))) (hMz5439.2 167 (by decide) (by decide)) (hMz5439.2 168 (by decide) (by decide)) (hMz5439.2 169 (by decide) (by decide)) (Sm.at hSz5440 (by decide) (zat_set ez5433 (by decide) (zat_set ez5431 (by decide) (hMMz5423.2 159 (by decide) (by decide))))) (Sm.at hSz5440 (by decide) (zat_set ez5433 (by decide) (zat_set ez5431 (by decide) (hMMz5423.2 160 (by decide) (by decide))))) (⟨fun q9 h9 => by
              by_cases e9 : q9 = x
              · rw [e9, ← hi47.2.1]; omega
              · exact hi47.1 q9 (by omega), hwz5441, hVz5442, TtV.take2 (E := (gE al_ it tg pt bd sg co)) (n := n) (a := tA (gE al_ it tg pt bd sg co) n (u9 0) (u9 2) (u9 3) (u9 4)) hi47.2.2.2.1 hi47.2.2.1 (by omega) (fun w9 h9 => by rw [← hi47.2.1]; exact hi74.2.1 w9 (by omega)) hi74.2.2 (by rw [hu9]), hz5425, hz5426⟩) (by omega)
              · -- 77 to 80
                refine zw_n 1 rfl ?_
                refine zw_get (v := .ref 165) rfl f74_1 rfl ?_
                refine zw_n 3 rfl ?_
                refine zw_top (na (a := 8 * x) (b := z) rfl rfl) ?_
                refine zw_n 1 rfl ?_
                refine zw_get (v := .ref 167) rfl f74_1 rfl ?_
                refine zw_n 2 rfl ?_
                refine zw_get (v := .int (nI (wt1 - 1))) rfl f74_1 rfl ?_
                refine zw_n 1 rfl ?_
                refine zw_top (nm (a := 8) (b := wt1 - 1) rfl rfl) ?_
                refine zw_n 2 rfl ?_
                refine zw_top (na (a := 8 * (wt1 - 1)) (b := z) rfl rfl) ?_
                refine zw_iald (f := ai V1) (j := ((wt1 - 1) * 8 + z)) rfl f74_4 (congrArg nI (by omega)) (by decide) (by omega) ?_
                refine zw_iastN (g := T2) (j := (x * 8 + z)) (v := (V1 ((wt1 - 1) * 8 + z))) rfl f74_0 (congrArg nI (by omega)) (by decide) (by omega) (rfl) ?_
                generalize ez5447 : List.set M_74 165 _ = Mz5446
                refine zw_inc rfl (x' := (nI (z + 1))) (ls' := [some (.ref 139), some (.int (nI (8 * x))), some (.int (nI (z + 1)))]) rfl (na (a := z) (b := 1) rfl rfl) rfl ?_
                refine zw_n 1 rfl ?_
                exact ih74 (z + 1) (up T2 (x * 8 + z) (V1 ((wt1 - 1) * 8 + z))) Mz5446 (Sm.tset s_74 ez5447 (by decide)) (zat_self ez5447 f74_0) (zat_set ez5447 (by decide) f74_1) (zat_set ez5447 (by decide) f74_2) (zat_set ez5447 (by decide) f74_3) (zat_set ez5447 (by decide) f74_4) (zat_set ez5447 (by decide) f74_5) (zat_set ez5447 (by decide) f74_6) (⟨by omega, fun w hw => by
              by_cases e9 : w = z
              · rw [e9, up_s]
              · rw [up_n (by omega)]; exact hi74.2.1 w (by omega), fun q hq => by rw [up_n (by omega)]; exact hi74.2.2 q hq⟩) (by omega)
          exact lp74 _ 0 T1 Mz5413 (Sm.tset s_47 ez5414 (by decide)) (zat_set ez5414 (by decide) f47_1) (zat_self ez5414 f47_0) (zat_set ez5414 (by decide) f47_5) (zat_set ez5414 (by decide) f47_6) (zat_set ez5414 (by decide) f47_2) (zat_set ez5414 (by decide) f47_3) (zat_set ez5414 (by decide) f47_4) (⟨by omega, fun w hw => by omega, fun q hq => rfl⟩) (Nat.lt_succ_self _)
    exact lp47 _ 0 (0 + 1) (f 165) (pu8 (f 167) 0 0 0 c (lsb ((f 158) (22 * (22 * 0 + 0) + c))) 4294967295 0 0) (f 168) (f 169) (f 159) (f 160) Mz5400 sz5412 hMz5397.1 mz5409 (hMz5397.2 167 (by decide) (by decide)) mz5408 mz5407 mz5410 mz5411 (⟨fun q9 h9 => by omega, (if_pos (by omega)).symm, WtV.ini (by omega) (hv 0 0 c h0.1 (Nat.zero_le _) (Nat.lt_succ_self _)), fun q9 f h9 => by omega, hF.2.2.2.2.1, hF.2.2.2.2.2⟩) (Nat.lt_succ_self _)
