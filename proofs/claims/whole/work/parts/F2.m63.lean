set_option maxHeartbeats 4000000 in
set_option maxRecDepth 100000 in
theorem m_alike0 (Mq : zM) (o : Nat → Nat) (f : Nat → Nat → Nat) (hM : MM Mq o f)(n : Nat) (gn al_ it pt tg bd : Nat → Nat) (hg : RelG f n gn al_ it pt tg bd) (hG : SafeG n gn al_ it pt tg bd) (hF : SafeF f) (c : Nat) (sg li co : Nat → Nat) (ht : RelT f c sg li co) (hS : SafeT c sg li co) (emp : Nat → Prop) (rk : Nat → Nat) (hA : Acyc (gE al_ it tg pt bd sg co) n emp rk) (hres : DrR n gn al_ it pt tg) (h4 : SafeM (f 154)) (h5 : SafeM (f 155)) (hkb : ∀ q, f 141 q < 2147483648) (nk : Nat) (gn2 al2 it2 pt2 tg2 bd2 : Nat → Nat) (hw2 : RowG (fset f 140 (kRi f 0 590)) nk gn2 al2 it2 pt2 tg2 bd2) (hG2 : SafeG nk gn2 al2 it2 pt2 tg2 bd2) (hres2 : DrR nk gn2 al2 it2 pt2 tg2) (ck : Nat) (sg2 li2 co2 : Nat → Nat) (ht2 : RelT (fset f 140 (kRi f 0 590)) ck sg2 li2 co2) (hS2 : SafeT ck sg2 li2 co2) (emp2 : Nat → Prop) (rk2 : Nat → Nat) (hA2 : Acyc (gE al2 it2 tg2 pt2 bd2 sg2 co2) nk emp2 rk2) (hk : f 142 0 = 1) : Zm 10 zm_MO_alike [.ref 139, .int 0] Mq (fun r9 M1 => ∃ b, r9 = some (.int (if (tFit (gE al_ it tg pt bd sg co) n c) ∧ (tFit (gE al2 it2 tg2 pt2 bd2 sg2 co2) nk ck) then nI b else -1)) ∧ b ≤ 1 ∧ ((tFit (gE al_ it tg pt bd sg co) n c) ∧ (tFit (gE al2 it2 tg2 pt2 bd2 sg2 co2) nk ck) → (b = 1 ↔ likB gn gn2 (tSz (gE al_ it tg pt bd sg co) n c) (tSz (gE al2 it2 tg2 pt2 bd2 sg2 co2) nk ck) (tRw (gE al_ it tg pt bd sg co) n c) (tRw (gE al2 it2 tg2 pt2 bd2 sg2 co2) nk ck))) ∧ ∃ o9 f9, MM M1 o9 f9 ∧ Sm Mq M1 [139, 140, 153, 154, 155, 156, 157, 158, 159, 160, 165, 166, 167, 168, 169, 176] ∧ Fsame f f9 [139, 140, 153, 154, 155, 156, 157, 158, 159, 160, 165, 166, 167, 168, 169, 176] ∧ f9 140 = f 140 ∧ SafeF f9 ∧ RelG f9 n gn al_ it pt tg bd ∧ (SafeM (f9 154) ∧ SafeM (f9 155) ∧ IsLfp n (frR al_ it tg bd) (f9 154) ∧ IsLfp n (brR al_ it tg bd) (f9 155)) ∧ (∀ j, j ≠ 0 → j ≠ 33 → j ≠ 38 → o9 j = o j) ∧ o9 0 = 0) := by
  show Zw 10 zm_MO_alike 0 [some (.ref 139), some (.int 0), none, none, none, none] [] Mq _
  have hc20 := hS.1
  have hn8 := hG.1
  refine zw_n 2 rfl ?_
  refine zw_put rfl hM.1 (rfl) (Nat.le_of_ble_eq_true rfl) ?_
  generalize ez5785 : List.set Mq 139 _ = Mz5784
  refine zw_n 4 rfl ?_
  refine zw_callS (as := [.long (Int32.toInt64 0), .long 0, .long 1]) (rest := []) rfl rfl rfl rfl rfl rfl (by decide) (m_in Mz5784 (Int32.toInt64 0) 0 1 0 0 1 (by decide) (by decide) (by decide)) (fun rz5786 Mz5787 hz5788 => ?_)
  rw [hz5788.1, hz5788.2]
  show Zw 10 zm_MO_alike 12 [some (.ref 139), some (.int 0), none, none, none, none] [.int (nI (if 0 ≤ 0 ∧ 0 ≤ 1 then 1 else 0))] Mz5784 _
  refine zw_eq0N (a := if 0 ≤ 0 ∧ 0 ≤ 1 then 1 else 0) rfl rfl (ite_b) (fun c12 => ?_) (fun c12 => ?_)
  · -- 12 to 32
    exfalso
    first | omega | exact ite_eq0 c12 (by decide)
  · -- 12 to 15
    refine zw_n 1 rfl ?_
    refine zw_get (v := .ref 142) rfl (zat_self ez5785 hM.1) rfl ?_
    refine zw_n 1 rfl ?_
    refine zw_bald (f := ai (f 142)) (j := 0) rfl (zat_set ez5785 (by decide) (hM.2 142 (by decide) (by decide))) rfl rfl (by decide) (by omega) ?_
    refine zw_eq0N (a := (f 142) 0) rfl rfl (by omega) (fun c21 => ?_) (fun c21 => ?_)
    · -- 21 to 32
      exfalso
      first | omega | exact ite_eq0 c12 (by decide)
    · -- 21 to 24
      refine zw_n 2 rfl ?_
      refine zw_callV (as := [.int 0]) (rest := []) rfl rfl rfl (zat_self ez5785 hM.1) rfl rfl rfl (by decide) (m_otherTree0 Mz5784 (up o 0 0) f (MM.of (o' := up o 0 0) (f' := f) hM (Sm.tset Sm.rf ez5785 (by decide)) (zat_self ez5785 hM.1) (c1_skip (c1_cons (zat_set ez5785 (by decide) (hM.2 140 (by decide) (by decide))) (c1_cons (zat_set ez5785 (by decide) (hM.2 153 (by decide) (by decide))) (c1_cons (zat_set ez5785 (by decide) (hM.2 154 (by decide) (by decide))) (c1_cons (zat_set ez5785 (by decide) (hM.2 155 (by decide) (by decide))) (c1_cons (zat_set ez5785 (by decide) (hM.2 156 (by decide) (by decide))) (c1_cons (zat_set ez5785 (by decide) (hM.2 157 (by decide) (by decide))) (c1_cons (zat_set ez5785 (by decide) (hM.2 158 (by decide) (by decide))) (c1_cons (zat_set ez5785 (by decide) (hM.2 159 (by decide) (by decide))) (c1_cons (zat_set ez5785 (by decide) (hM.2 160 (by decide) (by decide))) (c1_cons (zat_set ez5785 (by decide) (hM.2 165 (by decide) (by decide))) (c1_cons (zat_set ez5785 (by decide) (hM.2 166 (by decide) (by decide))) (c1_cons (zat_set ez5785 (by decide) (hM.2 167 (by decide) (by decide))) (c1_cons (zat_set ez5785 (by decide) (hM.2 168 (by decide) (by decide))) (c1_cons (zat_set ez5785 (by decide) (hM.2 169 (by decide) (by decide))) (c1_cons (zat_set ez5785 (by decide) (hM.2 176 (by decide) (by decide))) c1_nil)))))))))))))))) (fs_k (fs_k (fs_k (fs_k (fs_k (fs_k (fs_k (fs_k (fs_k (fs_k (fs_k (fs_k (fs_k (fs_k (fs_k (fs_k fs_n))))))))))))))))) n gn al_ it pt tg bd ⟨hg.1, hg.2.1, hg.2.2.1, hg.2.2.2.1, fun x hx => ⟨(hg.2.2.2.2 x hx).1, (hg.2.2.2.2 x hx).2.1, (hg.2.2.2.2 x hx).2.2.1⟩⟩ hG hF hres h4 h5 hkb nk gn2 al2 it2 pt2 tg2 bd2 hw2 hG2 hres2 ck sg2 li2 co2 ht2 hS2 emp2 rk2 hA2) (fun rz5789 Mz5790 hz5791 => ?_)
      obtain ⟨hAU, oU, fU, hMU, hSU, hFsU, hRU, hSFU, hgU, hlU, htrU, hoU, ho0U, hTU⟩ := hz5791
      rw [hAU]
      show Zw 10 zm_MO_alike 29 [some (.ref 139), some (.int 0), none, none, none, none] [.int (nI (if tFit (gE al2 it2 tg2 pt2 bd2 sg2 co2) nk ck then 1 else 0))] Mz5790 _
      refine zw_ne0N (a := if tFit (gE al2 it2 tg2 pt2 bd2 sg2 co2) nk ck then 1 else 0) rfl rfl (ite_b) (fun c29 => ?_) (fun c29 => ?_)
      · -- 29 to 34
        have hfit2 : tFit (gE al2 it2 tg2 pt2 bd2 sg2 co2) nk ck := ite_ne c29
        obtain ⟨hTs2, hOt⟩ := hTU hfit2
        have hTr2 : TrR (gE al2 it2 tg2 pt2 bd2 sg2 co2) nk ck (oU 33) (fU 165) := hTs2.rows (E := (gE al2 it2 tg2 pt2 bd2 sg2 co2)) hA2 hG2.1 hG2.2.2.1 hS2.2.2.2 hG2.2.2.2.2.2.2 hS2.1 hfit2
        have hle2 := hTr2.le
        have hn82 := hG2.1
        have hc22 := hS2.1
        obtain ⟨hcz2, hcT2⟩ := hTs2.can (by omega)
        have hcq2 : tEq (oU 33) (fU 165) (tRw (gE al2 it2 tg2 pt2 bd2 sg2 co2) nk ck) := hcT2
        refine zw_n 1 rfl ?_
        refine zw_get (v := .int (nI (oU 33))) rfl hMU.1 rfl ?_
        refine zw_n 2 (ls' := [some (.ref 139), some (.int 0), some (.int (nI (oU 33))), none, none, none]) rfl ?_
        refine zw_callV (as := []) (rest := []) rfl rfl rfl hMU.1 rfl rfl rfl (by decide) (m_hasTree Mz5790 oU fU hMU n gn al_ it pt tg bd hgU hG hSFU c sg li co (ht.keep hRU) hS emp rk hA) (fun rz5792 Mz5793 hz5794 => ?_)
        obtain ⟨hAT, oT, fT, hMT, hST, hFsT, hSFT, hoT, ho0T, hTT⟩ := hz5794
        rw [hAT]
        have hgT : RelG fT n gn al_ it pt tg bd := hgU.keep (hFsT 140 (by decide)) (hFsT 153 (by decide))
        have h166 : fT 166 = fU 166 := hFsT 166 (by decide)
        show Zw 10 zm_MO_alike 43 [some (.ref 139), some (.int 0), some (.int (nI (oU 33))), none, none, none] [.int (nI (if tFit (gE al_ it tg pt bd sg co) n c then 1 else 0))] Mz5793 _
        refine zw_ne0N (a := if tFit (gE al_ it tg pt bd sg co) n c then 1 else 0) rfl rfl (ite_b) (fun c43 => ?_) (fun c43 => ?_)
        · -- 43 to 48
          have hfit : tFit (gE al_ it tg pt bd sg co) n c := ite_ne c43
          have hTs := (hTT hfit).1
          have hTr : TrR (gE al_ it tg pt bd sg co) n c (oT 33) (fT 165) := hTs.rows (E := (gE al_ it tg pt bd sg co)) hA hn8 hG.2.2.1 hS.2.2.2 hG.2.2.2.2.2.2 hc20 hfit
          have hle := hTr.le
          obtain ⟨hcz, hcT⟩ := hTs.can (by omega)
          have hcq : tEq (oT 33) (fT 165) (tRw (gE al_ it tg pt bd sg co) n c) := hcT
          have j48 : Zw 10 zm_MO_alike 61 [some (.ref 139), some (.int 0), some (.int (nI (oU 33))), none, none, none] [.int (nI (if oU 33 = oT 33 then 1 else 0))] Mz5793 (fun r9 M1 => ∃ b, r9 = some (.int (if (tFit (gE al_ it tg pt bd sg co) n c) ∧ (tFit (gE al2 it2 tg2 pt2 bd2 sg2 co2) nk ck) then nI b else -1)) ∧ b ≤ 1 ∧ ((tFit (gE al_ it tg pt bd sg co) n c) ∧ (tFit (gE al2 it2 tg2 pt2 bd2 sg2 co2) nk ck) → (b = 1 ↔ likB gn gn2 (tSz (gE al_ it tg pt bd sg co) n c) (tSz (gE al2 it2 tg2 pt2 bd2 sg2 co2) nk ck) (tRw (gE al_ it tg pt bd sg co) n c) (tRw (gE al2 it2 tg2 pt2 bd2 sg2 co2) nk ck))) ∧ ∃ o9 f9, MM M1 o9 f9 ∧ Sm Mq M1 [139, 140, 153, 154, 155, 156, 157, 158, 159, 160, 165, 166, 167, 168, 169, 176] ∧ Fsame f f9 [139, 140, 153, 154, 155, 156, 157, 158, 159, 160, 165, 166, 167, 168, 169, 176] ∧ f9 140 = f 140 ∧ SafeF f9 ∧ RelG f9 n gn al_ it pt tg bd ∧ (SafeM (f9 154) ∧ SafeM (f9 155) ∧ IsLfp n (frR al_ it tg bd) (f9 154) ∧ IsLfp n (brR al_ it tg bd) (f9 155)) ∧ (∀ j, j ≠ 0 → j ≠ 33 → j ≠ 38 → o9 j = o j) ∧ o9 0 = 0) := by
            refine zw_n 3 (ls' := [some (.ref 139), some (.int 0), some (.int (nI (oU 33))), some (.int (nI (if oU 33 = oT 33 then 1 else 0))), some (.int 0), none]) rfl ?_
            have lp65 : ∀ (n65 : Nat) (b : Nat) (q : Nat), (q ≤ oU 33 ∧ b ≤ 1 ∧ (b = 1 ↔ oT 33 = oU 33 ∧ ∀ z, z < q → likR gn gn2 (fT 165) (fU 165) z = true)) → oU 33 - q < n65 → Zw 10 zm_MO_alike 65 [some (.ref 139), some (.int 0), some (.int (nI (oU 33))), some (.int (nI b)), some (.int (nI q)), none] [] Mz5793 (fun r9 M1 => ∃ b, r9 = some (.int (if (tFit (gE al_ it tg pt bd sg co) n c) ∧ (tFit (gE al2 it2 tg2 pt2 bd2 sg2 co2) nk ck) then nI b else -1)) ∧ b ≤ 1 ∧ ((tFit (gE al_ it tg pt bd sg co) n c) ∧ (tFit (gE al2 it2 tg2 pt2 bd2 sg2 co2) nk ck) → (b = 1 ↔ likB gn gn2 (tSz (gE al_ it tg pt bd sg co) n c) (tSz (gE al2 it2 tg2 pt2 bd2 sg2 co2) nk ck) (tRw (gE al_ it tg pt bd sg co) n c) (tRw (gE al2 it2 tg2 pt2 bd2 sg2 co2) nk ck))) ∧ ∃ o9 f9, MM M1 o9 f9 ∧ Sm Mq M1 [139, 140, 153, 154, 155, 156, 157, 158, 159, 160, 165, 166, 167, 168, 169, 176] ∧ Fsame f f9 [139, 140, 153, 154, 155, 156, 157, 158, 159, 160, 165, 166, 167, 168, 169, 176] ∧ f9 140 = f 140 ∧ SafeF f9 ∧ RelG f9 n gn al_ it pt tg bd ∧ (SafeM (f9 154) ∧ SafeM (f9 155) ∧ IsLfp n (frR al_ it tg bd) (f9 154) ∧ IsLfp n (brR al_ it tg bd) (f9 155)) ∧ (∀ j, j ≠ 0 → j ≠ 33 → j ≠ 38 → o9 j = o j) ∧ o9 0 = 0) := by
              intro n65
              induction n65 with
              | zero => intro b q _ h; exact absurd h (Nat.not_lt_zero _)
              | succ n65 ih65 =>
                intro b q hi65 hm65
                refine zw_n 1 rfl ?_
                refine zw_eq0N (a := b) rfl rfl (by have := hi65.2.1; omega) (fun c66 => ?_) (fun c66 => ?_)
                · -- 66 to 163
                  refine zw_n 1 rfl ?_
                  refine zw_eq0N (a := b) rfl rfl (by have := hi65.2.1; omega) (fun c164 => ?_) (fun c164 => ?_)
                  · -- 164 to 171
                    refine zw_n 1 rfl ?_
                    refine zw_top (x' := nI 0) (by decide) ?_
                    exact zw_iret rfl rfl (⟨b, by rw [if_pos ⟨hfit, hfit2⟩, show b = 0 by have := hi65.2.1; omega], hi65.2.1, fun _ => by rw [← hcz, ← hcz2, ← likB_cg hcq hcq2]; exact al_fin hi65.2 (by first | exact Or.inl c66 | exact Or.inr (by omega)), oT, fT, hMT, Sm.tw (Sm.trans (Sm.tset Sm.rf ez5785 (by decide)) hSU) hST (by decide), (fun a ha => (hFsT a (fun q9 => ha ((by decide : ∀ a, a ∈ [139, 156, 157, 158, 159, 160, 165, 167, 168, 169] → a ∈ [139, 140, 153, 154, 155, 156, 157, 158, 159, 160, 165, 166, 167, 168, 169, 176]) a q9))).trans (hFsU a ha)), (hFsT 140 (by decide)).trans hRU, hSFT, hgT, (by rw [hFsT 154 (by decide), hFsT 155 (by decide)]; exact hlU), (fun j h0 h1 h2 => (hoT j h0 h1 h2).trans ((hoU j h0 h1 h2).trans (up_n h0))), ho0T.trans ho0U⟩)
                  · -- 164 to 167
                    refine zw_n 2 rfl ?_
                    refine zw_top (x' := nI 1) (by decide) ?_
                    exact zw_iret rfl rfl (⟨b, by rw [if_pos ⟨hfit, hfit2⟩, show b = 1 by have := hi65.2.1; omega], hi65.2.1, fun _ => by rw [← hcz, ← hcz2, ← likB_cg hcq hcq2]; exact al_fin hi65.2 (by first | exact Or.inl c66 | exact Or.inr (by omega)), oT, fT, hMT, Sm.tw (Sm.trans (Sm.tset Sm.rf ez5785 (by decide)) hSU) hST (by decide), (fun a ha => (hFsT a (fun q9 => ha ((by decide : ∀ a, a ∈ [139, 156, 157, 158, 159, 160, 165, 167, 168, 169] → a ∈ [139, 140, 153, 154, 155, 156, 157, 158, 159, 160, 165, 166, 167, 168, 169, 176]) a q9))).trans (hFsU a ha)), (hFsT 140 (by decide)).trans hRU, hSFT, hgT, (by rw [hFsT 154 (by decide), hFsT 155 (by decide)]; exact hlU), (fun j h0 h1 h2 => (hoT j h0 h1 h2).trans ((hoU j h0 h1 h2).trans (up_n h0))), ho0T.trans ho0U⟩)
                · -- 66 to 69
                  refine zw_n 2 rfl ?_
                  refine zw_igeN (a := q) (b := oU 33) rfl rfl rfl (by omega) (by omega) (fun c72 => ?_) (fun c72 => ?_)
                  · -- 72 to 163
                    refine zw_n 1 rfl ?_
                    refine zw_eq0N (a := b) rfl rfl (by have := hi65.2.1; omega) (fun c164 => ?_) (fun c164 => ?_)
                    · -- 164 to 171
                      refine zw_n 1 rfl ?_
                      refine zw_top (x' := nI 0) (by decide) ?_
                      exact zw_iret rfl rfl (⟨b, by rw [if_pos ⟨hfit, hfit2⟩, show b = 0 by have := hi65.2.1; omega], hi65.2.1, fun _ => by rw [← hcz, ← hcz2, ← likB_cg hcq hcq2]; exact al_fin hi65.2 (by first | exact Or.inl c66 | exact Or.inr (by omega)), oT, fT, hMT, Sm.tw (Sm.trans (Sm.tset Sm.rf ez5785 (by decide)) hSU) hST (by decide), (fun a ha => (hFsT a (fun q9 => ha ((by decide : ∀ a, a ∈ [139, 156, 157, 158, 159, 160, 165, 167, 168, 169] → a ∈ [139, 140, 153, 154, 155, 156, 157, 158, 159, 160, 165, 166, 167, 168, 169, 176]) a q9))).trans (hFsU a ha)), (hFsT 140 (by decide)).trans hRU, hSFT, hgT, (by rw [hFsT 154 (by decide), hFsT 155 (by decide)]; exact hlU), (fun j h0 h1 h2 => (hoT j h0 h1 h2).trans ((hoU j h0 h1 h2).trans (up_n h0))), ho0T.trans ho0U⟩)
                    · -- 164 to 167
                      refine zw_n 2 rfl ?_
                      refine zw_top (x' := nI 1) (by decide) ?_
                      exact zw_iret rfl rfl (⟨b, by rw [if_pos ⟨hfit, hfit2⟩, show b = 1 by have := hi65.2.1; omega], hi65.2.1, fun _ => by rw [← hcz, ← hcz2, ← likB_cg hcq hcq2]; exact al_fin hi65.2 (by first | exact Or.inl c66 | exact Or.inr (by omega)), oT, fT, hMT, Sm.tw (Sm.trans (Sm.tset Sm.rf ez5785 (by decide)) hSU) hST (by decide), (fun a ha => (hFsT a (fun q9 => ha ((by decide : ∀ a, a ∈ [139, 156, 157, 158, 159, 160, 165, 167, 168, 169] → a ∈ [139, 140, 153, 154, 155, 156, 157, 158, 159, 160, 165, 166, 167, 168, 169, 176]) a q9))).trans (hFsU a ha)), (hFsT 140 (by decide)).trans hRU, hSFT, hgT, (by rw [hFsT 154 (by decide), hFsT 155 (by decide)]; exact hlU), (fun j h0 h1 h2 => (hoT j h0 h1 h2).trans ((hoU j h0 h1 h2).trans (up_n h0))), ho0T.trans ho0U⟩)
                  · -- 72 to 75
                    have hsz9 : oT 33 = oU 33 ∧ _ := hi65.2.2.mp (by have := hi65.2.1; omega)
                    have hsz := hsz9.1
                    have p0 := hTr.f0 q (by omega)
                    have q0 := hTr2.f0 q (by omega)
                    have g1 := hG.2.1 (fT 165 (q * 8 + 0))
                    have g2 := hG2.2.1 (fU 165 (q * 8 + 0))
                    have hbw : ∀ w, 1 ≤ w → w < 4 → fT 165 (q * 8 + w) < 100 ∧ fU 165 (q * 8 + w) < 100 := al_b hTr hTr2 (by omega) (by omega) hG.2.2.1 hG2.2.2.1 hc20 hc22
                    have j75 : Zw 10 zm_MO_alike 107 [some (.ref 139), some (.int 0), some (.int (nI (oU 33))), some (.int (nI b)), some (.int (nI q)), none] [.int (nI (if gn (fT 165 (q * 8 + 0)) = gn2 (fU 165 (q * 8 + 0)) then 1 else 0))] Mz5793 (fun r9 M1 => ∃ b, r9 = some (.int (if (tFit (gE al_ it tg pt bd sg co) n c) ∧ (tFit (gE al2 it2 tg2 pt2 bd2 sg2 co2) nk ck) then nI b else -1)) ∧ b ≤ 1 ∧ ((tFit (gE al_ it tg pt bd sg co) n c) ∧ (tFit (gE al2 it2 tg2 pt2 bd2 sg2 co2) nk ck) → (b = 1 ↔ likB gn gn2 (tSz (gE al_ it tg pt bd sg co) n c) (tSz (gE al2 it2 tg2 pt2 bd2 sg2 co2) nk ck) (tRw (gE al_ it tg pt bd sg co) n c) (tRw (gE al2 it2 tg2 pt2 bd2 sg2 co2) nk ck))) ∧ ∃ o9 f9, MM M1 o9 f9 ∧ Sm Mq M1 [139, 140, 153, 154, 155, 156, 157, 158, 159, 160, 165, 166, 167, 168, 169, 176] ∧ Fsame f f9 [139, 140, 153, 154, 155, 156, 157, 158, 159, 160, 165, 166, 167, 168, 169, 176] ∧ f9 140 = f 140 ∧ SafeF f9 ∧ RelG f9 n gn al_ it pt tg bd ∧ (SafeM (f9 154) ∧ SafeM (f9 155) ∧ IsLfp n (frR al_ it tg bd) (f9 154) ∧ IsLfp n (brR al_ it tg bd) (f9 155)) ∧ (∀ j, j ≠ 0 → j ≠ 33 → j ≠ 38 → o9 j = o j) ∧ o9 0 = 0) := by
                      refine zw_n 3 (ls' := [some (.ref 139), some (.int 0), some (.int (nI (oU 33))), some (.int (nI (if gn (fT 165 (q * 8 + 0)) = gn2 (fU 165 (q * 8 + 0)) then 1 else 0))), some (.int (nI q)), some (.int 1)]) rfl ?_
                      have lp111 : ∀ (n111 : Nat) (b2 : Nat) (w : Nat), (1 ≤ w ∧ w ≤ 4 ∧ b2 ≤ 1 ∧ (b2 = 1 ↔ gn (fT 165 (q * 8 + 0)) = gn2 (fU 165 (q * 8 + 0)) ∧ ∀ v, 1 ≤ v → v < w → fT 165 (q * 8 + v) = fU 165 (q * 8 + v))) → 4 - w < n111 → Zw 10 zm_MO_alike 111 [some (.ref 139), some (.int 0), some (.int (nI (oU 33))), some (.int (nI b2)), some (.int (nI q)), some (.int (nI w))] [] Mz5793 (fun r9 M1 => ∃ b, r9 = some (.int (if (tFit (gE al_ it tg pt bd sg co) n c) ∧ (tFit (gE al2 it2 tg2 pt2 bd2 sg2 co2) nk ck) then nI b else -1)) ∧ b ≤ 1 ∧ ((tFit (gE al_ it tg pt bd sg co) n c) ∧ (tFit (gE al2 it2 tg2 pt2 bd2 sg2 co2) nk ck) → (b = 1 ↔ likB gn gn2 (tSz (gE al_ it tg pt bd sg co) n c) (tSz (gE al2 it2 tg2 pt2 bd2 sg2 co2) nk ck) (tRw (gE al_ it tg pt bd sg co) n c) (tRw (gE al2 it2 tg2 pt2 bd2 sg2 co2) nk ck))) ∧ ∃ o9 f9, MM M1 o9 f9 ∧ Sm Mq M1 [139, 140, 153, 154, 155, 156, 157, 158, 159, 160, 165, 166, 167, 168, 169, 176] ∧ Fsame f f9 [139, 140, 153, 154, 155, 156, 157, 158, 159, 160, 165, 166, 167, 168, 169, 176] ∧ f9 140 = f 140 ∧ SafeF f9 ∧ RelG f9 n gn al_ it pt tg bd ∧ (SafeM (f9 154) ∧ SafeM (f9 155) ∧ IsLfp n (frR al_ it tg bd) (f9 154) ∧ IsLfp n (brR al_ it tg bd) (f9 155)) ∧ (∀ j, j ≠ 0 → j ≠ 33 → j ≠ 38 → o9 j = o j) ∧ o9 0 = 0) := by
                        intro n111
                        induction n111 with
                        | zero => intro b2 w _ h; exact absurd h (Nat.not_lt_zero _)
                        | succ n111 ih111 =>
                          intro b2 w hi111 hm111
                          refine zw_n 2 rfl ?_
                          refine zw_igeN (a := w) (b := 4) rfl rfl rfl (by omega) (by omega) (fun c114 => ?_) (fun c114 => ?_)
                          · -- 114 to 157
                            refine zw_inc rfl (x' := (nI (q + 1))) (ls' := [some (.ref 139), some (.int 0), some (.int (nI (oU 33))), some (.int (nI b2)), some (.int (nI (q + 1))), some (.int (nI w))]) rfl (na (a := q) (b := 1) rfl rfl) rfl ?_
                            refine zw_n 1 rfl ?_
                            refine zw_ls (ls' := [some (.ref 139), some (.int 0), some (.int (nI (oU 33))), some (.int (nI b2)), some (.int (nI (q + 1))), none]) ⟨Or.inr rfl, Or.inr rfl, Or.inr rfl, Or.inr rfl, Or.inr rfl, Or.inl rfl, trivial⟩ ?_
                            exact ih65 b2 (q + 1) (⟨by omega, hi111.2.2.1, al_nx hsz9 hi111.2.2 (by omega)⟩) (by omega)
                          · -- 114 to 117
                            refine zw_n 1 rfl ?_
                            refine zw_eq0N (a := b2) rfl rfl (by have := hi111.2.2.1; omega) (fun c118 => ?_) (fun c118 => ?_)
                            · -- 118 to 149
                              refine zw_n 2 (ls' := [some (.ref 139), some (.int 0), some (.int (nI (oU 33))), some (.int 0), some (.int (nI q)), some (.int (nI w))]) rfl ?_
                              refine zw_inc rfl (x' := (nI (w + 1))) (ls' := [some (.ref 139), some (.int 0), some (.int (nI (oU 33))), some (.int 0), some (.int (nI q)), some (.int (nI (w + 1)))]) rfl (na (a := w) (b := 1) rfl rfl) rfl ?_
                              refine zw_n 1 rfl ?_
                              exact ih111 0 (w + 1) (⟨by omega, by omega, by decide, by first | exact al_y hi111.2.2.2 c118 hi111.2.2.1 c142 | exact al_n0 hi111.2.2.2 c118 | exact al_n1 c142 hi111.1⟩) (by omega)
                            · -- 118 to 121
                              have hbw9 := hbw w (by omega) (by omega)
                              refine zw_n 3 rfl ?_
                              refine zw_callV (as := [.int (nI q), .int (nI w)]) (rest := []) rfl rfl rfl hMT.1 rfl rfl rfl (by decide) (m_of Mz5793 oT fT hMT q w (by omega) (by omega)) (fun rz5795 Mz5796 hz5797 => ?_)
                              rw [hz5797.1, hz5797.2]
                              show Zw 10 zm_MO_alike 129 [some (.ref 139), some (.int 0), some (.int (nI (oU 33))), some (.int (nI b2)), some (.int (nI q)), some (.int (nI w))] [.int (nI ((fT 165) (q * 8 + w)))] Mz5793 _
                              refine zw_n 1 rfl ?_
                              refine zw_get (v := .ref 166) rfl hMT.1 rfl ?_
                              refine zw_n 3 rfl ?_
                              refine zw_top (nm (a := 8) (b := q) rfl rfl) ?_
                              refine zw_n 2 rfl ?_
                              refine zw_top (na (a := 8 * q) (b := w) rfl rfl) ?_
                              refine zw_iald (f := ai (fT 166)) (j := (q * 8 + w)) rfl (hMT.2 166 (by decide) (by decide)) (congrArg nI (by omega)) (by decide) (by omega) ?_
                              refine zw_top (x' := (nI (fU 165 (q * 8 + w)))) (congrArg nI (by rw [h166]; exact (hOt q (by omega)).2 w (by omega) (by omega))) ?_
                              refine zw_ineN (a := (fT 165) (q * 8 + w)) (b := fU 165 (q * 8 + w)) rfl rfl rfl (by omega) (by omega) (fun c142 => ?_) (fun c142 => ?_)
                              · -- 142 to 149
                                refine zw_n 2 (ls' := [some (.ref 139), some (.int 0), some (.int (nI (oU 33))), some (.int 0), some (.int (nI q)), some (.int (nI w))]) rfl ?_
                                refine zw_inc rfl (x' := (nI (w + 1))) (ls' := [some (.ref 139), some (.int 0), some (.int (nI (oU 33))), some (.int 0), some (.int (nI q)), some (.int (nI (w + 1)))]) rfl (na (a := w) (b := 1) rfl rfl) rfl ?_
                                refine zw_n 1 rfl ?_
                                exact ih111 0 (w + 1) (⟨by omega, by omega, by decide, by first | exact al_y hi111.2.2.2 c118 hi111.2.2.1 c142 | exact al_n0 hi111.2.2.2 c118 | exact al_n1 c142 hi111.1⟩) (by omega)
                              · -- 142 to 145
                                refine zw_n 3 (ls' := [some (.ref 139), some (.int 0), some (.int (nI (oU 33))), some (.int 1), some (.int (nI q)), some (.int (nI w))]) rfl ?_
                                refine zw_inc rfl (x' := (nI (w + 1))) (ls' := [some (.ref 139), some (.int 0), some (.int (nI (oU 33))), some (.int 1), some (.int (nI q)), some (.int (nI (w + 1)))]) rfl (na (a := w) (b := 1) rfl rfl) rfl ?_
                                refine zw_n 1 rfl ?_
                                exact ih111 1 (w + 1) (⟨by omega, by omega, by decide, by first | exact al_y hi111.2.2.2 c118 hi111.2.2.1 c142 | exact al_n0 hi111.2.2.2 c118 | exact al_n1 c142 hi111.1⟩) (by omega)
                      exact lp111 _ (if gn (fT 165 (q * 8 + 0)) = gn2 (fU 165 (q * 8 + 0)) then 1 else 0) 1 (⟨Nat.le_refl _, by omega, by split <;> decide, al_in⟩) (Nat.lt_succ_self _)
                    have hsz9 : oT 33 = oU 33 ∧ _ := hi65.2.2.mp (by have := hi65.2.1; omega)
                    have hsz := hsz9.1
                    have p0 := hTr.f0 q (by omega)
                    have q0 := hTr2.f0 q (by omega)
                    have g1 := hG.2.1 (fT 165 (q * 8 + 0))
                    have g2 := hG2.2.1 (fU 165 (q * 8 + 0))
                    have hbw : ∀ w, 1 ≤ w → w < 4 → fT 165 (q * 8 + w) < 100 ∧ fU 165 (q * 8 + w) < 100 := al_b hTr hTr2 (by omega) (by omega) hG.2.2.1 hG2.2.2.1 hc20 hc22
                    refine zw_n 1 rfl ?_
                    refine zw_get (v := .ref 140) rfl hMT.1 rfl ?_
                    refine zw_n 4 rfl ?_
                    refine zw_callV (as := [.int (nI q), .int 0]) (rest := [.int 1, .ref 140]) rfl rfl rfl hMT.1 rfl rfl rfl (by decide) (m_of Mz5793 oT fT hMT q 0 (by omega) (by omega)) (fun rz5798 Mz5799 hz5800 => ?_)
                    rw [hz5800.1, hz5800.2]
                    show Zw 10 zm_MO_alike 87 [some (.ref 139), some (.int 0), some (.int (nI (oU 33))), some (.int (nI b)), some (.int (nI q)), none] [.int (nI ((fT 165) (q * 8 + 0))), .int 1, .ref 140] Mz5793 _
                    refine zw_n 1 rfl ?_
                    refine zw_top (na (a := 1) (b := (fT 165) (q * 8 + 0)) rfl rfl) ?_
                    refine zw_iald (f := ai (fT 140)) (j := (1 + ((fT 165) (q * 8 + 0)))) rfl (hMT.2 140 (by decide) (by decide)) rfl (by decide) (by omega) ?_
                    refine zw_top (x' := (nI (gn (fT 165 (q * 8 + 0))))) (congrArg nI (hgT.2.1 (fT 165 (q * 8 + 0)) (by omega))) ?_
                    refine zw_n 1 rfl ?_
                    refine zw_get (v := .ref 166) rfl hMT.1 rfl ?_
                    refine zw_n 3 rfl ?_
                    refine zw_top (nm (a := 8) (b := q) rfl rfl) ?_
                    refine zw_iald (f := ai (fT 166)) (j := (q * 8 + 0)) rfl (hMT.2 166 (by decide) (by decide)) (congrArg nI (by omega)) (by decide) (by omega) ?_
                    refine zw_top (x' := (nI (gn2 (fU 165 (q * 8 + 0))))) (congrArg nI (by rw [h166]; exact (hOt q (by omega)).1)) ?_
                    refine zw_ineN (a := gn (fT 165 (q * 8 + 0))) (b := gn2 (fU 165 (q * 8 + 0))) rfl rfl rfl (by omega) (by omega) (fun c99 => ?_) (fun c99 => ?_)
                    · -- 99 to 106
                      refine zw_n 1 rfl ?_
                      refine zw_top (x' := nI (if gn (fT 165 (q * 8 + 0)) = gn2 (fU 165 (q * 8 + 0)) then 1 else 0)) (show nI 0 = nI (if gn (fT 165 (q * 8 + 0)) = gn2 (fU 165 (q * 8 + 0)) then 1 else 0) by rw [if_neg (by omega)]) ?_
                      exact j75
                    · -- 99 to 102
                      refine zw_n 2 rfl ?_
                      refine zw_top (x' := nI (if gn (fT 165 (q * 8 + 0)) = gn2 (fU 165 (q * 8 + 0)) then 1 else 0)) (show nI 1 = nI (if gn (fT 165 (q * 8 + 0)) = gn2 (fU 165 (q * 8 + 0)) then 1 else 0) by rw [if_pos (by omega)]) ?_
                      exact j75
            exact lp65 _ (if oU 33 = oT 33 then 1 else 0) 0 (⟨Nat.zero_le _, by split <;> decide, by split <;> first | exact ⟨fun _ => ⟨by omega, fun z hz => by omega⟩, fun _ => rfl⟩ | exact ⟨fun q9 => by omega, fun q9 => absurd q9.1.symm (by assumption)⟩⟩) (Nat.lt_succ_self _)
          have hfit : tFit (gE al_ it tg pt bd sg co) n c := ite_ne c43
          have hTs := (hTT hfit).1
          have hTr : TrR (gE al_ it tg pt bd sg co) n c (oT 33) (fT 165) := hTs.rows (E := (gE al_ it tg pt bd sg co)) hA hn8 hG.2.2.1 hS.2.2.2 hG.2.2.2.2.2.2 hc20 hfit
          have hle := hTr.le
          obtain ⟨hcz, hcT⟩ := hTs.can (by omega)
          have hcq : tEq (oT 33) (fT 165) (tRw (gE al_ it tg pt bd sg co) n c) := hcT
          refine zw_n 2 rfl ?_
          refine zw_get (v := .int (nI (oT 33))) rfl hMT.1 rfl ?_
          refine zw_ineN (a := oU 33) (b := oT 33) rfl rfl rfl (by omega) (by omega) (fun c53 => ?_) (fun c53 => ?_)
          · -- 53 to 60
            refine zw_n 1 rfl ?_
            refine zw_top (x' := nI (if oU 33 = oT 33 then 1 else 0)) (show nI 0 = nI (if oU 33 = oT 33 then 1 else 0) by rw [if_neg (by omega)]) ?_
            exact j48
          · -- 53 to 56
            refine zw_n 2 rfl ?_
            refine zw_top (x' := nI (if oU 33 = oT 33 then 1 else 0)) (show nI 1 = nI (if oU 33 = oT 33 then 1 else 0) by rw [if_pos (by omega)]) ?_
            exact j48
        · -- 43 to 46
          refine zw_n 1 rfl ?_
          exact zw_iret rfl rfl (⟨0, by rw [if_neg (fun q9 => ite_eq0 c43 q9.1)], by decide, fun q9 => absurd q9 (fun q9 => ite_eq0 c43 q9.1), oT, fT, hMT, Sm.tw (Sm.trans (Sm.tset Sm.rf ez5785 (by decide)) hSU) hST (by decide), (fun a ha => (hFsT a (fun q9 => ha ((by decide : ∀ a, a ∈ [139, 156, 157, 158, 159, 160, 165, 167, 168, 169] → a ∈ [139, 140, 153, 154, 155, 156, 157, 158, 159, 160, 165, 166, 167, 168, 169, 176]) a q9))).trans (hFsU a ha)), (hFsT 140 (by decide)).trans hRU, hSFT, hgT, (by rw [hFsT 154 (by decide), hFsT 155 (by decide)]; exact hlU), (fun j h0 h1 h2 => (hoT j h0 h1 h2).trans ((hoU j h0 h1 h2).trans (up_n h0))), ho0T.trans ho0U⟩)
      · -- 29 to 32
        refine zw_n 1 rfl ?_
        exact zw_iret rfl rfl (⟨0, by rw [if_neg (fun q9 => ite_eq0 c29 q9.2)], by decide, fun q9 => absurd q9 (fun q9 => ite_eq0 c29 q9.2), oU, fU, hMU, Sm.trans (Sm.tset Sm.rf ez5785 (by decide)) hSU, hFsU, hRU, hSFU, hgU, hlU, (fun j h0 h1 h2 => (hoU j h0 h1 h2).trans (up_n h0)), ho0U⟩)

set_option maxHeartbeats 4000000 in
set_option maxRecDepth 100000 in
theorem m_alike1 (Mq : zM) (o : Nat → Nat) (f : Nat → Nat → Nat) (hM : MM Mq o f)(n : Nat) (gn al_ it pt tg bd : Nat → Nat) (hg : RelG f n gn al_ it pt tg bd) (hG : SafeG n gn al_ it pt tg bd) (hF : SafeF f) (c : Nat) (sg li co : Nat → Nat) (ht : RelT f c sg li co) (hS : SafeT c sg li co) (emp : Nat → Prop) (rk : Nat → Nat) (hA : Acyc (gE al_ it tg pt bd sg co) n emp rk) (hres : DrR n gn al_ it pt tg) (h4 : SafeM (f 154)) (h5 : SafeM (f 155)) (hkb : ∀ q, f 141 q < 2147483648) (nk : Nat) (gn2 al2 it2 pt2 tg2 bd2 : Nat → Nat) (hw2 : RowG (fset f 140 (kRi f 1 590)) nk gn2 al2 it2 pt2 tg2 bd2) (hG2 : SafeG nk gn2 al2 it2 pt2 tg2 bd2) (hres2 : DrR nk gn2 al2 it2 pt2 tg2) (ck : Nat) (sg2 li2 co2 : Nat → Nat) (ht2 : RelT (fset f 140 (kRi f 1 590)) ck sg2 li2 co2) (hS2 : SafeT ck sg2 li2 co2) (emp2 : Nat → Prop) (rk2 : Nat → Nat) (hA2 : Acyc (gE al2 it2 tg2 pt2 bd2 sg2 co2) nk emp2 rk2) (hk : f 142 1 = 1) : Zm 10 zm_MO_alike [.ref 139, .int 1] Mq (fun r9 M1 => ∃ b, r9 = some (.int (if (tFit (gE al_ it tg pt bd sg co) n c) ∧ (tFit (gE al2 it2 tg2 pt2 bd2 sg2 co2) nk ck) then nI b else -1)) ∧ b ≤ 1 ∧ ((tFit (gE al_ it tg pt bd sg co) n c) ∧ (tFit (gE al2 it2 tg2 pt2 bd2 sg2 co2) nk ck) → (b = 1 ↔ likB gn gn2 (tSz (gE al_ it tg pt bd sg co) n c) (tSz (gE al2 it2 tg2 pt2 bd2 sg2 co2) nk ck) (tRw (gE al_ it tg pt bd sg co) n c) (tRw (gE al2 it2 tg2 pt2 bd2 sg2 co2) nk ck))) ∧ ∃ o9 f9, MM M1 o9 f9 ∧ Sm Mq M1 [139, 140, 153, 154, 155, 156, 157, 158, 159, 160, 165, 166, 167, 168, 169, 176] ∧ Fsame f f9 [139, 140, 153, 154, 155, 156, 157, 158, 159, 160, 165, 166, 167, 168, 169, 176] ∧ f9 140 = f 140 ∧ SafeF f9 ∧ RelG f9 n gn al_ it pt tg bd ∧ (SafeM (f9 154) ∧ SafeM (f9 155) ∧ IsLfp n (frR al_ it tg bd) (f9 154) ∧ IsLfp n (brR al_ it tg bd) (f9 155)) ∧ (∀ j, j ≠ 0 → j ≠ 33 → j ≠ 38 → o9 j = o j) ∧ o9 0 = 0) := by
  show Zw 10 zm_MO_alike 0 [some (.ref 139), some (.int 1), none, none, none, none] [] Mq _
  have hc20 := hS.1
  have hn8 := hG.1
  refine zw_n 2 rfl ?_
  refine zw_put rfl hM.1 (rfl) (Nat.le_of_ble_eq_true rfl) ?_
  generalize ez5802 : List.set Mq 139 _ = Mz5801
  refine zw_n 4 rfl ?_
  refine zw_callS (as := [.long (Int32.toInt64 1), .long 0, .long 1]) (rest := []) rfl rfl rfl rfl rfl rfl (by decide) (m_in Mz5801 (Int32.toInt64 1) 0 1 1 0 1 (by decide) (by decide) (by decide)) (fun rz5803 Mz5804 hz5805 => ?_)
  rw [hz5805.1, hz5805.2]
  show Zw 10 zm_MO_alike 12 [some (.ref 139), some (.int 1), none, none, none, none] [.int (nI (if 0 ≤ 1 ∧ 1 ≤ 1 then 1 else 0))] Mz5801 _
  refine zw_eq0N (a := if 0 ≤ 1 ∧ 1 ≤ 1 then 1 else 0) rfl rfl (ite_b) (fun c12 => ?_) (fun c12 => ?_)
  · -- 12 to 32
    exfalso
    first | omega | exact ite_eq0 c12 (by decide)
  · -- 12 to 15
    refine zw_n 1 rfl ?_
    refine zw_get (v := .ref 142) rfl (zat_self ez5802 hM.1) rfl ?_
    refine zw_n 1 rfl ?_
    refine zw_bald (f := ai (f 142)) (j := 1) rfl (zat_set ez5802 (by decide) (hM.2 142 (by decide) (by decide))) rfl rfl (by decide) (by omega) ?_
    refine zw_eq0N (a := (f 142) 1) rfl rfl (by omega) (fun c21 => ?_) (fun c21 => ?_)
    · -- 21 to 32
      exfalso
      first | omega | exact ite_eq0 c12 (by decide)
    · -- 21 to 24
      refine zw_n 2 rfl ?_
      refine zw_callV (as := [.int 1]) (rest := []) rfl rfl rfl (zat_self ez5802 hM.1) rfl rfl rfl (by decide) (m_otherTree1 Mz5801 (up o 0 0) f (MM.of (o' := up o 0 0) (f' := f) hM (Sm.tset Sm.rf ez5802 (by decide)) (zat_self ez5802 hM.1) (c1_skip (c1_cons (zat_set ez5802 (by decide) (hM.2 140 (by decide) (by decide))) (c1_cons (zat_set ez5802 (by decide) (hM.2 153 (by decide) (by decide))) (c1_cons (zat_set ez5802 (by decide) (hM.2 154 (by decide) (by decide))) (c1_cons (zat_set ez5802 (by decide) (hM.2 155 (by decide) (by decide))) (c1_cons (zat_set ez5802 (by decide) (hM.2 156 (by decide) (by decide))) (c1_cons (zat_set ez5802 (by decide) (hM.2 157 (by decide) (by decide))) (c1_cons (zat_set ez5802 (by decide) (hM.2 158 (by decide) (by decide))) (c1_cons (zat_set ez5802 (by decide) (hM.2 159 (by decide) (by decide))) (c1_cons (zat_set ez5802 (by decide) (hM.2 160 (by decide) (by decide))) (c1_cons (zat_set ez5802 (by decide) (hM.2 165 (by decide) (by decide))) (c1_cons (zat_set ez5802 (by decide) (hM.2 166 (by decide) (by decide))) (c1_cons (zat_set ez5802 (by decide) (hM.2 167 (by decide) (by decide))) (c1_cons (zat_set ez5802 (by decide) (hM.2 168 (by decide) (by decide))) (c1_cons (zat_set ez5802 (by decide) (hM.2 169 (by decide) (by decide))) (c1_cons (zat_set ez5802 (by decide) (hM.2 176 (by decide) (by decide))) c1_nil)))))))))))))))) (fs_k (fs_k (fs_k (fs_k (fs_k (fs_k (fs_k (fs_k (fs_k (fs_k (fs_k (fs_k (fs_k (fs_k (fs_k (fs_k fs_n))))))))))))))))) n gn al_ it pt tg bd ⟨hg.1, hg.2.1, hg.2.2.1, hg.2.2.2.1, fun x hx => ⟨(hg.2.2.2.2 x hx).1, (hg.2.2.2.2 x hx).2.1, (hg.2.2.2.2 x hx).2.2.1⟩⟩ hG hF hres h4 h5 hkb nk gn2 al2 it2 pt2 tg2 bd2 hw2 hG2 hres2 ck sg2 li2 co2 ht2 hS2 emp2 rk2 hA2) (fun rz5806 Mz5807 hz5808 => ?_)
      obtain ⟨hAU, oU, fU, hMU, hSU, hFsU, hRU, hSFU, hgU, hlU, htrU, hoU, ho0U, hTU⟩ := hz5808
      rw [hAU]
      show Zw 10 zm_MO_alike 29 [some (.ref 139), some (.int 1), none, none, none, none] [.int (nI (if tFit (gE al2 it2 tg2 pt2 bd2 sg2 co2) nk ck then 1 else 0))] Mz5807 _
      refine zw_ne0N (a := if tFit (gE al2 it2 tg2 pt2 bd2 sg2 co2) nk ck then 1 else 0) rfl rfl (ite_b) (fun c29 => ?_) (fun c29 => ?_)
      · -- 29 to 34
        have hfit2 : tFit (gE al2 it2 tg2 pt2 bd2 sg2 co2) nk ck := ite_ne c29
        obtain ⟨hTs2, hOt⟩ := hTU hfit2
        have hTr2 : TrR (gE al2 it2 tg2 pt2 bd2 sg2 co2) nk ck (oU 33) (fU 165) := hTs2.rows (E := (gE al2 it2 tg2 pt2 bd2 sg2 co2)) hA2 hG2.1 hG2.2.2.1 hS2.2.2.2 hG2.2.2.2.2.2.2 hS2.1 hfit2
        have hle2 := hTr2.le
        have hn82 := hG2.1
        have hc22 := hS2.1
        obtain ⟨hcz2, hcT2⟩ := hTs2.can (by omega)
        have hcq2 : tEq (oU 33) (fU 165) (tRw (gE al2 it2 tg2 pt2 bd2 sg2 co2) nk ck) := hcT2
        refine zw_n 1 rfl ?_
        refine zw_get (v := .int (nI (oU 33))) rfl hMU.1 rfl ?_
        refine zw_n 2 (ls' := [some (.ref 139), some (.int 1), some (.int (nI (oU 33))), none, none, none]) rfl ?_
        refine zw_callV (as := []) (rest := []) rfl rfl rfl hMU.1 rfl rfl rfl (by decide) (m_hasTree Mz5807 oU fU hMU n gn al_ it pt tg bd hgU hG hSFU c sg li co (ht.keep hRU) hS emp rk hA) (fun rz5809 Mz5810 hz5811 => ?_)
        obtain ⟨hAT, oT, fT, hMT, hST, hFsT, hSFT, hoT, ho0T, hTT⟩ := hz5811
        rw [hAT]
        have hgT : RelG fT n gn al_ it pt tg bd := hgU.keep (hFsT 140 (by decide)) (hFsT 153 (by decide))
        have h166 : fT 166 = fU 166 := hFsT 166 (by decide)
        show Zw 10 zm_MO_alike 43 [some (.ref 139), some (.int 1), some (.int (nI (oU 33))), none, none, none] [.int (nI (if tFit (gE al_ it tg pt bd sg co) n c then 1 else 0))] Mz5810 _
        refine zw_ne0N (a := if tFit (gE al_ it tg pt bd sg co) n c then 1 else 0) rfl rfl (ite_b) (fun c43 => ?_) (fun c43 => ?_)
        · -- 43 to 48
          have hfit : tFit (gE al_ it tg pt bd sg co) n c := ite_ne c43
          have hTs := (hTT hfit).1
          have hTr : TrR (gE al_ it tg pt bd sg co) n c (oT 33) (fT 165) := hTs.rows (E := (gE al_ it tg pt bd sg co)) hA hn8 hG.2.2.1 hS.2.2.2 hG.2.2.2.2.2.2 hc20 hfit
          have hle := hTr.le
          obtain ⟨hcz, hcT⟩ := hTs.can (by omega)
          have hcq : tEq (oT 33) (fT 165) (tRw (gE al_ it tg pt bd sg co) n c) := hcT
          have j48 : Zw 10 zm_MO_alike 61 [some (.ref 139), some (.int 1), some (.int (nI (oU 33))), none, none, none] [.int (nI (if oU 33 = oT 33 then 1 else 0))] Mz5810 (fun r9 M1 => ∃ b, r9 = some (.int (if (tFit (gE al_ it tg pt bd sg co) n c) ∧ (tFit (gE al2 it2 tg2 pt2 bd2 sg2 co2) nk ck) then nI b else -1)) ∧ b ≤ 1 ∧ ((tFit (gE al_ it tg pt bd sg co) n c) ∧ (tFit (gE al2 it2 tg2 pt2 bd2 sg2 co2) nk ck) → (b = 1 ↔ likB gn gn2 (tSz (gE al_ it tg pt bd sg co) n c) (tSz (gE al2 it2 tg2 pt2 bd2 sg2 co2) nk ck) (tRw (gE al_ it tg pt bd sg co) n c) (tRw (gE al2 it2 tg2 pt2 bd2 sg2 co2) nk ck))) ∧ ∃ o9 f9, MM M1 o9 f9 ∧ Sm Mq M1 [139, 140, 153, 154, 155, 156, 157, 158, 159, 160, 165, 166, 167, 168, 169, 176] ∧ Fsame f f9 [139, 140, 153, 154, 155, 156, 157, 158, 159, 160, 165, 166, 167, 168, 169, 176] ∧ f9 140 = f 140 ∧ SafeF f9 ∧ RelG f9 n gn al_ it pt tg bd ∧ (SafeM (f9 154) ∧ SafeM (f9 155) ∧ IsLfp n (frR al_ it tg bd) (f9 154) ∧ IsLfp n (brR al_ it tg bd) (f9 155)) ∧ (∀ j, j ≠ 0 → j ≠ 33 → j ≠ 38 → o9 j = o j) ∧ o9 0 = 0) := by
            refine zw_n 3 (ls' := [some (.ref 139), some (.int 1), some (.int (nI (oU 33))), some (.int (nI (if oU 33 = oT 33 then 1 else 0))), some (.int 0), none]) rfl ?_
            have lp65 : ∀ (n65 : Nat) (b : Nat) (q : Nat), (q ≤ oU 33 ∧ b ≤ 1 ∧ (b = 1 ↔ oT 33 = oU 33 ∧ ∀ z, z < q → likR gn gn2 (fT 165) (fU 165) z = true)) → oU 33 - q < n65 → Zw 10 zm_MO_alike 65 [some (.ref 139), some (.int 1), some (.int (nI (oU 33))), some (.int (nI b)), some (.int (nI q)), none] [] Mz5810 (fun r9 M1 => ∃ b, r9 = some (.int (if (tFit (gE al_ it tg pt bd sg co) n c) ∧ (tFit (gE al2 it2 tg2 pt2 bd2 sg2 co2) nk ck) then nI b else -1)) ∧ b ≤ 1 ∧ ((tFit (gE al_ it tg pt bd sg co) n c) ∧ (tFit (gE al2 it2 tg2 pt2 bd2 sg2 co2) nk ck) → (b = 1 ↔ likB gn gn2 (tSz (gE al_ it tg pt bd sg co) n c) (tSz (gE al2 it2 tg2 pt2 bd2 sg2 co2) nk ck) (tRw (gE al_ it tg pt bd sg co) n c) (tRw (gE al2 it2 tg2 pt2 bd2 sg2 co2) nk ck))) ∧ ∃ o9 f9, MM M1 o9 f9 ∧ Sm Mq M1 [139, 140, 153, 154, 155, 156, 157, 158, 159, 160, 165, 166, 167, 168, 169, 176] ∧ Fsame f f9 [139, 140, 153, 154, 155, 156, 157, 158, 159, 160, 165, 166, 167, 168, 169, 176] ∧ f9 140 = f 140 ∧ SafeF f9 ∧ RelG f9 n gn al_ it pt tg bd ∧ (SafeM (f9 154) ∧ SafeM (f9 155) ∧ IsLfp n (frR al_ it tg bd) (f9 154) ∧ IsLfp n (brR al_ it tg bd) (f9 155)) ∧ (∀ j, j ≠ 0 → j ≠ 33 → j ≠ 38 → o9 j = o j) ∧ o9 0 = 0) := by
              intro n65
              induction n65 with
              | zero => intro b q _ h; exact absurd h (Nat.not_lt_zero _)
              | succ n65 ih65 =>
                intro b q hi65 hm65
                refine zw_n 1 rfl ?_
                refine zw_eq0N (a := b) rfl rfl (by have := hi65.2.1; omega) (fun c66 => ?_) (fun c66 => ?_)
                · -- 66 to 163
                  refine zw_n 1 rfl ?_
                  refine zw_eq0N (a := b) rfl rfl (by have := hi65.2.1; omega) (fun c164 => ?_) (fun c164 => ?_)
                  · -- 164 to 171
                    refine zw_n 1 rfl ?_
                    refine zw_top (x' := nI 0) (by decide) ?_
                    exact zw_iret rfl rfl (⟨b, by rw [if_pos ⟨hfit, hfit2⟩, show b = 0 by have := hi65.2.1; omega], hi65.2.1, fun _ => by rw [← hcz, ← hcz2, ← likB_cg hcq hcq2]; exact al_fin hi65.2 (by first | exact Or.inl c66 | exact Or.inr (by omega)), oT, fT, hMT, Sm.tw (Sm.trans (Sm.tset Sm.rf ez5802 (by decide)) hSU) hST (by decide), (fun a ha => (hFsT a (fun q9 => ha ((by decide : ∀ a, a ∈ [139, 156, 157, 158, 159, 160, 165, 167, 168, 169] → a ∈ [139, 140, 153, 154, 155, 156, 157, 158, 159, 160, 165, 166, 167, 168, 169, 176]) a q9))).trans (hFsU a ha)), (hFsT 140 (by decide)).trans hRU, hSFT, hgT, (by rw [hFsT 154 (by decide), hFsT 155 (by decide)]; exact hlU), (fun j h0 h1 h2 => (hoT j h0 h1 h2).trans ((hoU j h0 h1 h2).trans (up_n h0))), ho0T.trans ho0U⟩)
                  · -- 164 to 167
                    refine zw_n 2 rfl ?_
                    refine zw_top (x' := nI 1) (by decide) ?_
                    exact zw_iret rfl rfl (⟨b, by rw [if_pos ⟨hfit, hfit2⟩, show b = 1 by have := hi65.2.1; omega], hi65.2.1, fun _ => by rw [← hcz, ← hcz2, ← likB_cg hcq hcq2]; exact al_fin hi65.2 (by first | exact Or.inl c66 | exact Or.inr (by omega)), oT, fT, hMT, Sm.tw (Sm.trans (Sm.tset Sm.rf ez5802 (by decide)) hSU) hST (by decide), (fun a ha => (hFsT a (fun q9 => ha ((by decide : ∀ a, a ∈ [139, 156, 157, 158, 159, 160, 165, 167, 168, 169] → a ∈ [139, 140, 153, 154, 155, 156, 157, 158, 159, 160, 165, 166, 167, 168, 169, 176]) a q9))).trans (hFsU a ha)), (hFsT 140 (by decide)).trans hRU, hSFT, hgT, (by rw [hFsT 154 (by decide), hFsT 155 (by decide)]; exact hlU), (fun j h0 h1 h2 => (hoT j h0 h1 h2).trans ((hoU j h0 h1 h2).trans (up_n h0))), ho0T.trans ho0U⟩)
                · -- 66 to 69
                  refine zw_n 2 rfl ?_
                  refine zw_igeN (a := q) (b := oU 33) rfl rfl rfl (by omega) (by omega) (fun c72 => ?_) (fun c72 => ?_)
                  · -- 72 to 163
                    refine zw_n 1 rfl ?_
                    refine zw_eq0N (a := b) rfl rfl (by have := hi65.2.1; omega) (fun c164 => ?_) (fun c164 => ?_)
                    · -- 164 to 171
                      refine zw_n 1 rfl ?_
                      refine zw_top (x' := nI 0) (by decide) ?_
                      exact zw_iret rfl rfl (⟨b, by rw [if_pos ⟨hfit, hfit2⟩, show b = 0 by have := hi65.2.1; omega], hi65.2.1, fun _ => by rw [← hcz, ← hcz2, ← likB_cg hcq hcq2]; exact al_fin hi65.2 (by first | exact Or.inl c66 | exact Or.inr (by omega)), oT, fT, hMT, Sm.tw (Sm.trans (Sm.tset Sm.rf ez5802 (by decide)) hSU) hST (by decide), (fun a ha => (hFsT a (fun q9 => ha ((by decide : ∀ a, a ∈ [139, 156, 157, 158, 159, 160, 165, 167, 168, 169] → a ∈ [139, 140, 153, 154, 155, 156, 157, 158, 159, 160, 165, 166, 167, 168, 169, 176]) a q9))).trans (hFsU a ha)), (hFsT 140 (by decide)).trans hRU, hSFT, hgT, (by rw [hFsT 154 (by decide), hFsT 155 (by decide)]; exact hlU), (fun j h0 h1 h2 => (hoT j h0 h1 h2).trans ((hoU j h0 h1 h2).trans (up_n h0))), ho0T.trans ho0U⟩)
                    · -- 164 to 167
                      refine zw_n 2 rfl ?_
                      refine zw_top (x' := nI 1) (by decide) ?_
                      exact zw_iret rfl rfl (⟨b, by rw [if_pos ⟨hfit, hfit2⟩, show b = 1 by have := hi65.2.1; omega], hi65.2.1, fun _ => by rw [← hcz, ← hcz2, ← likB_cg hcq hcq2]; exact al_fin hi65.2 (by first | exact Or.inl c66 | exact Or.inr (by omega)), oT, fT, hMT, Sm.tw (Sm.trans (Sm.tset Sm.rf ez5802 (by decide)) hSU) hST (by decide), (fun a ha => (hFsT a (fun q9 => ha ((by decide : ∀ a, a ∈ [139, 156, 157, 158, 159, 160, 165, 167, 168, 169] → a ∈ [139, 140, 153, 154, 155, 156, 157, 158, 159, 160, 165, 166, 167, 168, 169, 176]) a q9))).trans (hFsU a ha)), (hFsT 140 (by decide)).trans hRU, hSFT, hgT, (by rw [hFsT 154 (by decide), hFsT 155 (by decide)]; exact hlU), (fun j h0 h1 h2 => (hoT j h0 h1 h2).trans ((hoU j h0 h1 h2).trans (up_n h0))), ho0T.trans ho0U⟩)
                  · -- 72 to 75
                    have hsz9 : oT 33 = oU 33 ∧ _ := hi65.2.2.mp (by have := hi65.2.1; omega)
                    have hsz := hsz9.1
                    have p0 := hTr.f0 q (by omega)
                    have q0 := hTr2.f0 q (by omega)
                    have g1 := hG.2.1 (fT 165 (q * 8 + 0))
                    have g2 := hG2.2.1 (fU 165 (q * 8 + 0))
                    have hbw : ∀ w, 1 ≤ w → w < 4 → fT 165 (q * 8 + w) < 100 ∧ fU 165 (q * 8 + w) < 100 := al_b hTr hTr2 (by omega) (by omega) hG.2.2.1 hG2.2.2.1 hc20 hc22
                    have j75 : Zw 10 zm_MO_alike 107 [some (.ref 139), some (.int 1), some (.int (nI (oU 33))), some (.int (nI b)), some (.int (nI q)), none] [.int (nI (if gn (fT 165 (q * 8 + 0)) = gn2 (fU 165 (q * 8 + 0)) then 1 else 0))] Mz5810 (fun r9 M1 => ∃ b, r9 = some (.int (if (tFit (gE al_ it tg pt bd sg co) n c) ∧ (tFit (gE al2 it2 tg2 pt2 bd2 sg2 co2) nk ck) then nI b else -1)) ∧ b ≤ 1 ∧ ((tFit (gE al_ it tg pt bd sg co) n c) ∧ (tFit (gE al2 it2 tg2 pt2 bd2 sg2 co2) nk ck) → (b = 1 ↔ likB gn gn2 (tSz (gE al_ it tg pt bd sg co) n c) (tSz (gE al2 it2 tg2 pt2 bd2 sg2 co2) nk ck) (tRw (gE al_ it tg pt bd sg co) n c) (tRw (gE al2 it2 tg2 pt2 bd2 sg2 co2) nk ck))) ∧ ∃ o9 f9, MM M1 o9 f9 ∧ Sm Mq M1 [139, 140, 153, 154, 155, 156, 157, 158, 159, 160, 165, 166, 167, 168, 169, 176] ∧ Fsame f f9 [139, 140, 153, 154, 155, 156, 157, 158, 159, 160, 165, 166, 167, 168, 169, 176] ∧ f9 140 = f 140 ∧ SafeF f9 ∧ RelG f9 n gn al_ it pt tg bd ∧ (SafeM (f9 154) ∧ SafeM (f9 155) ∧ IsLfp n (frR al_ it tg bd) (f9 154) ∧ IsLfp n (brR al_ it tg bd) (f9 155)) ∧ (∀ j, j ≠ 0 → j ≠ 33 → j ≠ 38 → o9 j = o j) ∧ o9 0 = 0) := by
                      refine zw_n 3 (ls' := [some (.ref 139), some (.int 1), some (.int (nI (oU 33))), some (.int (nI (if gn (fT 165 (q * 8 + 0)) = gn2 (fU 165 (q * 8 + 0)) then 1 else 0))), some (.int (nI q)), some (.int 1)]) rfl ?_
                      have lp111 : ∀ (n111 : Nat) (b2 : Nat) (w : Nat), (1 ≤ w ∧ w ≤ 4 ∧ b2 ≤ 1 ∧ (b2 = 1 ↔ gn (fT 165 (q * 8 + 0)) = gn2 (fU 165 (q * 8 + 0)) ∧ ∀ v, 1 ≤ v → v < w → fT 165 (q * 8 + v) = fU 165 (q * 8 + v))) → 4 - w < n111 → Zw 10 zm_MO_alike 111 [some (.ref 139), some (.int 1), some (.int (nI (oU 33))), some (.int (nI b2)), some (.int (nI q)), some (.int (nI w))] [] Mz5810 (fun r9 M1 => ∃ b, r9 = some (.int (if (tFit (gE al_ it tg pt bd sg co) n c) ∧ (tFit (gE al2 it2 tg2 pt2 bd2 sg2 co2) nk ck) then nI b else -1)) ∧ b ≤ 1 ∧ ((tFit (gE al_ it tg pt bd sg co) n c) ∧ (tFit (gE al2 it2 tg2 pt2 bd2 sg2 co2) nk ck) → (b = 1 ↔ likB gn gn2 (tSz (gE al_ it tg pt bd sg co) n c) (tSz (gE al2 it2 tg2 pt2 bd2 sg2 co2) nk ck) (tRw (gE al_ it tg pt bd sg co) n c) (tRw (gE al2 it2 tg2 pt2 bd2 sg2 co2) nk ck))) ∧ ∃ o9 f9, MM M1 o9 f9 ∧ Sm Mq M1 [139, 140, 153, 154, 155, 156, 157, 158, 159, 160, 165, 166, 167, 168, 169, 176] ∧ Fsame f f9 [139, 140, 153, 154, 155, 156, 157, 158, 159, 160, 165, 166, 167, 168, 169, 176] ∧ f9 140 = f 140 ∧ SafeF f9 ∧ RelG f9 n gn al_ it pt tg bd ∧ (SafeM (f9 154) ∧ SafeM (f9 155) ∧ IsLfp n (frR al_ it tg bd) (f9 154) ∧ IsLfp n (brR al_ it tg bd) (f9 155)) ∧ (∀ j, j ≠ 0 → j ≠ 33 → j ≠ 38 → o9 j = o j) ∧ o9 0 = 0) := by
                        intro n111
                        induction n111 with
                        | zero => intro b2 w _ h; exact absurd h (Nat.not_lt_zero _)
                        | succ n111 ih111 =>
                          intro b2 w hi111 hm111
                          refine zw_n 2 rfl ?_
                          refine zw_igeN (a := w) (b := 4) rfl rfl rfl (by omega) (by omega) (fun c114 => ?_) (fun c114 => ?_)
                          · -- 114 to 157
                            refine zw_inc rfl (x' := (nI (q + 1))) (ls' := [some (.ref 139), some (.int 1), some (.int (nI (oU 33))), some (.int (nI b2)), some (.int (nI (q + 1))), some (.int (nI w))]) rfl (na (a := q) (b := 1) rfl rfl) rfl ?_
                            refine zw_n 1 rfl ?_
                            refine zw_ls (ls' := [some (.ref 139), some (.int 1), some (.int (nI (oU 33))), some (.int (nI b2)), some (.int (nI (q + 1))), none]) ⟨Or.inr rfl, Or.inr rfl, Or.inr rfl, Or.inr rfl, Or.inr rfl, Or.inl rfl, trivial⟩ ?_
                            exact ih65 b2 (q + 1) (⟨by omega, hi111.2.2.1, al_nx hsz9 hi111.2.2 (by omega)⟩) (by omega)
                          · -- 114 to 117
                            refine zw_n 1 rfl ?_
                            refine zw_eq0N (a := b2) rfl rfl (by have := hi111.2.2.1; omega) (fun c118 => ?_) (fun c118 => ?_)
                            · -- 118 to 149
                              refine zw_n 2 (ls' := [some (.ref 139), some (.int 1), some (.int (nI (oU 33))), some (.int 0), some (.int (nI q)), some (.int (nI w))]) rfl ?_
                              refine zw_inc rfl (x' := (nI (w + 1))) (ls' := [some (.ref 139), some (.int 1), some (.int (nI (oU 33))), some (.int 0), some (.int (nI q)), some (.int (nI (w + 1)))]) rfl (na (a := w) (b := 1) rfl rfl) rfl ?_
                              refine zw_n 1 rfl ?_
                              exact ih111 0 (w + 1) (⟨by omega, by omega, by decide, by first | exact al_y hi111.2.2.2 c118 hi111.2.2.1 c142 | exact al_n0 hi111.2.2.2 c118 | exact al_n1 c142 hi111.1⟩) (by omega)
                            · -- 118 to 121
                              have hbw9 := hbw w (by omega) (by omega)
                              refine zw_n 3 rfl ?_
                              refine zw_callV (as := [.int (nI q), .int (nI w)]) (rest := []) rfl rfl rfl hMT.1 rfl rfl rfl (by decide) (m_of Mz5810 oT fT hMT q w (by omega) (by omega)) (fun rz5812 Mz5813 hz5814 => ?_)
                              rw [hz5814.1, hz5814.2]
                              show Zw 10 zm_MO_alike 129 [some (.ref 139), some (.int 1), some (.int (nI (oU 33))), some (.int (nI b2)), some (.int (nI q)), some (.int (nI w))] [.int (nI ((fT 165) (q * 8 + w)))] Mz5810 _
                              refine zw_n 1 rfl ?_
                              refine zw_get (v := .ref 166) rfl hMT.1 rfl ?_
                              refine zw_n 3 rfl ?_
                              refine zw_top (nm (a := 8) (b := q) rfl rfl) ?_
                              refine zw_n 2 rfl ?_
                              refine zw_top (na (a := 8 * q) (b := w) rfl rfl) ?_
                              refine zw_iald (f := ai (fT 166)) (j := (q * 8 + w)) rfl (hMT.2 166 (by decide) (by decide)) (congrArg nI (by omega)) (by decide) (by omega) ?_
                              refine zw_top (x' := (nI (fU 165 (q * 8 + w)))) (congrArg nI (by rw [h166]; exact (hOt q (by omega)).2 w (by omega) (by omega))) ?_
                              refine zw_ineN (a := (fT 165) (q * 8 + w)) (b := fU 165 (q * 8 + w)) rfl rfl rfl (by omega) (by omega) (fun c142 => ?_) (fun c142 => ?_)
                              · -- 142 to 149
                                refine zw_n 2 (ls' := [some (.ref 139), some (.int 1), some (.int (nI (oU 33))), some (.int 0), some (.int (nI q)), some (.int (nI w))]) rfl ?_
                                refine zw_inc rfl (x' := (nI (w + 1))) (ls' := [some (.ref 139), some (.int 1), some (.int (nI (oU 33))), some (.int 0), some (.int (nI q)), some (.int (nI (w + 1)))]) rfl (na (a := w) (b := 1) rfl rfl) rfl ?_
                                refine zw_n 1 rfl ?_
                                exact ih111 0 (w + 1) (⟨by omega, by omega, by decide, by first | exact al_y hi111.2.2.2 c118 hi111.2.2.1 c142 | exact al_n0 hi111.2.2.2 c118 | exact al_n1 c142 hi111.1⟩) (by omega)
                              · -- 142 to 145
                                refine zw_n 3 (ls' := [some (.ref 139), some (.int 1), some (.int (nI (oU 33))), some (.int 1), some (.int (nI q)), some (.int (nI w))]) rfl ?_
                                refine zw_inc rfl (x' := (nI (w + 1))) (ls' := [some (.ref 139), some (.int 1), some (.int (nI (oU 33))), some (.int 1), some (.int (nI q)), some (.int (nI (w + 1)))]) rfl (na (a := w) (b := 1) rfl rfl) rfl ?_
                                refine zw_n 1 rfl ?_
                                exact ih111 1 (w + 1) (⟨by omega, by omega, by decide, by first | exact al_y hi111.2.2.2 c118 hi111.2.2.1 c142 | exact al_n0 hi111.2.2.2 c118 | exact al_n1 c142 hi111.1⟩) (by omega)
                      exact lp111 _ (if gn (fT 165 (q * 8 + 0)) = gn2 (fU 165 (q * 8 + 0)) then 1 else 0) 1 (⟨Nat.le_refl _, by omega, by split <;> decide, al_in⟩) (Nat.lt_succ_self _)
                    have hsz9 : oT 33 = oU 33 ∧ _ := hi65.2.2.mp (by have := hi65.2.1; omega)
                    have hsz := hsz9.1
                    have p0 := hTr.f0 q (by omega)
                    have q0 := hTr2.f0 q (by omega)
                    have g1 := hG.2.1 (fT 165 (q * 8 + 0))
                    have g2 := hG2.2.1 (fU 165 (q * 8 + 0))
                    have hbw : ∀ w, 1 ≤ w → w < 4 → fT 165 (q * 8 + w) < 100 ∧ fU 165 (q * 8 + w) < 100 := al_b hTr hTr2 (by omega) (by omega) hG.2.2.1 hG2.2.2.1 hc20 hc22
                    refine zw_n 1 rfl ?_
                    refine zw_get (v := .ref 140) rfl hMT.1 rfl ?_
                    refine zw_n 4 rfl ?_
                    refine zw_callV (as := [.int (nI q), .int 0]) (rest := [.int 1, .ref 140]) rfl rfl rfl hMT.1 rfl rfl rfl (by decide) (m_of Mz5810 oT fT hMT q 0 (by omega) (by omega)) (fun rz5815 Mz5816 hz5817 => ?_)
                    rw [hz5817.1, hz5817.2]
                    show Zw 10 zm_MO_alike 87 [some (.ref 139), some (.int 1), some (.int (nI (oU 33))), some (.int (nI b)), some (.int (nI q)), none] [.int (nI ((fT 165) (q * 8 + 0))), .int 1, .ref 140] Mz5810 _
                    refine zw_n 1 rfl ?_
                    refine zw_top (na (a := 1) (b := (fT 165) (q * 8 + 0)) rfl rfl) ?_
                    refine zw_iald (f := ai (fT 140)) (j := (1 + ((fT 165) (q * 8 + 0)))) rfl (hMT.2 140 (by decide) (by decide)) rfl (by decide) (by omega) ?_
                    refine zw_top (x' := (nI (gn (fT 165 (q * 8 + 0))))) (congrArg nI (hgT.2.1 (fT 165 (q * 8 + 0)) (by omega))) ?_
                    refine zw_n 1 rfl ?_
                    refine zw_get (v := .ref 166) rfl hMT.1 rfl ?_
                    refine zw_n 3 rfl ?_
                    refine zw_top (nm (a := 8) (b := q) rfl rfl) ?_
                    refine zw_iald (f := ai (fT 166)) (j := (q * 8 + 0)) rfl (hMT.2 166 (by decide) (by decide)) (congrArg nI (by omega)) (by decide) (by omega) ?_
                    refine zw_top (x' := (nI (gn2 (fU 165 (q * 8 + 0))))) (congrArg nI (by rw [h166]; exact (hOt q (by omega)).1)) ?_
                    refine zw_ineN (a := gn (fT 165 (q * 8 + 0))) (b := gn2 (fU 165 (q * 8 + 0))) rfl rfl rfl (by omega) (by omega) (fun c99 => ?_) (fun c99 => ?_)
                    · -- 99 to 106
                      refine zw_n 1 rfl ?_
                      refine zw_top (x' := nI (if gn (fT 165 (q * 8 + 0)) = gn2 (fU 165 (q * 8 + 0)) then 1 else 0)) (show nI 0 = nI (if gn (fT 165 (q * 8 + 0)) = gn2 (fU 165 (q * 8 + 0)) then 1 else 0) by rw [if_neg (by omega)]) ?_
                      exact j75
                    · -- 99 to 102
                      refine zw_n 2 rfl ?_
                      refine zw_top (x' := nI (if gn (fT 165 (q * 8 + 0)) = gn2 (fU 165 (q * 8 + 0)) then 1 else 0)) (show nI 1 = nI (if gn (fT 165 (q * 8 + 0)) = gn2 (fU 165 (q * 8 + 0)) then 1 else 0) by rw [if_pos (by omega)]) ?_
                      exact j75
            exact lp65 _ (if oU 33 = oT 33 then 1 else 0) 0 (⟨Nat.zero_le _, by split <;> decide, by split <;> first | exact ⟨fun _ => ⟨by omega, fun z hz => by omega⟩, fun _ => rfl⟩ | exact ⟨fun q9 => by omega, fun q9 => absurd q9.1.symm (by assumption)⟩⟩) (Nat.lt_succ_self _)
          have hfit : tFit (gE al_ it tg pt bd sg co) n c := ite_ne c43
          have hTs := (hTT hfit).1
          have hTr : TrR (gE al_ it tg pt bd sg co) n c (oT 33) (fT 165) := hTs.rows (E := (gE al_ it tg pt bd sg co)) hA hn8 hG.2.2.1 hS.2.2.2 hG.2.2.2.2.2.2 hc20 hfit
          have hle := hTr.le
          obtain ⟨hcz, hcT⟩ := hTs.can (by omega)
          have hcq : tEq (oT 33) (fT 165) (tRw (gE al_ it tg pt bd sg co) n c) := hcT
          refine zw_n 2 rfl ?_
          refine zw_get (v := .int (nI (oT 33))) rfl hMT.1 rfl ?_
          refine zw_ineN (a := oU 33) (b := oT 33) rfl rfl rfl (by omega) (by omega) (fun c53 => ?_) (fun c53 => ?_)
          · -- 53 to 60
            refine zw_n 1 rfl ?_
            refine zw_top (x' := nI (if oU 33 = oT 33 then 1 else 0)) (show nI 0 = nI (if oU 33 = oT 33 then 1 else 0) by rw [if_neg (by omega)]) ?_
            exact j48
          · -- 53 to 56
            refine zw_n 2 rfl ?_
            refine zw_top (x' := nI (if oU 33 = oT 33 then 1 else 0)) (show nI 1 = nI (if oU 33 = oT 33 then 1 else 0) by rw [if_pos (by omega)]) ?_
            exact j48
        · -- 43 to 46
          refine zw_n 1 rfl ?_
          exact zw_iret rfl rfl (⟨0, by rw [if_neg (fun q9 => ite_eq0 c43 q9.1)], by decide, fun q9 => absurd q9 (fun q9 => ite_eq0 c43 q9.1), oT, fT, hMT, Sm.tw (Sm.trans (Sm.tset Sm.rf ez5802 (by decide)) hSU) hST (by decide), (fun a ha => (hFsT a (fun q9 => ha ((by decide : ∀ a, a ∈ [139, 156, 157, 158, 159, 160, 165, 167, 168, 169] → a ∈ [139, 140, 153, 154, 155, 156, 157, 158, 159, 160, 165, 166, 167, 168, 169, 176]) a q9))).trans (hFsU a ha)), (hFsT 140 (by decide)).trans hRU, hSFT, hgT, (by rw [hFsT 154 (by decide), hFsT 155 (by decide)]; exact hlU), (fun j h0 h1 h2 => (hoT j h0 h1 h2).trans ((hoU j h0 h1 h2).trans (up_n h0))), ho0T.trans ho0U⟩)
      · -- 29 to 32
        refine zw_n 1 rfl ?_
        exact zw_iret rfl rfl (⟨0, by rw [if_neg (fun q9 => ite_eq0 c29 q9.2)], by decide, fun q9 => absurd q9 (fun q9 => ite_eq0 c29 q9.2), oU, fU, hMU, Sm.trans (Sm.tset Sm.rf ez5802 (by decide)) hSU, hFsU, hRU, hSFU, hgU, hlU, (fun j h0 h1 h2 => (hoU j h0 h1 h2).trans (up_n h0)), ho0U⟩)

set_option maxHeartbeats 4000000 in
set_option maxRecDepth 100000 in
theorem m_alikeE0 (Mq : zM) (o : Nat → Nat) (f : Nat → Nat → Nat) (hM : MM Mq o f) (hk : f 142 0 = 0) : Zm 10 zm_MO_alike [.ref 139, .int 0] Mq (fun r9 M1 => r9 = some (.int (-1)) ∧ MM M1 (up o 0 0) f ∧ Sm Mq M1 [139]) := by
  show Zw 10 zm_MO_alike 0 [some (.ref 139), some (.int 0), none, none, none, none] [] Mq _
  refine zw_n 2 rfl ?_
  refine zw_put rfl hM.1 (rfl) (Nat.le_of_ble_eq_true rfl) ?_
  generalize ez5819 : List.set Mq 139 _ = Mz5818
  refine zw_n 4 rfl ?_
  refine zw_callS (as := [.long (Int32.toInt64 0), .long 0, .long 1]) (rest := []) rfl rfl rfl rfl rfl rfl (by decide) (m_in Mz5818 (Int32.toInt64 0) 0 1 0 0 1 (by decide) (by decide) (by decide)) (fun rz5820 Mz5821 hz5822 => ?_)
  rw [hz5822.1, hz5822.2]
  show Zw 10 zm_MO_alike 12 [some (.ref 139), some (.int 0), none, none, none, none] [.int (nI (if 0 ≤ 0 ∧ 0 ≤ 1 then 1 else 0))] Mz5818 _
  refine zw_eq0N (a := if 0 ≤ 0 ∧ 0 ≤ 1 then 1 else 0) rfl rfl (ite_b) (fun c12 => ?_) (fun c12 => ?_)
  · -- 12 to 32
    refine zw_n 1 rfl ?_
    exact zw_iret rfl rfl (⟨rfl, (MM.of (o' := up o 0 0) (f' := f) hM (Sm.tset Sm.rf ez5819 (by decide)) (zat_self ez5819 hM.1) (c1_skip c1_nil) (fs_k fs_n)), Sm.tset Sm.rf ez5819 (by decide)⟩)
  · -- 12 to 15
    refine zw_n 1 rfl ?_
    refine zw_get (v := .ref 142) rfl (zat_self ez5819 hM.1) rfl ?_
    refine zw_n 1 rfl ?_
    refine zw_bald (f := ai (f 142)) (j := 0) rfl (zat_set ez5819 (by decide) (hM.2 142 (by decide) (by decide))) rfl rfl (by decide) (by omega) ?_
    refine zw_eq0N (a := (f 142) 0) rfl rfl (by omega) (fun c21 => ?_) (fun c21 => ?_)
    · -- 21 to 32
      refine zw_n 1 rfl ?_
      exact zw_iret rfl rfl (⟨rfl, (MM.of (o' := up o 0 0) (f' := f) hM (Sm.tset Sm.rf ez5819 (by decide)) (zat_self ez5819 hM.1) (c1_skip c1_nil) (fs_k fs_n)), Sm.tset Sm.rf ez5819 (by decide)⟩)
    · -- 21 to 24
      exfalso
      exact c21 hk

set_option maxHeartbeats 4000000 in
set_option maxRecDepth 100000 in
theorem m_alikeE1 (Mq : zM) (o : Nat → Nat) (f : Nat → Nat → Nat) (hM : MM Mq o f) (hk : f 142 1 = 0) : Zm 10 zm_MO_alike [.ref 139, .int 1] Mq (fun r9 M1 => r9 = some (.int (-1)) ∧ MM M1 (up o 0 0) f ∧ Sm Mq M1 [139]) := by
  show Zw 10 zm_MO_alike 0 [some (.ref 139), some (.int 1), none, none, none, none] [] Mq _
  refine zw_n 2 rfl ?_
  refine zw_put rfl hM.1 (rfl) (Nat.le_of_ble_eq_true rfl) ?_
  generalize ez5824 : List.set Mq 139 _ = Mz5823
  refine zw_n 4 rfl ?_
  refine zw_callS (as := [.long (Int32.toInt64 1), .long 0, .long 1]) (rest := []) rfl rfl rfl rfl rfl rfl (by decide) (m_in Mz5823 (Int32.toInt64 1) 0 1 1 0 1 (by decide) (by decide) (by decide)) (fun rz5825 Mz5826 hz5827 => ?_)
  rw [hz5827.1, hz5827.2]
  show Zw 10 zm_MO_alike 12 [some (.ref 139), some (.int 1), none, none, none, none] [.int (nI (if 0 ≤ 1 ∧ 1 ≤ 1 then 1 else 0))] Mz5823 _
  refine zw_eq0N (a := if 0 ≤ 1 ∧ 1 ≤ 1 then 1 else 0) rfl rfl (ite_b) (fun c12 => ?_) (fun c12 => ?_)
  · -- 12 to 32
    refine zw_n 1 rfl ?_
    exact zw_iret rfl rfl (⟨rfl, (MM.of (o' := up o 0 0) (f' := f) hM (Sm.tset Sm.rf ez5824 (by decide)) (zat_self ez5824 hM.1) (c1_skip c1_nil) (fs_k fs_n)), Sm.tset Sm.rf ez5824 (by decide)⟩)
  · -- 12 to 15
    refine zw_n 1 rfl ?_
    refine zw_get (v := .ref 142) rfl (zat_self ez5824 hM.1) rfl ?_
    refine zw_n 1 rfl ?_
    refine zw_bald (f := ai (f 142)) (j := 1) rfl (zat_set ez5824 (by decide) (hM.2 142 (by decide) (by decide))) rfl rfl (by decide) (by omega) ?_
    refine zw_eq0N (a := (f 142) 1) rfl rfl (by omega) (fun c21 => ?_) (fun c21 => ?_)
    · -- 21 to 32
      refine zw_n 1 rfl ?_
      exact zw_iret rfl rfl (⟨rfl, (MM.of (o' := up o 0 0) (f' := f) hM (Sm.tset Sm.rf ez5824 (by decide)) (zat_self ez5824 hM.1) (c1_skip c1_nil) (fs_k fs_n)), Sm.tset Sm.rf ez5824 (by decide)⟩)
    · -- 21 to 24
      exfalso
      exact c21 hk

set_option maxHeartbeats 4000000 in
set_option maxRecDepth 100000 in
theorem m_alikeNo (Mq : zM) (o : Nat → Nat) (f : Nat → Nat → Nat) (hM : MM Mq o f) (x : Int32) (hx : ¬ (0 ≤ x.toInt ∧ x.toInt < 2)) : Zm 10 zm_MO_alike [.ref 139, .int x] Mq (fun r9 M1 => r9 = some (.int (-1)) ∧ MM M1 (up o 0 0) f ∧ Sm Mq M1 [139]) := by
  show Zw 10 zm_MO_alike 0 [some (.ref 139), some (.int x), none, none, none, none] [] Mq _
  refine zw_n 2 rfl ?_
  refine zw_put rfl hM.1 (rfl) (Nat.le_of_ble_eq_true rfl) ?_
  generalize ez5829 : List.set Mq 139 _ = Mz5828
  refine zw_n 4 rfl ?_
  refine zw_callS (as := [.long (Int32.toInt64 x), .long 0, .long 1]) (rest := []) rfl rfl rfl rfl rfl rfl (by decide) (m_in Mz5828 (Int32.toInt64 x) 0 1 x.toInt 0 1 (Int32.toInt_toInt64 _) (by decide) (by decide)) (fun rz5830 Mz5831 hz5832 => ?_)
  rw [hz5832.1, hz5832.2]
  show Zw 10 zm_MO_alike 12 [some (.ref 139), some (.int x), none, none, none, none] [.int (nI (if 0 ≤ x.toInt ∧ x.toInt ≤ 1 then 1 else 0))] Mz5828 _
  refine zw_eq0N (a := if 0 ≤ x.toInt ∧ x.toInt ≤ 1 then 1 else 0) rfl rfl (ite_b) (fun c12 => ?_) (fun c12 => ?_)
  · -- 12 to 32
    refine zw_n 1 rfl ?_
    exact zw_iret rfl rfl (⟨rfl, (MM.of (o' := up o 0 0) (f' := f) hM (Sm.tset Sm.rf ez5829 (by decide)) (zat_self ez5829 hM.1) (c1_skip c1_nil) (fs_k fs_n)), Sm.tset Sm.rf ez5829 (by decide)⟩)
  · -- 12 to 15
    exfalso
    have := ite_ne c12; omega
