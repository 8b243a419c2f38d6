set_option maxHeartbeats 4000000 in
set_option maxRecDepth 100000 in
theorem c_freeOf (Mq : zM) (k : Nat) (n em : Nat) (gn al_ it pt tg bd fr af fb : Nat → Nat) (hR : Seg Mq k (rulL k (n, gn, al_, it, pt, tg, bd, em, fr, af, fb))) (hG : SafeG n gn al_ it pt tg bd) (hfr : SafeM fr) (haf : SafeM af) (hfb : SafeM fb) (r : Nat) (hr : r < 8) (htg : ∀ a k, a < al_ r → k < it (r * 4 + a) → tg ((r * 4 + a) * 5 + k) = NO ∨ tg ((r * 4 + a) * 5 + k) < 8) : Zm 1 zm_Rules_freeOf [.ref k, .int (nI r)] Mq (fun r9 M1 => r9 = some (.long (lN (frR al_ it tg bd fr r))) ∧ ∃ af9 fb9, M1[k + 8]? = some (.inl (1, 32, .inr (.inl (al af9)))) ∧ M1[k + 9]? = some (.inl (1, 160, .inr (.inl (al fb9)))) ∧ Sm Mq M1 [k + 8, k + 9] ∧ AfR al_ it tg bd fr r af fb af9 fb9) := by
  show Zw 1 zm_Rules_freeOf 0 [some (.ref k), some (.int (nI r)), none, none, none, none, none, none, none] [] Mq _
  have ha4 := hG.2.2.1 r
  refine zw_n 5 (ls' := [some (.ref k), some (.int (nI r)), some (.long 0), none, none, none, none, none, none]) rfl ?_
  refine zw_top (nm (a := r) (b := 4) rfl rfl) ?_
  refine zw_n 1 (ls' := [some (.ref k), some (.int (nI r)), some (.long 0), none, some (.int (nI (r * 4))), none, none, none, none]) rfl ?_
  have lp7 : ∀ (n7 : Nat) (cs : Nat) (a : Nat) (A : Nat → Nat) (B : Nat → Nat) (M_7 : zM), Sm Mq M_7 [k + 8, k + 9] → M_7[k + 8]? = some (.inl (1, 32, .inr (.inl (al A)))) → M_7[k + 9]? = some (.inl (1, 160, .inr (.inl (al B)))) → (a ≤ al_ r ∧ cs = orR (fun a => frA tg bd it fr (r * 4 + a)) 0 a ∧ SafeM A ∧ SafeM B ∧ (∀ a9, a9 < a → A (r * 4 + a9) = frA tg bd it fr (r * 4 + a9) ∧ ∀ k9, k9 < it (r * 4 + a9) → B ((r * 4 + a9) * 5 + k9) = andR (fun j => frI tg bd fr ((r * 4 + a9) * 5 + j)) (k9 + 1) (it (r * 4 + a9) - (k9 + 1))) ∧ (∀ q, ¬ (r * 4 ≤ q ∧ q < r * 4 + 4) → A q = af q) ∧ ∀ q, ¬ (r * 20 ≤ q ∧ q < r * 20 + 20) → B q = fb q) → al_ r - a < n7 → Zw 1 zm_Rules_freeOf 7 [some (.ref k), some (.int (nI r)), some (.long (lN cs)), none, some (.int (nI (r * 4 + a))), none, none, none, none] [] M_7 (fun r9 M1 => r9 = some (.long (lN (frR al_ it tg bd fr r))) ∧ ∃ af9 fb9, M1[k + 8]? = some (.inl (1, 32, .inr (.inl (al af9)))) ∧ M1[k + 9]? = some (.inl (1, 160, .inr (.inl (al fb9)))) ∧ Sm Mq M1 [k + 8, k + 9] ∧ AfR al_ it tg bd fr r af fb af9 fb9) := by
    intro n7
    induction n7 with
    | zero => intro cs a A B M_7 _ _ _ _ h; exact absurd h (Nat.not_lt_zero _)
    | succ n7 ih7 =>
      intro cs a A B M_7 s_7 f7_0 f7_1 hi7 hm7
      obtain ⟨ia, ics, iA, iB, ido, io1, io2⟩ := hi7
      have hi5 := hG.2.2.2.1 (r * 4 + a)
      refine zw_n 4 rfl ?_
      refine zw_top (nm (a := r) (b := 4) rfl rfl) ?_
      refine zw_n 1 rfl ?_
      refine zw_get (v := .ref (k + 2)) rfl (Sm.at s_7 (by simp <;> omega) (hR.get 0 rfl)) rfl ?_
      refine zw_n 1 rfl ?_
      refine zw_iald (f := ai al_) (j := r) rfl (Sm.at s_7 (by simp <;> omega) (hR.get 2 rfl)) rfl (by decide) (by omega) ?_
      have bz2303 := hG.2.2.1 r
      refine zw_n 1 rfl ?_
      refine zw_top (na (a := r * 4) (b := al_ r) rfl rfl) ?_
      refine zw_igeN (a := r * 4 + a) (b := (r * 4) + (al_ r)) rfl rfl rfl (by omega) (by omega) (fun c19 => ?_) (fun c19 => ?_)
      · -- 19 to 131
        refine zw_n 1 rfl ?_
        exact zw_lret rfl rfl (⟨by rw [ics, show a = al_ r by omega]; rfl, A, B, f7_0, f7_1, s_7, iA, iB, by rw [← show a = al_ r by omega]; exact ido, io1, io2⟩)
      · -- 19 to 22
        refine zw_n 3 (ls' := [some (.ref k), some (.int (nI r)), some (.long (lN cs)), none, some (.int (nI (r * 4 + a))), some (.long 1099511627775), none, none, none]) rfl ?_
        refine zw_get (v := .ref (k + 3)) rfl (Sm.at s_7 (by simp <;> omega) (hR.get 0 rfl)) rfl ?_
        refine zw_n 1 rfl ?_
        refine zw_iald (f := ai it) (j := (r * 4 + a)) rfl (Sm.at s_7 (by simp <;> omega) (hR.get 3 rfl)) rfl (by decide) (by omega) ?_
        have bz2304 := hG.2.2.2.1 (r * 4 + a)
        refine zw_n 2 rfl ?_
        refine zw_n 1 (ls' := [some (.ref k), some (.int (nI r)), some (.long (lN cs)), none, some (.int (nI (r * 4 + a))), some (.long 1099511627775), none, some (.int (nI (it (r * 4 + a)) - 1)), none]) rfl ?_
        have lp38 : ∀ (n38 : Nat) (by9 : Nat) (x : Nat) (B2 : Nat → Nat) (M_38 : zM), Sm Mq M_38 [k + 8, k + 9] → M_38[k + 9]? = some (.inl (1, 160, .inr (.inl (al B2)))) → M_38[k + 8]? = some (.inl (1, 32, .inr (.inl (al A)))) → (x ≤ it (r * 4 + a) ∧ by9 = andR (fun j => frI tg bd fr ((r * 4 + a) * 5 + j)) x (it (r * 4 + a) - x) ∧ SafeM B2 ∧ (∀ k9, x ≤ k9 → k9 < it (r * 4 + a) → B2 ((r * 4 + a) * 5 + k9) = andR (fun j => frI tg bd fr ((r * 4 + a) * 5 + j)) (k9 + 1) (it (r * 4 + a) - (k9 + 1))) ∧ ∀ q, ¬ ((r * 4 + a) * 5 ≤ q ∧ q < (r * 4 + a) * 5 + 5) → B2 q = B q) → x < n38 → Zw 1 zm_Rules_freeOf 38 [some (.ref k), some (.int (nI r)), some (.long (lN cs)), none, some (.int (nI (r * 4 + a))), some (.long (lN by9)), none, some (.int (nI x - 1)), none] [] M_38 (fun r9 M1 => r9 = some (.long (lN (frR al_ it tg bd fr r))) ∧ ∃ af9 fb9, M1[k + 8]? = some (.inl (1, 32, .inr (.inl (al af9)))) ∧ M1[k + 9]? = some (.inl (1, 160, .inr (.inl (al fb9)))) ∧ Sm Mq M1 [k + 8, k + 9] ∧ AfR al_ it tg bd fr r af fb af9 fb9) := by
          intro n38
          induction n38 with
          | zero => intro by9 x B2 M_38 _ _ _ _ h; exact absurd h (Nat.not_lt_zero _)
          | succ n38 ih38 =>
            intro by9 x B2 M_38 s_38 f38_0 f38_1 hi38 hm38
            have hx9 := hi38.1
            have htx : 0 < x → tg ((r * 4 + a) * 5 + (x - 1)) = NO ∨ tg ((r * 4 + a) * 5 + (x - 1)) < 8 := fun q => htg a (x - 1) (by omega) (by omega)
            have htn : ¬ NO < 8 := by decide
            have hby : by9 < 1099511627776 := by rw [hi38.2.1]; exact andR_lt
            refine zw_n 1 rfl ?_
            refine zw_lt0Z (a := ((x : Nat) : Int) - 1) rfl (nP_toInt (by omega)) (fun c40 => ?_) (fun c40 => ?_)
            · -- 40 to 111
              refine zw_n 1 rfl ?_
              refine zw_get (v := .ref (k + 8)) rfl (Sm.at s_38 (by simp <;> omega) (hR.get 0 rfl)) rfl ?_
              refine zw_n 2 rfl ?_
              refine zw_lastN (g := A) (j := (r * 4 + a)) (v := by9) rfl f38_1 rfl (by decide) (by omega) (rfl) ?_
              generalize ez2306 : List.set M_38 (k + 8) _ = Mz2305
              refine zw_n 3 rfl ?_
              refine zw_topl (lo (a := cs) (b := by9) rfl rfl) ?_
              refine zw_n 1 (ls' := [some (.ref k), some (.int (nI r)), some (.long (lN (cs ||| by9))), none, some (.int (nI (r * 4 + a))), some (.long (lN by9)), none, some (.int (nI x - 1)), none]) rfl ?_
              refine zw_inc rfl (x' := (nI (r * 4 + a + 1))) (ls' := [some (.ref k), some (.int (nI r)), some (.long (lN (cs ||| by9))), none, some (.int (nI (r * 4 + a + 1))), some (.long (lN by9)), none, some (.int (nI x - 1)), none]) rfl (na (a := (r * 4 + a)) (b := 1) rfl rfl) rfl ?_
              refine zw_n 1 rfl ?_
              refine zw_ls (ls' := [some (.ref k), some (.int (nI r)), some (.long (lN (cs ||| by9))), none, some (.int (nI (r * 4 + a + 1))), none, none, none, none]) ⟨Or.inr rfl, Or.inr rfl, Or.inr rfl, Or.inl rfl, Or.inr rfl, Or.inl rfl, Or.inl rfl, Or.inl rfl, Or.inl rfl, trivial⟩ ?_
              exact ih7 (cs ||| by9) (a + 1) (up A (r * 4 + a) by9) B2 Mz2305 (Sm.tset s_38 ez2306 (by simp)) (zat_self ez2306 f38_1) (zat_set ez2306 (by omega) f38_0) (fo_next (by omega) ics iA iB ido io1 io2 trivial hi38 (by omega) (fun q => hG.2.2.2.1 q)) (by omega)
            · -- 40 to 43
              rw [nP (show 0 < x by omega)]
              refine zw_n 3 rfl ?_
              refine zw_top (nm (a := r * 4 + a) (b := 5) rfl rfl) ?_
              refine zw_n 2 rfl ?_
              refine zw_top (na (a := (r * 4 + a) * 5) (b := x - 1) rfl rfl) ?_
              refine zw_n 2 (ls' := [some (.ref k), some (.int (nI r)), some (.long (lN cs)), none, some (.int (nI (r * 4 + a))), some (.long (lN by9)), none, some (.int (nI (x - 1))), some (.int (nI (((r * 4 + a) * 5) + (x - 1))))]) rfl ?_
              refine zw_get (v := .ref (k + 9)) rfl (Sm.at s_38 (by simp <;> omega) (hR.get 0 rfl)) rfl ?_
              refine zw_n 2 rfl ?_
              refine zw_lastN (g := B2) (j := (((r * 4 + a) * 5) + (x - 1))) (v := by9) rfl f38_0 rfl (by decide) (by omega) (rfl) ?_
              generalize ez2308 : List.set M_38 (k + 9) _ = Mz2307
              refine zw_n 2 rfl ?_
              refine zw_get (v := .ref (k + 6)) rfl (zat_set ez2308 (by omega) (Sm.at s_38 (by simp <;> omega) (hR.get 0 rfl))) rfl ?_
              refine zw_n 1 rfl ?_
              refine zw_iald (f := ai bd) (j := (((r * 4 + a) * 5) + (x - 1))) rfl (zat_set ez2308 (by omega) (Sm.at s_38 (by simp <;> omega) (hR.get 6 rfl))) rfl (by decide) (by omega) ?_
              have bz2309 := hG.2.2.2.2.2.2 (((r * 4 + a) * 5) + (x - 1))
              have j70 : Zw 1 zm_Rules_freeOf 99 [some (.ref k), some (.int (nI r)), some (.long (lN cs)), none, some (.int (nI (r * 4 + a))), some (.long (lN by9)), none, some (.int (nI (x - 1))), some (.int (nI (((r * 4 + a) * 5) + (x - 1))))] [.long (lN (if tg ((r * 4 + a) * 5 + (x - 1)) = NO then 1099511627775 else fr (tg ((r * 4 + a) * 5 + (x - 1))))), .int (nI (bd (((r * 4 + a) * 5) + (x - 1)))), .long (lN by9)] Mz2307 (fun r9 M1 => r9 = some (.long (lN (frR al_ it tg bd fr r))) ∧ ∃ af9 fb9, M1[k + 8]? = some (.inl (1, 32, .inr (.inl (al af9)))) ∧ M1[k + 9]? = some (.inl (1, 160, .inr (.inl (al fb9)))) ∧ Sm Mq M1 [k + 8, k + 9] ∧ AfR al_ it tg bd fr r af fb af9 fb9) := by
                refine zw_callS (as := [.int (nI (bd (((r * 4 + a) * 5) + (x - 1)))), .long (lN (if tg ((r * 4 + a) * 5 + (x - 1)) = NO then 1099511627775 else fr (tg ((r * 4 + a) * 5 + (x - 1)))))]) (rest := [.long (lN by9)]) rfl rfl rfl rfl rfl rfl (by decide) (c_wholesOf _ _ _ (by omega) (by split <;> first | decide | exact hfr _)) (fun rz2310 Mz2311 hz2312 => ?_)
                rw [hz2312.1, hz2312.2]
                show Zw 1 zm_Rules_freeOf 102 [some (.ref k), some (.int (nI r)), some (.long (lN cs)), none, some (.int (nI (r * 4 + a))), some (.long (lN by9)), none, some (.int (nI (x - 1))), some (.int (nI (((r * 4 + a) * 5) + (x - 1))))] [.long (lN (letsN (bd (((r * 4 + a) * 5) + (x - 1))) (if tg ((r * 4 + a) * 5 + (x - 1)) = NO then 1099511627775 else fr (tg ((r * 4 + a) * 5 + (x - 1)))))), .long (lN by9)] Mz2307 _
                refine zw_n 1 rfl ?_
                refine zw_topl (lan (a := by9) (b := letsN (bd (((r * 4 + a) * 5) + (x - 1))) (if tg ((r * 4 + a) * 5 + (x - 1)) = NO then 1099511627775 else fr (tg ((r * 4 + a) * 5 + (x - 1))))) rfl rfl) ?_
                refine zw_n 1 (ls' := [some (.ref k), some (.int (nI r)), some (.long (lN cs)), none, some (.int (nI (r * 4 + a))), some (.long (lN (by9 &&& (letsN (bd (((r * 4 + a) * 5) + (x - 1))) (if tg ((r * 4 + a) * 5 + (x - 1)) = NO then 1099511627775 else fr (tg ((r * 4 + a) * 5 + (x - 1)))))))), none, some (.int (nI (x - 1))), some (.int (nI (((r * 4 + a) * 5) + (x - 1))))]) rfl ?_
                refine zw_inc rfl (x' := (nI (x - 1) - 1)) (ls' := [some (.ref k), some (.int (nI r)), some (.long (lN cs)), none, some (.int (nI (r * 4 + a))), some (.long (lN (by9 &&& (letsN (bd (((r * 4 + a) * 5) + (x - 1))) (if tg ((r * 4 + a) * 5 + (x - 1)) = NO then 1099511627775 else fr (tg ((r * 4 + a) * 5 + (x - 1)))))))), none, some (.int (nI (x - 1) - 1)), some (.int (nI (((r * 4 + a) * 5) + (x - 1))))]) rfl (nPd) rfl ?_
                refine zw_n 1 rfl ?_
                refine zw_ls (ls' := [some (.ref k), some (.int (nI r)), some (.long (lN cs)), none, some (.int (nI (r * 4 + a))), some (.long (lN (by9 &&& (letsN (bd (((r * 4 + a) * 5) + (x - 1))) (if tg ((r * 4 + a) * 5 + (x - 1)) = NO then 1099511627775 else fr (tg ((r * 4 + a) * 5 + (x - 1)))))))), none, some (.int (nI (x - 1) - 1)), none]) ⟨Or.inr rfl, Or.inr rfl, Or.inr rfl, Or.inl rfl, Or.inr rfl, Or.inr rfl, Or.inl rfl, Or.inr rfl, Or.inl rfl, trivial⟩ ?_
                exact ih38 (by9 &&& (letsN (bd (((r * 4 + a) * 5) + (x - 1))) (if tg ((r * 4 + a) * 5 + (x - 1)) = NO then 1099511627775 else fr (tg ((r * 4 + a) * 5 + (x - 1)))))) (x - 1) (up B2 (((r * 4 + a) * 5) + (x - 1)) by9) Mz2307 (Sm.tset s_38 ez2308 (by simp)) (zat_self ez2308 f38_0) (zat_set ez2308 (by omega) f38_1) (fo_in hi38 (by omega) hby) (by omega)
              refine zw_n 1 rfl ?_
              refine zw_get (v := .ref (k + 5)) rfl (zat_set ez2308 (by omega) (Sm.at s_38 (by simp <;> omega) (hR.get 0 rfl))) rfl ?_
              refine zw_n 1 rfl ?_
              refine zw_iald (f := ai tg) (j := (((r * 4 + a) * 5) + (x - 1))) rfl (zat_set ez2308 (by omega) (Sm.at s_38 (by simp <;> omega) (hR.get 5 rfl))) rfl (by decide) (by omega) ?_
              have bz2313 := hG.2.2.2.2.2.1 (((r * 4 + a) * 5) + (x - 1))
              refine zw_n 1 rfl ?_
              refine zw_ineM (a := tg (((r * 4 + a) * 5) + (x - 1))) rfl rfl (by omega) (fun c78 => ?_) (fun c78 => ?_)
              · -- 78 to 87
                refine zw_n 1 rfl ?_
                refine zw_get (v := .ref (k + 7)) rfl (zat_set ez2308 (by omega) (Sm.at s_38 (by simp <;> omega) (hR.get 0 rfl))) rfl ?_
                refine zw_n 1 rfl ?_
                refine zw_get (v := .ref (k + 5)) rfl (zat_set ez2308 (by omega) (Sm.at s_38 (by simp <;> omega) (hR.get 0 rfl))) rfl ?_
                refine zw_n 1 rfl ?_
                refine zw_iald (f := ai tg) (j := (((r * 4 + a) * 5) + (x - 1))) rfl (zat_set ez2308 (by omega) (Sm.at s_38 (by simp <;> omega) (hR.get 5 rfl))) rfl (by decide) (by omega) ?_
                have bz2314 := hG.2.2.2.2.2.1 (((r * 4 + a) * 5) + (x - 1))
                refine zw_lald (f := al fr) (j := (tg (((r * 4 + a) * 5) + (x - 1)))) rfl (zat_set ez2308 (by omega) (Sm.at s_38 (by simp <;> omega) (hR.get 7 rfl))) rfl (by decide) (by omega) ?_
                refine zw_topl (x' := lN (if tg ((r * 4 + a) * 5 + (x - 1)) = NO then 1099511627775 else fr (tg ((r * 4 + a) * 5 + (x - 1))))) (show lN (fr (tg ((r * 4 + a) * 5 + (x - 1)))) = lN (if tg ((r * 4 + a) * 5 + (x - 1)) = NO then 1099511627775 else fr (tg ((r * 4 + a) * 5 + (x - 1)))) by rw [if_neg (by omega)]) ?_
                exact j70
              · -- 78 to 81
                refine zw_n 2 rfl ?_
                refine zw_topl (x' := lN (if tg ((r * 4 + a) * 5 + (x - 1)) = NO then 1099511627775 else fr (tg ((r * 4 + a) * 5 + (x - 1))))) (show lN 1099511627775 = lN (if tg ((r * 4 + a) * 5 + (x - 1)) = NO then 1099511627775 else fr (tg ((r * 4 + a) * 5 + (x - 1)))) by rw [if_pos (by omega)]) ?_
                exact j70
        exact lp38 _ 1099511627775 (it (r * 4 + a)) B M_7 s_7 f7_1 f7_0 (⟨Nat.le_refl _, by rw [Nat.sub_self]; rfl, iB, fun k9 q1 q2 => by omega, fun _ _ => rfl⟩) (Nat.lt_succ_self _)
  exact lp7 _ 0 0 af fb Mq Sm.rf (hR.get 8 rfl) (hR.get 9 rfl) (⟨Nat.zero_le _, rfl, haf, hfb, fun a9 h => absurd h (Nat.not_lt_zero _), fun _ _ => rfl, fun _ _ => rfl⟩) (Nat.lt_succ_self _)

set_option maxHeartbeats 4000000 in
set_option maxRecDepth 100000 in
theorem z_fill8 (Mq : zM) (ka : Nat) (g : Nat → Nat) (hK : Mq[ka]? = some (.inl (1, 8, .inr (.inl (al g))))) : Zm 0 zm_Arrays_fill2 [.ref ka, .long (lN 0)] Mq (fun r9 M1 => r9 = none ∧ ∃ g9, M1[ka]? = some (.inl (1, 8, .inr (.inl (al g9)))) ∧ Sm Mq M1 [ka] ∧ ∀ q, g9 q = if q < 8 then 0 else g q) := by
  show Zw 0 zm_Arrays_fill2 0 [some (.ref ka), some (.long (lN 0)), none, none, none] [] Mq _
  refine zw_n 3 (ls' := [some (.ref ka), some (.long (lN 0)), none, some (.int 0), none]) rfl ?_
  refine zw_alen rfl hK rfl ?_
  refine zw_n 1 (ls' := [some (.ref ka), some (.long (lN 0)), none, some (.int 0), some (.int (nI 8))]) rfl ?_
  have lp6 : ∀ (n6 : Nat) (i : Nat) (h : Nat → Nat) (M_6 : zM), Sm Mq M_6 [ka] → M_6[ka]? = some (.inl (1, 8, .inr (.inl (al h)))) → (i ≤ 8 ∧ ∀ q, h q = if q < i then 0 else g q) → 8 - i < n6 → Zw 0 zm_Arrays_fill2 6 [some (.ref ka), some (.long (lN 0)), none, some (.int (nI i)), some (.int (nI 8))] [] M_6 (fun r9 M1 => r9 = none ∧ ∃ g9, M1[ka]? = some (.inl (1, 8, .inr (.inl (al g9)))) ∧ Sm Mq M1 [ka] ∧ ∀ q, g9 q = if q < 8 then 0 else g q) := by
    intro n6
    induction n6 with
    | zero => intro i h M_6 _ _ _ h; exact absurd h (Nat.not_lt_zero _)
    | succ n6 ih6 =>
      intro i h M_6 s_6 f6_0 hi6 hm6
      refine zw_n 2 rfl ?_
      refine zw_igeN (a := i) (b := 8) rfl rfl rfl (by omega) (by omega) (fun c9 => ?_) (fun c9 => ?_)
      · -- 9 to 22
        exact zw_vret rfl rfl (⟨rfl, h, f6_0, s_6, fun q => by rw [hi6.2 q, show i = 8 by omega]⟩)
      · -- 9 to 12
        refine zw_n 3 rfl ?_
        refine zw_lastN (g := h) (j := i) (v := 0) rfl f6_0 rfl (by decide) (by omega) (rfl) ?_
        generalize ez2316 : List.set M_6 ka _ = Mz2315
        refine zw_inc rfl (x' := (nI (i + 1))) (ls' := [some (.ref ka), some (.long (lN 0)), none, some (.int (nI (i + 1))), some (.int (nI 8))]) rfl (na (a := i) (b := 1) rfl rfl) rfl ?_
        refine zw_n 1 rfl ?_
        exact ih6 (i + 1) (up h i 0) Mz2315 (Sm.tset s_6 ez2316 (by simp)) (zat_self ez2316 f6_0) (⟨by omega, fun q => fl_up hi6.2 q⟩) (by omega)
  exact lp6 _ 0 g Mq Sm.rf hK (⟨Nat.zero_le _, fun q => by rw [if_neg (by omega)]⟩) (Nat.lt_succ_self _)

set_option maxHeartbeats 4000000 in
set_option maxRecDepth 100000 in
theorem z_fill168 (Mq : zM) (ka : Nat) (g : Nat → Nat) (hK : Mq[ka]? = some (.inl (1, 168, .inr (.inl (al g))))) : Zm 0 zm_Arrays_fill2 [.ref ka, .long (lN 0)] Mq (fun r9 M1 => r9 = none ∧ ∃ g9, M1[ka]? = some (.inl (1, 168, .inr (.inl (al g9)))) ∧ Sm Mq M1 [ka] ∧ ∀ q, g9 q = if q < 168 then 0 else g q) := by
  show Zw 0 zm_Arrays_fill2 0 [some (.ref ka), some (.long (lN 0)), none, none, none] [] Mq _
  refine zw_n 3 (ls' := [some (.ref ka), some (.long (lN 0)), none, some (.int 0), none]) rfl ?_
  refine zw_alen rfl hK rfl ?_
  refine zw_n 1 (ls' := [some (.ref ka), some (.long (lN 0)), none, some (.int 0), some (.int (nI 168))]) rfl ?_
  have lp6 : ∀ (n6 : Nat) (i : Nat) (h : Nat → Nat) (M_6 : zM), Sm Mq M_6 [ka] → M_6[ka]? = some (.inl (1, 168, .inr (.inl (al h)))) → (i ≤ 168 ∧ ∀ q, h q = if q < i then 0 else g q) → 168 - i < n6 → Zw 0 zm_Arrays_fill2 6 [some (.ref ka), some (.long (lN 0)), none, some (.int (nI i)), some (.int (nI 168))] [] M_6 (fun r9 M1 => r9 = none ∧ ∃ g9, M1[ka]? = some (.inl (1, 168, .inr (.inl (al g9)))) ∧ Sm Mq M1 [ka] ∧ ∀ q, g9 q = if q < 168 then 0 else g q) := by
    intro n6
    induction n6 with
    | zero => intro i h M_6 _ _ _ h; exact absurd h (Nat.not_lt_zero _)
    | succ n6 ih6 =>
      intro i h M_6 s_6 f6_0 hi6 hm6
      refine zw_n 2 rfl ?_
      refine zw_igeN (a := i) (b := 168) rfl rfl rfl (by omega) (by omega) (fun c9 => ?_) (fun c9 => ?_)
      · -- 9 to 22
        exact zw_vret rfl rfl (⟨rfl, h, f6_0, s_6, fun q => by rw [hi6.2 q, show i = 168 by omega]⟩)
      · -- 9 to 12
        refine zw_n 3 rfl ?_
        refine zw_lastN (g := h) (j := i) (v := 0) rfl f6_0 rfl (by decide) (by omega) (rfl) ?_
        generalize ez2318 : List.set M_6 ka _ = Mz2317
        refine zw_inc rfl (x' := (nI (i + 1))) (ls' := [some (.ref ka), some (.long (lN 0)), none, some (.int (nI (i + 1))), some (.int (nI 168))]) rfl (na (a := i) (b := 1) rfl rfl) rfl ?_
        refine zw_n 1 rfl ?_
        exact ih6 (i + 1) (up h i 0) Mz2317 (Sm.tset s_6 ez2318 (by simp)) (zat_self ez2318 f6_0) (⟨by omega, fun q => fl_up hi6.2 q⟩) (by omega)
  exact lp6 _ 0 g Mq Sm.rf hK (⟨Nat.zero_le _, fun q => by rw [if_neg (by omega)]⟩) (Nat.lt_succ_self _)

set_option maxHeartbeats 4000000 in
set_option maxRecDepth 100000 in
theorem z_fill21 (Mq : zM) (ka : Nat) (g : Nat → Nat) (hK : Mq[ka]? = some (.inl (0, 21, .inl (ai g)))) : Zm 0 zm_Arrays_fill [.ref ka, .int (nI 0)] Mq (fun r9 M1 => r9 = none ∧ ∃ g9, M1[ka]? = some (.inl (0, 21, .inl (ai g9))) ∧ Sm Mq M1 [ka] ∧ ∀ q, g9 q = if q < 21 then 0 else g q) := by
  show Zw 0 zm_Arrays_fill 0 [some (.ref ka), some (.int (nI 0)), none, none] [] Mq _
  refine zw_n 3 (ls' := [some (.ref ka), some (.int (nI 0)), some (.int 0), none]) rfl ?_
  refine zw_alen rfl hK rfl ?_
  refine zw_n 1 (ls' := [some (.ref ka), some (.int (nI 0)), some (.int 0), some (.int (nI 21))]) rfl ?_
  have lp5 : ∀ (n5 : Nat) (i : Nat) (h : Nat → Nat) (M_5 : zM), Sm Mq M_5 [ka] → M_5[ka]? = some (.inl (0, 21, .inl (ai h))) → (i ≤ 21 ∧ ∀ q, h q = if q < i then 0 else g q) → 21 - i < n5 → Zw 0 zm_Arrays_fill 5 [some (.ref ka), some (.int (nI 0)), some (.int (nI i)), some (.int (nI 21))] [] M_5 (fun r9 M1 => r9 = none ∧ ∃ g9, M1[ka]? = some (.inl (0, 21, .inl (ai g9))) ∧ Sm Mq M1 [ka] ∧ ∀ q, g9 q = if q < 21 then 0 else g q) := by
    intro n5
    induction n5 with
    | zero => intro i h M_5 _ _ _ h; exact absurd h (Nat.not_lt_zero _)
    | succ n5 ih5 =>
      intro i h M_5 s_5 f5_0 hi5 hm5
      refine zw_n 2 rfl ?_
      refine zw_igeN (a := i) (b := 21) rfl rfl rfl (by omega) (by omega) (fun c7 => ?_) (fun c7 => ?_)
      · -- 7 to 20
        exact zw_vret rfl rfl (⟨rfl, h, f5_0, s_5, fun q => by rw [hi5.2 q, show i = 21 by omega]⟩)
      · -- 7 to 10
        refine zw_n 3 rfl ?_
        refine zw_iastN (g := h) (j := i) (v := 0) rfl f5_0 rfl (by decide) (by omega) (rfl) ?_
        generalize ez2320 : List.set M_5 ka _ = Mz2319
        refine zw_inc rfl (x' := (nI (i + 1))) (ls' := [some (.ref ka), some (.int (nI 0)), some (.int (nI (i + 1))), some (.int (nI 21))]) rfl (na (a := i) (b := 1) rfl rfl) rfl ?_
        refine zw_n 1 rfl ?_
        exact ih5 (i + 1) (up h i 0) Mz2319 (Sm.tset s_5 ez2320 (by simp)) (zat_self ez2320 f5_0) (⟨by omega, fun q => fl_up hi5.2 q⟩) (by omega)
  exact lp5 _ 0 g Mq Sm.rf hK (⟨Nat.zero_le _, fun q => by rw [if_neg (by omega)]⟩) (Nat.lt_succ_self _)

set_option maxHeartbeats 4000000 in
set_option maxRecDepth 100000 in
theorem c_findFree (Mq : zM) (k : Nat) (n em : Nat) (gn al_ it pt tg bd fr af fb : Nat → Nat) (hR : Seg Mq k (rulL k (n, gn, al_, it, pt, tg, bd, em, fr, af, fb))) (hG : SafeG n gn al_ it pt tg bd) (hfr : SafeM fr) (haf : SafeM af) (hfb : SafeM fb) (hcl : CloT n al_ it tg) : Zm 2 zm_Rules_findFree [.ref k] Mq (fun r9 M1 => r9 = none ∧ ∃ fr9 af9 fb9, Seg M1 k (rulL k (n, gn, al_, it, pt, tg, bd, em, fr9, af9, fb9)) ∧ Sm Mq M1 [k + 7, k + 8, k + 9] ∧ LfP n al_ it tg bd 0 0 fr9 af9 fb9) := by
  show Zw 2 zm_Rules_findFree 0 [some (.ref k), none, none, none, none, none] [] Mq _
  have hn8 := hG.1
  refine zw_n 1 rfl ?_
  refine zw_get (v := .ref (k + 7)) rfl (hR.get 0 rfl) rfl ?_
  refine zw_n 1 rfl ?_
  refine zw_callS (as := [.ref (k + 7), .long 0]) (rest := []) rfl rfl rfl rfl rfl rfl (by decide) (z_fill8 Mq (k + 7) fr (hR.get 7 rfl)) (fun rz2326 Mz2327 hz2328 => ?_)
  obtain ⟨hAz2321, gz2322, h1z2323, hSz2324, hzz2325⟩ := hz2328
  rw [hAz2321]
  show Zw 2 zm_Rules_findFree 8 [some (.ref k), none, none, none, none, none] [] Mz2327 _
  refine zw_n 4 (ls' := [some (.ref k), some (.int 1), some (.int 0), none, none, none]) rfl ?_
  have lp12 : ∀ (n12 : Nat) (mo : Nat) (ps : Nat) (F1 : Nat → Nat) (A1 : Nat → Nat) (B1 : Nat → Nat) (M_12 : zM), Sm Mq M_12 [k + 7, k + 8, k + 9] → M_12[k + 7]? = some (.inl (1, 8, .inr (.inl (al F1)))) → M_12[k + 8]? = some (.inl (1, 32, .inr (.inl (al A1)))) → M_12[k + 9]? = some (.inl (1, 160, .inr (.inl (al B1)))) → (LfP n al_ it tg bd ps mo F1 A1 B1 ∧ ps ≤ 321) → 322 - ps < n12 → Zw 2 zm_Rules_findFree 12 [some (.ref k), some (.int (nI mo)), some (.int (nI ps)), none, none, none] [] M_12 (fun r9 M1 => r9 = none ∧ ∃ fr9 af9 fb9, Seg M1 k (rulL k (n, gn, al_, it, pt, tg, bd, em, fr9, af9, fb9)) ∧ Sm Mq M1 [k + 7, k + 8, k + 9] ∧ LfP n al_ it tg bd 0 0 fr9 af9 fb9) := by
    intro n12
    induction n12 with
    | zero => intro mo ps F1 A1 B1 M_12 _ _ _ _ _ h; exact absurd h (Nat.not_lt_zero _)
    | succ n12 ih12 =>
      intro mo ps F1 A1 B1 M_12 s_12 f12_0 f12_1 f12_2 hi12 hm12
      have hmo := hi12.1.mo_le
      refine zw_n 1 rfl ?_
      refine zw_eq0N (a := mo) rfl rfl (by omega) (fun c13 => ?_) (fun c13 => ?_)
      · -- 13 to 84
        exact zw_vret rfl rfl (⟨rfl, F1, A1, B1, (seg10 (Sm.at s_12 (by simp <;> omega) (hR.get 0 rfl)) (Sm.at s_12 (by simp <;> omega) (hR.get 1 rfl)) (Sm.at s_12 (by simp <;> omega) (hR.get 2 rfl)) (Sm.at s_12 (by simp <;> omega) (hR.get 3 rfl)) (Sm.at s_12 (by simp <;> omega) (hR.get 4 rfl)) (Sm.at s_12 (by simp <;> omega) (hR.get 5 rfl)) (Sm.at s_12 (by simp <;> omega) (hR.get 6 rfl)) f12_0 f12_1 f12_2), s_12, LfP.at0 hi12.1 (by first | omega | exact hi12.1.over hn8 (by omega))⟩)
      · -- 13 to 16
        refine zw_n 2 rfl ?_
        refine zw_igeN (a := ps) (b := 321) rfl rfl rfl (by omega) (by omega) (fun c20 => ?_) (fun c20 => ?_)
        · -- 20 to 84
          exact zw_vret rfl rfl (⟨rfl, F1, A1, B1, (seg10 (Sm.at s_12 (by simp <;> omega) (hR.get 0 rfl)) (Sm.at s_12 (by simp <;> omega) (hR.get 1 rfl)) (Sm.at s_12 (by simp <;> omega) (hR.get 2 rfl)) (Sm.at s_12 (by simp <;> omega) (hR.get 3 rfl)) (Sm.at s_12 (by simp <;> omega) (hR.get 4 rfl)) (Sm.at s_12 (by simp <;> omega) (hR.get 5 rfl)) (Sm.at s_12 (by simp <;> omega) (hR.get 6 rfl)) f12_0 f12_1 f12_2), s_12, LfP.at0 hi12.1 (by first | omega | exact hi12.1.over hn8 (by omega))⟩)
        · -- 20 to 23
          refine zw_n 4 (ls' := [some (.ref k), some (.int 0), some (.int (nI ps)), some (.int 0), none, none]) rfl ?_
          have lp27 : ∀ (n27 : Nat) (m2 : Nat) (y : Nat) (F2 : Nat → Nat) (A2 : Nat → Nat) (B2 : Nat → Nat) (M_27 : zM), Sm Mq M_27 [k + 7, k + 8, k + 9] → M_27[k + 7]? = some (.inl (1, 8, .inr (.inl (al F2)))) → M_27[k + 8]? = some (.inl (1, 32, .inr (.inl (al A2)))) → M_27[k + 9]? = some (.inl (1, 160, .inr (.inl (al B2)))) → (LfI n al_ it tg bd F1 y m2 F2 A2 B2) → n - y < n27 → Zw 2 zm_Rules_findFree 27 [some (.ref k), some (.int (nI m2)), some (.int (nI ps)), some (.int (nI y)), none, none] [] M_27 (fun r9 M1 => r9 = none ∧ ∃ fr9 af9 fb9, Seg M1 k (rulL k (n, gn, al_, it, pt, tg, bd, em, fr9, af9, fb9)) ∧ Sm Mq M1 [k + 7, k + 8, k + 9] ∧ LfP n al_ it tg bd 0 0 fr9 af9 fb9) := by
            intro n27
            induction n27 with
            | zero => intro m2 y F2 A2 B2 M_27 _ _ _ _ _ h; exact absurd h (Nat.not_lt_zero _)
            | succ n27 ih27 =>
              intro m2 y F2 A2 B2 M_27 s_27 f27_0 f27_1 f27_2 hi27 hm27
              have hy := hi27.y_le
              have hm2 := hi27.mo_le
              refine zw_n 2 rfl ?_
              refine zw_get (v := .int (nI n)) rfl (Sm.at s_27 (by simp <;> omega) (hR.get 0 rfl)) rfl ?_
              refine zw_igeN (a := y) (b := n) rfl rfl rfl (by omega) (by omega) (fun c32 => ?_) (fun c32 => ?_)
              · -- 32 to 78
                refine zw_inc rfl (x' := (nI (ps + 1))) (ls' := [some (.ref k), some (.int (nI m2)), some (.int (nI (ps + 1))), some (.int (nI y)), none, none]) rfl (na (a := ps) (b := 1) rfl rfl) rfl ?_
                refine zw_n 1 rfl ?_
                refine zw_ls (ls' := [some (.ref k), some (.int (nI m2)), some (.int (nI (ps + 1))), none, none, none]) ⟨Or.inr rfl, Or.inr rfl, Or.inr rfl, Or.inl rfl, Or.inl rfl, Or.inl rfl, trivial⟩ ?_
                exact ih12 m2 (ps + 1) F2 A2 B2 M_27 s_27 f27_0 f27_1 f27_2 (⟨LfI.fin hi12.1 (by omega) ((show y = n by omega) ▸ hi27), by omega⟩) (by omega)
              · -- 32 to 35
                refine zw_n 2 rfl ?_
                refine zw_callV (as := [.int (nI y)]) (rest := []) rfl rfl rfl (Sm.at s_27 (by simp <;> omega) (hR.get 0 rfl)) rfl rfl rfl (by decide) (c_freeOf M_27 k n em gn al_ it pt tg bd F2 A2 B2 (seg10 (Sm.at s_27 (by simp <;> omega) (hR.get 0 rfl)) (Sm.at s_27 (by simp <;> omega) (hR.get 1 rfl)) (Sm.at s_27 (by simp <;> omega) (hR.get 2 rfl)) (Sm.at s_27 (by simp <;> omega) (hR.get 3 rfl)) (Sm.at s_27 (by simp <;> omega) (hR.get 4 rfl)) (Sm.at s_27 (by simp <;> omega) (hR.get 5 rfl)) (Sm.at s_27 (by simp <;> omega) (hR.get 6 rfl)) f27_0 f27_1 f27_2) hG hi27.sfr hi27.saf hi27.sfb y (by omega) (fun a k h1 h2 => Or.imp id (fun q => by omega) (hcl y a k (by omega) h1 h2))) (fun rz2336 Mz2337 hz2338 => ?_)
                obtain ⟨hAz2329, Az2330, Bz2331, h8z2332, h9z2333, hSz2334, hwz2335⟩ := hz2338
                rw [hAz2329]
                show Zw 2 zm_Rules_findFree 40 [some (.ref k), some (.int (nI m2)), some (.int (nI ps)), some (.int (nI y)), none, none] [.long (lN (frR al_ it tg bd F2 y))] Mz2337 _
                refine zw_n 1 (ls' := [some (.ref k), some (.int (nI m2)), some (.int (nI ps)), some (.int (nI y)), some (.long (lN (frR al_ it tg bd F2 y))), none]) rfl ?_
                have j42 : Zw 2 zm_Rules_findFree 63 [some (.ref k), some (.int (nI m2)), some (.int (nI ps)), some (.int (nI y)), some (.long (lN (frR al_ it tg bd F2 y))), none] [.int (nI (if m2 ≠ 0 ∨ frR al_ it tg bd F2 y ≠ F2 y then 1 else 0))] Mz2337 (fun r9 M1 => r9 = none ∧ ∃ fr9 af9 fb9, Seg M1 k (rulL k (n, gn, al_, it, pt, tg, bd, em, fr9, af9, fb9)) ∧ Sm Mq M1 [k + 7, k + 8, k + 9] ∧ LfP n al_ it tg bd 0 0 fr9 af9 fb9) := by
                  refine zw_n 2 (ls' := [some (.ref k), some (.int (nI (if m2 ≠ 0 ∨ frR al_ it tg bd F2 y ≠ F2 y then 1 else 0))), some (.int (nI ps)), some (.int (nI y)), some (.long (lN (frR al_ it tg bd F2 y))), none]) rfl ?_
                  refine zw_get (v := .ref (k + 7)) rfl (Sm.at hSz2334 (by simp <;> omega) (Sm.at s_27 (by simp <;> omega) (hR.get 0 rfl))) rfl ?_
                  refine zw_n 2 rfl ?_
                  refine zw_lastN (g := F2) (j := y) (v := (frR al_ it tg bd F2 y)) rfl (Sm.at hSz2334 (by simp <;> omega) f27_0) rfl (by decide) (by omega) (rfl) ?_
                  generalize ez2340 : List.set Mz2337 (k + 7) _ = Mz2339
                  refine zw_inc rfl (x' := (nI (y + 1))) (ls' := [some (.ref k), some (.int (nI (if m2 ≠ 0 ∨ frR al_ it tg bd F2 y ≠ F2 y then 1 else 0))), some (.int (nI ps)), some (.int (nI (y + 1))), some (.long (lN (frR al_ it tg bd F2 y))), none]) rfl (na (a := y) (b := 1) rfl rfl) rfl ?_
                  refine zw_n 1 rfl ?_
                  refine zw_ls (ls' := [some (.ref k), some (.int (nI (if m2 ≠ 0 ∨ frR al_ it tg bd F2 y ≠ F2 y then 1 else 0))), some (.int (nI ps)), some (.int (nI (y + 1))), none, none]) ⟨Or.inr rfl, Or.inr rfl, Or.inr rfl, Or.inr rfl, Or.inl rfl, Or.inl rfl, trivial⟩ ?_
                  exact ih27 (if m2 ≠ 0 ∨ frR al_ it tg bd F2 y ≠ F2 y then 1 else 0) (y + 1) (up F2 y (frR al_ it tg bd F2 y)) Az2330 Bz2331 Mz2339 (Sm.tset (Sm.tw s_27 hSz2334 (by simp)) ez2340 (by simp)) (zat_self ez2340 (Sm.at hSz2334 (by simp <;> omega) f27_0)) (zat_set ez2340 (by omega) h8z2332) (zat_set ez2340 (by omega) h9z2333) (hi27.step hcl (fun q => hG.2.2.1 q) (fun q => hG.2.2.2.1 q) (by omega) hwz2335) (by omega)
                refine zw_n 1 rfl ?_
                refine zw_ne0N (a := m2) rfl rfl (by omega) (fun c43 => ?_) (fun c43 => ?_)
                · -- 43 to 58
                  refine zw_n 2 rfl ?_
                  refine zw_top (x' := nI (if m2 ≠ 0 ∨ frR al_ it tg bd F2 y ≠ F2 y then 1 else 0)) (show nI 1 = nI (if m2 ≠ 0 ∨ frR al_ it tg bd F2 y ≠ F2 y then 1 else 0) by rw [if_pos (by omega)]) ?_
                  exact j42
                · -- 43 to 46
                  refine zw_n 2 rfl ?_
                  refine zw_get (v := .ref (k + 7)) rfl (Sm.at hSz2334 (by simp <;> omega) (Sm.at s_27 (by simp <;> omega) (hR.get 0 rfl))) rfl ?_
                  refine zw_n 1 rfl ?_
                  refine zw_lald (f := al F2) (j := y) rfl (Sm.at hSz2334 (by simp <;> omega) f27_0) rfl (by decide) (by omega) ?_
                  refine zw_n 1 rfl ?_
                  refine zw_leqN (a := frR al_ it tg bd F2 y) (b := F2 y) rfl rfl rfl (by first | exact Nat.lt_trans frR_lt (by decide) | exact Nat.lt_trans (hi27.sfr _) (by decide)) (by first | exact Nat.lt_trans frR_lt (by decide) | exact Nat.lt_trans (hi27.sfr _) (by decide)) (fun c55 => ?_) (fun c55 => ?_)
                  · -- 55 to 62
                    refine zw_n 1 rfl ?_
                    refine zw_top (x' := nI (if m2 ≠ 0 ∨ frR al_ it tg bd F2 y ≠ F2 y then 1 else 0)) (show nI 0 = nI (if m2 ≠ 0 ∨ frR al_ it tg bd F2 y ≠ F2 y then 1 else 0) by rw [if_neg (by omega)]) ?_
                    exact j42
                  · -- 55 to 58
                    refine zw_n 2 rfl ?_
                    refine zw_top (x' := nI (if m2 ≠ 0 ∨ frR al_ it tg bd F2 y ≠ F2 y then 1 else 0)) (show nI 1 = nI (if m2 ≠ 0 ∨ frR al_ it tg bd F2 y ≠ F2 y then 1 else 0) by rw [if_pos (by omega)]) ?_
                    exact j42
          exact lp27 _ 0 0 F1 A1 B1 M_12 s_12 f12_0 f12_1 f12_2 (hi12.1.go) (Nat.lt_succ_self _)
  exact lp12 _ 1 0 gz2322 af fb Mz2327 (Sm.tw Sm.rf hSz2324 (by simp)) h1z2323 (Sm.at hSz2324 (by simp <;> omega) (hR.get 8 rfl)) (Sm.at hSz2324 (by simp <;> omega) (hR.get 9 rfl)) (⟨LfP.start (fun r hr => by rw [hzz2325 r, if_pos (by omega)]) (fun q => by rw [hzz2325 q]; split <;> first | decide | exact hfr q) haf hfb, Nat.zero_le _⟩) (Nat.lt_succ_self _)
