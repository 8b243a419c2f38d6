set_option maxHeartbeats 4000000 in
set_option maxRecDepth 100000 in
theorem m_strayAt (Mq : zM) (o : Nat → Nat) (f : Nat → Nat → Nat) (hM : MM Mq o f) (n : Nat) (gn al_ it pt tg : Nat → Nat) (hd : DrG f n gn al_ it pt tg) (hn8 : n ≤ 8) (hb0 : ∀ q, f 145 q < 2147483648) (pl : Nat → Nat) (hpl : ∀ r a k, sVl n al_ it r a k → tg ((r * 4 + a) * 5 + k) ≠ NO → f 147 ((r * 4 + a) * 5 + k) = pl ((r * 4 + a) * 5 + k) ∧ pl ((r * 4 + a) * 5 + k) < 2147483648) : Zm 2 zm_MO_strayAt [.ref 139] Mq (fun r9 M1 => ∃ v, r9 = some (.int (nI v)) ∧ M1 = Mq ∧ stI n gn al_ it pt tg pl (n * 20) v) := by
  show Zw 2 zm_MO_strayAt 0 [some (.ref 139), none, none, none, none, none, none, none] [] Mq _
  have hbV : ∀ r a k, sVl n al_ it r a k → a < 4 ∧ k < 5 := fun r a k q => by
    have h1 := (hd.2.2.1 r q.1).2
    have h2 := (hd.2.2.2.1 r a q.1 q.2.1).2
    have h3 := q.2.1
    have h4 := q.2.2
    omega
  refine zw_n 4 (ls' := [some (.ref 139), some (.int (-1)), some (.int 0), none, none, none, none, none]) rfl ?_
  have lp4 : ∀ (n4 : Nat) (v : Nat) (r : Nat), (r ≤ n ∧ stI n gn al_ it pt tg pl (r * 20) v) → n - r < n4 → Zw 2 zm_MO_strayAt 4 [some (.ref 139), some (.int (nI v)), some (.int (nI r)), none, none, none, none, none] [] Mq (fun r9 M1 => ∃ v, r9 = some (.int (nI v)) ∧ M1 = Mq ∧ stI n gn al_ it pt tg pl (n * 20) v) := by
    intro n4
    induction n4 with
    | zero => intro v r _ h; exact absurd h (Nat.not_lt_zero _)
    | succ n4 ih4 =>
      intro v r hi4 hm4
      refine zw_n 2 rfl ?_
      refine zw_get (v := .ref 145) rfl hM.1 rfl ?_
      refine zw_n 1 rfl ?_
      refine zw_iald (f := ai (f 145)) (j := 0) rfl (hM.2 145 (by decide) (by decide)) rfl (by decide) (by omega) ?_
      refine zw_top (x' := (nI n)) (congrArg nI hd.1) ?_
      refine zw_igeN (a := r) (b := n) rfl rfl rfl (by omega) (by omega) (fun c11 => ?_) (fun c11 => ?_)
      · -- 11 to 149
        refine zw_n 1 rfl ?_
        exact zw_iret rfl rfl (⟨v, rfl, rfl, by have h9 := hi4.2; rw [show r * 20 = n * 20 by omega] at h9; exact h9⟩)
      · -- 11 to 14
        refine zw_n 2 (ls' := [some (.ref 139), some (.int (nI v)), some (.int (nI r)), some (.int 0), none, none, none, none]) rfl ?_
        have lp16 : ∀ (n16 : Nat) (v1 : Nat) (a : Nat), (a ≤ al_ r ∧ stI n gn al_ it pt tg pl ((r * 4 + a) * 5) v1) → al_ r - a < n16 → Zw 2 zm_MO_strayAt 16 [some (.ref 139), some (.int (nI v1)), some (.int (nI r)), some (.int (nI a)), none, none, none, none] [] Mq (fun r9 M1 => ∃ v, r9 = some (.int (nI v)) ∧ M1 = Mq ∧ stI n gn al_ it pt tg pl (n * 20) v) := by
          intro n16
          induction n16 with
          | zero => intro v1 a _ h; exact absurd h (Nat.not_lt_zero _)
          | succ n16 ih16 =>
            intro v1 a hi16 hm16
            have hal4 : r < n → al_ r ≤ 4 := fun q => (hd.2.2.1 r q).2
            refine zw_n 2 rfl ?_
            refine zw_get (v := .ref 145) rfl hM.1 rfl ?_
            refine zw_n 3 rfl ?_
            refine zw_top (na (a := 9) (b := r) rfl rfl) ?_
            refine zw_iald (f := ai (f 145)) (j := (9 + r)) rfl (hM.2 145 (by decide) (by decide)) rfl (by decide) (by omega) ?_
            refine zw_top (x' := (nI (al_ r))) (congrArg nI (hd.2.2.1 r (by omega)).1) ?_
            refine zw_igeN (a := a) (b := al_ r) rfl rfl rfl (by omega) (by omega) (fun c26 => ?_) (fun c26 => ?_)
            · -- 26 to 143
              refine zw_inc rfl (x' := (nI (r + 1))) (ls' := [some (.ref 139), some (.int (nI v1)), some (.int (nI (r + 1))), some (.int (nI a)), none, none, none, none]) rfl (na (a := r) (b := 1) rfl rfl) rfl ?_
              refine zw_n 1 rfl ?_
              refine zw_ls (ls' := [some (.ref 139), some (.int (nI v1)), some (.int (nI (r + 1))), none, none, none, none, none]) ⟨Or.inr rfl, Or.inr rfl, Or.inr rfl, Or.inl rfl, Or.inl rfl, Or.inl rfl, Or.inl rfl, Or.inl rfl, trivial⟩ ?_
              exact ih4 v1 (r + 1) (⟨by omega, hi16.2.to (by omega) (fun r2 a2 k2 q1 q2 => by have := hbV r2 a2 k2 q1; have := q1.2.1; by_cases e : r2 = r; (subst e; omega); omega)⟩) (by omega)
            · -- 26 to 29
              refine zw_n 2 (ls' := [some (.ref 139), some (.int (nI v1)), some (.int (nI r)), some (.int (nI a)), some (.int 0), none, none, none]) rfl ?_
              have lp32 : ∀ (n32 : Nat) (v2 : Nat) (k : Nat), (k ≤ it (r * 4 + a) ∧ stI n gn al_ it pt tg pl ((r * 4 + a) * 5 + k) v2) → it (r * 4 + a) - k < n32 → Zw 2 zm_MO_strayAt 32 [some (.ref 139), some (.int (nI v2)), some (.int (nI r)), some (.int (nI a)), some (.int (nI k)), none, none, none] [] Mq (fun r9 M1 => ∃ v, r9 = some (.int (nI v)) ∧ M1 = Mq ∧ stI n gn al_ it pt tg pl (n * 20) v) := by
                intro n32
                induction n32 with
                | zero => intro v2 k _ h; exact absurd h (Nat.not_lt_zero _)
                | succ n32 ih32 =>
                  intro v2 k hi32 hm32
                  have hit5 : r < n → a < al_ r → it (r * 4 + a) ≤ 5 := fun q q2 => (hd.2.2.2.1 r a q q2).2
                  refine zw_n 2 rfl ?_
                  refine zw_get (v := .ref 145) rfl hM.1 rfl ?_
                  refine zw_n 3 rfl ?_
                  refine zw_callS (as := [.int (nI r), .int (nI a)]) (rest := [.int 17, .ref 145, .int (nI k)]) rfl rfl rfl rfl rfl rfl (by decide) (m_altAt _ r a) (fun rz3363 Mz3364 hz3365 => ?_)
                  rw [hz3365.1, hz3365.2]
                  show Zw 2 zm_MO_strayAt 45 [some (.ref 139), some (.int (nI v2)), some (.int (nI r)), some (.int (nI a)), some (.int (nI k)), none, none, none] [.int (nI (r * 4 + a)), .int 17, .ref 145, .int (nI k)] Mq _
                  refine zw_n 1 rfl ?_
                  refine zw_top (na (a := 17) (b := r * 4 + a) rfl rfl) ?_
                  refine zw_iald (f := ai (f 145)) (j := (17 + (r * 4 + a))) rfl (hM.2 145 (by decide) (by decide)) rfl (by decide) (by omega) ?_
                  refine zw_top (x' := (nI (it (r * 4 + a)))) (congrArg nI (hd.2.2.2.1 r a (by omega) (by omega)).1) ?_
                  refine zw_igeN (a := k) (b := it (r * 4 + a)) rfl rfl rfl (by omega) (by omega) (fun c47 => ?_) (fun c47 => ?_)
                  · -- 47 to 137
                    refine zw_inc rfl (x' := (nI (a + 1))) (ls' := [some (.ref 139), some (.int (nI v2)), some (.int (nI r)), some (.int (nI (a + 1))), some (.int (nI k)), none, none, none]) rfl (na (a := a) (b := 1) rfl rfl) rfl ?_
                    refine zw_n 1 rfl ?_
                    refine zw_ls (ls' := [some (.ref 139), some (.int (nI v2)), some (.int (nI r)), some (.int (nI (a + 1))), none, none, none, none]) ⟨Or.inr rfl, Or.inr rfl, Or.inr rfl, Or.inr rfl, Or.inl rfl, Or.inl rfl, Or.inl rfl, Or.inl rfl, trivial⟩ ?_
                    exact ih16 v2 (a + 1) (⟨by omega, hi32.2.to (by omega) (fun r2 a2 k2 q1 q2 => by have := hbV r2 a2 k2 q1; have := q1.2.2; by_cases e : r2 = r ∧ a2 = a; (obtain ⟨rfl, rfl⟩ := e; omega); omega)⟩) (by omega)
                  · -- 47 to 50
                    have hval : sVl n al_ it r a k := ⟨by omega, by omega, by omega⟩
                    have hsl := hd.2.2.2.2 r a k (by omega) (by omega) (by omega)
                    have hpb := hb0 (49 + 3 * ((r * 4 + a) * 5 + k))
                    rw [hsl.1] at hpb
                    refine zw_n 3 rfl ?_
                    refine zw_callS (as := [.int (nI r), .int (nI a), .int (nI k)]) (rest := []) rfl rfl rfl rfl rfl rfl (by decide) (m_itemAt _ r a k) (fun rz3366 Mz3367 hz3368 => ?_)
                    rw [hz3368.1, hz3368.2]
                    show Zw 2 zm_MO_strayAt 57 [some (.ref 139), some (.int (nI v2)), some (.int (nI r)), some (.int (nI a)), some (.int (nI k)), none, none, none] [.int (nI (49 + 3 * ((r * 4 + a) * 5 + k)))] Mq _
                    refine zw_n 2 (ls' := [some (.ref 139), some (.int (nI v2)), some (.int (nI r)), some (.int (nI a)), some (.int (nI k)), some (.int (nI (49 + 3 * ((r * 4 + a) * 5 + k)))), none, none]) rfl ?_
                    refine zw_get (v := .ref 147) rfl hM.1 rfl ?_
                    refine zw_n 3 rfl ?_
                    refine zw_top (ns (a := 49 + 3 * ((r * 4 + a) * 5 + k)) (b := 49) rfl rfl (by omega)) ?_
                    refine zw_n 2 rfl ?_
                    refine zw_top (x' := (nI ((r * 4 + a) * 5 + k))) ((ndiv (a := 49 + 3 * ((r * 4 + a) * 5 + k) - 49) (b := 3) rfl rfl (by omega) (by decide) (by decide)).trans (congrArg nI (by omega))) ?_
                    refine zw_iald (f := ai (f 147)) (j := ((r * 4 + a) * 5 + k)) rfl (hM.2 147 (by decide) (by decide)) rfl (by decide) (by omega) ?_
                    refine zw_n 2 (ls' := [some (.ref 139), some (.int (nI v2)), some (.int (nI r)), some (.int (nI a)), some (.int (nI k)), some (.int (nI (49 + 3 * ((r * 4 + a) * 5 + k)))), some (.int (nI ((f 147) ((r * 4 + a) * 5 + k)))), none]) rfl ?_
                    refine zw_get (v := .ref 145) rfl hM.1 rfl ?_
                    refine zw_n 3 rfl ?_
                    refine zw_top (na (a := 49 + 3 * ((r * 4 + a) * 5 + k)) (b := 1) rfl rfl) ?_
                    refine zw_iald (f := ai (f 145)) (j := ((49 + 3 * ((r * 4 + a) * 5 + k)) + 1)) rfl (hM.2 145 (by decide) (by decide)) rfl (by decide) (by omega) ?_
                    refine zw_top (x' := (nI (if tg ((r * 4 + a) * 5 + k) = NO then 0 else 1))) (congrArg nI hsl.2) ?_
                    refine zw_n 1 rfl ?_
                    refine zw_ineN (a := if tg ((r * 4 + a) * 5 + k) = NO then 0 else 1) (b := 1) rfl rfl rfl (by first | (split <;> decide) | decide) (by first | (split <;> decide) | decide) (fun c83 => ?_) (fun c83 => ?_)
                    · -- 83 to 105
                      have hns : ¬ sSt n gn pt tg ((r * 4 + a) * 5 + k) := fun q9 => by first | exact c98 q9.2 | (rw [if_neg q9.1] at c83; exact c83 rfl)
                      refine zw_n 3 (ls' := [some (.ref 139), some (.int (nI v2)), some (.int (nI r)), some (.int (nI a)), some (.int (nI k)), some (.int (nI (49 + 3 * ((r * 4 + a) * 5 + k)))), some (.int (nI ((f 147) ((r * 4 + a) * 5 + k)))), some (.int 0)]) rfl ?_
                      refine zw_if rfl ?_
                      show Zw 2 zm_MO_strayAt 129 [some (.ref 139), some (.int (nI v2)), some (.int (nI r)), some (.int (nI a)), some (.int (nI k)), some (.int (nI (49 + 3 * ((r * 4 + a) * 5 + k)))), some (.int (nI ((f 147) ((r * 4 + a) * 5 + k)))), some (.int 0)] [] Mq _
                      refine zw_n 2 (ls' := [some (.ref 139), some (.int (nI v2)), some (.int (nI r)), some (.int (nI a)), some (.int (nI k)), some (.int (nI (49 + 3 * ((r * 4 + a) * 5 + k)))), some (.int (nI ((f 147) ((r * 4 + a) * 5 + k)))), some (.int 0)]) rfl ?_
                      refine zw_inc rfl (x' := (nI (k + 1))) (ls' := [some (.ref 139), some (.int (nI v2)), some (.int (nI r)), some (.int (nI a)), some (.int (nI (k + 1))), some (.int (nI (49 + 3 * ((r * 4 + a) * 5 + k)))), some (.int (nI ((f 147) ((r * 4 + a) * 5 + k)))), some (.int 0)]) rfl (na (a := k) (b := 1) rfl rfl) rfl ?_
                      refine zw_n 1 rfl ?_
                      refine zw_ls (ls' := [some (.ref 139), some (.int (nI v2)), some (.int (nI r)), some (.int (nI a)), some (.int (nI (k + 1))), none, none, none]) ⟨Or.inr rfl, Or.inr rfl, Or.inr rfl, Or.inr rfl, Or.inr rfl, Or.inl rfl, Or.inl rfl, Or.inl rfl, trivial⟩ ?_
                      exact ih32 v2 (k + 1) (⟨by omega, hi32.2.no hbV hns⟩) (by omega)
                    · -- 83 to 86
                      refine zw_n 2 rfl ?_
                      refine zw_get (v := .ref 145) rfl hM.1 rfl ?_
                      refine zw_n 1 rfl ?_
                      refine zw_iald (f := ai (f 145)) (j := (49 + 3 * ((r * 4 + a) * 5 + k))) rfl (hM.2 145 (by decide) (by decide)) rfl (by decide) (by omega) ?_
                      refine zw_top (x' := (nI (pt ((r * 4 + a) * 5 + k)))) (congrArg nI hsl.1) ?_
                      refine zw_callV (as := [.int (nI (pt ((r * 4 + a) * 5 + k)))]) (rest := []) rfl rfl rfl hM.1 rfl rfl rfl (by decide) (m_draftG Mq o f hM n gn al_ it pt tg hd hn8 hb0 (pt ((r * 4 + a) * 5 + k)) (by omega)) (fun rz3369 Mz3370 hz3371 => ?_)
                      rw [hz3371.1, hz3371.2]
                      show Zw 2 zm_MO_strayAt 97 [some (.ref 139), some (.int (nI v2)), some (.int (nI r)), some (.int (nI a)), some (.int (nI k)), some (.int (nI (49 + 3 * ((r * 4 + a) * 5 + k)))), some (.int (nI ((f 147) ((r * 4 + a) * 5 + k)))), none] [.int (nI (srch (fun q => gn q == (pt ((r * 4 + a) * 5 + k))) 0 n))] Mq _
                      refine zw_n 1 rfl ?_
                      refine zw_ineM (a := srch (fun q => gn q == (pt ((r * 4 + a) * 5 + k))) 0 n) rfl rfl (by rcases srch_b8 (p := fun q => gn q == pt ((r * 4 + a) * 5 + k)) hn8 with q9 | q9 <;> (first | (rw [q9]; decide) | omega)) (fun c98 => ?_) (fun c98 => ?_)
                      · -- 98 to 105
                        have hns : ¬ sSt n gn pt tg ((r * 4 + a) * 5 + k) := fun q9 => by first | exact c98 q9.2 | (rw [if_neg q9.1] at c83; exact c83 rfl)
                        refine zw_n 3 (ls' := [some (.ref 139), some (.int (nI v2)), some (.int (nI r)), some (.int (nI a)), some (.int (nI k)), some (.int (nI (49 + 3 * ((r * 4 + a) * 5 + k)))), some (.int (nI ((f 147) ((r * 4 + a) * 5 + k)))), some (.int 0)]) rfl ?_
                        refine zw_if rfl ?_
                        show Zw 2 zm_MO_strayAt 129 [some (.ref 139), some (.int (nI v2)), some (.int (nI r)), some (.int (nI a)), some (.int (nI k)), some (.int (nI (49 + 3 * ((r * 4 + a) * 5 + k)))), some (.int (nI ((f 147) ((r * 4 + a) * 5 + k)))), some (.int 0)] [] Mq _
                        refine zw_n 2 (ls' := [some (.ref 139), some (.int (nI v2)), some (.int (nI r)), some (.int (nI a)), some (.int (nI k)), some (.int (nI (49 + 3 * ((r * 4 + a) * 5 + k)))), some (.int (nI ((f 147) ((r * 4 + a) * 5 + k)))), some (.int 0)]) rfl ?_
                        refine zw_inc rfl (x' := (nI (k + 1))) (ls' := [some (.ref 139), some (.int (nI v2)), some (.int (nI r)), some (.int (nI a)), some (.int (nI (k + 1))), some (.int (nI (49 + 3 * ((r * 4 + a) * 5 + k)))), some (.int (nI ((f 147) ((r * 4 + a) * 5 + k)))), some (.int 0)]) rfl (na (a := k) (b := 1) rfl rfl) rfl ?_
                        refine zw_n 1 rfl ?_
                        refine zw_ls (ls' := [some (.ref 139), some (.int (nI v2)), some (.int (nI r)), some (.int (nI a)), some (.int (nI (k + 1))), none, none, none]) ⟨Or.inr rfl, Or.inr rfl, Or.inr rfl, Or.inr rfl, Or.inr rfl, Or.inl rfl, Or.inl rfl, Or.inl rfl, trivial⟩ ?_
                        exact ih32 v2 (k + 1) (⟨by omega, hi32.2.no hbV hns⟩) (by omega)
                      · -- 98 to 101
                        have hst : sSt n gn pt tg ((r * 4 + a) * 5 + k) := ⟨ite_tg1 (by rw [c83]; decide), c98⟩
                        have hpx := hpl r a k hval hst.1
                        refine zw_n 4 (ls' := [some (.ref 139), some (.int (nI v2)), some (.int (nI r)), some (.int (nI a)), some (.int (nI k)), some (.int (nI (49 + 3 * ((r * 4 + a) * 5 + k)))), some (.int (nI ((f 147) ((r * 4 + a) * 5 + k)))), some (.int 1)]) rfl ?_
                        refine zw_if rfl ?_
                        show Zw 2 zm_MO_strayAt 113 [some (.ref 139), some (.int (nI v2)), some (.int (nI r)), some (.int (nI a)), some (.int (nI k)), some (.int (nI (49 + 3 * ((r * 4 + a) * 5 + k)))), some (.int (nI ((f 147) ((r * 4 + a) * 5 + k)))), some (.int 1)] [] Mq _
                        refine zw_lse (ls' := [some (.ref 139), some (.int (nI v2)), some (.int (nI r)), some (.int (nI a)), some (.int (nI k)), some (.int (nI (49 + 3 * ((r * 4 + a) * 5 + k)))), some (.int (nI (pl ((r * 4 + a) * 5 + k)))), some (.int 1)]) (by rw [← hpx.1]) ?_
                        refine zw_n 2 rfl ?_
                        refine zw_ieqM (a := v2) rfl rfl (by rcases hi32.2.lt with q9 | q9 <;> (first | (rw [q9]; decide) | omega)) (fun c115 => ?_) (fun c115 => ?_)
                        · -- 115 to 124
                          refine zw_n 3 (ls' := [some (.ref 139), some (.int (nI (pl ((r * 4 + a) * 5 + k)))), some (.int (nI r)), some (.int (nI a)), some (.int (nI k)), some (.int (nI (49 + 3 * ((r * 4 + a) * 5 + k)))), some (.int (nI (pl ((r * 4 + a) * 5 + k)))), some (.int 1)]) rfl ?_
                          refine zw_inc rfl (x' := (nI (k + 1))) (ls' := [some (.ref 139), some (.int (nI (pl ((r * 4 + a) * 5 + k)))), some (.int (nI r)), some (.int (nI a)), some (.int (nI (k + 1))), some (.int (nI (49 + 3 * ((r * 4 + a) * 5 + k)))), some (.int (nI (pl ((r * 4 + a) * 5 + k)))), some (.int 1)]) rfl (na (a := k) (b := 1) rfl rfl) rfl ?_
                          refine zw_n 1 rfl ?_
                          refine zw_ls (ls' := [some (.ref 139), some (.int (nI (pl ((r * 4 + a) * 5 + k)))), some (.int (nI r)), some (.int (nI a)), some (.int (nI (k + 1))), none, none, none]) ⟨Or.inr rfl, Or.inr rfl, Or.inr rfl, Or.inr rfl, Or.inr rfl, Or.inl rfl, Or.inl rfl, Or.inl rfl, trivial⟩ ?_
                          exact ih32 (pl ((r * 4 + a) * 5 + k)) (k + 1) (⟨by omega, by first | exact hi32.2.no hbV hns | exact hi32.2.yes hval hst (hpl r a k hval hst.1).2 (Or.inl c115) | exact hi32.2.yes hval hst (hpl r a k hval hst.1).2 (Or.inr (by omega)) | exact hi32.2.keep c115 (by omega)⟩) (by omega)
                        · -- 115 to 118
                          refine zw_n 2 rfl ?_
                          refine zw_igeN (a := pl ((r * 4 + a) * 5 + k)) (b := v2) rfl rfl rfl (by first | (rcases hi32.2.lt with q9 | q9 <;> (first | exact absurd q9 c115 | omega)) | exact hpx.2) (by first | (rcases hi32.2.lt with q9 | q9 <;> (first | exact absurd q9 c115 | omega)) | exact hpx.2) (fun c121 => ?_) (fun c121 => ?_)
                          · -- 121 to 129
                            refine zw_n 2 (ls' := [some (.ref 139), some (.int (nI v2)), some (.int (nI r)), some (.int (nI a)), some (.int (nI k)), some (.int (nI (49 + 3 * ((r * 4 + a) * 5 + k)))), some (.int (nI (pl ((r * 4 + a) * 5 + k)))), some (.int 1)]) rfl ?_
                            refine zw_inc rfl (x' := (nI (k + 1))) (ls' := [some (.ref 139), some (.int (nI v2)), some (.int (nI r)), some (.int (nI a)), some (.int (nI (k + 1))), some (.int (nI (49 + 3 * ((r * 4 + a) * 5 + k)))), some (.int (nI (pl ((r * 4 + a) * 5 + k)))), some (.int 1)]) rfl (na (a := k) (b := 1) rfl rfl) rfl ?_
                            refine zw_n 1 rfl ?_
                            refine zw_ls (ls' := [some (.ref 139), some (.int (nI v2)), some (.int (nI r)), some (.int (nI a)), some (.int (nI (k + 1))), none, none, none]) ⟨Or.inr rfl, Or.inr rfl, Or.inr rfl, Or.inr rfl, Or.inr rfl, Or.inl rfl, Or.inl rfl, Or.inl rfl, trivial⟩ ?_
                            exact ih32 v2 (k + 1) (⟨by omega, by first | exact hi32.2.no hbV hns | exact hi32.2.yes hval hst (hpl r a k hval hst.1).2 (Or.inl c115) | exact hi32.2.yes hval hst (hpl r a k hval hst.1).2 (Or.inr (by omega)) | exact hi32.2.keep c115 (by omega)⟩) (by omega)
                          · -- 121 to 124
                            refine zw_n 3 (ls' := [some (.ref 139), some (.int (nI (pl ((r * 4 + a) * 5 + k)))), some (.int (nI r)), some (.int (nI a)), some (.int (nI k)), some (.int (nI (49 + 3 * ((r * 4 + a) * 5 + k)))), some (.int (nI (pl ((r * 4 + a) * 5 + k)))), some (.int 1)]) rfl ?_
                            refine zw_inc rfl (x' := (nI (k + 1))) (ls' := [some (.ref 139), some (.int (nI (pl ((r * 4 + a) * 5 + k)))), some (.int (nI r)), some (.int (nI a)), some (.int (nI (k + 1))), some (.int (nI (49 + 3 * ((r * 4 + a) * 5 + k)))), some (.int (nI (pl ((r * 4 + a) * 5 + k)))), some (.int 1)]) rfl (na (a := k) (b := 1) rfl rfl) rfl ?_
                            refine zw_n 1 rfl ?_
                            refine zw_ls (ls' := [some (.ref 139), some (.int (nI (pl ((r * 4 + a) * 5 + k)))), some (.int (nI r)), some (.int (nI a)), some (.int (nI (k + 1))), none, none, none]) ⟨Or.inr rfl, Or.inr rfl, Or.inr rfl, Or.inr rfl, Or.inr rfl, Or.inl rfl, Or.inl rfl, Or.inl rfl, trivial⟩ ?_
                            exact ih32 (pl ((r * 4 + a) * 5 + k)) (k + 1) (⟨by omega, by first | exact hi32.2.no hbV hns | exact hi32.2.yes hval hst (hpl r a k hval hst.1).2 (Or.inl c115) | exact hi32.2.yes hval hst (hpl r a k hval hst.1).2 (Or.inr (by omega)) | exact hi32.2.keep c115 (by omega)⟩) (by omega)
              exact lp32 _ v1 0 (⟨Nat.zero_le _, hi16.2⟩) (Nat.lt_succ_self _)
        exact lp16 _ v 0 (⟨Nat.zero_le _, hi4.2.to (by omega) (fun r2 a2 k2 q1 q2 => by omega)⟩) (Nat.lt_succ_self _)
  exact lp4 _ NO 0 (⟨Nat.zero_le _, Or.inl ⟨rfl, fun r a k _ q => absurd q (by omega)⟩⟩) (Nat.lt_succ_self _)
