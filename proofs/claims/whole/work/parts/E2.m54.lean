set_option maxHeartbeats 4000000 in
set_option maxRecDepth 100000 in
theorem m_has (Mq : zM) (o : Nat → Nat) (f : Nat → Nat → Nat) (hM : MM Mq o f)(n : Nat) (gn al_ it pt tg bd : Nat → Nat) (hg : RelG f n gn al_ it pt tg bd) (hG : SafeG n gn al_ it pt tg bd) (hF : SafeF f) (c : Nat) (sg li co : Nat → Nat) (hS : SafeT c sg li co) (h5 : ∀ p, p < c → f 156 p = sg p ∧ f 157 p = co p) (hv : VAll (gE al_ it tg pt bd sg co) n (c + 1) (f 158)) (hcl : Clo (gE al_ it tg pt bd sg co) n) (x p q d : Nat) (hx : Slt n al_ it x) (hx1 : x < 160) (hpq : p ≤ q) (hq : q ≤ c) (hd : d < 40) : Zm 2 zm_MO_has [.ref 139, .int (nI (49 + 3 * x)), .int (nI p), .int (nI q), .int (nI d)] Mq (fun r9 M1 => r9 = some (.int (nI (if tH (gE al_ it tg pt bd sg co) n x p q d = true then 1 else 0))) ∧ M1 = Mq) := by
  show Zw 2 zm_MO_has 0 [some (.ref 139), some (.int (nI (49 + 3 * x))), some (.int (nI p)), some (.int (nI q)), some (.int (nI d))] [] Mq _
  have hc20 := hS.1
  have hll : letsN (bd x) (itm (gE al_ it tg pt bd sg co) (wh (gE al_ it tg pt bd sg co) n) x p q) < 1099511627776 := letsN_lt (itm_lt2 hS.2.2.2)
  have hxn : tg x = NO ∨ tg x < n := by obtain ⟨r, a, k, h1, h2, h3, e9⟩ := hx; rw [e9]; exact hcl r h1 a h2 k h3
  have hbd := hG.2.2.2.2.2.2 x
  refine zw_n 1 rfl ?_
  refine zw_get (v := .ref 140) rfl hM.1 rfl ?_
  refine zw_n 3 rfl ?_
  refine zw_top (na (a := 49 + 3 * x) (b := 2) rfl rfl) ?_
  refine zw_iald (f := ai (f 140)) (j := ((49 + 3 * x) + 2)) rfl (hM.2 140 (by decide) (by decide)) rfl (by decide) (by omega) ?_
  refine zw_top (x' := (nI (bd x))) (congrArg nI (hg.2.2.2.2 x hx).2.2.1) ?_
  refine zw_n 4 rfl ?_
  refine zw_callV (as := [.int (nI (49 + 3 * x)), .int (nI p), .int (nI q)]) (rest := [.int (nI (bd x))]) rfl rfl rfl hM.1 rfl rfl rfl (by decide) (m_whereItem Mq o f hM n gn al_ it pt tg bd hg hG hF x p q hx hx1 (by omega) (by omega)) (fun rz5214 Mz5215 hz5216 => ?_)
  rw [hz5216.1, hz5216.2, itm_m h5 hv (hxn) (by omega) (by omega)]
  show Zw 2 zm_MO_has 15 [some (.ref 139), some (.int (nI (49 + 3 * x))), some (.int (nI p)), some (.int (nI q)), some (.int (nI d))] [.long (lN (itm (gE al_ it tg pt bd sg co) (wh (gE al_ it tg pt bd sg co) n) x p q)), .int (nI (bd x))] Mq _
  refine zw_callS (as := [.int (nI (bd x)), .long (lN (itm (gE al_ it tg pt bd sg co) (wh (gE al_ it tg pt bd sg co) n) x p q))]) (rest := []) rfl rfl rfl rfl rfl rfl (by decide) (m_lets _ _ _ (by omega) (itm_lt2 hS.2.2.2)) (fun rz5217 Mz5218 hz5219 => ?_)
  rw [hz5219.1, hz5219.2]
  show Zw 2 zm_MO_has 18 [some (.ref 139), some (.int (nI (49 + 3 * x))), some (.int (nI p)), some (.int (nI q)), some (.int (nI d))] [.long (lN (letsN (bd x) (itm (gE al_ it tg pt bd sg co) (wh (gE al_ it tg pt bd sg co) n) x p q)))] Mq _
  refine zw_n 2 rfl ?_
  refine zw_topl (x' := (lN (letsN (bd x) (itm (gE al_ it tg pt bd sg co) (wh (gE al_ it tg pt bd sg co) n) x p q) / 2 ^ d))) (lsr rfl rfl (by omega) (by omega)) ?_
  refine zw_n 2 rfl ?_
  refine zw_topl (lan (a := letsN (bd x) (itm (gE al_ it tg pt bd sg co) (wh (gE al_ it tg pt bd sg co) n) x p q) / 2 ^ d) (b := 1) rfl rfl) ?_
  refine zw_topl (x' := (lN (letsN (bd x) (itm (gE al_ it tg pt bd sg co) (wh (gE al_ it tg pt bd sg co) n) x p q) / 2 ^ d % 2))) (congrArg lN (Nat.and_one_is_mod _)) ?_
  refine zw_n 2 rfl ?_
  refine zw_lneN (a := letsN (bd x) (itm (gE al_ it tg pt bd sg co) (wh (gE al_ it tg pt bd sg co) n) x p q) / 2 ^ d % 2) (b := 1) rfl rfl rfl (by omega) (by omega) (fun c25 => ?_) (fun c25 => ?_)
  · -- 25 to 32
    refine zw_n 1 rfl ?_
    exact zw_zret rfl rfl (Or.inl rfl) (⟨by rw [if_neg (fun q9 => by have h9 : (letsN (bd x) (itm (gE al_ it tg pt bd sg co) (wh (gE al_ it tg pt bd sg co) n) x p q)).testBit d = false := tbF (by omega); rw [show (letsN (bd x) (itm (gE al_ it tg pt bd sg co) (wh (gE al_ it tg pt bd sg co) n) x p q)).testBit d = true from q9] at h9; cases h9)]; rfl, rfl⟩)
  · -- 25 to 28
    refine zw_n 2 rfl ?_
    exact zw_zret rfl rfl (Or.inr rfl) (⟨by rw [if_pos (show tH (gE al_ it tg pt bd sg co) n x p q d = true from tbT (m := letsN (bd x) (itm (gE al_ it tg pt bd sg co) (wh (gE al_ it tg pt bd sg co) n) x p q)) (by omega))]; rfl, rfl⟩)

set_option maxHeartbeats 4000000 in
set_option maxRecDepth 100000 in
theorem m_fits2 (Mq : zM) (b m d : Nat) (hb : b < 128) (hm : m < 1099511627776) (hd : d < 40) : Zm 0 zm_MO_fits2 [.int (nI b), .long (lN m), .int (nI d)] Mq (fun r9 M1 => r9 = some (.long (lN (m &&& prtN b (2 ^ d)))) ∧ M1 = Mq) := by
  show Zw 0 zm_MO_fits2 0 [some (.int (nI b)), some (.long (lN m)), none, some (.int (nI d))] [] Mq _
  have hbt := nI_toInt (show b < 2147483648 by omega)
  refine zw_n 1 rfl ?_
  refine zw_lsw rfl ?_
  refine zw_ite (fun c1_42 => ?_) (fun c1_42 => ?_)
  · show Zw 0 zm_MO_fits2 52 [some (.int (nI b)), some (.long (lN m)), none, some (.int (nI d))] [] Mq _
    refine zw_n 1 rfl ?_
    exact zw_lret rfl rfl (⟨by rw [f2_42 hm hd (by omega)], rfl⟩)
  · skip
    refine zw_ite (fun c1_61 => ?_) (fun c1_61 => ?_)
    · show Zw 0 zm_MO_fits2 36 [some (.int (nI b)), some (.long (lN m)), none, some (.int (nI d))] [] Mq _
      refine zw_n 4 rfl ?_
      refine zw_topl (x' := (lN (2 ^ d))) ((lsl (m := 1) (k := d) rfl rfl (by omega)).trans (by rw [Nat.one_mul])) ?_
      refine zw_n 1 rfl ?_
      refine zw_topl (lan (a := m) (b := 2 ^ d) rfl rfl) ?_
      exact zw_lret rfl rfl (⟨by rw [f2_61 (by omega)], rfl⟩)
    · skip
      refine zw_ite (fun c1_62 => ?_) (fun c1_62 => ?_)
      · show Zw 0 zm_MO_fits2 42 [some (.int (nI b)), some (.long (lN m)), none, some (.int (nI d))] [] Mq _
        refine zw_n 4 rfl ?_
        refine zw_top (na (a := d) (b := 1) rfl rfl) ?_
        refine zw_n 1 rfl ?_
        refine zw_topl (x' := (lN (m / 2 ^ (d + 1)))) (lsr rfl rfl (by omega) (by omega)) ?_
        refine zw_n 3 rfl ?_
        refine zw_top (na (a := d) (b := 1) rfl rfl) ?_
        refine zw_n 1 rfl ?_
        refine zw_topl (x' := (lN (m / 2 ^ (d + 1) * 2 ^ (d + 1)))) (lsl rfl rfl (by omega)) ?_
        exact zw_lret rfl rfl (⟨by rw [f2_62 hm hd (by omega)], rfl⟩)
      · skip
        show Zw 0 zm_MO_fits2 54 [some (.int (nI b)), some (.long (lN m)), none, some (.int (nI d))] [] Mq _
        refine zw_n 3 rfl ?_
        refine zw_topl (x' := (lN (m / 2 ^ d))) (lsr rfl rfl (by omega) (by omega)) ?_
        refine zw_n 2 rfl ?_
        refine zw_topl (x' := (lN (m / 2 ^ d * 2 ^ d))) (lsl rfl rfl (by omega)) ?_
        exact zw_lret rfl rfl (⟨by rw [f2_0 hm hd (by omega) (by omega) (by omega)], rfl⟩)

set_option maxHeartbeats 4000000 in
set_option maxRecDepth 100000 in
theorem m_layCan (Mq : zM) (o : Nat → Nat) (f : Nat → Nat → Nat) (hM : MM Mq o f)(n : Nat) (gn al_ it pt tg bd : Nat → Nat) (hg : RelG f n gn al_ it pt tg bd) (hG : SafeG n gn al_ it pt tg bd) (hF : SafeF f) (c : Nat) (sg li co : Nat → Nat) (hS : SafeT c sg li co) (h5 : ∀ p, p < c → f 156 p = sg p ∧ f 157 p = co p) (hv : VAll (gE al_ it tg pt bd sg co) n (c + 1) (f 158)) (hcl : Clo (gE al_ it tg pt bd sg co) n) (r a i j d : Nat) (hr : r < n) (ha : a < al_ r) (hij : i ≤ j) (hjc : j ≤ c) (hd : d < 40) : Zm 3 zm_MO_layCan [.ref 139, .int (nI r), .int (nI a), .int (nI i), .int (nI j), .int (nI d)] Mq (fun r9 M1 => r9 = none ∧ ∃ C, MM M1 o (fset f 169 C) ∧ Sm Mq M1 [169] ∧ CnI (gE al_ it tg pt bd sg co) n (r * 4 + a) i j d 0 C) := by
  show Zw 3 zm_MO_layCan 0 [some (.ref 139), some (.int (nI r)), some (.int (nI a)), some (.int (nI i)), some (.int (nI j)), some (.int (nI d)), none, none, none, none, none] [] Mq _
  have hn8 := hG.1
  have ha4 := hG.2.2.1 r
  have hi5 := hG.2.2.2.1 (r * 4 + a)
  have hc20 := hS.1
  refine zw_n 3 rfl ?_
  refine zw_callV (as := [.int (nI r), .int (nI a)]) (rest := []) rfl rfl rfl hM.1 rfl rfl rfl (by decide) (m_items Mq o f hM n gn al_ it pt tg bd hg hG hF r a (by omega) (by omega)) (fun rz5220 Mz5221 hz5222 => ?_)
  rw [hz5222.1, hz5222.2]
  show Zw 3 zm_MO_layCan 6 [some (.ref 139), some (.int (nI r)), some (.int (nI a)), some (.int (nI i)), some (.int (nI j)), some (.int (nI d)), none, none, none, none, none] [.int (nI (it (r * 4 + a)))] Mq _
  refine zw_n 3 (ls' := [some (.ref 139), some (.int (nI r)), some (.int (nI a)), some (.int (nI i)), some (.int (nI j)), some (.int (nI d)), some (.int (nI (it (r * 4 + a)))), some (.int (nI i)), none, none, none]) rfl ?_
  have lp11 : ∀ (n11 : Nat) (p : Nat) (C1 : Nat → Nat) (M_11 : zM), Sm Mq M_11 [169] → M_11[169]? = some (.inl (3, 126, .inl (ai C1))) → (i ≤ p ∧ p ≤ j + 1 ∧ CnP (gE al_ it tg pt bd sg co) n (r * 4 + a) i j d (it (r * 4 + a)) p C1) → j + 1 - p < n11 → Zw 3 zm_MO_layCan 11 [some (.ref 139), some (.int (nI r)), some (.int (nI a)), some (.int (nI i)), some (.int (nI j)), some (.int (nI d)), some (.int (nI (it (r * 4 + a)))), some (.int (nI p)), none, none, none] [] M_11 (fun r9 M1 => r9 = none ∧ ∃ C, MM M1 o (fset f 169 C) ∧ Sm Mq M1 [169] ∧ CnI (gE al_ it tg pt bd sg co) n (r * 4 + a) i j d 0 C) := by
    intro n11
    induction n11 with
    | zero => intro p C1 M_11 _ _ _ h; exact absurd h (Nat.not_lt_zero _)
    | succ n11 ih11 =>
      intro p C1 M_11 s_11 f11_0 hi11 hm11
      refine zw_n 2 rfl ?_
      refine zw_igtN (a := p) (b := j) rfl rfl rfl (by omega) (by omega) (fun c15 => ?_) (fun c15 => ?_)
      · -- 15 to 49
        refine zw_n 3 rfl ?_
        refine zw_n 1 (ls' := [some (.ref 139), some (.int (nI r)), some (.int (nI a)), some (.int (nI i)), some (.int (nI j)), some (.int (nI d)), some (.int (nI (it (r * 4 + a)))), some (.int (nI (it (r * 4 + a)) - 1)), none, none, none]) rfl ?_
        have lp55 : ∀ (n55 : Nat) (x : Nat) (C2 : Nat → Nat) (M_55 : zM), Sm Mq M_55 [169] → M_55[169]? = some (.inl (3, 126, .inl (ai C2))) → (x ≤ it (r * 4 + a) ∧ CnI (gE al_ it tg pt bd sg co) n (r * 4 + a) i j d x C2) → x < n55 → Zw 3 zm_MO_layCan 55 [some (.ref 139), some (.int (nI r)), some (.int (nI a)), some (.int (nI i)), some (.int (nI j)), some (.int (nI d)), some (.int (nI (it (r * 4 + a)))), some (.int (nI x - 1)), none, none, none] [] M_55 (fun r9 M1 => r9 = none ∧ ∃ C, MM M1 o (fset f 169 C) ∧ Sm Mq M1 [169] ∧ CnI (gE al_ it tg pt bd sg co) n (r * 4 + a) i j d 0 C) := by
          intro n55
          induction n55 with
          | zero => intro x C2 M_55 _ _ _ h; exact absurd h (Nat.not_lt_zero _)
          | succ n55 ih55 =>
            intro x C2 M_55 s_55 f55_0 hi55 hm55
            refine zw_n 1 rfl ?_
            refine zw_lt0Z (a := ((x : Nat) : Int) - 1) rfl (nP_toInt (by omega)) (fun c57 => ?_) (fun c57 => ?_)
            · -- 57 to 167
              exact zw_vret rfl rfl (⟨rfl, C2, (MM.of (o' := o) (f' := fset f 169 C2) hM s_55 (Sm.at s_55 (by decide) hM.1) (c1_cons f55_0 c1_nil) (fs_c fs_n)), s_55, hi55.2.ce (by omega)⟩)
            · -- 57 to 60
              rw [nP (show 0 < x by omega)]
              refine zw_n 2 (ls' := [some (.ref 139), some (.int (nI r)), some (.int (nI a)), some (.int (nI i)), some (.int (nI j)), some (.int (nI d)), some (.int (nI (it (r * 4 + a)))), some (.int (nI (x - 1))), some (.int (nI i)), none, none]) rfl ?_
              have lp63 : ∀ (n63 : Nat) (p : Nat) (C3 : Nat → Nat) (M_63 : zM), Sm Mq M_63 [169] → M_63[169]? = some (.inl (3, 126, .inl (ai C3))) → (i ≤ p ∧ p ≤ j + 1 ∧ CnP (gE al_ it tg pt bd sg co) n (r * 4 + a) i j d (x - 1) p C3) → j + 1 - p < n63 → Zw 3 zm_MO_layCan 63 [some (.ref 139), some (.int (nI r)), some (.int (nI a)), some (.int (nI i)), some (.int (nI j)), some (.int (nI d)), some (.int (nI (it (r * 4 + a)))), some (.int (nI (x - 1))), some (.int (nI p)), none, none] [] M_63 (fun r9 M1 => r9 = none ∧ ∃ C, MM M1 o (fset f 169 C) ∧ Sm Mq M1 [169] ∧ CnI (gE al_ it tg pt bd sg co) n (r * 4 + a) i j d 0 C) := by
                intro n63
                induction n63 with
                | zero => intro p C3 M_63 _ _ _ h; exact absurd h (Nat.not_lt_zero _)
                | succ n63 ih63 =>
                  intro p C3 M_63 s_63 f63_0 hi63 hm63
                  refine zw_n 2 rfl ?_
                  refine zw_igtN (a := p) (b := j) rfl rfl rfl (by omega) (by omega) (fun c67 => ?_) (fun c67 => ?_)
                  · -- 67 to 161
                    refine zw_inc rfl (x' := (nI (x - 1) - 1)) (ls' := [some (.ref 139), some (.int (nI r)), some (.int (nI a)), some (.int (nI i)), some (.int (nI j)), some (.int (nI d)), some (.int (nI (it (r * 4 + a)))), some (.int (nI (x - 1) - 1)), some (.int (nI p)), none, none]) rfl (nPd) rfl ?_
                    refine zw_n 1 rfl ?_
                    refine zw_ls (ls' := [some (.ref 139), some (.int (nI r)), some (.int (nI a)), some (.int (nI i)), some (.int (nI j)), some (.int (nI d)), some (.int (nI (it (r * 4 + a)))), some (.int (nI (x - 1) - 1)), none, none, none]) ⟨Or.inr rfl, Or.inr rfl, Or.inr rfl, Or.inr rfl, Or.inr rfl, Or.inr rfl, Or.inr rfl, Or.inr rfl, Or.inl rfl, Or.inl rfl, Or.inl rfl, trivial⟩ ?_
                    exact ih55 (x - 1) C3 M_63 s_63 f63_0 (⟨by omega, hi63.2.2.fin (by omega)⟩) (by omega)
                  · -- 67 to 70
                    refine zw_n 4 (ls' := [some (.ref 139), some (.int (nI r)), some (.int (nI a)), some (.int (nI i)), some (.int (nI j)), some (.int (nI d)), some (.int (nI (it (r * 4 + a)))), some (.int (nI (x - 1))), some (.int (nI p)), some (.int 0), some (.int (nI p))]) rfl ?_
                    have lp77 : ∀ (n77 : Nat) (b : Nat) (q : Nat), (p ≤ q ∧ q ≤ j + 1 ∧ cXB (gE al_ it tg pt bd sg co) n (r * 4 + a) j d (x - 1) p q b) → j + 1 - q < n77 → Zw 3 zm_MO_layCan 77 [some (.ref 139), some (.int (nI r)), some (.int (nI a)), some (.int (nI i)), some (.int (nI j)), some (.int (nI d)), some (.int (nI (it (r * 4 + a)))), some (.int (nI (x - 1))), some (.int (nI p)), some (.int (nI b)), some (.int (nI q))] [] M_63 (fun r9 M1 => r9 = none ∧ ∃ C, MM M1 o (fset f 169 C) ∧ Sm Mq M1 [169] ∧ CnI (gE al_ it tg pt bd sg co) n (r * 4 + a) i j d 0 C) := by
                      intro n77
                      induction n77 with
                      | zero => intro b q _ h; exact absurd h (Nat.not_lt_zero _)
                      | succ n77 ih77 =>
                        intro b q hi77 hm77
                        refine zw_n 2 rfl ?_
                        refine zw_igtN (a := q) (b := j) rfl rfl rfl (by omega) (by omega) (fun c81 => ?_) (fun c81 => ?_)
                        · -- 81 to 140
                          refine zw_n 1 rfl ?_
                          refine zw_get (v := .ref 169) rfl (Sm.at s_63 (by decide) hM.1) rfl ?_
                          refine zw_n 3 rfl ?_
                          refine zw_top (nm (a := 21) (b := x - 1) rfl rfl) ?_
                          refine zw_n 2 rfl ?_
                          refine zw_top (na (a := 21 * (x - 1)) (b := p) rfl rfl) ?_
                          refine zw_n 1 rfl ?_
                          refine zw_zastN (g := C3) (j := ((21 * (x - 1)) + p)) (v := b) rfl f63_0 rfl (by decide) (by omega) (rfl) (hi77.2.2.1) ?_
                          generalize ez5224 : List.set M_63 169 _ = Mz5223
                          refine zw_inc rfl (x' := (nI (p + 1))) (ls' := [some (.ref 139), some (.int (nI r)), some (.int (nI a)), some (.int (nI i)), some (.int (nI j)), some (.int (nI d)), some (.int (nI (it (r * 4 + a)))), some (.int (nI (x - 1))), some (.int (nI (p + 1))), some (.int (nI b)), some (.int (nI q))]) rfl (na (a := p) (b := 1) rfl rfl) rfl ?_
                          refine zw_n 1 rfl ?_
                          refine zw_ls (ls' := [some (.ref 139), some (.int (nI r)), some (.int (nI a)), some (.int (nI i)), some (.int (nI j)), some (.int (nI d)), some (.int (nI (it (r * 4 + a)))), some (.int (nI (x - 1))), some (.int (nI (p + 1))), none, none]) ⟨Or.inr rfl, Or.inr rfl, Or.inr rfl, Or.inr rfl, Or.inr rfl, Or.inr rfl, Or.inr rfl, Or.inr rfl, Or.inr rfl, Or.inl rfl, Or.inl rfl, trivial⟩ ?_
                          exact ih63 (p + 1) (up C3 ((21 * (x - 1)) + p) b) Mz5223 (Sm.tset s_63 ez5224 (by decide)) (zat_self ez5224 f63_0) (⟨by omega, by omega, hi63.2.2.put (by omega) (by omega) (hi77.2.2.fin (by omega) (by omega) (show x - 1 < it (r * 4 + a) by omega))⟩) (by omega)
                        · -- 81 to 84
                          refine zw_n 1 rfl ?_
                          refine zw_ne0N (a := b) rfl rfl (by have := hi77.2.2.1; omega) (fun c86 => ?_) (fun c86 => ?_)
                          · -- 86 to 127
                            refine zw_n 3 (ls' := [some (.ref 139), some (.int (nI r)), some (.int (nI a)), some (.int (nI i)), some (.int (nI j)), some (.int (nI d)), some (.int (nI (it (r * 4 + a)))), some (.int (nI (x - 1))), some (.int (nI p)), some (.int 1), some (.int (nI q))]) rfl ?_
                            refine zw_inc rfl (x' := (nI (q + 1))) (ls' := [some (.ref 139), some (.int (nI r)), some (.int (nI a)), some (.int (nI i)), some (.int (nI j)), some (.int (nI d)), some (.int (nI (it (r * 4 + a)))), some (.int (nI (x - 1))), some (.int (nI p)), some (.int 1), some (.int (nI (q + 1)))]) rfl (na (a := q) (b := 1) rfl rfl) rfl ?_
                            refine zw_n 1 rfl ?_
                            exact ih77 1 (q + 1) (⟨by omega, by omega, by first | exact hi77.2.2.keep c86 | exact hi77.2.2.yes hi77.1 (ite_ne c104) (ite_ne c124) | exact hi77.2.2.no c86 (fun q9 => ite_eq0 c104 q9.1) | exact hi77.2.2.no c86 (fun q9 => ite_eq0 c124 q9.2)⟩) (by omega)
                          · -- 86 to 89
                            refine zw_n 1 rfl ?_
                            refine zw_get (v := .ref 169) rfl (Sm.at s_63 (by decide) hM.1) rfl ?_
                            refine zw_n 4 rfl ?_
                            refine zw_top (na (a := x - 1) (b := 1) rfl rfl) ?_
                            refine zw_n 1 rfl ?_
                            refine zw_top (nm (a := 21) (b := (x - 1) + 1) rfl rfl) ?_
                            refine zw_n 2 rfl ?_
                            refine zw_top (na (a := 21 * ((x - 1) + 1)) (b := q) rfl rfl) ?_
                            refine zw_bald (f := ai C3) (j := ((21 * ((x - 1) + 1)) + q)) rfl f63_0 rfl rfl (by decide) (by omega) ?_
                            refine zw_top (x' := (nI (if tC (gE al_ it tg pt bd sg co) n (r * 4 + a) j d (it (r * 4 + a) - (x - 1 + 1)) q = true then 1 else 0))) (congrArg nI (hi63.2.2.1 (x - 1 + 1) (Nat.le_refl _) (show x - 1 + 1 ≤ it (r * 4 + a) by omega) q (by omega) (by omega))) ?_
                            refine zw_eq0N (a := if tC (gE al_ it tg pt bd sg co) n (r * 4 + a) j d (it (r * 4 + a) - (x - 1 + 1)) q = true then 1 else 0) rfl rfl (ite_b) (fun c104 => ?_) (fun c104 => ?_)
                            · -- 104 to 131
                              refine zw_n 2 (ls' := [some (.ref 139), some (.int (nI r)), some (.int (nI a)), some (.int (nI i)), some (.int (nI j)), some (.int (nI d)), some (.int (nI (it (r * 4 + a)))), some (.int (nI (x - 1))), some (.int (nI p)), some (.int 0), some (.int (nI q))]) rfl ?_
                              refine zw_inc rfl (x' := (nI (q + 1))) (ls' := [some (.ref 139), some (.int (nI r)), some (.int (nI a)), some (.int (nI i)), some (.int (nI j)), some (.int (nI d)), some (.int (nI (it (r * 4 + a)))), some (.int (nI (x - 1))), some (.int (nI p)), some (.int 0), some (.int (nI (q + 1)))]) rfl (na (a := q) (b := 1) rfl rfl) rfl ?_
                              refine zw_n 1 rfl ?_
                              exact ih77 0 (q + 1) (⟨by omega, by omega, by first | exact hi77.2.2.keep c86 | exact hi77.2.2.yes hi77.1 (ite_ne c104) (ite_ne c124) | exact hi77.2.2.no c86 (fun q9 => ite_eq0 c104 q9.1) | exact hi77.2.2.no c86 (fun q9 => ite_eq0 c124 q9.2)⟩) (by omega)
                            · -- 104 to 107
                              refine zw_n 4 rfl ?_
                              refine zw_callS (as := [.int (nI r), .int (nI a), .int (nI (x - 1))]) (rest := [.ref 139]) rfl rfl rfl rfl rfl rfl (by decide) (m_itemAt _ r a (x - 1)) (fun rz5225 Mz5226 hz5227 => ?_)
                              rw [hz5227.1, hz5227.2]
                              show Zw 3 zm_MO_layCan 115 [some (.ref 139), some (.int (nI r)), some (.int (nI a)), some (.int (nI i)), some (.int (nI j)), some (.int (nI d)), some (.int (nI (it (r * 4 + a)))), some (.int (nI (x - 1))), some (.int (nI p)), some (.int (nI b)), some (.int (nI q))] [.int (nI (49 + 3 * ((r * 4 + a) * 5 + (x - 1)))), .ref 139] M_63 _
                              refine zw_n 3 rfl ?_
                              refine zw_callV (as := [.int (nI (49 + 3 * ((r * 4 + a) * 5 + (x - 1)))), .int (nI p), .int (nI q), .int (nI d)]) (rest := []) rfl rfl rfl (Sm.at s_63 (by decide) hM.1) rfl rfl rfl (by decide) (m_has M_63 o (fset f 169 C3) (MM.of (o' := o) (f' := fset f 169 C3) hM s_63 (Sm.at s_63 (by decide) hM.1) (c1_cons f63_0 c1_nil) (fs_c fs_n)) n gn al_ it pt tg bd hg hG hF c sg li co hS h5 hv hcl ((r * 4 + a) * 5 + (x - 1)) p q d ⟨r, a, x - 1, hr, ha, by omega, rfl⟩ (by omega) (by omega) (by omega) (by omega)) (fun rz5228 Mz5229 hz5230 => ?_)
                              rw [hz5230.1, hz5230.2]
                              show Zw 3 zm_MO_layCan 124 [some (.ref 139), some (.int (nI r)), some (.int (nI a)), some (.int (nI i)), some (.int (nI j)), some (.int (nI d)), some (.int (nI (it (r * 4 + a)))), some (.int (nI (x - 1))), some (.int (nI p)), some (.int (nI b)), some (.int (nI q))] [.int (nI (if tH (gE al_ it tg pt bd sg co) n ((r * 4 + a) * 5 + (x - 1)) p q d = true then 1 else 0))] M_63 _
                              refine zw_eq0N (a := if tH (gE al_ it tg pt bd sg co) n ((r * 4 + a) * 5 + (x - 1)) p q d = true then 1 else 0) rfl rfl (ite_b) (fun c124 => ?_) (fun c124 => ?_)
                              · -- 124 to 131
                                refine zw_n 2 (ls' := [some (.ref 139), some (.int (nI r)), some (.int (nI a)), some (.int (nI i)), some (.int (nI j)), some (.int (nI d)), some (.int (nI (it (r * 4 + a)))), some (.int (nI (x - 1))), some (.int (nI p)), some (.int 0), some (.int (nI q))]) rfl ?_
                                refine zw_inc rfl (x' := (nI (q + 1))) (ls' := [some (.ref 139), some (.int (nI r)), some (.int (nI a)), some (.int (nI i)), some (.int (nI j)), some (.int (nI d)), some (.int (nI (it (r * 4 + a)))), some (.int (nI (x - 1))), some (.int (nI p)), some (.int 0), some (.int (nI (q + 1)))]) rfl (na (a := q) (b := 1) rfl rfl) rfl ?_
                                refine zw_n 1 rfl ?_
                                exact ih77 0 (q + 1) (⟨by omega, by omega, by first | exact hi77.2.2.keep c86 | exact hi77.2.2.yes hi77.1 (ite_ne c104) (ite_ne c124) | exact hi77.2.2.no c86 (fun q9 => ite_eq0 c104 q9.1) | exact hi77.2.2.no c86 (fun q9 => ite_eq0 c124 q9.2)⟩) (by omega)
                              · -- 124 to 127
                                refine zw_n 3 (ls' := [some (.ref 139), some (.int (nI r)), some (.int (nI a)), some (.int (nI i)), some (.int (nI j)), some (.int (nI d)), some (.int (nI (it (r * 4 + a)))), some (.int (nI (x - 1))), some (.int (nI p)), some (.int 1), some (.int (nI q))]) rfl ?_
                                refine zw_inc rfl (x' := (nI (q + 1))) (ls' := [some (.ref 139), some (.int (nI r)), some (.int (nI a)), some (.int (nI i)), some (.int (nI j)), some (.int (nI d)), some (.int (nI (it (r * 4 + a)))), some (.int (nI (x - 1))), some (.int (nI p)), some (.int 1), some (.int (nI (q + 1)))]) rfl (na (a := q) (b := 1) rfl rfl) rfl ?_
                                refine zw_n 1 rfl ?_
                                exact ih77 1 (q + 1) (⟨by omega, by omega, by first | exact hi77.2.2.keep c86 | exact hi77.2.2.yes hi77.1 (ite_ne c104) (ite_ne c124) | exact hi77.2.2.no c86 (fun q9 => ite_eq0 c104 q9.1) | exact hi77.2.2.no c86 (fun q9 => ite_eq0 c124 q9.2)⟩) (by omega)
                    exact lp77 _ 0 p (⟨Nat.le_refl _, by omega, cXB.ini⟩) (Nat.lt_succ_self _)
              exact lp63 _ i C2 M_55 s_55 f55_0 (⟨Nat.le_refl _, by omega, hi55.2.ce (by omega), fun q h1 h2 => by omega⟩) (Nat.lt_succ_self _)
        exact lp55 _ (it (r * 4 + a)) C1 M_11 s_11 f11_0 (⟨Nat.le_refl _, hi11.2.2.fin (by omega)⟩) (Nat.lt_succ_self _)
      · -- 15 to 18
        refine zw_n 1 rfl ?_
        refine zw_get (v := .ref 169) rfl (Sm.at s_11 (by decide) hM.1) rfl ?_
        refine zw_n 3 rfl ?_
        refine zw_top (nm (a := 21) (b := it (r * 4 + a)) rfl rfl) ?_
        refine zw_n 2 rfl ?_
        refine zw_top (na (a := 21 * (it (r * 4 + a))) (b := p) rfl rfl) ?_
        have j30 : Zw 3 zm_MO_layCan 42 [some (.ref 139), some (.int (nI r)), some (.int (nI a)), some (.int (nI i)), some (.int (nI j)), some (.int (nI d)), some (.int (nI (it (r * 4 + a)))), some (.int (nI p)), none, none, none] [.int (nI (if p = j then 1 else 0)), .int (nI ((21 * (it (r * 4 + a))) + p)), .ref 169] M_11 (fun r9 M1 => r9 = none ∧ ∃ C, MM M1 o (fset f 169 C) ∧ Sm Mq M1 [169] ∧ CnI (gE al_ it tg pt bd sg co) n (r * 4 + a) i j d 0 C) := by
          refine zw_zastN (g := C1) (j := ((21 * (it (r * 4 + a))) + p)) (v := (if p = j then 1 else 0)) rfl f11_0 rfl (by decide) (by omega) (rfl) (by split <;> decide) ?_
          generalize ez5232 : List.set M_11 169 _ = Mz5231
          refine zw_inc rfl (x' := (nI (p + 1))) (ls' := [some (.ref 139), some (.int (nI r)), some (.int (nI a)), some (.int (nI i)), some (.int (nI j)), some (.int (nI d)), some (.int (nI (it (r * 4 + a)))), some (.int (nI (p + 1))), none, none, none]) rfl (na (a := p) (b := 1) rfl rfl) rfl ?_
          refine zw_n 1 rfl ?_
          exact ih11 (p + 1) (up C1 ((21 * (it (r * 4 + a))) + p) (if p = j then 1 else 0)) Mz5231 (Sm.tset s_11 ez5232 (by decide)) (zat_self ez5232 f11_0) (⟨by omega, by omega, hi11.2.2.put (by omega) (by omega) (by show _ = if tC (gE al_ it tg pt bd sg co) n (r * 4 + a) j d (it (r * 4 + a) - it (r * 4 + a)) p = true then 1 else 0; rw [Nat.sub_self, tC]; by_cases q9 : p = j <;> simp [q9])⟩) (by omega)
        refine zw_n 2 rfl ?_
        refine zw_ineN (a := p) (b := j) rfl rfl rfl (by omega) (by omega) (fun c34 => ?_) (fun c34 => ?_)
        · -- 34 to 41
          refine zw_n 1 rfl ?_
          refine zw_top (x' := nI (if p = j then 1 else 0)) (show nI 0 = nI (if p = j then 1 else 0) by rw [if_neg (by omega)]) ?_
          exact j30
        · -- 34 to 37
          refine zw_n 2 rfl ?_
          refine zw_top (x' := nI (if p = j then 1 else 0)) (show nI 1 = nI (if p = j then 1 else 0) by rw [if_pos (by omega)]) ?_
          exact j30
  exact lp11 _ i (f 169) Mq Sm.rf (hM.2 169 (by decide) (by decide)) (⟨Nat.le_refl _, by omega, fun z h1 h2 => absurd h2 (by show ¬ z ≤ it (r * 4 + a); omega), fun q h1 h2 => by omega⟩) (Nat.lt_succ_self _)
