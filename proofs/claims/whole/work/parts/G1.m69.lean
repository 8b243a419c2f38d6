set_option maxHeartbeats 4000000 in
set_option maxRecDepth 100000 in
theorem m_draw (Mq : zM) (o : Nat → Nat) (f : Nat → Nat → Nat) (hM : MM Mq o f) (m : Nat) (hm0 : 0 < m) (hm : m < 1000) (hs : o 48 < 1000003) : Zm 0 zm_MO_draw [.ref 139, .int (nI m)] Mq (fun r9 M1 => r9 = some (.int (nI (drV m (o 48)))) ∧ MM M1 (up o 48 (drN (o 48))) f ∧ Sm Mq M1 [139]) := by
  show Zw 0 zm_MO_draw 0 [some (.ref 139), some (.int (nI m))] [] Mq _
  refine zw_n 2 rfl ?_
  refine zw_get (v := .long (lN (o 48))) rfl hM.1 rfl ?_
  refine zw_n 2 rfl ?_
  refine zw_topl (x' := (lN (o 48 * 1103))) (lmulN (a := o 48) (b := 1103)) ?_
  refine zw_n 2 rfl ?_
  refine zw_topl (x' := (lN (o 48 * 1103 + 12345))) (ladd2 (a := o 48 * 1103) (b := 12345)) ?_
  refine zw_n 1 rfl ?_
  refine zw_lrem rfl (by decide) ?_
  refine zw_topl (x' := (lN (drN (o 48)))) ((lremN (a := o 48 * 1103 + 12345) (b := 1000003) (by omega) (by decide) (by decide)).trans (congrArg lN (by unfold drN; rw [Nat.mul_comm]))) ?_
  refine zw_put rfl hM.1 (rfl) (Nat.le_of_ble_eq_true rfl) ?_
  generalize ez6017 : List.set Mq 139 _ = Mz6016
  refine zw_n 1 rfl ?_
  refine zw_get (v := .long (lN (drN (o 48)))) rfl (zat_self ez6017 hM.1) rfl ?_
  refine zw_n 2 rfl ?_
  refine zw_topl (x' := (lN m)) (i2lN (by omega)) ?_
  refine zw_lrem rfl (lN_ne0 hm0 (by omega)) ?_
  refine zw_topl (x' := (lN (drN (o 48) % m))) (lremN (a := drN (o 48)) (b := m) (by have := drN_lt (o 48); omega) (by omega) (by omega)) ?_
  refine zw_n 1 rfl ?_
  refine zw_top (x' := (nI (drN (o 48) % m))) ((l2iN _).trans (congrArg nI (Nat.mod_eq_of_lt (by have := Nat.mod_lt (drN (o 48)) hm0; omega)))) ?_
  exact zw_iret rfl rfl (⟨by unfold drV; rw [if_pos hm0], (MM.of (o' := up o 48 (drN (o 48))) (f' := f) hM (Sm.tset Sm.rf ez6017 (by decide)) (zat_self ez6017 hM.1) (c1_skip c1_nil) (fs_k fs_n)), Sm.tset Sm.rf ez6017 (by decide)⟩)

set_option maxHeartbeats 4000000 in
set_option maxRecDepth 100000 in
theorem m_drawColumn (Mq : zM) (o : Nat → Nat) (f : Nat → Nat → Nat) (hM : MM Mq o f) (x : Nat) (h0 : x ≠ 0) (hx : x < 1099511627776) (hs : o 48 < 1000003) : Zm 1 zm_MO_drawColumn [.ref 139, .long (lN x)] Mq (fun r9 M1 => r9 = some (.int (nI (grC x (o 48)))) ∧ MM M1 (up o 48 (drN (o 48))) f ∧ Sm Mq M1 [139]) := by
  show Zw 1 zm_MO_drawColumn 0 [some (.ref 139), some (.long (lN x)), none, none, none] [] Mq _
  obtain ⟨hl1, hl2, hl3⟩ := lsb_sp h0 hx
  have hbl := bc_lt x
  have hdv := drV_m (s := o 48) (bc_pos h0 hx)
  refine zw_n 2 rfl ?_
  refine zw_callS (as := [.long (lN x)]) (rest := [.ref 139]) rfl rfl rfl rfl rfl rfl (by decide) (m_ones _ _ (hx)) (fun rz6018 Mz6019 hz6020 => ?_)
  rw [hz6020.1, hz6020.2]
  show Zw 1 zm_MO_drawColumn 5 [some (.ref 139), some (.long (lN x)), none, none, none] [.int (nI (bc x)), .ref 139] Mq _
  refine zw_callV (as := [.int (nI (bc x))]) (rest := []) rfl rfl rfl hM.1 rfl rfl rfl (by decide) (m_draw Mq o f hM (bc x) (bc_pos h0 hx) (by omega) (hs)) (fun rz6024 Mz6025 hz6026 => ?_)
  obtain ⟨hAz6021, hBz6022, hSz6023⟩ := hz6026
  rw [hAz6021]
  show Zw 1 zm_MO_drawColumn 8 [some (.ref 139), some (.long (lN x)), none, none, none] [.int (nI (drV (bc x) (o 48)))] Mz6025 _
  refine zw_n 2 (ls' := [some (.ref 139), some (.long (lN x)), none, some (.int (nI (drV (bc x) (o 48)))), none]) rfl ?_
  refine zw_callS (as := [.long (lN x)]) (rest := []) rfl rfl rfl rfl rfl rfl (by decide) (m_leastOf _ _ (h0) (hx)) (fun rz6027 Mz6028 hz6029 => ?_)
  rw [hz6029.1, hz6029.2]
  show Zw 1 zm_MO_drawColumn 13 [some (.ref 139), some (.long (lN x)), none, some (.int (nI (drV (bc x) (o 48)))), none] [.int (nI (lsb x))] Mz6025 _
  refine zw_n 1 (ls' := [some (.ref 139), some (.long (lN x)), none, some (.int (nI (drV (bc x) (o 48)))), some (.int (nI (lsb x)))]) rfl ?_
  have lp15 : ∀ (n15 : Nat) (l : Nat) (d : Nat), (grV x (grC x (o 48)) l d ∧ d < 40 ∧ l ≤ 40) → 40 - d < n15 → Zw 1 zm_MO_drawColumn 15 [some (.ref 139), some (.long (lN x)), none, some (.int (nI l)), some (.int (nI d))] [] Mz6025 (fun r9 M1 => r9 = some (.int (nI (grC x (o 48)))) ∧ MM M1 (up o 48 (drN (o 48))) f ∧ Sm Mq M1 [139]) := by
    intro n15
    induction n15 with
    | zero => intro l d _ h; exact absurd h (Nat.not_lt_zero _)
    | succ n15 ih15 =>
      intro l d hi15 hm15
      have hlt := hi15.1.lt
      refine zw_n 1 rfl ?_
      refine zw_le0N (a := l) rfl rfl (by omega) (fun c16 => ?_) (fun c16 => ?_)
      · -- 16 to 44
        refine zw_n 1 rfl ?_
        exact zw_iret rfl rfl (⟨by rw [hi15.1.1 (by omega)], (MM.of (o' := up o 48 (drN (o 48))) (f' := f) hM (Sm.trans Sm.rf hSz6023) hBz6022.1 (c1_skip c1_nil) (fs_k fs_n)), Sm.trans Sm.rf hSz6023⟩)
      · -- 16 to 19
        have hd40 := hlt (by omega)
        refine zw_inc rfl (x' := (nI (d + 1))) (ls' := [some (.ref 139), some (.long (lN x)), none, some (.int (nI l)), some (.int (nI (d + 1)))]) rfl (na (a := d) (b := 1) rfl rfl) rfl ?_
        refine zw_n 4 rfl ?_
        refine zw_topl (x' := (lN (x / 2 ^ (d + 1)))) (lsr rfl rfl (by omega) (by omega)) ?_
        refine zw_n 2 rfl ?_
        refine zw_topl (lan (a := x / 2 ^ (d + 1)) (b := 1) rfl rfl) ?_
        refine zw_topl (x' := (lN (x / 2 ^ (d + 1) % 2))) (congrArg lN (Nat.and_one_is_mod _)) ?_
        refine zw_n 2 rfl ?_
        refine zw_lneN (a := x / 2 ^ (d + 1) % 2) (b := 1) rfl rfl rfl (by omega) (by omega) (fun c31 => ?_) (fun c31 => ?_)
        · -- 31 to 38
          refine zw_n 2 rfl ?_
          refine zw_top (ns (a := l) (b := 0) rfl rfl (by omega)) ?_
          refine zw_n 2 (ls' := [some (.ref 139), some (.long (lN x)), none, some (.int (nI (l - 0))), some (.int (nI (d + 1)))]) rfl ?_
          exact ih15 (l - 0) (d + 1) (⟨by rw [bit_and1] at c31; first | exact hi15.1.yes (by omega) (Classical.byContradiction fun q9 => by rw [if_neg q9] at c31; omega) | exact hi15.1.no (by omega) (fun q9 => by rw [if_pos q9] at c31; omega), by have := hlt (by omega); omega, by omega⟩) (by have := hlt (by omega); omega)
        · -- 31 to 34
          refine zw_n 3 rfl ?_
          refine zw_top (ns (a := l) (b := 1) rfl rfl (by omega)) ?_
          refine zw_n 2 (ls' := [some (.ref 139), some (.long (lN x)), none, some (.int (nI (l - 1))), some (.int (nI (d + 1)))]) rfl ?_
          exact ih15 (l - 1) (d + 1) (⟨by rw [bit_and1] at c31; first | exact hi15.1.yes (by omega) (Classical.byContradiction fun q9 => by rw [if_neg q9] at c31; omega) | exact hi15.1.no (by omega) (fun q9 => by rw [if_pos q9] at c31; omega), by have := hlt (by omega); omega, by omega⟩) (by have := hlt (by omega); omega)
  exact lp15 _ (drV (bc x) (o 48)) (lsb x) (⟨grV_start h0 hx hdv, hl1, by omega⟩) (Nat.lt_succ_self _)

set_option maxHeartbeats 4000000 in
set_option maxRecDepth 100000 in
theorem m_beginNo (Mq : zM) (o : Nat → Nat) (f : Nat → Nat → Nat) (hM : MM Mq o f) (ho : 30 < o 45) (ho2 : o 45 < 1000) (r c : Nat) : Zm 0 zm_MO_beginNode [.ref 139, .int (nI r), .int (nI c)] Mq (fun r9 M1 => r9 = none ∧ MM M1 (up o 47 0) f ∧ Sm Mq M1 [139]) := by
  show Zw 0 zm_MO_beginNode 0 [some (.ref 139), some (.int (nI r)), some (.int (nI c)), none, none, none] [] Mq _
  refine zw_n 1 rfl ?_
  refine zw_get (v := .int (nI (o 45))) rfl hM.1 rfl ?_
  refine zw_n 1 rfl ?_
  refine zw_ileN (a := o 45) (b := 30) rfl rfl rfl (by omega) (by omega) (fun c6 => ?_) (fun c6 => ?_)
  · -- 6 to 15
    exfalso
    omega
  · -- 6 to 9
    refine zw_n 2 rfl ?_
    refine zw_put rfl hM.1 (rfl) (Nat.le_of_ble_eq_true rfl) ?_
    generalize ez6031 : List.set Mq 139 _ = Mz6030
    exact zw_vret rfl rfl (⟨rfl, (MM.of (o' := up o 47 0) (f' := f) hM (Sm.tset Sm.rf ez6031 (by decide)) (zat_self ez6031 hM.1) (c1_skip c1_nil) (fs_k fs_n)), Sm.tset Sm.rf ez6031 (by decide)⟩)

set_option maxHeartbeats 4000000 in
set_option maxRecDepth 100000 in
theorem m_beginOk (Mq : zM) (o : Nat → Nat) (f : Nat → Nat → Nat) (hM : MM Mq o f)(n : Nat) (gn al_ it pt tg bd : Nat → Nat) (hg : RelG f n gn al_ it pt tg bd) (hG : SafeG n gn al_ it pt tg bd) (hF : SafeF f) (h4 : SafeM (f 154)) (h5 : SafeM (f 155)) (fr af : Nat → Nat) (hfr : ∀ r, r < n → f 154 r = fr r) (haf : ∀ r a, r < n → a < al_ r → frA tg bd it (f 154) (r * 4 + a) = af (r * 4 + a)) (hsa : SafeM af) (hne : ∀ r c, r < n → (fr r).testBit c = true → ∃ a, a < al_ r ∧ (af (r * 4 + a)).testBit c = true) (hni : ∀ r a k d, r < n → a < al_ r → k < it (r * 4 + a) → d < 40 → (af (r * 4 + a)).testBit d = true → grM (gE al_ it tg pt bd fr af) ((r * 4 + a) * 5 + k) d ≠ 0) (ho : o 45 ≤ 30) (hs : o 48 < 1000003) (r c : Nat) (hr : r < n) (hc : c < 40) (hb : (fr r).testBit c = true) : Zm 4 zm_MO_beginNode [.ref 139, .int (nI r), .int (nI c)] Mq (fun r9 M1 => r9 = none ∧ MM M1 (up (up o 48 (drN (o 48))) 45 (o 45 + 1)) (fset (fset (fset (fset f 175 (up (f 175) (o 45) 0)) 174 (up (f 174) (o 45) c)) 173 (up (f 173) (o 45) (grA (gE al_ it tg pt bd fr af) r c (o 48)))) 172 (up (f 172) (o 45) r)) ∧ Sm Mq M1 [139, 172, 173, 174, 175] ∧ grA (gE al_ it tg pt bd fr af) r c (o 48) < al_ r ∧ (af (r * 4 + grA (gE al_ it tg pt bd fr af) r c (o 48))).testBit c = true) := by
  show Zw 4 zm_MO_beginNode 0 [some (.ref 139), some (.int (nI r)), some (.int (nI c)), none, none, none] [] Mq _
  have hn8 := hG.1
  have ha4 := hG.2.2.1 r
  have hcl : cnt (fun b => (af (r * 4 + b)).testBit c) (al_ r) ≤ al_ r := cnt_le _ _
  have hcp : 0 < cnt (fun b => (af (r * 4 + b)).testBit c) (al_ r) := by
    obtain ⟨a9, h8, h9⟩ := hne r c hr hb
    rcases Nat.eq_zero_or_pos (cnt (fun b => (af (r * 4 + b)).testBit c) (al_ r)) with q | q
    · have := cnt_zero q a9 h8; rw [h9] at this; cases this
    · exact q
  have hdv := drV_m (s := o 48) hcp
  have hga := nthC_in (p := (fun b => (af (r * 4 + b)).testBit c)) (i := 0) (n := al_ r) (l := drV (cnt (fun b => (af (r * 4 + b)).testBit c) (al_ r)) (o 48)) (by rw [cnf_0]; exact hdv)
  refine zw_n 1 rfl ?_
  refine zw_get (v := .int (nI (o 45))) rfl hM.1 rfl ?_
  refine zw_n 1 rfl ?_
  refine zw_ileN (a := o 45) (b := 30) rfl rfl rfl (by omega) (by omega) (fun c6 => ?_) (fun c6 => ?_)
  · -- 6 to 15
    refine zw_n 4 (ls' := [some (.ref 139), some (.int (nI r)), some (.int (nI c)), some (.int 0), some (.int 0), none]) rfl ?_
    have lp20 : ∀ (n20 : Nat) (n1 : Nat) (a : Nat), (a ≤ al_ r ∧ n1 = cnt (fun b => (af (r * 4 + b)).testBit c) a) → al_ r - a < n20 → Zw 4 zm_MO_beginNode 20 [some (.ref 139), some (.int (nI r)), some (.int (nI c)), some (.int (nI n1)), some (.int (nI a)), none] [] Mq (fun r9 M1 => r9 = none ∧ MM M1 (up (up o 48 (drN (o 48))) 45 (o 45 + 1)) (fset (fset (fset (fset f 175 (up (f 175) (o 45) 0)) 174 (up (f 174) (o 45) c)) 173 (up (f 173) (o 45) (grA (gE al_ it tg pt bd fr af) r c (o 48)))) 172 (up (f 172) (o 45) r)) ∧ Sm Mq M1 [139, 172, 173, 174, 175] ∧ grA (gE al_ it tg pt bd fr af) r c (o 48) < al_ r ∧ (af (r * 4 + grA (gE al_ it tg pt bd fr af) r c (o 48))).testBit c = true) := by
      intro n20
      induction n20 with
      | zero => intro n1 a _ h; exact absurd h (Nat.not_lt_zero _)
      | succ n20 ih20 =>
        intro n1 a hi20 hm20
        refine zw_n 2 rfl ?_
        refine zw_get (v := .ref 140) rfl hM.1 rfl ?_
        refine zw_n 3 rfl ?_
        refine zw_top (na (a := 9) (b := r) rfl rfl) ?_
        refine zw_iald (f := ai (f 140)) (j := (9 + r)) rfl (hM.2 140 (by decide) (by decide)) rfl (by decide) (by omega) ?_
        refine zw_top (x' := (nI (al_ r))) (congrArg nI (hg.2.2.1 r hr)) ?_
        refine zw_igeN (a := a) (b := al_ r) rfl rfl rfl (by omega) (by omega) (fun c31 => ?_) (fun c31 => ?_)
        · -- 31 to 65
          obtain rfl : n1 = cnt (fun b => (af (r * 4 + b)).testBit c) (al_ r) := by rw [hi20.2, show a = al_ r by omega]
          refine zw_n 2 rfl ?_
          refine zw_callV (as := [.int (nI (cnt (fun b => (af (r * 4 + b)).testBit c) (al_ r)))]) (rest := []) rfl rfl rfl hM.1 rfl rfl rfl (by decide) (m_draw Mq o f hM (cnt (fun b => (af (r * 4 + b)).testBit c) (al_ r)) (hcp) (by omega) (hs)) (fun rz6035 Mz6036 hz6037 => ?_)
          obtain ⟨hAz6032, hBz6033, hSz6034⟩ := hz6037
          rw [hAz6032]
          show Zw 4 zm_MO_beginNode 70 [some (.ref 139), some (.int (nI r)), some (.int (nI c)), some (.int (nI (cnt (fun b => (af (r * 4 + b)).testBit c) (al_ r)))), some (.int (nI a)), none] [.int (nI (drV (cnt (fun b => (af (r * 4 + b)).testBit c) (al_ r)) (o 48)))] Mz6036 _
          refine zw_n 3 (ls' := [some (.ref 139), some (.int (nI r)), some (.int (nI c)), some (.int (nI (cnt (fun b => (af (r * 4 + b)).testBit c) (al_ r)))), some (.int (nI (drV (cnt (fun b => (af (r * 4 + b)).testBit c) (al_ r)) (o 48)))), some (.int 0)]) rfl ?_
          have lp75 : ∀ (n75 : Nat) (l : Nat) (b : Nat), (b ≤ al_ r ∧ l ≤ 4 ∧ grA (gE al_ it tg pt bd fr af) r c (o 48) = nthC (fun b => (af (r * 4 + b)).testBit c) l b (al_ r - b) ∧ l < cnf (fun b => (af (r * 4 + b)).testBit c) b (al_ r - b)) → al_ r - b < n75 → Zw 4 zm_MO_beginNode 75 [some (.ref 139), some (.int (nI r)), some (.int (nI c)), some (.int (nI (cnt (fun b => (af (r * 4 + b)).testBit c) (al_ r)))), some (.int (nI l)), some (.int (nI b))] [] Mz6036 (fun r9 M1 => r9 = none ∧ MM M1 (up (up o 48 (drN (o 48))) 45 (o 45 + 1)) (fset (fset (fset (fset f 175 (up (f 175) (o 45) 0)) 174 (up (f 174) (o 45) c)) 173 (up (f 173) (o 45) (grA (gE al_ it tg pt bd fr af) r c (o 48)))) 172 (up (f 172) (o 45) r)) ∧ Sm Mq M1 [139, 172, 173, 174, 175] ∧ grA (gE al_ it tg pt bd fr af) r c (o 48) < al_ r ∧ (af (r * 4 + grA (gE al_ it tg pt bd fr af) r c (o 48))).testBit c = true) := by
            intro n75
            induction n75 with
            | zero => intro l b _ h; exact absurd h (Nat.not_lt_zero _)
            | succ n75 ih75 =>
              intro l b hi75 hm75
              have hbp := cnf_pos hi75.2.2.2
              refine zw_n 4 rfl ?_
              refine zw_callV (as := [.int (nI r), .int (nI b), .int 0]) (rest := []) rfl rfl rfl hBz6033.1 rfl rfl rfl (by decide) (m_ofAltF Mz6036 (up o 48 (drN (o 48))) f (MM.of (o' := up o 48 (drN (o 48))) (f' := f) hM (Sm.tw Sm.rf hSz6034 (by decide)) hBz6033.1 (c1_skip (c1_cons (Sm.at hSz6034 (by decide) (hM.2 172 (by decide) (by decide))) (c1_cons (Sm.at hSz6034 (by decide) (hM.2 173 (by decide) (by decide))) (c1_cons (Sm.at hSz6034 (by decide) (hM.2 174 (by decide) (by decide))) (c1_cons (Sm.at hSz6034 (by decide) (hM.2 175 (by decide) (by decide))) c1_nil))))) (fs_k (fs_k (fs_k (fs_k (fs_k fs_n)))))) n gn al_ it pt tg bd hg hG hF h4 h5 r b hr (by omega)) (fun rz6038 Mz6039 hz6040 => ?_)
              rw [hz6040.1, hz6040.2, haf r b hr (by omega)]
              show Zw 4 zm_MO_beginNode 83 [some (.ref 139), some (.int (nI r)), some (.int (nI c)), some (.int (nI (cnt (fun b => (af (r * 4 + b)).testBit c) (al_ r)))), some (.int (nI l)), some (.int (nI b))] [.long (lN (af (r * 4 + b)))] Mz6036 _
              refine zw_n 2 rfl ?_
              refine zw_topl (x' := (lN (af (r * 4 + b) / 2 ^ c))) (lsr rfl rfl (by have := hsa (r * 4 + b); omega) (by omega)) ?_
              refine zw_n 2 rfl ?_
              refine zw_topl (lan (a := af (r * 4 + b) / 2 ^ c) (b := 1) rfl rfl) ?_
              refine zw_topl (x' := (lN (af (r * 4 + b) / 2 ^ c % 2))) (congrArg lN (Nat.and_one_is_mod _)) ?_
              refine zw_n 2 rfl ?_
              refine zw_leqN (a := af (r * 4 + b) / 2 ^ c % 2) (b := 0) rfl rfl rfl (by omega) (by omega) (fun c89 => ?_) (fun c89 => ?_)
              · -- 89 to 97
                refine zw_n 5 rfl ?_
                refine zw_callV (as := [.int (nI r), .int (nI b), .int 0]) (rest := [.int (nI l)]) rfl rfl rfl hBz6033.1 rfl rfl rfl (by decide) (m_ofAltF Mz6036 (up o 48 (drN (o 48))) f (MM.of (o' := up o 48 (drN (o 48))) (f' := f) hM (Sm.tw Sm.rf hSz6034 (by decide)) hBz6033.1 (c1_skip (c1_cons (Sm.at hSz6034 (by decide) (hM.2 172 (by decide) (by decide))) (c1_cons (Sm.at hSz6034 (by decide) (hM.2 173 (by decide) (by decide))) (c1_cons (Sm.at hSz6034 (by decide) (hM.2 174 (by decide) (by decide))) (c1_cons (Sm.at hSz6034 (by decide) (hM.2 175 (by decide) (by decide))) c1_nil))))) (fs_k (fs_k (fs_k (fs_k (fs_k fs_n)))))) n gn al_ it pt tg bd hg hG hF h4 h5 r b hr (by omega)) (fun rz6041 Mz6042 hz6043 => ?_)
                rw [hz6043.1, hz6043.2, haf r b hr (by omega)]
                show Zw 4 zm_MO_beginNode 107 [some (.ref 139), some (.int (nI r)), some (.int (nI c)), some (.int (nI (cnt (fun b => (af (r * 4 + b)).testBit c) (al_ r)))), some (.int (nI l)), some (.int (nI b))] [.long (lN (af (r * 4 + b))), .int (nI l)] Mz6036 _
                refine zw_n 2 rfl ?_
                refine zw_topl (x' := (lN (af (r * 4 + b) / 2 ^ c))) (lsr rfl rfl (by have := hsa (r * 4 + b); omega) (by omega)) ?_
                refine zw_n 2 rfl ?_
                refine zw_topl (lan (a := af (r * 4 + b) / 2 ^ c) (b := 1) rfl rfl) ?_
                refine zw_topl (x' := (lN (af (r * 4 + b) / 2 ^ c % 2))) (congrArg lN (Nat.and_one_is_mod _)) ?_
                refine zw_n 2 rfl ?_
                refine zw_lneN (a := af (r * 4 + b) / 2 ^ c % 2) (b := 1) rfl rfl rfl (by omega) (by omega) (fun c113 => ?_) (fun c113 => ?_)
                · -- 113 to 120
                  refine zw_n 2 rfl ?_
                  refine zw_top (ns (a := l) (b := 0) rfl rfl (by omega)) ?_
                  refine zw_n 1 (ls' := [some (.ref 139), some (.int (nI r)), some (.int (nI c)), some (.int (nI (cnt (fun b => (af (r * 4 + b)).testBit c) (al_ r)))), some (.int (nI (l - 0))), some (.int (nI b))]) rfl ?_
                  refine zw_inc rfl (x' := (nI (b + 1))) (ls' := [some (.ref 139), some (.int (nI r)), some (.int (nI c)), some (.int (nI (cnt (fun b => (af (r * 4 + b)).testBit c) (al_ r)))), some (.int (nI (l - 0))), some (.int (nI (b + 1)))]) rfl (na (a := b) (b := 1) rfl rfl) rfl ?_
                  refine zw_n 1 rfl ?_
                  exact ih75 (l - 0) (b + 1) ((by
                have hbt : (af (r * 4 + b)).testBit c = true ∨ ¬ (af (r * 4 + b)).testBit c = true := Classical.em _
                rw [bit_and1] at c89 c113
                rcases hbt with q9 | q9
                · rw [if_pos q9] at c89 c113
                  have h7 := cnf_yes (p := (fun b => (af (r * 4 + b)).testBit c)) (i := b) (n := al_ r - b) (by omega) q9
                  have h8 := nthC_nx (p := (fun b => (af (r * 4 + b)).testBit c)) (i := b) (n := al_ r - b) (l := l) (by omega) q9
                  rw [Nat.sub_sub] at h7 h8
                  first | omega | exact ⟨by omega, by omega, hi75.2.2.1.trans (h8 (by omega)), by have h9 := hi75.2.2.2; omega⟩
                · rw [if_neg q9] at c89 c113
                  have h7 := cnf_not (p := (fun b => (af (r * 4 + b)).testBit c)) (i := b) (n := al_ r - b) (by omega) q9
                  have h8 := nthC_no (p := (fun b => (af (r * 4 + b)).testBit c)) (i := b) (l := l) (n := al_ r - b) (by omega) q9
                  rw [Nat.sub_sub] at h7 h8
                  first | omega | exact ⟨by omega, by omega, hi75.2.2.1.trans h8, by have h9 := hi75.2.2.2; rw [h7] at h9; exact h9⟩)) (by omega)
                · -- 113 to 116
                  refine zw_n 3 rfl ?_
                  refine zw_top (ns (a := l) (b := 1) rfl rfl (by omega)) ?_
                  refine zw_n 1 (ls' := [some (.ref 139), some (.int (nI r)), some (.int (nI c)), some (.int (nI (cnt (fun b => (af (r * 4 + b)).testBit c) (al_ r)))), some (.int (nI (l - 1))), some (.int (nI b))]) rfl ?_
                  refine zw_inc rfl (x' := (nI (b + 1))) (ls' := [some (.ref 139), some (.int (nI r)), some (.int (nI c)), some (.int (nI (cnt (fun b => (af (r * 4 + b)).testBit c) (al_ r)))), some (.int (nI (l - 1))), some (.int (nI (b + 1)))]) rfl (na (a := b) (b := 1) rfl rfl) rfl ?_
                  refine zw_n 1 rfl ?_
                  exact ih75 (l - 1) (b + 1) ((by
                have hbt : (af (r * 4 + b)).testBit c = true ∨ ¬ (af (r * 4 + b)).testBit c = true := Classical.em _
                rw [bit_and1] at c89 c113
                rcases hbt with q9 | q9
                · rw [if_pos q9] at c89 c113
                  have h7 := cnf_yes (p := (fun b => (af (r * 4 + b)).testBit c)) (i := b) (n := al_ r - b) (by omega) q9
                  have h8 := nthC_nx (p := (fun b => (af (r * 4 + b)).testBit c)) (i := b) (n := al_ r - b) (l := l) (by omega) q9
                  rw [Nat.sub_sub] at h7 h8
                  first | omega | exact ⟨by omega, by omega, hi75.2.2.1.trans (h8 (by omega)), by have h9 := hi75.2.2.2; omega⟩
                · rw [if_neg q9] at c89 c113
                  have h7 := cnf_not (p := (fun b => (af (r * 4 + b)).testBit c)) (i := b) (n := al_ r - b) (by omega) q9
                  have h8 := nthC_no (p := (fun b => (af (r * 4 + b)).testBit c)) (i := b) (l := l) (n := al_ r - b) (by omega) q9
                  rw [Nat.sub_sub] at h7 h8
                  first | omega | exact ⟨by omega, by omega, hi75.2.2.1.trans h8, by have h9 := hi75.2.2.2; rw [h7] at h9; exact h9⟩)) (by omega)
              · -- 89 to 92
                refine zw_n 1 rfl ?_
                refine zw_le0N (a := l) rfl rfl (by omega) (fun c94 => ?_) (fun c94 => ?_)
                · -- 94 to 130
                  have hbt : (af (r * 4 + b)).testBit c = true := (by rw [bit_and1] at c89; exact Classical.byContradiction fun q9 => by rw [if_neg q9] at c89; omega)
                  obtain rfl : b = grA (gE al_ it tg pt bd fr af) r c (o 48) := (hi75.2.2.1.trans (nthC_hit (p := (fun b => (af (r * 4 + b)).testBit c)) (by omega) hbt (by omega))).symm
                  refine zw_n 1 rfl ?_
                  refine zw_get (v := .ref 172) rfl hBz6033.1 rfl ?_
                  refine zw_n 1 rfl ?_
                  refine zw_get (v := .int (nI (o 45))) rfl hBz6033.1 rfl ?_
                  refine zw_n 1 rfl ?_
                  refine zw_iastN (g := (f 172)) (j := (o 45)) (v := r) rfl (Sm.at hSz6034 (by decide) (hM.2 172 (by decide) (by decide))) rfl (by decide) (by omega) (rfl) ?_
                  generalize ez6045 : List.set Mz6036 172 _ = Mz6044
                  refine zw_n 1 rfl ?_
                  refine zw_get (v := .ref 173) rfl (zat_set ez6045 (by decide) hBz6033.1) rfl ?_
                  refine zw_n 1 rfl ?_
                  refine zw_get (v := .int (nI (o 45))) rfl (zat_set ez6045 (by decide) hBz6033.1) rfl ?_
                  refine zw_n 1 rfl ?_
                  refine zw_iastN (g := (f 173)) (j := (o 45)) (v := (grA (gE al_ it tg pt bd fr af) r c (o 48))) rfl (zat_set ez6045 (by decide) (Sm.at hSz6034 (by decide) (hM.2 173 (by decide) (by decide)))) rfl (by decide) (by omega) (rfl) ?_
                  generalize ez6047 : List.set Mz6044 173 _ = Mz6046
                  refine zw_n 1 rfl ?_
                  refine zw_get (v := .ref 174) rfl (zat_set ez6047 (by decide) (zat_set ez6045 (by decide) hBz6033.1)) rfl ?_
                  refine zw_n 1 rfl ?_
                  refine zw_get (v := .int (nI (o 45))) rfl (zat_set ez6047 (by decide) (zat_set ez6045 (by decide) hBz6033.1)) rfl ?_
                  refine zw_n 1 rfl ?_
                  refine zw_iastN (g := (f 174)) (j := (o 45)) (v := c) rfl (zat_set ez6047 (by decide) (zat_set ez6045 (by decide) (Sm.at hSz6034 (by decide) (hM.2 174 (by decide) (by decide))))) rfl (by decide) (by omega) (rfl) ?_
                  generalize ez6049 : List.set Mz6046 174 _ = Mz6048
                  refine zw_n 1 rfl ?_
                  refine zw_get (v := .ref 175) rfl (zat_set ez6049 (by decide) (zat_set ez6047 (by decide) (zat_set ez6045 (by decide) hBz6033.1))) rfl ?_
                  refine zw_n 1 rfl ?_
                  refine zw_get (v := .int (nI (o 45))) rfl (zat_set ez6049 (by decide) (zat_set ez6047 (by decide) (zat_set ez6045 (by decide) hBz6033.1))) rfl ?_
                  refine zw_n 1 rfl ?_
                  refine zw_iastN (g := (f 175)) (j := (o 45)) (v := 0) rfl (zat_set ez6049 (by decide) (zat_set ez6047 (by decide) (zat_set ez6045 (by decide) (Sm.at hSz6034 (by decide) (hM.2 175 (by decide) (by decide)))))) rfl (by decide) (by omega) (rfl) ?_
                  generalize ez6051 : List.set Mz6048 175 _ = Mz6050
                  refine zw_n 2 rfl ?_
                  refine zw_get (v := .int (nI (o 45))) rfl (zat_set ez6051 (by decide) (zat_set ez6049 (by decide) (zat_set ez6047 (by decide) (zat_set ez6045 (by decide) hBz6033.1)))) rfl ?_
                  refine zw_n 2 rfl ?_
                  refine zw_top (na (a := o 45) (b := 1) rfl rfl) ?_
                  refine zw_put rfl (zat_set ez6051 (by decide) (zat_set ez6049 (by decide) (zat_set ez6047 (by decide) (zat_set ez6045 (by decide) hBz6033.1)))) (rfl) (Nat.le_of_ble_eq_true rfl) ?_
                  generalize ez6053 : List.set Mz6050 139 _ = Mz6052
                  exact zw_vret rfl rfl (⟨rfl, (MM.of (o' := up (up o 45 ((o 45) + 1)) 48 (drN (o 48))) (f' := fset (fset (fset (fset f 175 (up (f 175) (o 45) 0)) 174 (up (f 174) (o 45) c)) 173 (up (f 173) (o 45) (grA (gE al_ it tg pt bd fr af) r c (o 48)))) 172 (up (f 172) (o 45) r)) hM (Sm.tset (Sm.tset (Sm.tset (Sm.tset (Sm.tset (Sm.tw Sm.rf hSz6034 (by decide)) ez6045 (by decide)) ez6047 (by decide)) ez6049 (by decide)) ez6051 (by decide)) ez6053 (by decide)) (zat_self ez6053 (zat_set ez6051 (by decide) (zat_set ez6049 (by decide) (zat_set ez6047 (by decide) (zat_set ez6045 (by decide) hBz6033.1))))) (c1_skip (c1_cons (zat_set ez6053 (by decide) (zat_set ez6051 (by decide) (zat_set ez6049 (by decide) (zat_set ez6047 (by decide) (zat_self ez6045 (Sm.at hSz6034 (by decide) (hM.2 172 (by decide) (by decide)))))))) (c1_cons (zat_set ez6053 (by decide) (zat_set ez6051 (by decide) (zat_set ez6049 (by decide) (zat_self ez6047 (zat_set ez6045 (by decide) (Sm.at hSz6034 (by decide) (hM.2 173 (by decide) (by decide)))))))) (c1_cons (zat_set ez6053 (by decide) (zat_set ez6051 (by decide) (zat_self ez6049 (zat_set ez6047 (by decide) (zat_set ez6045 (by decide) (Sm.at hSz6034 (by decide) (hM.2 174 (by decide) (by decide)))))))) (c1_cons (zat_set ez6053 (by decide) (zat_self ez6051 (zat_set ez6049 (by decide) (zat_set ez6047 (by decide) (zat_set ez6045 (by decide) (Sm.at hSz6034 (by decide) (hM.2 175 (by decide) (by decide)))))))) c1_nil))))) (fs_k (fs_c (fs_c (fs_c (fs_c fs_n)))))), Sm.tset (Sm.tset (Sm.tset (Sm.tset (Sm.tset (Sm.tw Sm.rf hSz6034 (by decide)) ez6045 (by decide)) ez6047 (by decide)) ez6049 (by decide)) ez6051 (by decide)) ez6053 (by decide), by omega, hbt⟩)
                · -- 94 to 97
                  refine zw_n 5 rfl ?_
                  refine zw_callV (as := [.int (nI r), .int (nI b), .int 0]) (rest := [.int (nI l)]) rfl rfl rfl hBz6033.1 rfl rfl rfl (by decide) (m_ofAltF Mz6036 (up o 48 (drN (o 48))) f (MM.of (o' := up o 48 (drN (o 48))) (f' := f) hM (Sm.tw Sm.rf hSz6034 (by decide)) hBz6033.1 (c1_skip (c1_cons (Sm.at hSz6034 (by decide) (hM.2 172 (by decide) (by decide))) (c1_cons (Sm.at hSz6034 (by decide) (hM.2 173 (by decide) (by decide))) (c1_cons (Sm.at hSz6034 (by decide) (hM.2 174 (by decide) (by decide))) (c1_cons (Sm.at hSz6034 (by decide) (hM.2 175 (by decide) (by decide))) c1_nil))))) (fs_k (fs_k (fs_k (fs_k (fs_k fs_n)))))) n gn al_ it pt tg bd hg hG hF h4 h5 r b hr (by omega)) (fun rz6054 Mz6055 hz6056 => ?_)
                  rw [hz6056.1, hz6056.2, haf r b hr (by omega)]
                  show Zw 4 zm_MO_beginNode 107 [some (.ref 139), some (.int (nI r)), some (.int (nI c)), some (.int (nI (cnt (fun b => (af (r * 4 + b)).testBit c) (al_ r)))), some (.int (nI l)), some (.int (nI b))] [.long (lN (af (r * 4 + b))), .int (nI l)] Mz6036 _
                  refine zw_n 2 rfl ?_
                  refine zw_topl (x' := (lN (af (r * 4 + b) / 2 ^ c))) (lsr rfl rfl (by have := hsa (r * 4 + b); omega) (by omega)) ?_
                  refine zw_n 2 rfl ?_
                  refine zw_topl (lan (a := af (r * 4 + b) / 2 ^ c) (b := 1) rfl rfl) ?_
                  refine zw_topl (x' := (lN (af (r * 4 + b) / 2 ^ c % 2))) (congrArg lN (Nat.and_one_is_mod _)) ?_
                  refine zw_n 2 rfl ?_
                  refine zw_lneN (a := af (r * 4 + b) / 2 ^ c % 2) (b := 1) rfl rfl rfl (by omega) (by omega) (fun c113 => ?_) (fun c113 => ?_)
                  · -- 113 to 120
                    refine zw_n 2 rfl ?_
                    refine zw_top (ns (a := l) (b := 0) rfl rfl (by omega)) ?_
                    refine zw_n 1 (ls' := [some (.ref 139), some (.int (nI r)), some (.int (nI c)), some (.int (nI (cnt (fun b => (af (r * 4 + b)).testBit c) (al_ r)))), some (.int (nI (l - 0))), some (.int (nI b))]) rfl ?_
                    refine zw_inc rfl (x' := (nI (b + 1))) (ls' := [some (.ref 139), some (.int (nI r)), some (.int (nI c)), some (.int (nI (cnt (fun b => (af (r * 4 + b)).testBit c) (al_ r)))), some (.int (nI (l - 0))), some (.int (nI (b + 1)))]) rfl (na (a := b) (b := 1) rfl rfl) rfl ?_
                    refine zw_n 1 rfl ?_
                    exact ih75 (l - 0) (b + 1) ((by
                have hbt : (af (r * 4 + b)).testBit c = true ∨ ¬ (af (r * 4 + b)).testBit c = true := Classical.em _
                rw [bit_and1] at c89 c113
                rcases hbt with q9 | q9
                · rw [if_pos q9] at c89 c113
                  have h7 := cnf_yes (p := (fun b => (af (r * 4 + b)).testBit c)) (i := b) (n := al_ r - b) (by omega) q9
                  have h8 := nthC_nx (p := (fun b => (af (r * 4 + b)).testBit c)) (i := b) (n := al_ r - b) (l := l) (by omega) q9
                  rw [Nat.sub_sub] at h7 h8
                  first | omega | exact ⟨by omega, by omega, hi75.2.2.1.trans (h8 (by omega)), by have h9 := hi75.2.2.2; omega⟩
                · rw [if_neg q9] at c89 c113
                  have h7 := cnf_not (p := (fun b => (af (r * 4 + b)).testBit c)) (i := b) (n := al_ r - b) (by omega) q9
                  have h8 := nthC_no (p := (fun b => (af (r * 4 + b)).testBit c)) (i := b) (l := l) (n := al_ r - b) (by omega) q9
                  rw [Nat.sub_sub] at h7 h8
                  first | omega | exact ⟨by omega, by omega, hi75.2.2.1.trans h8, by have h9 := hi75.2.2.2; rw [h7] at h9; exact h9⟩)) (by omega)
                  · -- 113 to 116
                    refine zw_n 3 rfl ?_
                    refine zw_top (ns (a := l) (b := 1) rfl rfl (by omega)) ?_
                    refine zw_n 1 (ls' := [some (.ref 139), some (.int (nI r)), some (.int (nI c)), some (.int (nI (cnt (fun b => (af (r * 4 + b)).testBit c) (al_ r)))), some (.int (nI (l - 1))), some (.int (nI b))]) rfl ?_
                    refine zw_inc rfl (x' := (nI (b + 1))) (ls' := [some (.ref 139), some (.int (nI r)), some (.int (nI c)), some (.int (nI (cnt (fun b => (af (r * 4 + b)).testBit c) (al_ r)))), some (.int (nI (l - 1))), some (.int (nI (b + 1)))]) rfl (na (a := b) (b := 1) rfl rfl) rfl ?_
                    refine zw_n 1 rfl ?_
                    exact ih75 (l - 1) (b + 1) ((by
                have hbt : (af (r * 4 + b)).testBit c = true ∨ ¬ (af (r * 4 + b)).testBit c = true := Classical.em _
                rw [bit_and1] at c89 c113
                rcases hbt with q9 | q9
                · rw [if_pos q9] at c89 c113
                  have h7 := cnf_yes (p := (fun b => (af (r * 4 + b)).testBit c)) (i := b) (n := al_ r - b) (by omega) q9
                  have h8 := nthC_nx (p := (fun b => (af (r * 4 + b)).testBit c)) (i := b) (n := al_ r - b) (l := l) (by omega) q9
                  rw [Nat.sub_sub] at h7 h8
                  first | omega | exact ⟨by omega, by omega, hi75.2.2.1.trans (h8 (by omega)), by have h9 := hi75.2.2.2; omega⟩
                · rw [if_neg q9] at c89 c113
                  have h7 := cnf_not (p := (fun b => (af (r * 4 + b)).testBit c)) (i := b) (n := al_ r - b) (by omega) q9
                  have h8 := nthC_no (p := (fun b => (af (r * 4 + b)).testBit c)) (i := b) (l := l) (n := al_ r - b) (by omega) q9
                  rw [Nat.sub_sub] at h7 h8
                  first | omega | exact ⟨by omega, by omega, hi75.2.2.1.trans h8, by have h9 := hi75.2.2.2; rw [h7] at h9; exact h9⟩)) (by omega)
          exact lp75 _ (drV (cnt (fun b => (af (r * 4 + b)).testBit c) (al_ r)) (o 48)) 0 (⟨Nat.zero_le _, by omega, rfl, by rw [Nat.sub_zero, cnf_0]; exact hdv⟩) (Nat.lt_succ_self _)
        · -- 31 to 34
          refine zw_n 1 rfl ?_
          have j35 : Zw 4 zm_MO_beginNode 57 [some (.ref 139), some (.int (nI r)), some (.int (nI c)), some (.int (nI n1)), some (.int (nI a)), none] [.int (nI (if (af (r * 4 + a)).testBit c = true then 1 else 0)), .int (nI n1)] Mq (fun r9 M1 => r9 = none ∧ MM M1 (up (up o 48 (drN (o 48))) 45 (o 45 + 1)) (fset (fset (fset (fset f 175 (up (f 175) (o 45) 0)) 174 (up (f 174) (o 45) c)) 173 (up (f 173) (o 45) (grA (gE al_ it tg pt bd fr af) r c (o 48)))) 172 (up (f 172) (o 45) r)) ∧ Sm Mq M1 [139, 172, 173, 174, 175] ∧ grA (gE al_ it tg pt bd fr af) r c (o 48) < al_ r ∧ (af (r * 4 + grA (gE al_ it tg pt bd fr af) r c (o 48))).testBit c = true) := by
            refine zw_n 1 rfl ?_
            refine zw_top (na (a := n1) (b := if (af (r * 4 + a)).testBit c = true then 1 else 0) rfl rfl) ?_
            refine zw_n 1 (ls' := [some (.ref 139), some (.int (nI r)), some (.int (nI c)), some (.int (nI (n1 + (if (af (r * 4 + a)).testBit c = true then 1 else 0)))), some (.int (nI a)), none]) rfl ?_
            refine zw_inc rfl (x' := (nI (a + 1))) (ls' := [some (.ref 139), some (.int (nI r)), some (.int (nI c)), some (.int (nI (n1 + (if (af (r * 4 + a)).testBit c = true then 1 else 0)))), some (.int (nI (a + 1))), none]) rfl (na (a := a) (b := 1) rfl rfl) rfl ?_
            refine zw_n 1 rfl ?_
            exact ih20 (n1 + (if (af (r * 4 + a)).testBit c = true then 1 else 0)) (a + 1) (⟨by omega, cnt_s hi20.2 Iff.rfl⟩) (by omega)
          refine zw_n 4 rfl ?_
          refine zw_callV (as := [.int (nI r), .int (nI a), .int 0]) (rest := [.int (nI n1)]) rfl rfl rfl hM.1 rfl rfl rfl (by decide) (m_ofAltF Mq o f hM n gn al_ it pt tg bd hg hG hF h4 h5 r a hr (by omega)) (fun rz6057 Mz6058 hz6059 => ?_)
          rw [hz6059.1, hz6059.2, haf r a hr (by omega)]
          show Zw 4 zm_MO_beginNode 43 [some (.ref 139), some (.int (nI r)), some (.int (nI c)), some (.int (nI n1)), some (.int (nI a)), none] [.long (lN (af (r * 4 + a))), .int (nI n1)] Mq _
          refine zw_n 2 rfl ?_
          refine zw_topl (x' := (lN (af (r * 4 + a) / 2 ^ c))) (lsr rfl rfl (by have := hsa (r * 4 + a); omega) (by omega)) ?_
          refine zw_n 2 rfl ?_
          refine zw_topl (lan (a := af (r * 4 + a) / 2 ^ c) (b := 1) rfl rfl) ?_
          refine zw_topl (x' := (lN (af (r * 4 + a) / 2 ^ c % 2))) (congrArg lN (Nat.and_one_is_mod _)) ?_
          refine zw_n 2 rfl ?_
          refine zw_lneN (a := af (r * 4 + a) / 2 ^ c % 2) (b := 1) rfl rfl rfl (by omega) (by omega) (fun c49 => ?_) (fun c49 => ?_)
          · -- 49 to 56
            refine zw_n 1 rfl ?_
            refine zw_top (x' := nI (if (af (r * 4 + a)).testBit c = true then 1 else 0)) (show nI 0 = nI (if (af (r * 4 + a)).testBit c = true then 1 else 0) by rw [if_neg ((by rw [bit_and1] at c49; exact fun q9 => by rw [if_pos q9] at c49; omega))]) ?_
            exact j35
          · -- 49 to 52
            refine zw_n 2 rfl ?_
            refine zw_top (x' := nI (if (af (r * 4 + a)).testBit c = true then 1 else 0)) (show nI 1 = nI (if (af (r * 4 + a)).testBit c = true then 1 else 0) by rw [if_pos ((by rw [bit_and1] at c49; exact Classical.byContradiction fun q9 => by rw [if_neg q9] at c49; omega))]) ?_
            exact j35
    exact lp20 _ 0 0 (⟨Nat.zero_le _, rfl⟩) (Nat.lt_succ_self _)
  · -- 6 to 9
    exfalso
    omega

set_option maxHeartbeats 4000000 in
set_option maxRecDepth 100000 in
theorem m_tokNo (Mq : zM) (o : Nat → Nat) (f : Nat → Nat → Nat) (hM : MM Mq o f) (ho : o 46 = 20) (ch d : Nat) : Zm 0 zm_MO_growToken [.ref 139, .int (nI ch), .int (nI d)] Mq (fun r9 M1 => r9 = none ∧ MM M1 (up o 47 0) f ∧ Sm Mq M1 [139]) := by
  show Zw 0 zm_MO_growToken 0 [some (.ref 139), some (.int (nI ch)), some (.int (nI d)), none] [] Mq _
  refine zw_n 1 rfl ?_
  refine zw_get (v := .int (nI (o 46))) rfl hM.1 rfl ?_
  refine zw_n 1 rfl ?_
  refine zw_ineN (a := o 46) (b := 20) rfl rfl rfl (by omega) (by omega) (fun c6 => ?_) (fun c6 => ?_)
  · -- 6 to 15
    exfalso
    omega
  · -- 6 to 9
    refine zw_n 2 rfl ?_
    refine zw_put rfl hM.1 (rfl) (Nat.le_of_ble_eq_true rfl) ?_
    generalize ez6061 : List.set Mq 139 _ = Mz6060
    exact zw_vret rfl rfl (⟨rfl, (MM.of (o' := up o 47 0) (f' := f) hM (Sm.tset Sm.rf ez6061 (by decide)) (zat_self ez6061 hM.1) (c1_skip c1_nil) (fs_k fs_n)), Sm.tset Sm.rf ez6061 (by decide)⟩)

set_option maxHeartbeats 4000000 in
set_option maxRecDepth 100000 in
theorem m_tokOk (Mq : zM) (o : Nat → Nat) (f : Nat → Nat → Nat) (hM : MM Mq o f) (ho : o 46 < 20) (hb : 0 < o 46 → f 151 (o 46 - 1) < 1000 ∧ f 152 (o 46 - 1) < 40) (ch d : Nat) (hd : d < 40) : Zm 0 zm_MO_growToken [.ref 139, .int (nI ch), .int (nI d)] Mq (fun r9 M1 => r9 = none ∧ MM M1 (up o 46 (o 46 + 1)) (fset (fset (fset f 152 (up (f 152) (o 46) d)) 151 (up (f 151) (o 46) (if o 46 = 0 then 0 else f 151 (o 46 - 1) + if f 152 (o 46 - 1) < d then 0 else 1))) 150 (up (f 150) (o 46) ch)) ∧ Sm Mq M1 [139, 150, 151, 152]) := by
  show Zw 0 zm_MO_growToken 0 [some (.ref 139), some (.int (nI ch)), some (.int (nI d)), none] [] Mq _
  refine zw_n 1 rfl ?_
  refine zw_get (v := .int (nI (o 46))) rfl hM.1 rfl ?_
  refine zw_n 1 rfl ?_
  refine zw_ineN (a := o 46) (b := 20) rfl rfl rfl (by omega) (by omega) (fun c6 => ?_) (fun c6 => ?_)
  · -- 6 to 15
    have j15 : Zw 0 zm_MO_growToken 42 [some (.ref 139), some (.int (nI ch)), some (.int (nI d)), none] [.int (nI (if 0 < o 46 ∧ f 152 (o 46 - 1) < d then 1 else 0))] Mq (fun r9 M1 => r9 = none ∧ MM M1 (up o 46 (o 46 + 1)) (fset (fset (fset f 152 (up (f 152) (o 46) d)) 151 (up (f 151) (o 46) (if o 46 = 0 then 0 else f 151 (o 46 - 1) + if f 152 (o 46 - 1) < d then 0 else 1))) 150 (up (f 150) (o 46) ch)) ∧ Sm Mq M1 [139, 150, 151, 152]) := by
      refine zw_n 2 (ls' := [some (.ref 139), some (.int (nI ch)), some (.int (nI d)), some (.int (nI (if 0 < o 46 ∧ f 152 (o 46 - 1) < d then 1 else 0)))]) rfl ?_
      refine zw_get (v := .ref 150) rfl hM.1 rfl ?_
      refine zw_n 1 rfl ?_
      refine zw_get (v := .int (nI (o 46))) rfl hM.1 rfl ?_
      refine zw_n 1 rfl ?_
      refine zw_iastN (g := (f 150)) (j := (o 46)) (v := ch) rfl (hM.2 150 (by decide) (by decide)) rfl (by decide) (by omega) (rfl) ?_
      generalize ez6063 : List.set Mq 150 _ = Mz6062
      refine zw_n 1 rfl ?_
      refine zw_get (v := .ref 151) rfl (zat_set ez6063 (by decide) hM.1) rfl ?_
      refine zw_n 1 rfl ?_
      refine zw_get (v := .int (nI (o 46))) rfl (zat_set ez6063 (by decide) hM.1) rfl ?_
      refine zw_n 1 rfl ?_
      refine zw_get (v := .int (nI (o 46))) rfl (zat_set ez6063 (by decide) hM.1) rfl ?_
      refine zw_ne0N (a := o 46) rfl rfl (by omega) (fun c65 => ?_) (fun c65 => ?_)
      · -- 65 to 72
        refine zw_n 1 rfl ?_
        refine zw_eq0N (a := if 0 < o 46 ∧ f 152 (o 46 - 1) < d then 1 else 0) rfl rfl (ite_b) (fun c73 => ?_) (fun c73 => ?_)
        · -- 73 to 90
          have hbb := hb (by omega)
          refine zw_n 1 rfl ?_
          refine zw_get (v := .ref 151) rfl (zat_set ez6063 (by decide) hM.1) rfl ?_
          refine zw_n 1 rfl ?_
          refine zw_get (v := .int (nI (o 46))) rfl (zat_set ez6063 (by decide) hM.1) rfl ?_
          refine zw_n 2 rfl ?_
          refine zw_top (ns (a := o 46) (b := 1) rfl rfl (by omega)) ?_
          refine zw_iald (f := ai (f 151)) (j := ((o 46) - 1)) rfl (zat_set ez6063 (by decide) (hM.2 151 (by decide) (by decide))) rfl (by decide) (by omega) ?_
          refine zw_n 2 rfl ?_
          refine zw_top (na (a := (f 151) ((o 46) - 1)) (b := 1) rfl rfl) ?_
          refine zw_iastN (g := (f 151)) (j := (o 46)) (v := (if o 46 = 0 then 0 else f 151 (o 46 - 1) + if f 152 (o 46 - 1) < d then 0 else 1)) rfl (zat_set ez6063 (by decide) (hM.2 151 (by decide) (by decide))) rfl (by decide) (by omega) (by rw [if_neg c65, if_neg (fun q9 => ite_eq0 c73 ⟨by omega, q9⟩)]) ?_
          generalize ez6065 : List.set Mz6062 151 _ = Mz6064
          refine zw_n 1 rfl ?_
          refine zw_get (v := .ref 152) rfl (zat_set ez6065 (by decide) (zat_set ez6063 (by decide) hM.1)) rfl ?_
          refine zw_n 1 rfl ?_
          refine zw_get (v := .int (nI (o 46))) rfl (zat_set ez6065 (by decide) (zat_set ez6063 (by decide) hM.1)) rfl ?_
          refine zw_n 1 rfl ?_
          refine zw_iastN (g := (f 152)) (j := (o 46)) (v := d) rfl (zat_set ez6065 (by decide) (zat_set ez6063 (by decide) (hM.2 152 (by decide) (by decide)))) rfl (by decide) (by omega) (rfl) ?_
          generalize ez6067 : List.set Mz6064 152 _ = Mz6066
          refine zw_n 2 rfl ?_
          refine zw_get (v := .int (nI (o 46))) rfl (zat_set ez6067 (by decide) (zat_set ez6065 (by decide) (zat_set ez6063 (by decide) hM.1))) rfl ?_
          refine zw_n 2 rfl ?_
          refine zw_top (na (a := o 46) (b := 1) rfl rfl) ?_
          refine zw_put rfl (zat_set ez6067 (by decide) (zat_set ez6065 (by decide) (zat_set ez6063 (by decide) hM.1))) (rfl) (Nat.le_of_ble_eq_true rfl) ?_
          generalize ez6069 : List.set Mz6066 139 _ = Mz6068
          exact zw_vret rfl rfl (⟨rfl, (MM.of (o' := up o 46 ((o 46) + 1)) (f' := fset (fset (fset f 152 (up (f 152) (o 46) d)) 151 (up (f 151) (o 46) (if o 46 = 0 then 0 else f 151 (o 46 - 1) + if f 152 (o 46 - 1) < d then 0 else 1))) 150 (up (f 150) (o 46) ch)) hM (Sm.tset (Sm.tset (Sm.tset (Sm.tset Sm.rf ez6063 (by decide)) ez6065 (by decide)) ez6067 (by decide)) ez6069 (by decide)) (zat_self ez6069 (zat_set ez6067 (by decide) (zat_set ez6065 (by decide) (zat_set ez6063 (by decide) hM.1)))) (c1_skip (c1_cons (zat_set ez6069 (by decide) (zat_set ez6067 (by decide) (zat_set ez6065 (by decide) (zat_self ez6063 (hM.2 150 (by decide) (by decide)))))) (c1_cons (zat_set ez6069 (by decide) (zat_set ez6067 (by decide) (zat_self ez6065 (zat_set ez6063 (by decide) (hM.2 151 (by decide) (by decide)))))) (c1_cons (zat_set ez6069 (by decide) (zat_self ez6067 (zat_set ez6065 (by decide) (zat_set ez6063 (by decide) (hM.2 152 (by decide) (by decide)))))) c1_nil)))) (fs_k (fs_c (fs_c (fs_c fs_n))))), Sm.tset (Sm.tset (Sm.tset (Sm.tset Sm.rf ez6063 (by decide)) ez6065 (by decide)) ez6067 (by decide)) ez6069 (by decide)⟩)
        · -- 73 to 76
          have hbb := hb (by omega)
          refine zw_n 1 rfl ?_
          refine zw_get (v := .ref 151) rfl (zat_set ez6063 (by decide) hM.1) rfl ?_
          refine zw_n 1 rfl ?_
          refine zw_get (v := .int (nI (o 46))) rfl (zat_set ez6063 (by decide) hM.1) rfl ?_
          refine zw_n 2 rfl ?_
          refine zw_top (ns (a := o 46) (b := 1) rfl rfl (by omega)) ?_
          refine zw_iald (f := ai (f 151)) (j := ((o 46) - 1)) rfl (zat_set ez6063 (by decide) (hM.2 151 (by decide) (by decide))) rfl (by decide) (by omega) ?_
          refine zw_n 1 rfl ?_
          refine zw_iastN (g := (f 151)) (j := (o 46)) (v := (if o 46 = 0 then 0 else f 151 (o 46 - 1) + if f 152 (o 46 - 1) < d then 0 else 1)) rfl (zat_set ez6063 (by decide) (hM.2 151 (by decide) (by decide))) rfl (by decide) (by omega) (by rw [if_neg c65, if_pos (ite_ne c73).2, Nat.add_zero]; rfl) ?_
          generalize ez6071 : List.set Mz6062 151 _ = Mz6070
          refine zw_n 1 rfl ?_
          refine zw_get (v := .ref 152) rfl (zat_set ez6071 (by decide) (zat_set ez6063 (by decide) hM.1)) rfl ?_
          refine zw_n 1 rfl ?_
          refine zw_get (v := .int (nI (o 46))) rfl (zat_set ez6071 (by decide) (zat_set ez6063 (by decide) hM.1)) rfl ?_
          refine zw_n 1 rfl ?_
          refine zw_iastN (g := (f 152)) (j := (o 46)) (v := d) rfl (zat_set ez6071 (by decide) (zat_set ez6063 (by decide) (hM.2 152 (by decide) (by decide)))) rfl (by decide) (by omega) (rfl) ?_
          generalize ez6073 : List.set Mz6070 152 _ = Mz6072
          refine zw_n 2 rfl ?_
          refine zw_get (v := .int (nI (o 46))) rfl (zat_set ez6073 (by decide) (zat_set ez6071 (by decide) (zat_set ez6063 (by decide) hM.1))) rfl ?_
          refine zw_n 2 rfl ?_
          refine zw_top (na (a := o 46) (b := 1) rfl rfl) ?_
          refine zw_put rfl (zat_set ez6073 (by decide) (zat_set ez6071 (by decide) (zat_set ez6063 (by decide) hM.1))) (rfl) (Nat.le_of_ble_eq_true rfl) ?_
          generalize ez6075 : List.set Mz6072 139 _ = Mz6074
          exact zw_vret rfl rfl (⟨rfl, (MM.of (o' := up o 46 ((o 46) + 1)) (f' := fset (fset (fset f 152 (up (f 152) (o 46) d)) 151 (up (f 151) (o 46) (if o 46 = 0 then 0 else f 151 (o 46 - 1) + if f 152 (o 46 - 1) < d then 0 else 1))) 150 (up (f 150) (o 46) ch)) hM (Sm.tset (Sm.tset (Sm.tset (Sm.tset Sm.rf ez6063 (by decide)) ez6071 (by decide)) ez6073 (by decide)) ez6075 (by decide)) (zat_self ez6075 (zat_set ez6073 (by decide) (zat_set ez6071 (by decide) (zat_set ez6063 (by decide) hM.1)))) (c1_skip (c1_cons (zat_set ez6075 (by decide) (zat_set ez6073 (by decide) (zat_set ez6071 (by decide) (zat_self ez6063 (hM.2 150 (by decide) (by decide)))))) (c1_cons (zat_set ez6075 (by decide) (zat_set ez6073 (by decide) (zat_self ez6071 (zat_set ez6063 (by decide) (hM.2 151 (by decide) (by decide)))))) (c1_cons (zat_set ez6075 (by decide) (zat_self ez6073 (zat_set ez6071 (by decide) (zat_set ez6063 (by decide) (hM.2 152 (by decide) (by decide)))))) c1_nil)))) (fs_k (fs_c (fs_c (fs_c fs_n))))), Sm.tset (Sm.tset (Sm.tset (Sm.tset Sm.rf ez6063 (by decide)) ez6071 (by decide)) ez6073 (by decide)) ez6075 (by decide)⟩)
      · -- 65 to 68
        refine zw_n 2 rfl ?_
        refine zw_iastN (g := (f 151)) (j := (o 46)) (v := (if o 46 = 0 then 0 else f 151 (o 46 - 1) + if f 152 (o 46 - 1) < d then 0 else 1)) rfl (zat_set ez6063 (by decide) (hM.2 151 (by decide) (by decide))) rfl (by decide) (by omega) (by rw [if_pos c65]; rfl) ?_
        generalize ez6077 : List.set Mz6062 151 _ = Mz6076
        refine zw_n 1 rfl ?_
        refine zw_get (v := .ref 152) rfl (zat_set ez6077 (by decide) (zat_set ez6063 (by decide) hM.1)) rfl ?_
        refine zw_n 1 rfl ?_
        refine zw_get (v := .int (nI (o 46))) rfl (zat_set ez6077 (by decide) (zat_set ez6063 (by decide) hM.1)) rfl ?_
        refine zw_n 1 rfl ?_
        refine zw_iastN (g := (f 152)) (j := (o 46)) (v := d) rfl (zat_set ez6077 (by decide) (zat_set ez6063 (by decide) (hM.2 152 (by decide) (by decide)))) rfl (by decide) (by omega) (rfl) ?_
        generalize ez6079 : List.set Mz6076 152 _ = Mz6078
        refine zw_n 2 rfl ?_
        refine zw_get (v := .int (nI (o 46))) rfl (zat_set ez6079 (by decide) (zat_set ez6077 (by decide) (zat_set ez6063 (by decide) hM.1))) rfl ?_
        refine zw_n 2 rfl ?_
        refine zw_top (na (a := o 46) (b := 1) rfl rfl) ?_
        refine zw_put rfl (zat_set ez6079 (by decide) (zat_set ez6077 (by decide) (zat_set ez6063 (by decide) hM.1))) (rfl) (Nat.le_of_ble_eq_true rfl) ?_
        generalize ez6081 : List.set Mz6078 139 _ = Mz6080
        exact zw_vret rfl rfl (⟨rfl, (MM.of (o' := up o 46 ((o 46) + 1)) (f' := fset (fset (fset f 152 (up (f 152) (o 46) d)) 151 (up (f 151) (o 46) (if o 46 = 0 then 0 else f 151 (o 46 - 1) + if f 152 (o 46 - 1) < d then 0 else 1))) 150 (up (f 150) (o 46) ch)) hM (Sm.tset (Sm.tset (Sm.tset (Sm.tset Sm.rf ez6063 (by decide)) ez6077 (by decide)) ez6079 (by decide)) ez6081 (by decide)) (zat_self ez6081 (zat_set ez6079 (by decide) (zat_set ez6077 (by decide) (zat_set ez6063 (by decide) hM.1)))) (c1_skip (c1_cons (zat_set ez6081 (by decide) (zat_set ez6079 (by decide) (zat_set ez6077 (by decide) (zat_self ez6063 (hM.2 150 (by decide) (by decide)))))) (c1_cons (zat_set ez6081 (by decide) (zat_set ez6079 (by decide) (zat_self ez6077 (zat_set ez6063 (by decide) (hM.2 151 (by decide) (by decide)))))) (c1_cons (zat_set ez6081 (by decide) (zat_self ez6079 (zat_set ez6077 (by decide) (zat_set ez6063 (by decide) (hM.2 152 (by decide) (by decide)))))) c1_nil)))) (fs_k (fs_c (fs_c (fs_c fs_n))))), Sm.tset (Sm.tset (Sm.tset (Sm.tset Sm.rf ez6063 (by decide)) ez6077 (by decide)) ez6079 (by decide)) ez6081 (by decide)⟩)
    refine zw_n 1 rfl ?_
    refine zw_get (v := .int (nI (o 46))) rfl hM.1 rfl ?_
    refine zw_le0N (a := o 46) rfl rfl (by omega) (fun c19 => ?_) (fun c19 => ?_)
    · -- 19 to 41
      refine zw_n 1 rfl ?_
      refine zw_top (x' := nI (if 0 < o 46 ∧ f 152 (o 46 - 1) < d then 1 else 0)) (show nI 0 = nI (if 0 < o 46 ∧ f 152 (o 46 - 1) < d then 1 else 0) by rw [if_neg (by omega)]) ?_
      exact j15
    · -- 19 to 22
      have hbb := hb (by omega)
      refine zw_n 1 rfl ?_
      refine zw_get (v := .ref 152) rfl hM.1 rfl ?_
      refine zw_n 1 rfl ?_
      refine zw_get (v := .int (nI (o 46))) rfl hM.1 rfl ?_
      refine zw_n 2 rfl ?_
      refine zw_top (ns (a := o 46) (b := 1) rfl rfl (by omega)) ?_
      refine zw_iald (f := ai (f 152)) (j := ((o 46) - 1)) rfl (hM.2 152 (by decide) (by decide)) rfl (by decide) (by omega) ?_
      refine zw_n 1 rfl ?_
      refine zw_igeN (a := (f 152) ((o 46) - 1)) (b := d) rfl rfl rfl (by omega) (by omega) (fun c34 => ?_) (fun c34 => ?_)
      · -- 34 to 41
        refine zw_n 1 rfl ?_
        refine zw_top (x' := nI (if 0 < o 46 ∧ f 152 (o 46 - 1) < d then 1 else 0)) (show nI 0 = nI (if 0 < o 46 ∧ f 152 (o 46 - 1) < d then 1 else 0) by rw [if_neg (by omega)]) ?_
        exact j15
      · -- 34 to 37
        refine zw_n 2 rfl ?_
        refine zw_top (x' := nI (if 0 < o 46 ∧ f 152 (o 46 - 1) < d then 1 else 0)) (show nI 1 = nI (if 0 < o 46 ∧ f 152 (o 46 - 1) < d then 1 else 0) by rw [if_pos (by omega)]) ?_
        exact j15
  · -- 6 to 9
    exfalso
    omega
