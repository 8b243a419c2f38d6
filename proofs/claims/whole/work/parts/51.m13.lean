set_option maxHeartbeats 4000000 in
set_option maxRecDepth 100000 in
theorem m_isSign (Mq : zM) (x : Int32) : Zm 1 zm_MO_isSign [.int x] Mq (fun r9 M1 => r9 = some (.int (nI (if 33 ≤ x.toInt ∧ x.toInt ≤ 126 then 1 else 0))) ∧ M1 = Mq) := by
  show Zw 1 zm_MO_isSign 0 [some (.int x)] [] Mq _
  refine zw_n 4 rfl ?_
  refine zw_callS (as := [.long (Int32.toInt64 x), .long 33, .long 126]) (rest := []) rfl rfl rfl rfl rfl rfl (by decide) (m_in Mq (Int32.toInt64 x) 33 126 x.toInt 33 126 (Int32.toInt_toInt64 _) (by decide) (by decide)) (fun rz1303 Mz1304 hz1305 => ?_)
  rw [hz1305.1, hz1305.2]
  show Zw 1 zm_MO_isSign 11 [some (.int x)] [.int (nI (if 33 ≤ x.toInt ∧ x.toInt ≤ 126 then 1 else 0))] Mq _
  exact zw_zret rfl rfl (ite_01) (⟨rfl, rfl⟩)

set_option maxHeartbeats 4000000 in
set_option maxRecDepth 100000 in
theorem m_isRule (Mq : zM) (o : Nat → Nat) (f : Nat → Nat → Nat) (hM : MM Mq o f) (n : Nat) (hn0 : f 140 0 = n) (hn : n ≤ 8) (x : Int32) : Zm 1 zm_MO_isRule [.ref 139, .int x] Mq (fun r9 M1 => r9 = some (.int (nI (if 0 ≤ x.toInt ∧ x.toInt < n then 1 else 0))) ∧ M1 = Mq) := by
  show Zw 1 zm_MO_isRule 0 [some (.ref 139), some (.int x)] [] Mq _
  refine zw_n 4 rfl ?_
  refine zw_get (v := .ref 140) rfl hM.1 rfl ?_
  refine zw_n 1 rfl ?_
  refine zw_iald (f := ai (f 140)) (j := 0) rfl (hM.2 140 (by decide) (by decide)) rfl (by decide) (by omega) ?_
  refine zw_top (congrArg nI hn0) ?_
  refine zw_n 3 rfl ?_
  refine zw_callS (as := [.long (Int32.toInt64 x), .long 0, .long ((Int32.toInt64 (nI n)) - 1)]) (rest := []) rfl rfl rfl rfl rfl rfl (by decide) (m_in Mq (Int32.toInt64 x) 0 ((Int32.toInt64 (nI n)) - 1) x.toInt 0 (((n : Nat) : Int) - 1) (Int32.toInt_toInt64 _) (by decide) (l_sub1 (l_nI (by omega)) (by omega) (by omega))) (fun rz1306 Mz1307 hz1308 => ?_)
  rw [hz1308.1, hz1308.2]
  show Zw 1 zm_MO_isRule 15 [some (.ref 139), some (.int x)] [.int (nI (if 0 ≤ x.toInt ∧ x.toInt ≤ ((n : Nat) : Int) - 1 then 1 else 0))] Mq _
  exact zw_zret rfl rfl (ite_01) (⟨by rw [ite_cg (a := 0 ≤ x.toInt ∧ x.toInt ≤ ((n : Nat) : Int) - 1) (b := 0 ≤ x.toInt ∧ x.toInt < n) (by omega)], rfl⟩)

set_option maxHeartbeats 4000000 in
set_option maxRecDepth 100000 in
theorem m_tok1 (Mq : zM) (o : Nat → Nat) (f : Nat → Nat → Nat) (hM : MM Mq o f) (c : Nat) (hc0 : f 140 529 = c) : Zm 0 zm_MO_tokens [.ref 139] Mq (fun r9 M1 => r9 = some (.int (nI c)) ∧ M1 = Mq) := by
  show Zw 0 zm_MO_tokens 0 [some (.ref 139)] [] Mq _
  refine zw_n 1 rfl ?_
  refine zw_get (v := .ref 140) rfl hM.1 rfl ?_
  refine zw_n 1 rfl ?_
  refine zw_iald (f := ai (f 140)) (j := 529) rfl (hM.2 140 (by decide) (by decide)) rfl (by decide) (by omega) ?_
  refine zw_top (congrArg nI hc0) ?_
  exact zw_iret rfl rfl (⟨rfl, rfl⟩)

set_option maxHeartbeats 4000000 in
set_option maxRecDepth 100000 in
theorem m_isToken (Mq : zM) (o : Nat → Nat) (f : Nat → Nat → Nat) (hM : MM Mq o f) (c : Nat) (hc0 : f 140 529 = c) (hc : c ≤ 20) (x : Int32) : Zm 1 zm_MO_isToken [.ref 139, .int x] Mq (fun r9 M1 => r9 = some (.int (nI (if 0 ≤ x.toInt ∧ x.toInt < c then 1 else 0))) ∧ M1 = Mq) := by
  show Zw 1 zm_MO_isToken 0 [some (.ref 139), some (.int x)] [] Mq _
  refine zw_n 4 rfl ?_
  refine zw_callV (as := []) (rest := [.long 0, .long (Int32.toInt64 x)]) rfl rfl rfl hM.1 rfl rfl rfl (by decide) (m_tok1 Mq o f hM c hc0) (fun rz1309 Mz1310 hz1311 => ?_)
  rw [hz1311.1, hz1311.2]
  show Zw 1 zm_MO_isToken 7 [some (.ref 139), some (.int x)] [.int (nI c), .long 0, .long (Int32.toInt64 x)] Mq _
  refine zw_n 3 rfl ?_
  refine zw_callS (as := [.long (Int32.toInt64 x), .long 0, .long ((Int32.toInt64 (nI c)) - 1)]) (rest := []) rfl rfl rfl rfl rfl rfl (by decide) (m_in Mq (Int32.toInt64 x) 0 ((Int32.toInt64 (nI c)) - 1) x.toInt 0 (((c : Nat) : Int) - 1) (Int32.toInt_toInt64 _) (by decide) (l_sub1 (l_nI (by omega)) (by omega) (by omega))) (fun rz1312 Mz1313 hz1314 => ?_)
  rw [hz1314.1, hz1314.2]
  show Zw 1 zm_MO_isToken 13 [some (.ref 139), some (.int x)] [.int (nI (if 0 ≤ x.toInt ∧ x.toInt ≤ ((c : Nat) : Int) - 1 then 1 else 0))] Mq _
  exact zw_zret rfl rfl (ite_01) (⟨by rw [ite_cg (a := 0 ≤ x.toInt ∧ x.toInt ≤ ((c : Nat) : Int) - 1) (b := 0 ≤ x.toInt ∧ x.toInt < c) (by omega)], rfl⟩)

set_option maxHeartbeats 4000000 in
set_option maxRecDepth 100000 in
theorem m_isFirst (Mq : zM) (o : Nat → Nat) (f : Nat → Nat → Nat) (hM : MM Mq o f) (c : Nat) (sg li co : Nat → Nat) (ht : RelT f c sg li co) (hS : SafeT c sg li co) (k : Nat) (hk : k < c) : Zm 0 zm_MO_isFirst [.ref 139, .int (nI k)] Mq (fun r9 M1 => r9 = some (.int (nI (if k = 0 ∨ li (k - 1) ≠ li k then 1 else 0))) ∧ M1 = Mq) := by
  show Zw 0 zm_MO_isFirst 0 [some (.ref 139), some (.int (nI k))] [] Mq _
  have hc20 := hS.1
  have hli := hS.2.2.1
  have hco := hS.2.2.2
  have hl1 := hli k
  have hl2 := hli (k - 1)
  refine zw_n 1 rfl ?_
  refine zw_eq0N (a := k) rfl rfl (by omega) (fun c1 => ?_) (fun c1 => ?_)
  · -- 1 to 29
    refine zw_n 2 rfl ?_
    exact zw_zret rfl rfl (Or.inr rfl) (⟨by rw [if_pos (by omega)]; rfl, rfl⟩)
  · -- 1 to 4
    refine zw_n 1 rfl ?_
    refine zw_get (v := .ref 140) rfl hM.1 rfl ?_
    refine zw_n 3 rfl ?_
    refine zw_top (na (a := 550) (b := k) rfl rfl) ?_
    refine zw_iald (f := ai (f 140)) (j := (550 + k)) rfl (hM.2 140 (by decide) (by decide)) rfl (by decide) (by omega) ?_
    refine zw_top (x' := (nI (li k))) (congrArg nI (ht.2 k (by omega)).2.1) ?_
    refine zw_n 1 rfl ?_
    refine zw_get (v := .ref 140) rfl hM.1 rfl ?_
    refine zw_n 3 rfl ?_
    refine zw_top (na (a := 550) (b := k) rfl rfl) ?_
    refine zw_n 2 rfl ?_
    refine zw_top (ns (a := 550 + k) (b := 1) rfl rfl (by omega)) ?_
    refine zw_iald (f := ai (f 140)) (j := ((550 + k) - 1)) rfl (hM.2 140 (by decide) (by decide)) rfl (by decide) (by omega) ?_
    refine zw_top (x' := (nI (li (k - 1)))) (congrArg nI ((congrArg (f 140) (show 550 + k - 1 = 550 + (k - 1) by omega)).trans (ht.2 (k - 1) (by omega)).2.1)) ?_
    refine zw_ieqN (a := li k) (b := li (k - 1)) rfl rfl rfl (by omega) (by omega) (fun c26 => ?_) (fun c26 => ?_)
    · -- 26 to 33
      refine zw_n 1 rfl ?_
      exact zw_zret rfl rfl (Or.inl rfl) (⟨by rw [if_neg (by omega)]; rfl, rfl⟩)
    · -- 26 to 29
      refine zw_n 2 rfl ?_
      exact zw_zret rfl rfl (Or.inr rfl) (⟨by rw [if_pos (by omega)]; rfl, rfl⟩)

set_option maxHeartbeats 4000000 in
set_option maxRecDepth 100000 in
theorem m_inLine (Mq : zM) (o : Nat → Nat) (f : Nat → Nat → Nat) (hM : MM Mq o f) (c : Nat) (sg li co : Nat → Nat) (ht : RelT f c sg li co) (hS : SafeT c sg li co) (x : Int32) : Zm 1 zm_MO_inLine [.ref 139, .int x] Mq (fun r9 M1 => r9 = some (.int (nI (cnt (inL li x.toInt) c))) ∧ M1 = Mq) := by
  show Zw 1 zm_MO_inLine 0 [some (.ref 139), some (.int x), none, none] [] Mq _
  have hc20 := hS.1
  have hli := hS.2.2.1
  have hco := hS.2.2.2
  refine zw_n 4 (ls' := [some (.ref 139), some (.int x), some (.int 0), some (.int 0)]) rfl ?_
  have lp4 : ∀ (n4 : Nat) (a : Nat) (i : Nat), (i ≤ c ∧ a = cnt (inL li x.toInt) i) → c - i < n4 → Zw 1 zm_MO_inLine 4 [some (.ref 139), some (.int x), some (.int (nI a)), some (.int (nI i))] [] Mq (fun r9 M1 => r9 = some (.int (nI (cnt (inL li x.toInt) c))) ∧ M1 = Mq) := by
    intro n4
    induction n4 with
    | zero => intro a i _ h; exact absurd h (Nat.not_lt_zero _)
    | succ n4 ih4 =>
      intro a i hi4 hm4
      have hl1 := hli i
      refine zw_n 2 rfl ?_
      refine zw_callV (as := []) (rest := [.int (nI i)]) rfl rfl rfl hM.1 rfl rfl rfl (by decide) (m_tok1 Mq o f hM c ht.1) (fun rz1315 Mz1316 hz1317 => ?_)
      rw [hz1317.1, hz1317.2]
      show Zw 1 zm_MO_inLine 9 [some (.ref 139), some (.int x), some (.int (nI a)), some (.int (nI i))] [.int (nI c), .int (nI i)] Mq _
      refine zw_igeN (a := i) (b := c) rfl rfl rfl (by omega) (by omega) (fun c9 => ?_) (fun c9 => ?_)
      · -- 9 to 40
        refine zw_n 1 rfl ?_
        exact zw_iret rfl rfl (⟨by rw [hi4.2, show i = c by omega], rfl⟩)
      · -- 9 to 12
        refine zw_n 1 rfl ?_
        have j13 : Zw 1 zm_MO_inLine 32 [some (.ref 139), some (.int x), some (.int (nI a)), some (.int (nI i))] [.int (nI (if (li i : Int) = x.toInt then 1 else 0)), .int (nI a)] Mq (fun r9 M1 => r9 = some (.int (nI (cnt (inL li x.toInt) c))) ∧ M1 = Mq) := by
          refine zw_n 1 rfl ?_
          refine zw_top (na (a := a) (b := if (li i : Int) = x.toInt then 1 else 0) rfl rfl) ?_
          refine zw_n 1 (ls' := [some (.ref 139), some (.int x), some (.int (nI (a + (if (li i : Int) = x.toInt then 1 else 0)))), some (.int (nI i))]) rfl ?_
          refine zw_inc rfl (x' := (nI (i + 1))) (ls' := [some (.ref 139), some (.int x), some (.int (nI (a + (if (li i : Int) = x.toInt then 1 else 0)))), some (.int (nI (i + 1)))]) rfl (na (a := i) (b := 1) rfl rfl) rfl ?_
          refine zw_n 1 rfl ?_
          exact ih4 (a + (if (li i : Int) = x.toInt then 1 else 0)) (i + 1) (⟨by omega, cnt_s hi4.2 (by simp [inL])⟩) (by omega)
        refine zw_n 1 rfl ?_
        refine zw_get (v := .ref 140) rfl hM.1 rfl ?_
        refine zw_n 3 rfl ?_
        refine zw_top (na (a := 550) (b := i) rfl rfl) ?_
        refine zw_iald (f := ai (f 140)) (j := (550 + i)) rfl (hM.2 140 (by decide) (by decide)) rfl (by decide) (by omega) ?_
        refine zw_top (x' := (nI (li i))) (congrArg nI (ht.2 i (by omega)).2.1) ?_
        refine zw_n 1 rfl ?_
        refine zw_ineZ (a := ((li i : Nat) : Int)) (b := x.toInt) rfl (nI_toInt (by omega)) (rfl) (fun c24 => ?_) (fun c24 => ?_)
        · -- 24 to 31
          refine zw_n 1 rfl ?_
          refine zw_top (x' := nI (if (li i : Int) = x.toInt then 1 else 0)) (show nI 0 = nI (if (li i : Int) = x.toInt then 1 else 0) by rw [if_neg (by omega)]) ?_
          exact j13
        · -- 24 to 27
          refine zw_n 2 rfl ?_
          refine zw_top (x' := nI (if (li i : Int) = x.toInt then 1 else 0)) (show nI 1 = nI (if (li i : Int) = x.toInt then 1 else 0) by rw [if_pos (by omega)]) ?_
          exact j13
  exact lp4 _ 0 0 (⟨Nat.zero_le _, rfl⟩) (Nat.lt_succ_self _)

set_option maxHeartbeats 4000000 in
set_option maxRecDepth 100000 in
theorem m_canMove (Mq : zM) (o : Nat → Nat) (f : Nat → Nat → Nat) (hM : MM Mq o f) (c : Nat) (sg li co : Nat → Nat) (ht : RelT f c sg li co) (hS : SafeT c sg li co) (x z : Int32) (a : Nat) (ha : a ≤ c) (hz : -40 < z.toInt ∧ z.toInt < 40) : Zm 1 zm_MO_canMove [.ref 139, .int x, .int (nI a), .int z] Mq (fun r9 M1 => r9 = some (.int (nI (if stA li co x.toInt z.toInt a c = true then 1 else 0))) ∧ M1 = Mq) := by
  show Zw 1 zm_MO_canMove 0 [some (.ref 139), some (.int x), some (.int (nI a)), some (.int z), none, none] [] Mq _
  have hc20 := hS.1
  have hli := hS.2.2.1
  have hco := hS.2.2.2
  refine zw_n 4 (ls' := [some (.ref 139), some (.int x), some (.int (nI a)), some (.int z), some (.int 1), some (.int (nI a))]) rfl ?_
  have lp6 : ∀ (n6 : Nat) (s9 : Nat) (i : Nat), (a ≤ i ∧ i ≤ c ∧ s9 = (if stA li co x.toInt z.toInt a i = true then 1 else 0)) → c - i < n6 → Zw 1 zm_MO_canMove 6 [some (.ref 139), some (.int x), some (.int (nI a)), some (.int z), some (.int (nI s9)), some (.int (nI i))] [] Mq (fun r9 M1 => r9 = some (.int (nI (if stA li co x.toInt z.toInt a c = true then 1 else 0))) ∧ M1 = Mq) := by
    intro n6
    induction n6 with
    | zero => intro s9 i _ h; exact absurd h (Nat.not_lt_zero _)
    | succ n6 ih6 =>
      intro s9 i hi6 hm6
      have hl1 := hli i
      have hs1 : s9 ≤ 1 := by rw [hi6.2.2]; split <;> decide
      refine zw_n 2 rfl ?_
      refine zw_callV (as := []) (rest := [.int (nI i)]) rfl rfl rfl hM.1 rfl rfl rfl (by decide) (m_tok1 Mq o f hM c ht.1) (fun rz1318 Mz1319 hz1320 => ?_)
      rw [hz1320.1, hz1320.2]
      show Zw 1 zm_MO_canMove 12 [some (.ref 139), some (.int x), some (.int (nI a)), some (.int z), some (.int (nI s9)), some (.int (nI i))] [.int (nI c), .int (nI i)] Mq _
      refine zw_igeN (a := i) (b := c) rfl rfl rfl (by omega) (by omega) (fun c12 => ?_) (fun c12 => ?_)
      · -- 12 to 72
        refine zw_n 1 rfl ?_
        exact zw_zret rfl rfl (by rw [hi6.2.2]; exact ite_01) (⟨by rw [hi6.2.2, show i = c by omega], rfl⟩)
      · -- 12 to 15
        have j15 : Zw 1 zm_MO_canMove 64 [some (.ref 139), some (.int x), some (.int (nI a)), some (.int z), some (.int (nI s9)), some (.int (nI i))] [.int (nI (if s9 ≠ 0 ∧ ((li i : Int) = x.toInt → 0 ≤ (co i : Int) + z.toInt ∧ (co i : Int) + z.toInt < 40) then 1 else 0))] Mq (fun r9 M1 => r9 = some (.int (nI (if stA li co x.toInt z.toInt a c = true then 1 else 0))) ∧ M1 = Mq) := by
          refine zw_n 1 (ls' := [some (.ref 139), some (.int x), some (.int (nI a)), some (.int z), some (.int (nI (if s9 ≠ 0 ∧ ((li i : Int) = x.toInt → 0 ≤ (co i : Int) + z.toInt ∧ (co i : Int) + z.toInt < 40) then 1 else 0))), some (.int (nI i))]) rfl ?_
          refine zw_inc rfl (x' := (nI (i + 1))) (ls' := [some (.ref 139), some (.int x), some (.int (nI a)), some (.int z), some (.int (nI (if s9 ≠ 0 ∧ ((li i : Int) = x.toInt → 0 ≤ (co i : Int) + z.toInt ∧ (co i : Int) + z.toInt < 40) then 1 else 0))), some (.int (nI (i + 1)))]) rfl (na (a := i) (b := 1) rfl rfl) rfl ?_
          refine zw_n 1 rfl ?_
          exact ih6 (if s9 ≠ 0 ∧ ((li i : Int) = x.toInt → 0 ≤ (co i : Int) + z.toInt ∧ (co i : Int) + z.toInt < 40) then 1 else 0) (i + 1) (⟨by omega, by omega, stA_s hi6.1 hi6.2.2 Iff.rfl⟩) (by omega)
        refine zw_n 1 rfl ?_
        refine zw_eq0N (a := s9) rfl rfl (by omega) (fun c17 => ?_) (fun c17 => ?_)
        · -- 17 to 63
          refine zw_n 1 rfl ?_
          refine zw_top (x' := nI (if s9 ≠ 0 ∧ ((li i : Int) = x.toInt → 0 ≤ (co i : Int) + z.toInt ∧ (co i : Int) + z.toInt < 40) then 1 else 0)) (show nI 0 = nI (if s9 ≠ 0 ∧ ((li i : Int) = x.toInt → 0 ≤ (co i : Int) + z.toInt ∧ (co i : Int) + z.toInt < 40) then 1 else 0) by rw [if_neg (fun hq => by first | exact hq.1 c17 | (have h9 := ite_eq0 c56; exact h9 (by have h8 := hq.2 (by omega); omega)))]) ?_
          exact j15
        · -- 17 to 20
          refine zw_n 1 rfl ?_
          refine zw_get (v := .ref 140) rfl hM.1 rfl ?_
          refine zw_n 3 rfl ?_
          refine zw_top (na (a := 550) (b := i) rfl rfl) ?_
          refine zw_iald (f := ai (f 140)) (j := (550 + i)) rfl (hM.2 140 (by decide) (by decide)) rfl (by decide) (by omega) ?_
          refine zw_top (x' := (nI (li i))) (congrArg nI (ht.2 i (by omega)).2.1) ?_
          refine zw_n 1 rfl ?_
          refine zw_ineZ (a := ((li i : Nat) : Int)) (b := x.toInt) rfl (nI_toInt (by omega)) (rfl) (fun c32 => ?_) (fun c32 => ?_)
          · -- 32 to 59
            refine zw_n 2 rfl ?_
            refine zw_top (x' := nI (if s9 ≠ 0 ∧ ((li i : Int) = x.toInt → 0 ≤ (co i : Int) + z.toInt ∧ (co i : Int) + z.toInt < 40) then 1 else 0)) (show nI 1 = nI (if s9 ≠ 0 ∧ ((li i : Int) = x.toInt → 0 ≤ (co i : Int) + z.toInt ∧ (co i : Int) + z.toInt < 40) then 1 else 0) by rw [if_pos (⟨c17, fun hq => by first | (exfalso; omega) | (have h9 := ite_ne c56; omega)⟩)]) ?_
            exact j15
          · -- 32 to 35
            refine zw_n 1 rfl ?_
            refine zw_get (v := .ref 140) rfl hM.1 rfl ?_
            refine zw_n 3 rfl ?_
            refine zw_top (na (a := 570) (b := i) rfl rfl) ?_
            refine zw_iald (f := ai (f 140)) (j := (570 + i)) rfl (hM.2 140 (by decide) (by decide)) rfl (by decide) (by omega) ?_
            refine zw_top (x' := (nI (co i))) (congrArg nI (ht.2 i (by omega)).2.2) ?_
            refine zw_n 2 rfl ?_
            refine zw_n 3 rfl ?_
            refine zw_callS (as := [.long (Int32.toInt64 ((nI (co i)) + z)), .long 0, .long 39]) (rest := []) rfl rfl rfl rfl rfl rfl (by decide) (m_in Mq (Int32.toInt64 ((nI (co i)) + z)) 0 39 ((co i : Int) + z.toInt) 0 39 ((Int32.toInt_toInt64 _).trans (addI hco hz.1 hz.2)) (by decide) (by decide)) (fun rz1321 Mz1322 hz1323 => ?_)
            rw [hz1323.1, hz1323.2]
            show Zw 1 zm_MO_canMove 56 [some (.ref 139), some (.int x), some (.int (nI a)), some (.int z), some (.int (nI s9)), some (.int (nI i))] [.int (nI (if 0 ≤ (co i : Int) + z.toInt ∧ (co i : Int) + z.toInt ≤ 39 then 1 else 0))] Mq _
            refine zw_eq0N (a := if 0 ≤ (co i : Int) + z.toInt ∧ (co i : Int) + z.toInt ≤ 39 then 1 else 0) rfl rfl (ite_b) (fun c56 => ?_) (fun c56 => ?_)
            · -- 56 to 63
              refine zw_n 1 rfl ?_
              refine zw_top (x' := nI (if s9 ≠ 0 ∧ ((li i : Int) = x.toInt → 0 ≤ (co i : Int) + z.toInt ∧ (co i : Int) + z.toInt < 40) then 1 else 0)) (show nI 0 = nI (if s9 ≠ 0 ∧ ((li i : Int) = x.toInt → 0 ≤ (co i : Int) + z.toInt ∧ (co i : Int) + z.toInt < 40) then 1 else 0) by rw [if_neg (fun hq => by first | exact hq.1 c17 | (have h9 := ite_eq0 c56; exact h9 (by have h8 := hq.2 (by omega); omega)))]) ?_
              exact j15
            · -- 56 to 59
              refine zw_n 2 rfl ?_
              refine zw_top (x' := nI (if s9 ≠ 0 ∧ ((li i : Int) = x.toInt → 0 ≤ (co i : Int) + z.toInt ∧ (co i : Int) + z.toInt < 40) then 1 else 0)) (show nI 1 = nI (if s9 ≠ 0 ∧ ((li i : Int) = x.toInt → 0 ≤ (co i : Int) + z.toInt ∧ (co i : Int) + z.toInt < 40) then 1 else 0) by rw [if_pos (⟨c17, fun hq => by first | (exfalso; omega) | (have h9 := ite_ne c56; omega)⟩)]) ?_
              exact j15
  exact lp6 _ 1 a (⟨Nat.le_refl _, ha, by rw [if_pos (stA_all.mpr (fun k k1 k2 => by omega))]⟩) (Nat.lt_succ_self _)

set_option maxHeartbeats 4000000 in
set_option maxRecDepth 100000 in
theorem m_remember (Mq : zM) (o : Nat → Nat) (f : Nat → Nat → Nat) (hM : MM Mq o f) (ho : o 5 ≤ 10) : Zm 0 zm_MO_remember [.ref 139] Mq (fun r9 M1 => r9 = none ∧ ∃ U, MM M1 (up o 5 (if o 5 = 10 then 10 else o 5 + 1)) (fset f 143 U) ∧ Sm Mq M1 [139, 143] ∧ UnS (o 5) (f 143) (f 140) U) := by
  show Zw 0 zm_MO_remember 0 [some (.ref 139), none] [] Mq _
  refine zw_n 1 rfl ?_
  refine zw_get (v := .int (nI (o 5))) rfl hM.1 rfl ?_
  refine zw_n 1 rfl ?_
  refine zw_ineN (a := o 5) (b := 10) rfl rfl rfl (by omega) (by omega) (fun c6 => ?_) (fun c6 => ?_)
  · -- 6 to 53
    refine zw_n 2 (ls' := [some (.ref 139), some (.int 0)]) rfl ?_
    have lp55 : ∀ (n55 : Nat) (i : Nat) (U : Nat → Nat) (M_55 : zM), Sm Mq M_55 [139, 143] → M_55[143]? = some (.inl (0, 610, .inl (ai U))) → M_55[139]? = some (.inr (12, [.int (nI (o 0)), .ref 140, .ref 141, .ref 142, .ref 143, .int (nI (o 5)), .ref 144, .int (nI (o 7)), .int (nI (o 8)), .int (nI (o 9)), .int (nI (o 10)), .ref 145, .ref 146, .ref 147, .ref 148, .ref 149, .ref 150, .ref 151, .ref 152, .ref 153, .ref 154, .ref 155, .ref 156, .ref 157, .ref 158, .ref 159, .ref 160, .ref 161, .ref 162, .ref 163, .ref 164, .int (nI (o 31)), .ref 165, .int (nI (o 33)), .ref 166, .ref 167, .ref 168, .ref 169, .int (nI (o 38)), .ref 170, .ref 171, .ref 172, .ref 173, .ref 174, .ref 175, .int (nI (o 45)), .int (nI (o 46)), .int (nI (o 47)), .long (lN (o 48)), .ref 176])) → (i ≤ 61 ∧ ∀ q, U q = if 61 * o 5 ≤ q ∧ q < 61 * o 5 + i then f 140 (529 + (q - 61 * o 5)) else f 143 q) → 61 - i < n55 → Zw 0 zm_MO_remember 55 [some (.ref 139), some (.int (nI i))] [] M_55 (fun r9 M1 => r9 = none ∧ ∃ U, MM M1 (up o 5 (if o 5 = 10 then 10 else o 5 + 1)) (fset f 143 U) ∧ Sm Mq M1 [139, 143] ∧ UnS (o 5) (f 143) (f 140) U) := by
      intro n55
      induction n55 with
      | zero => intro i U M_55 _ _ _ _ h; exact absurd h (Nat.not_lt_zero _)
      | succ n55 ih55 =>
        intro i U M_55 s_55 f55_0 f55_1 hi55 hm55
        refine zw_n 2 rfl ?_
        refine zw_igeN (a := i) (b := 61) rfl rfl rfl (by omega) (by omega) (fun c58 => ?_) (fun c58 => ?_)
        · -- 58 to 91
          refine zw_n 2 rfl ?_
          refine zw_get (v := .int (nI (o 5))) rfl f55_1 rfl ?_
          refine zw_n 2 rfl ?_
          refine zw_top (na (a := o 5) (b := 1) rfl rfl) ?_
          refine zw_put rfl f55_1 (rfl) (Nat.le_of_ble_eq_true rfl) ?_
          generalize ez1325 : List.set M_55 139 _ = Mz1324
          exact zw_vret rfl rfl (⟨rfl, U, by rw [show (if o 5 = 10 then 10 else o 5 + 1) = (o 5) + 1 by split <;> omega]; exact (MM.of (o' := up o 5 ((o 5) + 1)) (f' := fset f 143 U) hM (Sm.tset s_55 ez1325 (by decide)) (zat_self ez1325 f55_1) (c1_skip (c1_cons (zat_set ez1325 (by decide) f55_0) c1_nil)) (fs_k (fs_c fs_n))), Sm.tset s_55 ez1325 (by decide), fun q => by rw [hi55.2 q]; exact un_fin2 c6 (by omega)⟩)
        · -- 58 to 61
          refine zw_n 1 rfl ?_
          refine zw_get (v := .ref 143) rfl f55_1 rfl ?_
          refine zw_n 2 rfl ?_
          refine zw_get (v := .int (nI (o 5))) rfl f55_1 rfl ?_
          refine zw_n 1 rfl ?_
          refine zw_top (nm (a := 61) (b := o 5) rfl rfl) ?_
          refine zw_n 2 rfl ?_
          refine zw_top (na (a := 61 * (o 5)) (b := i) rfl rfl) ?_
          refine zw_n 1 rfl ?_
          refine zw_get (v := .ref 140) rfl f55_1 rfl ?_
          refine zw_n 3 rfl ?_
          refine zw_top (na (a := 529) (b := i) rfl rfl) ?_
          refine zw_iald (f := ai (f 140)) (j := (529 + i)) rfl (Sm.at s_55 (by decide) (hM.2 140 (by decide) (by decide))) rfl (by decide) (by omega) ?_
          refine zw_iastN (g := U) (j := ((61 * (o 5)) + i)) (v := ((f 140) (529 + i))) rfl f55_0 rfl (by decide) (by omega) (rfl) ?_
          generalize ez1327 : List.set M_55 143 _ = Mz1326
          refine zw_inc rfl (x' := (nI (i + 1))) (ls' := [some (.ref 139), some (.int (nI (i + 1)))]) rfl (na (a := i) (b := 1) rfl rfl) rfl ?_
          refine zw_n 1 rfl ?_
          exact ih55 (i + 1) (up U ((61 * (o 5)) + i) ((f 140) (529 + i))) Mz1326 (Sm.tset s_55 ez1327 (by decide)) (zat_self ez1327 f55_0) (zat_set ez1327 (by decide) f55_1) (⟨by omega, fun q => by exact un_up hi55.2 (by omega) q⟩) (by omega)
    exact lp55 _ 0 (f 143) Mq Sm.rf (hM.2 143 (by decide) (by decide)) hM.1 (⟨Nat.zero_le _, fun q => by rw [if_neg (by omega)]⟩) (Nat.lt_succ_self _)
  · -- 6 to 9
    refine zw_n 2 rfl ?_
    refine zw_get (v := .int (nI (o 5))) rfl hM.1 rfl ?_
    refine zw_n 2 rfl ?_
    refine zw_top (ns (a := o 5) (b := 1) rfl rfl (by omega)) ?_
    refine zw_put rfl hM.1 (rfl) (Nat.le_of_ble_eq_true rfl) ?_
    generalize ez1329 : List.set Mq 139 _ = Mz1328
    refine zw_n 2 (ls' := [some (.ref 139), some (.int 0)]) rfl ?_
    have mz1330 : Mz1328[140]? = some (.inl (0, 590, .inl (ai (f 140)))) := zat_set ez1329 (by decide) (hM.2 140 (by decide) (by decide))
    have mz1331 : Mz1328[143]? = some (.inl (0, 610, .inl (ai (f 143)))) := zat_set ez1329 (by decide) (hM.2 143 (by decide) (by decide))
    have lp21 : ∀ (n21 : Nat) (j : Nat) (V : Nat → Nat) (M_21 : zM), Sm Mq M_21 [139, 143] → M_21[143]? = some (.inl (0, 610, .inl (ai V))) → M_21[139]? = some (.inr (12, [.int (nI (o 0)), .ref 140, .ref 141, .ref 142, .ref 143, .int (nI ((o 5) - 1)), .ref 144, .int (nI (o 7)), .int (nI (o 8)), .int (nI (o 9)), .int (nI (o 10)), .ref 145, .ref 146, .ref 147, .ref 148, .ref 149, .ref 150, .ref 151, .ref 152, .ref 153, .ref 154, .ref 155, .ref 156, .ref 157, .ref 158, .ref 159, .ref 160, .ref 161, .ref 162, .ref 163, .ref 164, .int (nI (o 31)), .ref 165, .int (nI (o 33)), .ref 166, .ref 167, .ref 168, .ref 169, .int (nI (o 38)), .ref 170, .ref 171, .ref 172, .ref 173, .ref 174, .ref 175, .int (nI (o 45)), .int (nI (o 46)), .int (nI (o 47)), .long (lN (o 48)), .ref 176])) → (j ≤ 549 ∧ ∀ q, V q = if q < j then f 143 (q + 61) else f 143 q) → 549 - j < n21 → Zw 0 zm_MO_remember 21 [some (.ref 139), some (.int (nI j))] [] M_21 (fun r9 M1 => r9 = none ∧ ∃ U, MM M1 (up o 5 (if o 5 = 10 then 10 else o 5 + 1)) (fset f 143 U) ∧ Sm Mq M1 [139, 143] ∧ UnS (o 5) (f 143) (f 140) U) := by
      intro n21
      induction n21 with
      | zero => intro j V M_21 _ _ _ _ h; exact absurd h (Nat.not_lt_zero _)
      | succ n21 ih21 =>
        intro j V M_21 s_21 f21_0 f21_1 hi21 hm21
        refine zw_n 3 rfl ?_
        refine zw_get (v := .int (nI ((o 5) - 1))) rfl f21_1 rfl ?_
        refine zw_n 1 rfl ?_
        refine zw_top (nm (a := 61) (b := (o 5) - 1) rfl rfl) ?_
        refine zw_igeN (a := j) (b := 61 * ((o 5) - 1)) rfl rfl rfl (by omega) (by omega) (fun c29 => ?_) (fun c29 => ?_)
        · -- 29 to 53
          refine zw_n 2 (ls' := [some (.ref 139), some (.int 0)]) rfl ?_
          have lp55 : ∀ (n55 : Nat) (i : Nat) (U : Nat → Nat) (M_55 : zM), Sm Mq M_55 [139, 143] → M_55[143]? = some (.inl (0, 610, .inl (ai U))) → M_55[139]? = some (.inr (12, [.int (nI (o 0)), .ref 140, .ref 141, .ref 142, .ref 143, .int (nI ((o 5) - 1)), .ref 144, .int (nI (o 7)), .int (nI (o 8)), .int (nI (o 9)), .int (nI (o 10)), .ref 145, .ref 146, .ref 147, .ref 148, .ref 149, .ref 150, .ref 151, .ref 152, .ref 153, .ref 154, .ref 155, .ref 156, .ref 157, .ref 158, .ref 159, .ref 160, .ref 161, .ref 162, .ref 163, .ref 164, .int (nI (o 31)), .ref 165, .int (nI (o 33)), .ref 166, .ref 167, .ref 168, .ref 169, .int (nI (o 38)), .ref 170, .ref 171, .ref 172, .ref 173, .ref 174, .ref 175, .int (nI (o 45)), .int (nI (o 46)), .int (nI (o 47)), .long (lN (o 48)), .ref 176])) → (i ≤ 61 ∧ ∀ q, U q = if 549 ≤ q ∧ q < 549 + i then f 140 (529 + (q - 549)) else (if q < 549 then f 143 (q + 61) else f 143 q)) → 61 - i < n55 → Zw 0 zm_MO_remember 55 [some (.ref 139), some (.int (nI i))] [] M_55 (fun r9 M1 => r9 = none ∧ ∃ U, MM M1 (up o 5 (if o 5 = 10 then 10 else o 5 + 1)) (fset f 143 U) ∧ Sm Mq M1 [139, 143] ∧ UnS (o 5) (f 143) (f 140) U) := by
            intro n55
            induction n55 with
            | zero => intro i U M_55 _ _ _ _ h; exact absurd h (Nat.not_lt_zero _)
            | succ n55 ih55 =>
              intro i U M_55 s_55 f55_0 f55_1 hi55 hm55
              refine zw_n 2 rfl ?_
              refine zw_igeN (a := i) (b := 61) rfl rfl rfl (by omega) (by omega) (fun c58 => ?_) (fun c58 => ?_)
              · -- 58 to 91
                refine zw_n 2 rfl ?_
                refine zw_get (v := .int (nI ((o 5) - 1))) rfl f55_1 rfl ?_
                refine zw_n 2 rfl ?_
                refine zw_top (na (a := (o 5) - 1) (b := 1) rfl rfl) ?_
                refine zw_put rfl f55_1 (rfl) (Nat.le_of_ble_eq_true rfl) ?_
                generalize ez1333 : List.set M_55 139 _ = Mz1332
                exact zw_vret rfl rfl (⟨rfl, U, by rw [show (if o 5 = 10 then 10 else o 5 + 1) = ((o 5) - 1) + 1 by split <;> omega]; exact (MM.of (o' := up o 5 (((o 5) - 1) + 1)) (f' := fset f 143 U) hM (Sm.tset s_55 ez1333 (by decide)) (zat_self ez1333 f55_1) (c1_skip (c1_cons (zat_set ez1333 (by decide) f55_0) c1_nil)) (fs_k (fs_c fs_n))), Sm.tset s_55 ez1333 (by decide), fun q => by rw [hi55.2 q]; exact un_fin1 c6 (by omega)⟩)
              · -- 58 to 61
                refine zw_n 1 rfl ?_
                refine zw_get (v := .ref 143) rfl f55_1 rfl ?_
                refine zw_n 2 rfl ?_
                refine zw_get (v := .int (nI ((o 5) - 1))) rfl f55_1 rfl ?_
                refine zw_n 1 rfl ?_
                refine zw_top (nm (a := 61) (b := (o 5) - 1) rfl rfl) ?_
                refine zw_n 2 rfl ?_
                refine zw_top (na (a := 61 * ((o 5) - 1)) (b := i) rfl rfl) ?_
                refine zw_n 1 rfl ?_
                refine zw_get (v := .ref 140) rfl f55_1 rfl ?_
                refine zw_n 3 rfl ?_
                refine zw_top (na (a := 529) (b := i) rfl rfl) ?_
                refine zw_iald (f := ai (f 140)) (j := (529 + i)) rfl (Sm.at s_55 (by decide) (hM.2 140 (by decide) (by decide))) rfl (by decide) (by omega) ?_
                refine zw_iastN (g := U) (j := ((61 * ((o 5) - 1)) + i)) (v := ((f 140) (529 + i))) rfl f55_0 rfl (by decide) (by omega) (rfl) ?_
                generalize ez1335 : List.set M_55 143 _ = Mz1334
                refine zw_inc rfl (x' := (nI (i + 1))) (ls' := [some (.ref 139), some (.int (nI (i + 1)))]) rfl (na (a := i) (b := 1) rfl rfl) rfl ?_
                refine zw_n 1 rfl ?_
                exact ih55 (i + 1) (up U ((61 * ((o 5) - 1)) + i) ((f 140) (529 + i))) Mz1334 (Sm.tset s_55 ez1335 (by decide)) (zat_self ez1335 f55_0) (zat_set ez1335 (by decide) f55_1) (⟨by omega, fun q => by rw [show 61 * (o 5 - 1) = 549 by omega]; exact un_up hi55.2 (by omega) q⟩) (by omega)
          exact lp55 _ 0 V M_21 s_21 f21_0 f21_1 (⟨Nat.zero_le _, fun q => by rw [if_neg (by omega)]; rw [hi21.2 q, show j = 549 by omega]⟩) (Nat.lt_succ_self _)
        · -- 29 to 32
          refine zw_n 1 rfl ?_
          refine zw_get (v := .ref 143) rfl f21_1 rfl ?_
          refine zw_n 2 rfl ?_
          refine zw_get (v := .ref 143) rfl f21_1 rfl ?_
          refine zw_n 3 rfl ?_
          refine zw_top (na (a := j) (b := 61) rfl rfl) ?_
          refine zw_iald (f := ai V) (j := (j + 61)) rfl f21_0 rfl (by decide) (by omega) ?_
          refine zw_iastN (g := V) (j := j) (v := (V (j + 61))) rfl f21_0 rfl (by decide) (by omega) (rfl) ?_
          generalize ez1337 : List.set M_21 143 _ = Mz1336
          refine zw_inc rfl (x' := (nI (j + 1))) (ls' := [some (.ref 139), some (.int (nI (j + 1)))]) rfl (na (a := j) (b := 1) rfl rfl) rfl ?_
          refine zw_n 1 rfl ?_
          exact ih21 (j + 1) (up V j (V (j + 61))) Mz1336 (Sm.tset s_21 ez1337 (by decide)) (zat_self ez1337 f21_0) (zat_set ez1337 (by decide) f21_1) (⟨by omega, fun q => un_sh hi21.2 q⟩) (by omega)
    exact lp21 _ 0 (f 143) Mz1328 (Sm.tset Sm.rf ez1329 (by decide)) mz1331 (zat_self ez1329 hM.1) (⟨Nat.zero_le _, fun q => by rw [if_neg (by omega)]⟩) (Nat.lt_succ_self _)

set_option maxHeartbeats 4000000 in
set_option maxRecDepth 100000 in
theorem m_moveNo (Mq : zM) (o : Nat → Nat) (f : Nat → Nat → Nat) (hM : MM Mq o f) (c : Nat) (sg li co : Nat → Nat) (ht : RelT f c sg li co) (hS : SafeT c sg li co) (x z : Int32) (hx : ¬ mvA c li co x.toInt z.toInt < 2147483648) : Zm 2 zm_MO_move [.ref 139, .int x, .int z] Mq (fun r9 M1 => r9 = some (.int (nI (mvA c li co x.toInt z.toInt))) ∧ MM M1 (up o 0 0) f ∧ Sm Mq M1 [139]) := by
  show Zw 2 zm_MO_move 0 [some (.ref 139), some (.int x), some (.int z), none, none] [] Mq _
  have hc20 := hS.1
  have hli := hS.2.2.1
  have hco := hS.2.2.2
  have hcl := cnt_le (inL li x.toInt) c
  refine zw_n 2 rfl ?_
  refine zw_put rfl hM.1 (rfl) (Nat.le_of_ble_eq_true rfl) ?_
  generalize ez1339 : List.set Mq 139 _ = Mz1338
  refine zw_n 4 rfl ?_
  refine zw_callS (as := [.long (Int32.toInt64 z), .long (-39), .long 39]) (rest := []) rfl rfl rfl rfl rfl rfl (by decide) (m_in Mz1338 (Int32.toInt64 z) (-39) 39 z.toInt (-39) 39 (Int32.toInt_toInt64 _) (by decide) (by decide)) (fun rz1340 Mz1341 hz1342 => ?_)
  rw [hz1342.1, hz1342.2]
  show Zw 2 zm_MO_move 16 [some (.ref 139), some (.int x), some (.int z), none, none] [.int (nI (if (-39) ≤ z.toInt ∧ z.toInt ≤ 39 then 1 else 0))] Mz1338 _
  refine zw_ne0N (a := if (-39) ≤ z.toInt ∧ z.toInt ≤ 39 then 1 else 0) rfl rfl (ite_b) (fun c16 => ?_) (fun c16 => ?_)
  · -- 16 to 21
    have hz := ite_ne c16
    refine zw_n 2 rfl ?_
    refine zw_callV (as := [.int x]) (rest := []) rfl rfl rfl (zat_self ez1339 hM.1) rfl rfl rfl (by decide) (m_inLine Mz1338 (up o 0 0) f (MM.of (o' := up o 0 0) (f' := f) hM (Sm.tset Sm.rf ez1339 (by decide)) (zat_self ez1339 hM.1) (c1_skip c1_nil) (fs_k fs_n)) c sg li co ht hS x) (fun rz1343 Mz1344 hz1345 => ?_)
    rw [hz1345.1, hz1345.2]
    show Zw 2 zm_MO_move 26 [some (.ref 139), some (.int x), some (.int z), none, none] [.int (nI (cnt (inL li x.toInt) c))] Mz1338 _
    refine zw_n 2 (ls' := [some (.ref 139), some (.int x), some (.int z), some (.int (nI (cnt (inL li x.toInt) c))), none]) rfl ?_
    refine zw_ne0N (a := cnt (inL li x.toInt) c) rfl rfl (by omega) (fun c28 => ?_) (fun c28 => ?_)
    · -- 28 to 34
      refine zw_n 4 rfl ?_
      refine zw_callV (as := [.int x, .int 0, .int z]) (rest := []) rfl rfl rfl (zat_self ez1339 hM.1) rfl rfl rfl (by decide) (m_canMove Mz1338 (up o 0 0) f (MM.of (o' := up o 0 0) (f' := f) hM (Sm.tset Sm.rf ez1339 (by decide)) (zat_self ez1339 hM.1) (c1_skip c1_nil) (fs_k fs_n)) c sg li co ht hS x z 0 (by omega) (by omega)) (fun rz1346 Mz1347 hz1348 => ?_)
      rw [hz1348.1, hz1348.2]
      show Zw 2 zm_MO_move 41 [some (.ref 139), some (.int x), some (.int z), some (.int (nI (cnt (inL li x.toInt) c))), none] [.int (nI (if stA li co x.toInt z.toInt 0 c = true then 1 else 0))] Mz1338 _
      refine zw_ne0N (a := if stA li co x.toInt z.toInt 0 c = true then 1 else 0) rfl rfl (ite_b) (fun c41 => ?_) (fun c41 => ?_)
      · -- 41 to 47
        exfalso
        apply hx; unfold mvA; rw [if_neg (by omega), if_neg c28, if_neg (by rw [← stA_0, ite_ne c41]; decide)]; omega
      · -- 41 to 44
        have hq9 : mvA c li co x.toInt z.toInt = 4294967293 := by unfold mvA; rw [if_neg (by omega), if_neg c28, if_pos (by rw [← stA_0]; exact Bool.eq_false_iff.mpr (ite_eq0 c41))]
        refine zw_n 1 rfl ?_
        exact zw_iret rfl rfl (⟨by rw [hq9]; rfl, (MM.of (o' := up o 0 0) (f' := f) hM (Sm.tset Sm.rf ez1339 (by decide)) (zat_self ez1339 hM.1) (c1_skip c1_nil) (fs_k fs_n)), Sm.tset Sm.rf ez1339 (by decide)⟩)
    · -- 28 to 31
      have hq9 : mvA c li co x.toInt z.toInt = 4294967294 := by unfold mvA; rw [if_neg (by omega), if_pos c28]
      refine zw_n 1 rfl ?_
      exact zw_iret rfl rfl (⟨by rw [hq9]; rfl, (MM.of (o' := up o 0 0) (f' := f) hM (Sm.tset Sm.rf ez1339 (by decide)) (zat_self ez1339 hM.1) (c1_skip c1_nil) (fs_k fs_n)), Sm.tset Sm.rf ez1339 (by decide)⟩)
  · -- 16 to 19
    have hq9 : mvA c li co x.toInt z.toInt = 4294967295 := by unfold mvA; rw [if_pos (by have := ite_eq0 c16; omega)]
    refine zw_n 1 rfl ?_
    exact zw_iret rfl rfl (⟨by rw [hq9]; rfl, (MM.of (o' := up o 0 0) (f' := f) hM (Sm.tset Sm.rf ez1339 (by decide)) (zat_self ez1339 hM.1) (c1_skip c1_nil) (fs_k fs_n)), Sm.tset Sm.rf ez1339 (by decide)⟩)

set_option maxHeartbeats 4000000 in
set_option maxRecDepth 100000 in
theorem m_moveOk (Mq : zM) (o : Nat → Nat) (f : Nat → Nat → Nat) (hM : MM Mq o f) (c : Nat) (sg li co : Nat → Nat) (ht : RelT f c sg li co) (hS : SafeT c sg li co) (ho : o 5 ≤ 10) (hq0 : ∀ q, f 140 q < 2147483648) (x z : Int32) (hx : mvA c li co x.toInt z.toInt < 2147483648) : Zm 2 zm_MO_move [.ref 139, .int x, .int z] Mq (fun r9 M1 => r9 = some (.int (nI (mvA c li co x.toInt z.toInt))) ∧ ∃ R U, MM M1 (up (up o 0 0) 5 (if o 5 = 10 then 10 else o 5 + 1)) (fset (fset f 143 U) 140 R) ∧ Sm Mq M1 [139, 140, 143] ∧ UnS (o 5) (f 143) (f 140) U ∧ (∀ q, q < 529 → R q = f 140 q) ∧ (∀ q, R q < 2147483648) ∧ RelT (fset f 140 R) c sg li (mvC li co x.toInt z.toInt)) := by
  show Zw 2 zm_MO_move 0 [some (.ref 139), some (.int x), some (.int z), none, none] [] Mq _
  have hc20 := hS.1
  have hli := hS.2.2.1
  have hco := hS.2.2.2
  obtain ⟨hz, hcn, hst, hma⟩ := mvA_ok hx
  have hcl := cnt_le (inL li x.toInt) c
  refine zw_n 2 rfl ?_
  refine zw_put rfl hM.1 (rfl) (Nat.le_of_ble_eq_true rfl) ?_
  generalize ez1350 : List.set Mq 139 _ = Mz1349
  refine zw_n 4 rfl ?_
  refine zw_callS (as := [.long (Int32.toInt64 z), .long (-39), .long 39]) (rest := []) rfl rfl rfl rfl rfl rfl (by decide) (m_in Mz1349 (Int32.toInt64 z) (-39) 39 z.toInt (-39) 39 (Int32.toInt_toInt64 _) (by decide) (by decide)) (fun rz1351 Mz1352 hz1353 => ?_)
  rw [hz1353.1, hz1353.2]
  show Zw 2 zm_MO_move 16 [some (.ref 139), some (.int x), some (.int z), none, none] [.int (nI (if (-39) ≤ z.toInt ∧ z.toInt ≤ 39 then 1 else 0))] Mz1349 _
  refine zw_ne0N (a := if (-39) ≤ z.toInt ∧ z.toInt ≤ 39 then 1 else 0) rfl rfl (ite_b) (fun c16 => ?_) (fun c16 => ?_)
  · -- 16 to 21
    refine zw_n 2 rfl ?_
    refine zw_callV (as := [.int x]) (rest := []) rfl rfl rfl (zat_self ez1350 hM.1) rfl rfl rfl (by decide) (m_inLine Mz1349 (up o 0 0) f (MM.of (o' := up o 0 0) (f' := f) hM (Sm.tset Sm.rf ez1350 (by decide)) (zat_self ez1350 hM.1) (c1_skip (c1_cons (zat_set ez1350 (by decide) (hM.2 140 (by decide) (by decide))) (c1_cons (zat_set ez1350 (by decide) (hM.2 143 (by decide) (by decide))) c1_nil))) (fs_k (fs_k (fs_k fs_n)))) c sg li co ht hS x) (fun rz1354 Mz1355 hz1356 => ?_)
    rw [hz1356.1, hz1356.2]
    show Zw 2 zm_MO_move 26 [some (.ref 139), some (.int x), some (.int z), none, none] [.int (nI (cnt (inL li x.toInt) c))] Mz1349 _
    refine zw_n 2 (ls' := [some (.ref 139), some (.int x), some (.int z), some (.int (nI (cnt (inL li x.toInt) c))), none]) rfl ?_
    refine zw_ne0N (a := cnt (inL li x.toInt) c) rfl rfl (by omega) (fun c28 => ?_) (fun c28 => ?_)
    · -- 28 to 34
      refine zw_n 4 rfl ?_
      refine zw_callV (as := [.int x, .int 0, .int z]) (rest := []) rfl rfl rfl (zat_self ez1350 hM.1) rfl rfl rfl (by decide) (m_canMove Mz1349 (up o 0 0) f (MM.of (o' := up o 0 0) (f' := f) hM (Sm.tset Sm.rf ez1350 (by decide)) (zat_self ez1350 hM.1) (c1_skip (c1_cons (zat_set ez1350 (by decide) (hM.2 140 (by decide) (by decide))) (c1_cons (zat_set ez1350 (by decide) (hM.2 143 (by decide) (by decide))) c1_nil))) (fs_k (fs_k (fs_k fs_n)))) c sg li co ht hS x z 0 (by omega) (by omega)) (fun rz1357 Mz1358 hz1359 => ?_)
      rw [hz1359.1, hz1359.2]
      show Zw 2 zm_MO_move 41 [some (.ref 139), some (.int x), some (.int z), some (.int (nI (cnt (inL li x.toInt) c))), none] [.int (nI (if stA li co x.toInt z.toInt 0 c = true then 1 else 0))] Mz1349 _
      refine zw_ne0N (a := if stA li co x.toInt z.toInt 0 c = true then 1 else 0) rfl rfl (ite_b) (fun c41 => ?_) (fun c41 => ?_)
      · -- 41 to 47
        refine zw_n 1 rfl ?_
        refine zw_callV (as := []) (rest := []) rfl rfl rfl (zat_self ez1350 hM.1) rfl rfl rfl (by decide) (m_remember Mz1349 (up o 0 0) f (MM.of (o' := up o 0 0) (f' := f) hM (Sm.tset Sm.rf ez1350 (by decide)) (zat_self ez1350 hM.1) (c1_skip (c1_cons (zat_set ez1350 (by decide) (hM.2 140 (by decide) (by decide))) (c1_cons (zat_set ez1350 (by decide) (hM.2 143 (by decide) (by decide))) c1_nil))) (fs_k (fs_k (fs_k fs_n)))) (by first | exact ho | omega)) (fun rz1365 Mz1366 hz1367 => ?_)
        obtain ⟨hAz1360, Uz1361, hMMz1362, hSz1363, hUz1364⟩ := hz1367
        rw [hAz1360]
        show Zw 2 zm_MO_move 51 [some (.ref 139), some (.int x), some (.int z), some (.int (nI (cnt (inL li x.toInt) c))), none] [] Mz1366 _
        refine zw_n 2 (ls' := [some (.ref 139), some (.int x), some (.int z), some (.int (nI (cnt (inL li x.toInt) c))), some (.int 0)]) rfl ?_
        have mz1368 : Mz1366[140]? = some (.inl (0, 590, .inl (ai (f 140)))) := Sm.at hSz1363 (by decide) (zat_set ez1350 (by decide) (hM.2 140 (by decide) (by decide)))
        have lp54 : ∀ (n54 : Nat) (j : Nat) (R : Nat → Nat) (M_54 : zM), Sm Mq M_54 [139, 140, 143] → M_54[140]? = some (.inl (0, 590, .inl (ai R))) → M_54[139]? = some (.inr (12, [.int 0, .ref 140, .ref 141, .ref 142, .ref 143, .int (nI (if o 5 = 10 then 10 else o 5 + 1)), .ref 144, .int (nI (o 7)), .int (nI (o 8)), .int (nI (o 9)), .int (nI (o 10)), .ref 145, .ref 146, .ref 147, .ref 148, .ref 149, .ref 150, .ref 151, .ref 152, .ref 153, .ref 154, .ref 155, .ref 156, .ref 157, .ref 158, .ref 159, .ref 160, .ref 161, .ref 162, .ref 163, .ref 164, .int (nI (o 31)), .ref 165, .int (nI (o 33)), .ref 166, .ref 167, .ref 168, .ref 169, .int (nI (o 38)), .ref 170, .ref 171, .ref 172, .ref 173, .ref 174, .ref 175, .int (nI (o 45)), .int (nI (o 46)), .int (nI (o 47)), .long (lN (o 48)), .ref 176])) → M_54[143]? = some (.inl (0, 610, .inl (ai Uz1361))) → (j ≤ c ∧ R = mvR (f 140) li co x.toInt z.toInt j) → c - j < n54 → Zw 2 zm_MO_move 54 [some (.ref 139), some (.int x), some (.int z), some (.int (nI (cnt (inL li x.toInt) c))), some (.int (nI j))] [] M_54 (fun r9 M1 => r9 = some (.int (nI (mvA c li co x.toInt z.toInt))) ∧ ∃ R U, MM M1 (up (up o 0 0) 5 (if o 5 = 10 then 10 else o 5 + 1)) (fset (fset f 143 U) 140 R) ∧ Sm Mq M1 [139, 140, 143] ∧ UnS (o 5) (f 143) (f 140) U ∧ (∀ q, q < 529 → R q = f 140 q) ∧ (∀ q, R q < 2147483648) ∧ RelT (fset f 140 R) c sg li (mvC li co x.toInt z.toInt)) := by
          intro n54
          induction n54 with
          | zero => intro j R M_54 _ _ _ _ _ h; exact absurd h (Nat.not_lt_zero _)
          | succ n54 ih54 =>
            intro j R M_54 s_54 f54_0 f54_1 f54_2 hi54 hm54
            obtain ⟨hj9, hR⟩ := hi54
            have hl1 := hli j
            refine zw_n 2 rfl ?_
            refine zw_callV (as := []) (rest := [.int (nI j)]) rfl rfl rfl f54_1 rfl rfl rfl (by decide) (m_tok1 M_54 (up (up o 0 0) 5 (if o 5 = 10 then 10 else o 5 + 1)) (fset (fset f 143 Uz1361) 140 R) (MM.of (o' := up (up o 0 0) 5 (if o 5 = 10 then 10 else o 5 + 1)) (f' := fset (fset f 143 Uz1361) 140 R) hM s_54 f54_1 (c1_skip (c1_cons f54_0 (c1_cons f54_2 c1_nil))) (fs_k (fs_c (fs_c fs_n)))) c ((congrFun hR _).trans ((mvR_o (by omega)).trans ht.1))) (fun rz1369 Mz1370 hz1371 => ?_)
            rw [hz1371.1, hz1371.2]
            show Zw 2 zm_MO_move 60 [some (.ref 139), some (.int x), some (.int z), some (.int (nI (cnt (inL li x.toInt) c))), some (.int (nI j))] [.int (nI c), .int (nI j)] M_54 _
            refine zw_igeN (a := j) (b := c) rfl rfl rfl (by omega) (by omega) (fun c60 => ?_) (fun c60 => ?_)
            · -- 60 to 103
              refine zw_n 1 rfl ?_
              exact zw_iret rfl rfl (⟨by rw [hma], _, _, (MM.of (o' := up (up o 0 0) 5 (if o 5 = 10 then 10 else o 5 + 1)) (f' := fset (fset f 143 Uz1361) 140 R) hM s_54 f54_1 (c1_skip (c1_cons f54_0 (c1_cons f54_2 c1_nil))) (fs_k (fs_c (fs_c fs_n)))), s_54, hUz1364, fun q hq => (congrFun hR _).trans (mvR_o (by omega)), fun q => by rw [hR]; exact mvR_lt hq0 (fun q hq => Nat.lt_trans (mvC_lt hst hco (show q < c by omega)) (by decide)) q, ⟨(congrFun hR _).trans ((mvR_o (by omega)).trans ht.1), fun k hk => ⟨(congrFun hR _).trans ((mvR_o (by omega)).trans (ht.2 k hk).1), (congrFun hR _).trans ((mvR_o (by omega)).trans (ht.2 k hk).2.1), (congrFun hR _).trans (mvR_i (by omega))⟩⟩⟩)
            · -- 60 to 63
              refine zw_n 1 rfl ?_
              refine zw_get (v := .ref 140) rfl f54_1 rfl ?_
              refine zw_n 3 rfl ?_
              refine zw_top (na (a := 570) (b := j) rfl rfl) ?_
              refine zw_n 1 rfl ?_
              refine zw_iald (f := ai R) (j := (570 + j)) rfl f54_0 rfl (by decide) (by omega) ?_
              refine zw_top (x' := (nI (co j))) (congrArg nI ((congrFun hR _).trans ((mvR_o (by omega)).trans (ht.2 j (by omega)).2.2))) ?_
              have j75 : Zw 2 zm_MO_move 95 [some (.ref 139), some (.int x), some (.int z), some (.int (nI (cnt (inL li x.toInt) c))), some (.int (nI j))] [.int (if (li j : Int) = x.toInt then z else 0), .int (nI (co j)), .int (nI (570 + j)), .ref 140] M_54 (fun r9 M1 => r9 = some (.int (nI (mvA c li co x.toInt z.toInt))) ∧ ∃ R U, MM M1 (up (up o 0 0) 5 (if o 5 = 10 then 10 else o 5 + 1)) (fset (fset f 143 U) 140 R) ∧ Sm Mq M1 [139, 140, 143] ∧ UnS (o 5) (f 143) (f 140) U ∧ (∀ q, q < 529 → R q = f 140 q) ∧ (∀ q, R q < 2147483648) ∧ RelT (fset f 140 R) c sg li (mvC li co x.toInt z.toInt)) := by
                refine zw_n 1 rfl ?_
                refine zw_iastN (g := R) (j := (570 + j)) (v := (mvC li co x.toInt z.toInt j)) rfl f54_0 rfl (by decide) (by omega) (mv_st hst (by omega) hco (by omega)) ?_
                generalize ez1373 : List.set M_54 140 _ = Mz1372
                refine zw_inc rfl (x' := (nI (j + 1))) (ls' := [some (.ref 139), some (.int x), some (.int z), some (.int (nI (cnt (inL li x.toInt) c))), some (.int (nI (j + 1)))]) rfl (na (a := j) (b := 1) rfl rfl) rfl ?_
                refine zw_n 1 rfl ?_
                exact ih54 (j + 1) (up R (570 + j) (mvC li co x.toInt z.toInt j)) Mz1372 (Sm.tset s_54 ez1373 (by decide)) (zat_self ez1373 f54_0) (zat_set ez1373 (by decide) f54_1) (zat_set ez1373 (by decide) f54_2) (⟨by omega, by rw [hR]; exact mvR_s⟩) (by omega)
              refine zw_n 1 rfl ?_
              refine zw_get (v := .ref 140) rfl f54_1 rfl ?_
              refine zw_n 3 rfl ?_
              refine zw_top (na (a := 550) (b := j) rfl rfl) ?_
              refine zw_iald (f := ai R) (j := (550 + j)) rfl f54_0 rfl (by decide) (by omega) ?_
              refine zw_top (x' := (nI (li j))) (congrArg nI ((congrFun hR _).trans ((mvR_o (by omega)).trans (ht.2 j (by omega)).2.1))) ?_
              refine zw_n 1 rfl ?_
              refine zw_ineZ (a := ((li j : Nat) : Int)) (b := x.toInt) rfl (nI_toInt (by omega)) (rfl) (fun c87 => ?_) (fun c87 => ?_)
              · -- 87 to 94
                refine zw_n 1 rfl ?_
                refine zw_top (x' := (if (li j : Int) = x.toInt then z else 0)) (show (0 : Int32) = (if (li j : Int) = x.toInt then z else 0) by rw [if_neg (by omega)]) ?_
                exact j75
              · -- 87 to 90
                refine zw_n 2 rfl ?_
                refine zw_top (x' := (if (li j : Int) = x.toInt then z else 0)) (show (z : Int32) = (if (li j : Int) = x.toInt then z else 0) by rw [if_pos (by omega)]) ?_
                exact j75
        exact lp54 _ 0 (f 140) Mz1366 (Sm.tw (Sm.tset Sm.rf ez1350 (by decide)) hSz1363 (by decide)) mz1368 hMMz1362.1 (hMMz1362.2 143 (by decide) (by decide)) (⟨Nat.zero_le _, (mvR_0 ..).symm⟩) (Nat.lt_succ_self _)
      · -- 41 to 44
        exfalso
        exact ite_eq0 c41 (by rw [stA_0]; exact hst)
    · -- 28 to 31
      exfalso
      exact hcn c28
  · -- 16 to 19
    exfalso
    exact ite_eq0 c16 (by omega)
