set_option maxHeartbeats 4000000 in
set_option maxRecDepth 100000 in
theorem c_isNode (Mq : zM) (k : Nat) (sz wt : Nat) (T V Rc En Su : Nat → Nat) (hZ : Seg Mq (k + 3) (treL k sz wt T V Rc En Su)) (hsz : sz < 2147483648) (x : Int32) : Zm 0 zm_Tree_isNode [.ref (k + 3), .int x] Mq (fun r9 M1 => r9 = some (.int (nI (if 0 ≤ x.toInt ∧ x.toInt < sz then 1 else 0))) ∧ M1 = Mq) := by
  show Zw 0 zm_Tree_isNode 0 [some (.ref (k + 3)), some (.int x)] [] Mq _
  refine zw_n 1 rfl ?_
  refine zw_lt0Z (a := x.toInt) rfl (rfl) (fun c1 => ?_) (fun c1 => ?_)
  · -- 1 to 16
    refine zw_n 1 rfl ?_
    exact zw_zret rfl rfl (Or.inl rfl) (⟨by rw [if_neg (by omega)]; rfl, rfl⟩)
  · -- 1 to 4
    refine zw_n 2 rfl ?_
    refine zw_get (v := .int (nI sz)) rfl (hZ.get 0 rfl) rfl ?_
    refine zw_igeZ (a := x.toInt) (b := ((sz : Nat) : Int)) rfl (rfl) (nI_toInt (by omega)) (fun c9 => ?_) (fun c9 => ?_)
    · -- 9 to 16
      refine zw_n 1 rfl ?_
      exact zw_zret rfl rfl (Or.inl rfl) (⟨by rw [if_neg (by omega)]; rfl, rfl⟩)
    · -- 9 to 12
      refine zw_n 2 rfl ?_
      exact zw_zret rfl rfl (Or.inr rfl) (⟨by rw [if_pos (by omega)]; rfl, rfl⟩)

set_option maxHeartbeats 4000000 in
set_option maxRecDepth 100000 in
theorem c_has (Mq : zM) (k : Nat) (sz wt : Nat) (T V Rc En Su : Nat → Nat) (hZ : Seg Mq (k + 3) (treL k sz wt T V Rc En Su)) (E : Nat → Nat → Nat) (n c : Nat) (hTr : TrR E n c sz T) (hn8 : n ≤ 8) (hc20 : c ≤ 20) (q t : Nat) (hq : q < sz) (ht : t < 2147483648) : Zm 1 zm_Tree_has [.ref (k + 3), .int (nI q), .int (nI t)] Mq (fun r9 M1 => r9 = some (.int (nI (if hsB T t q = true then 1 else 0))) ∧ M1 = Mq) := by
  show Zw 1 zm_Tree_has 0 [some (.ref (k + 3)), some (.int (nI q)), some (.int (nI t))] [] Mq _
  have hle := hTr.le
  have h1 := hTr.f23 q hq
  have h2 := hTr.f3 q hq
  refine zw_n 3 rfl ?_
  refine zw_callV (as := [.int (nI q), .int 2]) (rest := []) rfl rfl rfl (hZ.get 0 rfl) rfl rfl rfl (by decide) (c_field Mq k sz wt T V Rc En Su (seg6 (hZ.get 0 rfl) (hZ.get 1 rfl) (hZ.get 2 rfl) (hZ.get 3 rfl) (hZ.get 4 rfl) (hZ.get 5 rfl)) q 2 (by omega) (by omega)) (fun rz4822 Mz4823 hz4824 => ?_)
  rw [hz4824.1, hz4824.2]
  show Zw 1 zm_Tree_has 6 [some (.ref (k + 3)), some (.int (nI q)), some (.int (nI t))] [.int (nI (T (q * 8 + 2)))] Mq _
  refine zw_n 1 rfl ?_
  refine zw_igtN (a := T (q * 8 + 2)) (b := t) rfl rfl rfl (by omega) (by omega) (fun c7 => ?_) (fun c7 => ?_)
  · -- 7 to 24
    refine zw_n 1 rfl ?_
    exact zw_zret rfl rfl (Or.inl rfl) (⟨by rw [if_neg (fun q9 => by have h9 := hsB_iff.mp q9; omega)]; rfl, rfl⟩)
  · -- 7 to 10
    refine zw_n 4 rfl ?_
    refine zw_callV (as := [.int (nI q), .int 3]) (rest := [.int (nI t)]) rfl rfl rfl (hZ.get 0 rfl) rfl rfl rfl (by decide) (c_field Mq k sz wt T V Rc En Su (seg6 (hZ.get 0 rfl) (hZ.get 1 rfl) (hZ.get 2 rfl) (hZ.get 3 rfl) (hZ.get 4 rfl) (hZ.get 5 rfl)) q 3 (by omega) (by omega)) (fun rz4825 Mz4826 hz4827 => ?_)
    rw [hz4827.1, hz4827.2]
    show Zw 1 zm_Tree_has 17 [some (.ref (k + 3)), some (.int (nI q)), some (.int (nI t))] [.int (nI (T (q * 8 + 3))), .int (nI t)] Mq _
    refine zw_igeN (a := t) (b := T (q * 8 + 3)) rfl rfl rfl (by omega) (by omega) (fun c17 => ?_) (fun c17 => ?_)
    · -- 17 to 24
      refine zw_n 1 rfl ?_
      exact zw_zret rfl rfl (Or.inl rfl) (⟨by rw [if_neg (fun q9 => by have h9 := hsB_iff.mp q9; omega)]; rfl, rfl⟩)
    · -- 17 to 20
      refine zw_n 2 rfl ?_
      exact zw_zret rfl rfl (Or.inr rfl) (⟨by rw [if_pos (hsB_iff.mpr ⟨by omega, by omega⟩)]; rfl, rfl⟩)

set_option maxHeartbeats 4000000 in
set_option maxRecDepth 100000 in
theorem c_howManyWith (Mq : zM) (k : Nat) (sz wt : Nat) (T V Rc En Su : Nat → Nat) (hZ : Seg Mq (k + 3) (treL k sz wt T V Rc En Su)) (E : Nat → Nat → Nat) (n c : Nat) (hTr : TrR E n c sz T) (hn8 : n ≤ 8) (hc20 : c ≤ 20) (w v : Nat) (hw : w = 2 ∨ w = 3) (hv : v < 2147483648) : Zm 1 zm_Tree_howManyWith [.ref (k + 3), .int (nI w), .int (nI v)] Mq (fun r9 M1 => r9 = some (.int (nI (cnW T w v sz))) ∧ M1 = Mq) := by
  show Zw 1 zm_Tree_howManyWith 0 [some (.ref (k + 3)), some (.int (nI w)), some (.int (nI v)), none, none] [] Mq _
  have hle := hTr.le
  refine zw_n 4 (ls' := [some (.ref (k + 3)), some (.int (nI w)), some (.int (nI v)), some (.int 0), some (.int 0)]) rfl ?_
  have lp5 : ∀ (n5 : Nat) (a : Nat) (q : Nat), (q ≤ sz ∧ a = cnW T w v q) → sz - q < n5 → Zw 1 zm_Tree_howManyWith 5 [some (.ref (k + 3)), some (.int (nI w)), some (.int (nI v)), some (.int (nI a)), some (.int (nI q))] [] Mq (fun r9 M1 => r9 = some (.int (nI (cnW T w v sz))) ∧ M1 = Mq) := by
    intro n5
    induction n5 with
    | zero => intro a q _ h; exact absurd h (Nat.not_lt_zero _)
    | succ n5 ih5 =>
      intro a q hi5 hm5
      refine zw_n 2 rfl ?_
      refine zw_get (v := .int (nI sz)) rfl (hZ.get 0 rfl) rfl ?_
      refine zw_igeN (a := q) (b := sz) rfl rfl rfl (by omega) (by omega) (fun c11 => ?_) (fun c11 => ?_)
      · -- 11 to 39
        refine zw_n 1 rfl ?_
        exact zw_iret rfl rfl (⟨by rw [hi5.2, show q = sz by omega], rfl⟩)
      · -- 11 to 14
        have h1 := hTr.f23 q (by omega)
        have h2 := hTr.f3 q (by omega)
        have h3 : T (q * 8 + w) < 2147483648 := by rcases hw with e9 | e9 <;> subst e9 <;> omega
        refine zw_n 1 rfl ?_
        have j15 : Zw 1 zm_Tree_howManyWith 31 [some (.ref (k + 3)), some (.int (nI w)), some (.int (nI v)), some (.int (nI a)), some (.int (nI q))] [.int (nI (if T (q * 8 + w) = v then 1 else 0)), .int (nI a)] Mq (fun r9 M1 => r9 = some (.int (nI (cnW T w v sz))) ∧ M1 = Mq) := by
          refine zw_n 1 rfl ?_
          refine zw_top (na (a := a) (b := if T (q * 8 + w) = v then 1 else 0) rfl rfl) ?_
          refine zw_n 1 (ls' := [some (.ref (k + 3)), some (.int (nI w)), some (.int (nI v)), some (.int (nI (a + (if T (q * 8 + w) = v then 1 else 0)))), some (.int (nI q))]) rfl ?_
          refine zw_inc rfl (x' := (nI (q + 1))) (ls' := [some (.ref (k + 3)), some (.int (nI w)), some (.int (nI v)), some (.int (nI (a + (if T (q * 8 + w) = v then 1 else 0)))), some (.int (nI (q + 1)))]) rfl (na (a := q) (b := 1) rfl rfl) rfl ?_
          refine zw_n 1 rfl ?_
          exact ih5 (a + (if T (q * 8 + w) = v then 1 else 0)) (q + 1) (⟨by omega, cnt_s hi5.2 (by rw [decide_eq_true_eq])⟩) (by omega)
        refine zw_n 3 rfl ?_
        refine zw_callV (as := [.int (nI q), .int (nI w)]) (rest := [.int (nI a)]) rfl rfl rfl (hZ.get 0 rfl) rfl rfl rfl (by decide) (c_field Mq k sz wt T V Rc En Su (seg6 (hZ.get 0 rfl) (hZ.get 1 rfl) (hZ.get 2 rfl) (hZ.get 3 rfl) (hZ.get 4 rfl) (hZ.get 5 rfl)) q w (by omega) (by omega)) (fun rz4828 Mz4829 hz4830 => ?_)
        rw [hz4830.1, hz4830.2]
        show Zw 1 zm_Tree_howManyWith 22 [some (.ref (k + 3)), some (.int (nI w)), some (.int (nI v)), some (.int (nI a)), some (.int (nI q))] [.int (nI (T (q * 8 + w))), .int (nI a)] Mq _
        refine zw_n 1 rfl ?_
        refine zw_ineN (a := T (q * 8 + w)) (b := v) rfl rfl rfl (by omega) (by omega) (fun c23 => ?_) (fun c23 => ?_)
        · -- 23 to 30
          refine zw_n 1 rfl ?_
          refine zw_top (x' := nI (if T (q * 8 + w) = v then 1 else 0)) (show nI 0 = nI (if T (q * 8 + w) = v then 1 else 0) by rw [if_neg (by omega)]) ?_
          exact j15
        · -- 23 to 26
          refine zw_n 2 rfl ?_
          refine zw_top (x' := nI (if T (q * 8 + w) = v then 1 else 0)) (show nI 1 = nI (if T (q * 8 + w) = v then 1 else 0) by rw [if_pos (by omega)]) ?_
          exact j15
  exact lp5 _ 0 0 (⟨Nat.zero_le _, rfl⟩) (Nat.lt_succ_self _)

set_option maxHeartbeats 4000000 in
set_option maxRecDepth 100000 in
theorem c_howManyHave (Mq : zM) (k : Nat) (sz wt : Nat) (T V Rc En Su : Nat → Nat) (hZ : Seg Mq (k + 3) (treL k sz wt T V Rc En Su)) (E : Nat → Nat → Nat) (n c : Nat) (hTr : TrR E n c sz T) (hn8 : n ≤ 8) (hc20 : c ≤ 20) (t : Nat) (ht : t < 2147483648) : Zm 2 zm_Tree_howManyHave [.ref (k + 3), .int (nI t)] Mq (fun r9 M1 => r9 = some (.int (nI (cnt (hsB T t) sz))) ∧ M1 = Mq) := by
  show Zw 2 zm_Tree_howManyHave 0 [some (.ref (k + 3)), some (.int (nI t)), none, none] [] Mq _
  have hle := hTr.le
  refine zw_n 4 (ls' := [some (.ref (k + 3)), some (.int (nI t)), some (.int 0), some (.int 0)]) rfl ?_
  have lp4 : ∀ (n4 : Nat) (a : Nat) (q : Nat), (q ≤ sz ∧ a = cnt (hsB T t) q) → sz - q < n4 → Zw 2 zm_Tree_howManyHave 4 [some (.ref (k + 3)), some (.int (nI t)), some (.int (nI a)), some (.int (nI q))] [] Mq (fun r9 M1 => r9 = some (.int (nI (cnt (hsB T t) sz))) ∧ M1 = Mq) := by
    intro n4
    induction n4 with
    | zero => intro a q _ h; exact absurd h (Nat.not_lt_zero _)
    | succ n4 ih4 =>
      intro a q hi4 hm4
      refine zw_n 2 rfl ?_
      refine zw_get (v := .int (nI sz)) rfl (hZ.get 0 rfl) rfl ?_
      refine zw_igeN (a := q) (b := sz) rfl rfl rfl (by omega) (by omega) (fun c9 => ?_) (fun c9 => ?_)
      · -- 9 to 35
        refine zw_n 1 rfl ?_
        exact zw_iret rfl rfl (⟨by rw [hi4.2, show q = sz by omega], rfl⟩)
      · -- 9 to 12
        refine zw_n 1 rfl ?_
        have j13 : Zw 2 zm_Tree_howManyHave 27 [some (.ref (k + 3)), some (.int (nI t)), some (.int (nI a)), some (.int (nI q))] [.int (nI (if hsB T t q = true then 1 else 0)), .int (nI a)] Mq (fun r9 M1 => r9 = some (.int (nI (cnt (hsB T t) sz))) ∧ M1 = Mq) := by
          refine zw_n 1 rfl ?_
          refine zw_top (na (a := a) (b := if hsB T t q = true then 1 else 0) rfl rfl) ?_
          refine zw_n 1 (ls' := [some (.ref (k + 3)), some (.int (nI t)), some (.int (nI (a + (if hsB T t q = true then 1 else 0)))), some (.int (nI q))]) rfl ?_
          refine zw_inc rfl (x' := (nI (q + 1))) (ls' := [some (.ref (k + 3)), some (.int (nI t)), some (.int (nI (a + (if hsB T t q = true then 1 else 0)))), some (.int (nI (q + 1)))]) rfl (na (a := q) (b := 1) rfl rfl) rfl ?_
          refine zw_n 1 rfl ?_
          exact ih4 (a + (if hsB T t q = true then 1 else 0)) (q + 1) (⟨by omega, cnt_s hi4.2 Iff.rfl⟩) (by omega)
        refine zw_n 3 rfl ?_
        refine zw_callV (as := [.int (nI q), .int (nI t)]) (rest := [.int (nI a)]) rfl rfl rfl (hZ.get 0 rfl) rfl rfl rfl (by decide) (c_has Mq k sz wt T V Rc En Su (seg6 (hZ.get 0 rfl) (hZ.get 1 rfl) (hZ.get 2 rfl) (hZ.get 3 rfl) (hZ.get 4 rfl) (hZ.get 5 rfl)) E n c hTr hn8 hc20 q t (by omega) (by omega)) (fun rz4831 Mz4832 hz4833 => ?_)
        rw [hz4833.1, hz4833.2]
        show Zw 2 zm_Tree_howManyHave 19 [some (.ref (k + 3)), some (.int (nI t)), some (.int (nI a)), some (.int (nI q))] [.int (nI (if hsB T t q = true then 1 else 0)), .int (nI a)] Mq _
        refine zw_eq0N (a := if hsB T t q = true then 1 else 0) rfl rfl (ite_b) (fun c19 => ?_) (fun c19 => ?_)
        · -- 19 to 26
          refine zw_n 1 rfl ?_
          refine zw_top (x' := nI (if hsB T t q = true then 1 else 0)) (show nI 0 = nI (if hsB T t q = true then 1 else 0) by rw [if_neg (ite_eq0 c19)]) ?_
          exact j13
        · -- 19 to 22
          refine zw_n 2 rfl ?_
          refine zw_top (x' := nI (if hsB T t q = true then 1 else 0)) (show nI 1 = nI (if hsB T t q = true then 1 else 0) by rw [if_pos (ite_ne c19)]) ?_
          exact j13
  exact lp4 _ 0 0 (⟨Nat.zero_le _, rfl⟩) (Nat.lt_succ_self _)

set_option maxHeartbeats 4000000 in
set_option maxRecDepth 100000 in
theorem c_lowestRule (Mq : zM) (k : Nat) (sz wt : Nat) (T V Rc En Su : Nat → Nat) (hZ : Seg Mq (k + 3) (treL k sz wt T V Rc En Su)) (E : Nat → Nat → Nat) (n c : Nat) (hTr : TrR E n c sz T) (hn8 : n ≤ 8) (hc20 : c ≤ 20) (t : Nat) (ht : t < 2147483648) : Zm 2 zm_Tree_lowestRule [.ref (k + 3), .int (nI t)] Mq (fun r9 M1 => r9 = some (.int (nI (lowN T t sz))) ∧ M1 = Mq) := by
  show Zw 2 zm_Tree_lowestRule 0 [some (.ref (k + 3)), some (.int (nI t)), none, none] [] Mq _
  have hle := hTr.le
  refine zw_n 4 (ls' := [some (.ref (k + 3)), some (.int (nI t)), some (.int (-1)), some (.int 0)]) rfl ?_
  have lp4 : ∀ (n4 : Nat) (a : Nat) (q : Nat), (q ≤ sz ∧ a = lowN T t q) → sz - q < n4 → Zw 2 zm_Tree_lowestRule 4 [some (.ref (k + 3)), some (.int (nI t)), some (.int (nI a)), some (.int (nI q))] [] Mq (fun r9 M1 => r9 = some (.int (nI (lowN T t sz))) ∧ M1 = Mq) := by
    intro n4
    induction n4 with
    | zero => intro a q _ h; exact absurd h (Nat.not_lt_zero _)
    | succ n4 ih4 =>
      intro a q hi4 hm4
      refine zw_n 2 rfl ?_
      refine zw_get (v := .int (nI sz)) rfl (hZ.get 0 rfl) rfl ?_
      refine zw_igeN (a := q) (b := sz) rfl rfl rfl (by omega) (by omega) (fun c9 => ?_) (fun c9 => ?_)
      · -- 9 to 38
        refine zw_n 1 rfl ?_
        exact zw_iret rfl rfl (⟨by rw [hi4.2, show q = sz by omega], rfl⟩)
      · -- 9 to 12
        refine zw_n 3 rfl ?_
        refine zw_callV (as := [.int (nI q), .int (nI t)]) (rest := []) rfl rfl rfl (hZ.get 0 rfl) rfl rfl rfl (by decide) (c_has Mq k sz wt T V Rc En Su (seg6 (hZ.get 0 rfl) (hZ.get 1 rfl) (hZ.get 2 rfl) (hZ.get 3 rfl) (hZ.get 4 rfl) (hZ.get 5 rfl)) E n c hTr hn8 hc20 q t (by omega) (by omega)) (fun rz4834 Mz4835 hz4836 => ?_)
        rw [hz4836.1, hz4836.2]
        show Zw 2 zm_Tree_lowestRule 18 [some (.ref (k + 3)), some (.int (nI t)), some (.int (nI a)), some (.int (nI q))] [.int (nI (if hsB T t q = true then 1 else 0))] Mq _
        refine zw_eq0N (a := if hsB T t q = true then 1 else 0) rfl rfl (ite_b) (fun c18 => ?_) (fun c18 => ?_)
        · -- 18 to 30
          refine zw_n 2 (ls' := [some (.ref (k + 3)), some (.int (nI t)), some (.int (nI a)), some (.int (nI q))]) rfl ?_
          refine zw_inc rfl (x' := (nI (q + 1))) (ls' := [some (.ref (k + 3)), some (.int (nI t)), some (.int (nI a)), some (.int (nI (q + 1)))]) rfl (na (a := q) (b := 1) rfl rfl) rfl ?_
          refine zw_n 1 rfl ?_
          exact ih4 a (q + 1) (⟨by omega, by rw [lowN]; first | rw [if_pos (ite_ne c18)] | (rw [if_neg (ite_eq0 c18)]; exact hi4.2)⟩) (by omega)
        · -- 18 to 21
          refine zw_n 3 rfl ?_
          refine zw_callV (as := [.int (nI q), .int 0]) (rest := []) rfl rfl rfl (hZ.get 0 rfl) rfl rfl rfl (by decide) (c_field Mq k sz wt T V Rc En Su (seg6 (hZ.get 0 rfl) (hZ.get 1 rfl) (hZ.get 2 rfl) (hZ.get 3 rfl) (hZ.get 4 rfl) (hZ.get 5 rfl)) q 0 (by omega) (by omega)) (fun rz4837 Mz4838 hz4839 => ?_)
          rw [hz4839.1, hz4839.2]
          show Zw 2 zm_Tree_lowestRule 27 [some (.ref (k + 3)), some (.int (nI t)), some (.int (nI a)), some (.int (nI q))] [.int (nI (T (q * 8 + 0)))] Mq _
          refine zw_n 2 (ls' := [some (.ref (k + 3)), some (.int (nI t)), some (.int (nI (T (q * 8 + 0)))), some (.int (nI q))]) rfl ?_
          refine zw_inc rfl (x' := (nI (q + 1))) (ls' := [some (.ref (k + 3)), some (.int (nI t)), some (.int (nI (T (q * 8 + 0)))), some (.int (nI (q + 1)))]) rfl (na (a := q) (b := 1) rfl rfl) rfl ?_
          refine zw_n 1 rfl ?_
          exact ih4 (T (q * 8 + 0)) (q + 1) (⟨by omega, by rw [lowN]; first | rw [if_pos (ite_ne c18)] | (rw [if_neg (ite_eq0 c18)]; exact hi4.2)⟩) (by omega)
  exact lp4 _ NO 0 (⟨Nat.zero_le _, rfl⟩) (Nat.lt_succ_self _)

set_option maxHeartbeats 4000000 in
set_option maxRecDepth 100000 in
theorem c_depth (Mq : zM) (k : Nat) (sz wt : Nat) (T V Rc En Su : Nat → Nat) (hZ : Seg Mq (k + 3) (treL k sz wt T V Rc En Su)) (E : Nat → Nat → Nat) (n c : Nat) (hTr : TrR E n c sz T) (hn8 : n ≤ 8) (hc20 : c ≤ 20) : Zm 1 zm_Tree_depth [.ref (k + 3)] Mq (fun r9 M1 => r9 = some (.int (nI (depN T sz))) ∧ M1 = Mq) := by
  show Zw 1 zm_Tree_depth 0 [some (.ref (k + 3)), none, none] [] Mq _
  have hle := hTr.le
  refine zw_n 4 (ls' := [some (.ref (k + 3)), some (.int 0), some (.int 0)]) rfl ?_
  have lp4 : ∀ (n4 : Nat) (a : Nat) (q : Nat), (q ≤ sz ∧ a = depN T q) → sz - q < n4 → Zw 1 zm_Tree_depth 4 [some (.ref (k + 3)), some (.int (nI a)), some (.int (nI q))] [] Mq (fun r9 M1 => r9 = some (.int (nI (depN T sz))) ∧ M1 = Mq) := by
    intro n4
    induction n4 with
    | zero => intro a q _ h; exact absurd h (Nat.not_lt_zero _)
    | succ n4 ih4 =>
      intro a q hi4 hm4
      have hdb := depN_b (T := T) (B := 312) q (fun z hz => hTr.f6 z (by omega))
      rw [← hi4.2] at hdb
      refine zw_n 2 rfl ?_
      refine zw_get (v := .int (nI sz)) rfl (hZ.get 0 rfl) rfl ?_
      refine zw_igeN (a := q) (b := sz) rfl rfl rfl (by omega) (by omega) (fun c9 => ?_) (fun c9 => ?_)
      · -- 9 to 32
        refine zw_n 1 rfl ?_
        exact zw_iret rfl rfl (⟨by rw [hi4.2, show q = sz by omega], rfl⟩)
      · -- 9 to 12
        have h1 := hTr.f6 q (by omega)
        refine zw_n 4 rfl ?_
        refine zw_callV (as := [.int (nI q), .int 6]) (rest := [.int (nI a)]) rfl rfl rfl (hZ.get 0 rfl) rfl rfl rfl (by decide) (c_field Mq k sz wt T V Rc En Su (seg6 (hZ.get 0 rfl) (hZ.get 1 rfl) (hZ.get 2 rfl) (hZ.get 3 rfl) (hZ.get 4 rfl) (hZ.get 5 rfl)) q 6 (by omega) (by omega)) (fun rz4840 Mz4841 hz4842 => ?_)
        rw [hz4842.1, hz4842.2]
        show Zw 1 zm_Tree_depth 20 [some (.ref (k + 3)), some (.int (nI a)), some (.int (nI q))] [.int (nI (T (q * 8 + 6))), .int (nI a)] Mq _
        refine zw_n 2 rfl ?_
        refine zw_top (na (a := T (q * 8 + 6)) (b := 1) rfl rfl) ?_
        refine zw_maxN (a := a) (b := (T (q * 8 + 6)) + 1) rfl (by decide) rfl rfl rfl (by omega) (by omega) ?_
        refine zw_n 1 (ls' := [some (.ref (k + 3)), some (.int (nI (max a ((T (q * 8 + 6)) + 1)))), some (.int (nI q))]) rfl ?_
        refine zw_inc rfl (x' := (nI (q + 1))) (ls' := [some (.ref (k + 3)), some (.int (nI (max a ((T (q * 8 + 6)) + 1)))), some (.int (nI (q + 1)))]) rfl (na (a := q) (b := 1) rfl rfl) rfl ?_
        refine zw_n 1 rfl ?_
        exact ih4 (max a ((T (q * 8 + 6)) + 1)) (q + 1) (⟨by omega, by rw [depN, hi4.2]⟩) (by omega)
  exact lp4 _ 0 0 (⟨Nat.zero_le _, rfl⟩) (Nat.lt_succ_self _)

set_option maxHeartbeats 4000000 in
set_option maxRecDepth 100000 in
theorem c_howManyAside (Mq : zM) (k : Nat) (sz wt : Nat) (T V Rc En Su : Nat → Nat) (hZ : Seg Mq (k + 3) (treL k sz wt T V Rc En Su)) (E : Nat → Nat → Nat) (n c : Nat) (sg li co : Nat → Nat) (hTr : TrR E n c sz T) (hn8 : n ≤ 8) (hc20 : c ≤ 20) (kt : Nat) (hT : Seg Mq kt (tokL kt (c, sg, li, co))) (hco : ∀ q, co q < 40) : Zm 1 zm_Tree_howManyAside [.ref (k + 3), .ref kt] Mq (fun r9 M1 => r9 = some (.int (nI (asdN co T sz))) ∧ M1 = Mq) := by
  show Zw 1 zm_Tree_howManyAside 0 [some (.ref (k + 3)), some (.ref kt), none, none] [] Mq _
  have hle := hTr.le
  refine zw_n 4 (ls' := [some (.ref (k + 3)), some (.ref kt), some (.int 0), some (.int 0)]) rfl ?_
  have lp4 : ∀ (n4 : Nat) (a : Nat) (q : Nat), (q ≤ sz ∧ a = asdN co T q) → sz - q < n4 → Zw 1 zm_Tree_howManyAside 4 [some (.ref (k + 3)), some (.ref kt), some (.int (nI a)), some (.int (nI q))] [] Mq (fun r9 M1 => r9 = some (.int (nI (asdN co T sz))) ∧ M1 = Mq) := by
    intro n4
    induction n4 with
    | zero => intro a q _ h; exact absurd h (Nat.not_lt_zero _)
    | succ n4 ih4 =>
      intro a q hi4 hm4
      refine zw_n 2 rfl ?_
      refine zw_get (v := .int (nI sz)) rfl (hZ.get 0 rfl) rfl ?_
      refine zw_igeN (a := q) (b := sz) rfl rfl rfl (by omega) (by omega) (fun c9 => ?_) (fun c9 => ?_)
      · -- 9 to 46
        refine zw_n 1 rfl ?_
        exact zw_iret rfl rfl (⟨by rw [hi4.2, show q = sz by omega], rfl⟩)
      · -- 9 to 12
        have h1 := hTr.f23 q (by omega)
        have h2 := hTr.f3 q (by omega)
        have h3 := hTr.f4 q (by omega)
        refine zw_n 1 rfl ?_
        have j13 : Zw 1 zm_Tree_howManyAside 38 [some (.ref (k + 3)), some (.ref kt), some (.int (nI a)), some (.int (nI q))] [.int (nI (if ¬ T (q * 8 + 4) = co (T (q * 8 + 2)) then 1 else 0)), .int (nI a)] Mq (fun r9 M1 => r9 = some (.int (nI (asdN co T sz))) ∧ M1 = Mq) := by
          refine zw_n 1 rfl ?_
          refine zw_top (na (a := a) (b := if ¬ T (q * 8 + 4) = co (T (q * 8 + 2)) then 1 else 0) rfl rfl) ?_
          refine zw_n 1 (ls' := [some (.ref (k + 3)), some (.ref kt), some (.int (nI (a + (if ¬ T (q * 8 + 4) = co (T (q * 8 + 2)) then 1 else 0)))), some (.int (nI q))]) rfl ?_
          refine zw_inc rfl (x' := (nI (q + 1))) (ls' := [some (.ref (k + 3)), some (.ref kt), some (.int (nI (a + (if ¬ T (q * 8 + 4) = co (T (q * 8 + 2)) then 1 else 0)))), some (.int (nI (q + 1)))]) rfl (na (a := q) (b := 1) rfl rfl) rfl ?_
          refine zw_n 1 rfl ?_
          exact ih4 (a + (if ¬ T (q * 8 + 4) = co (T (q * 8 + 2)) then 1 else 0)) (q + 1) (⟨by omega, cnt_s hi4.2 (by rw [decide_eq_true_eq])⟩) (by omega)
        refine zw_n 3 rfl ?_
        refine zw_callV (as := [.int (nI q), .int 4]) (rest := [.int (nI a)]) rfl rfl rfl (hZ.get 0 rfl) rfl rfl rfl (by decide) (c_field Mq k sz wt T V Rc En Su (seg6 (hZ.get 0 rfl) (hZ.get 1 rfl) (hZ.get 2 rfl) (hZ.get 3 rfl) (hZ.get 4 rfl) (hZ.get 5 rfl)) q 4 (by omega) (by omega)) (fun rz4843 Mz4844 hz4845 => ?_)
        rw [hz4845.1, hz4845.2]
        show Zw 1 zm_Tree_howManyAside 19 [some (.ref (k + 3)), some (.ref kt), some (.int (nI a)), some (.int (nI q))] [.int (nI (T (q * 8 + 4))), .int (nI a)] Mq _
        refine zw_n 1 rfl ?_
        refine zw_get (v := .ref (kt + 3)) rfl (hT.get 0 rfl) rfl ?_
        refine zw_n 3 rfl ?_
        refine zw_callV (as := [.int (nI q), .int 2]) (rest := [.ref (kt + 3), .int (nI (T (q * 8 + 4))), .int (nI a)]) rfl rfl rfl (hZ.get 0 rfl) rfl rfl rfl (by decide) (c_field Mq k sz wt T V Rc En Su (seg6 (hZ.get 0 rfl) (hZ.get 1 rfl) (hZ.get 2 rfl) (hZ.get 3 rfl) (hZ.get 4 rfl) (hZ.get 5 rfl)) q 2 (by omega) (by omega)) (fun rz4846 Mz4847 hz4848 => ?_)
        rw [hz4848.1, hz4848.2]
        show Zw 1 zm_Tree_howManyAside 29 [some (.ref (k + 3)), some (.ref kt), some (.int (nI a)), some (.int (nI q))] [.int (nI (T (q * 8 + 2))), .ref (kt + 3), .int (nI (T (q * 8 + 4))), .int (nI a)] Mq _
        refine zw_iald (f := ai co) (j := (T (q * 8 + 2))) rfl (hT.get 3 rfl) rfl (by decide) (by omega) ?_
        have bz4849 := hco (T (q * 8 + 2))
        refine zw_ieqN (a := T (q * 8 + 4)) (b := co (T (q * 8 + 2))) rfl rfl rfl (by omega) (by omega) (fun c30 => ?_) (fun c30 => ?_)
        · -- 30 to 37
          refine zw_n 1 rfl ?_
          refine zw_top (x' := nI (if ¬ T (q * 8 + 4) = co (T (q * 8 + 2)) then 1 else 0)) (show nI 0 = nI (if ¬ T (q * 8 + 4) = co (T (q * 8 + 2)) then 1 else 0) by rw [if_neg (by omega)]) ?_
          exact j13
        · -- 30 to 33
          refine zw_n 2 rfl ?_
          refine zw_top (x' := nI (if ¬ T (q * 8 + 4) = co (T (q * 8 + 2)) then 1 else 0)) (show nI 1 = nI (if ¬ T (q * 8 + 4) = co (T (q * 8 + 2)) then 1 else 0) by rw [if_pos (by omega)]) ?_
          exact j13
  exact lp4 _ 0 0 (⟨Nat.zero_le _, rfl⟩) (Nat.lt_succ_self _)

set_option maxHeartbeats 4000000 in
set_option maxRecDepth 100000 in
theorem c_waysBy (Mq : zM) (k kr kt s : Nat) (W R : Nat → Nat) (n em : Nat) (gn al_ it pt tg bd fr af fb : Nat → Nat) (c : Nat) (sg li co : Nat → Nat) (hC : Seg Mq k (chtL k kr kt s W R)) (hR : Seg Mq kr (rulL kr (n, gn, al_, it, pt, tg, bd, em, fr, af, fb))) (hT : Seg Mq kt (tokL kt (c, sg, li, co))) (hG : SafeG n gn al_ it pt tg bd) (hS : SafeT c sg li co) (hW : SafeM W) (hQ : SafeM R) (sz wt : Nat) (T V Rc En Su : Nat → Nat) (hZ : Seg Mq (k + 3) (treL k sz wt T V Rc En Su)) (hk : kr + 9 < k ∧ kt + 3 < k) (q y i j d : Nat) (hq : q < 320) (hy : y < 32) (hij : i < j) (hjc : j ≤ c) (hd : d < 40) (hf2 : T (q * 8 + 2) = i) (hf3 : T (q * 8 + 3) = j) (hf4 : T (q * 8 + 4) = d) (hCh : ChS (gE al_ it tg pt bd sg co) n c W) (hxs : ∀ z, z < it y → tg (y * 5 + z) = NO ∨ tg (y * 5 + z) < n) : Zm 2 zm_Tree_waysBy [.ref (k + 3), .int (nI q), .int (nI y)] Mq (fun r9 M1 => ∃ S9, r9 = some (.int (nI (wS (gE al_ it tg pt bd sg co) n y i d (it y) j))) ∧ M1[k + 8]? = some (.inl (0, 21, .inl (ai S9))) ∧ Sm Mq M1 [k + 8]) := by
  show Zw 2 zm_Tree_waysBy 0 [some (.ref (k + 3)), some (.int (nI q)), some (.int (nI y)), none, none, none, none, none, none] [] Mq _
  have hit5 := hG.2.2.2.1 y
  have hc20 := hS.1
  refine zw_n 3 rfl ?_
  refine zw_callV (as := [.int (nI q), .int 2]) (rest := []) rfl rfl rfl (hZ.get 0 rfl) rfl rfl rfl (by decide) (c_field Mq k sz wt T V Rc En Su (seg6 (hZ.get 0 rfl) (hZ.get 1 rfl) (hZ.get 2 rfl) (hZ.get 3 rfl) (hZ.get 4 rfl) (hZ.get 5 rfl)) q 2 (by omega) (by omega)) (fun rz4850 Mz4851 hz4852 => ?_)
  rw [hz4852.1, hz4852.2, hf2]
  show Zw 2 zm_Tree_waysBy 6 [some (.ref (k + 3)), some (.int (nI q)), some (.int (nI y)), none, none, none, none, none, none] [.int (nI i)] Mq _
  refine zw_n 4 (ls' := [some (.ref (k + 3)), some (.int (nI q)), some (.int (nI y)), some (.int (nI i)), none, none, none, none, none]) rfl ?_
  refine zw_callV (as := [.int (nI q), .int 3]) (rest := []) rfl rfl rfl (hZ.get 0 rfl) rfl rfl rfl (by decide) (c_field Mq k sz wt T V Rc En Su (seg6 (hZ.get 0 rfl) (hZ.get 1 rfl) (hZ.get 2 rfl) (hZ.get 3 rfl) (hZ.get 4 rfl) (hZ.get 5 rfl)) q 3 (by omega) (by omega)) (fun rz4853 Mz4854 hz4855 => ?_)
  rw [hz4855.1, hz4855.2, hf3]
  show Zw 2 zm_Tree_waysBy 13 [some (.ref (k + 3)), some (.int (nI q)), some (.int (nI y)), some (.int (nI i)), none, none, none, none, none] [.int (nI j)] Mq _
  refine zw_n 2 (ls' := [some (.ref (k + 3)), some (.int (nI q)), some (.int (nI y)), some (.int (nI i)), some (.int (nI j)), none, none, none, none]) rfl ?_
  refine zw_get (v := .ref (k + 8)) rfl (hZ.get 0 rfl) rfl ?_
  refine zw_n 1 rfl ?_
  refine zw_callS (as := [.ref (k + 8), .int 0]) (rest := []) rfl rfl rfl rfl rfl rfl (by decide) (z_fill21 Mq (k + 8) Su (hZ.get 5 rfl)) (fun rz4861 Mz4862 hz4863 => ?_)
  obtain ⟨hAz4856, gz4857, h1z4858, hSz4859, hzz4860⟩ := hz4863
  rw [hAz4856]
  show Zw 2 zm_Tree_waysBy 23 [some (.ref (k + 3)), some (.int (nI q)), some (.int (nI y)), some (.int (nI i)), some (.int (nI j)), none, none, none, none] [] Mz4862 _
  refine zw_n 1 rfl ?_
  refine zw_get (v := .ref (k + 8)) rfl (Sm.at hSz4859 (by simp <;> omega) (hZ.get 0 rfl)) rfl ?_
  refine zw_n 2 rfl ?_
  refine zw_iastN (g := gz4857) (j := i) (v := 1) rfl h1z4858 rfl (by decide) (by omega) (rfl) ?_
  generalize ez4865 : List.set Mz4862 (k + 8) _ = Mz4864
  refine zw_n 2 (ls' := [some (.ref (k + 3)), some (.int (nI q)), some (.int (nI y)), some (.int (nI i)), some (.int (nI j)), some (.int 0), none, none, none]) rfl ?_
  have mz4866 : Mz4864[k]? = some (.inr (0, [.ref kr, .ref kt, .int (nI s), .ref (k + 1), .ref (k + 2)])) := zat_set ez4865 (by omega) (Sm.at hSz4859 (by simp <;> omega) (hC.get 0 rfl))
  have mz4867 : Mz4864[k + 1]? = some (.inl (1, 3528, .inr (.inl (al W)))) := zat_set ez4865 (by omega) (Sm.at hSz4859 (by simp <;> omega) (hC.get 1 rfl))
  have mz4868 : Mz4864[k + 2]? = some (.inl (1, 3360, .inr (.inl (al R)))) := zat_set ez4865 (by omega) (Sm.at hSz4859 (by simp <;> omega) (hC.get 2 rfl))
  have mz4869 : Mz4864[kr]? = some (.inr (8, [.int (nI n), .ref (kr + 1), .ref (kr + 2), .ref (kr + 3), .ref (kr + 4), .ref (kr + 5), .ref (kr + 6), .int (nI em), .ref (kr + 7), .ref (kr + 8), .ref (kr + 9)])) := zat_set ez4865 (by omega) (Sm.at hSz4859 (by simp <;> omega) (hR.get 0 rfl))
  have mz4870 : Mz4864[kr + 1]? = some (.inl (0, 8, .inl (ai gn))) := zat_set ez4865 (by omega) (Sm.at hSz4859 (by simp <;> omega) (hR.get 1 rfl))
  have mz4871 : Mz4864[kr + 2]? = some (.inl (0, 8, .inl (ai al_))) := zat_set ez4865 (by omega) (Sm.at hSz4859 (by simp <;> omega) (hR.get 2 rfl))
  have mz4872 : Mz4864[kr + 3]? = some (.inl (0, 32, .inl (ai it))) := zat_set ez4865 (by omega) (Sm.at hSz4859 (by simp <;> omega) (hR.get 3 rfl))
  have mz4873 : Mz4864[kr + 4]? = some (.inl (0, 160, .inl (ai pt))) := zat_set ez4865 (by omega) (Sm.at hSz4859 (by simp <;> omega) (hR.get 4 rfl))
  have mz4874 : Mz4864[kr + 5]? = some (.inl (0, 160, .inl (ai tg))) := zat_set ez4865 (by omega) (Sm.at hSz4859 (by simp <;> omega) (hR.get 5 rfl))
  have mz4875 : Mz4864[kr + 6]? = some (.inl (0, 160, .inl (ai bd))) := zat_set ez4865 (by omega) (Sm.at hSz4859 (by simp <;> omega) (hR.get 6 rfl))
  have mz4876 : Mz4864[kr + 7]? = some (.inl (1, 8, .inr (.inl (al fr)))) := zat_set ez4865 (by omega) (Sm.at hSz4859 (by simp <;> omega) (hR.get 7 rfl))
  have mz4877 : Mz4864[kr + 8]? = some (.inl (1, 32, .inr (.inl (al af)))) := zat_set ez4865 (by omega) (Sm.at hSz4859 (by simp <;> omega) (hR.get 8 rfl))
  have mz4878 : Mz4864[kr + 9]? = some (.inl (1, 160, .inr (.inl (al fb)))) := zat_set ez4865 (by omega) (Sm.at hSz4859 (by simp <;> omega) (hR.get 9 rfl))
  have mz4879 : Mz4864[kt]? = some (.inr (9, [.int (nI c), .ref (kt + 1), .ref (kt + 2), .ref (kt + 3)])) := zat_set ez4865 (by omega) (Sm.at hSz4859 (by simp <;> omega) (hT.get 0 rfl))
  have mz4880 : Mz4864[kt + 1]? = some (.inl (0, 20, .inl (ai sg))) := zat_set ez4865 (by omega) (Sm.at hSz4859 (by simp <;> omega) (hT.get 1 rfl))
  have mz4881 : Mz4864[kt + 2]? = some (.inl (0, 20, .inl (ai li))) := zat_set ez4865 (by omega) (Sm.at hSz4859 (by simp <;> omega) (hT.get 2 rfl))
  have mz4882 : Mz4864[kt + 3]? = some (.inl (0, 20, .inl (ai co))) := zat_set ez4865 (by omega) (Sm.at hSz4859 (by simp <;> omega) (hT.get 3 rfl))
  have mz4883 : Mz4864[k + 3]? = some (.inr (10, [.int (nI sz), .ref (k + 4), .ref (k + 5), .int (nI wt), .ref (k + 6), .ref (k + 7), .ref (k + 8), .ref k])) := zat_set ez4865 (by omega) (Sm.at hSz4859 (by simp <;> omega) (hZ.get 0 rfl))
  have mz4884 : Mz4864[k + 4]? = some (.inl (0, 2560, .inl (ai T))) := zat_set ez4865 (by omega) (Sm.at hSz4859 (by simp <;> omega) (hZ.get 1 rfl))
  have mz4885 : Mz4864[k + 5]? = some (.inl (0, 2560, .inl (ai V))) := zat_set ez4865 (by omega) (Sm.at hSz4859 (by simp <;> omega) (hZ.get 2 rfl))
  have mz4886 : Mz4864[k + 6]? = some (.inl (0, 6, .inl (ai Rc))) := zat_set ez4865 (by omega) (Sm.at hSz4859 (by simp <;> omega) (hZ.get 3 rfl))
  have mz4887 : Mz4864[k + 7]? = some (.inl (0, 6, .inl (ai En))) := zat_set ez4865 (by omega) (Sm.at hSz4859 (by simp <;> omega) (hZ.get 4 rfl))
  have lp33 : ∀ (n33 : Nat) (x : Nat) (S1 : Nat → Nat) (M_33 : zM), Sm Mq M_33 [k + 8] → M_33[k + 8]? = some (.inl (0, 21, .inl (ai S1))) → (x ≤ it y ∧ ∀ p, i ≤ p → p ≤ j → S1 p = wS (gE al_ it tg pt bd sg co) n y i d x p) → it y - x < n33 → Zw 2 zm_Tree_waysBy 33 [some (.ref (k + 3)), some (.int (nI q)), some (.int (nI y)), some (.int (nI i)), some (.int (nI j)), some (.int (nI x)), none, none, none] [] M_33 (fun r9 M1 => ∃ S9, r9 = some (.int (nI (wS (gE al_ it tg pt bd sg co) n y i d (it y) j))) ∧ M1[k + 8]? = some (.inl (0, 21, .inl (ai S9))) ∧ Sm Mq M1 [k + 8]) := by
    intro n33
    induction n33 with
    | zero => intro x S1 M_33 _ _ _ h; exact absurd h (Nat.not_lt_zero _)
    | succ n33 ih33 =>
      intro x S1 M_33 s_33 f33_0 hi33 hm33
      refine zw_n 2 rfl ?_
      refine zw_get (v := .ref k) rfl (Sm.at s_33 (by simp <;> omega) (hZ.get 0 rfl)) rfl ?_
      refine zw_get (v := .ref kr) rfl (Sm.at s_33 (by simp <;> omega) (hC.get 0 rfl)) rfl ?_
      refine zw_get (v := .ref (kr + 3)) rfl (Sm.at s_33 (by simp <;> omega) (hR.get 0 rfl)) rfl ?_
      refine zw_n 1 rfl ?_
      refine zw_iald (f := ai it) (j := y) rfl (Sm.at s_33 (by simp <;> omega) (hR.get 3 rfl)) rfl (by decide) (by omega) ?_
      have bz4888 := hG.2.2.2.1 y
      refine zw_igeN (a := x) (b := it y) rfl rfl rfl (by omega) (by omega) (fun c47 => ?_) (fun c47 => ?_)
      · -- 47 to 142
        refine zw_n 1 rfl ?_
        refine zw_get (v := .ref (k + 8)) rfl (Sm.at s_33 (by simp <;> omega) (hZ.get 0 rfl)) rfl ?_
        refine zw_n 1 rfl ?_
        refine zw_iald (f := ai S1) (j := j) rfl f33_0 rfl (by decide) (by omega) ?_
        exact zw_iret rfl rfl (⟨S1, by show some (Value.int (nI (S1 j))) = _; rw [hi33.2 j (by omega) (Nat.le_refl _), show x = it y by omega], f33_0, s_33⟩)
      · -- 47 to 50
        refine zw_n 2 (ls' := [some (.ref (k + 3)), some (.int (nI q)), some (.int (nI y)), some (.int (nI i)), some (.int (nI j)), some (.int (nI x)), some (.int (nI j)), none, none]) rfl ?_
        have lp54 : ∀ (n54 : Nat) (qq : Nat) (S2 : Nat → Nat) (M_54 : zM), Sm Mq M_54 [k + 8] → M_54[k + 8]? = some (.inl (0, 21, .inl (ai S2))) → (i ≤ qq ∧ qq ≤ j + 1 ∧ (∀ p, i ≤ p → p < qq → S2 p = wS (gE al_ it tg pt bd sg co) n y i d x p) ∧ (∀ p, qq ≤ p → p ≤ j → S2 p = wS (gE al_ it tg pt bd sg co) n y i d (x + 1) p)) → qq < n54 → Zw 2 zm_Tree_waysBy 54 [some (.ref (k + 3)), some (.int (nI q)), some (.int (nI y)), some (.int (nI i)), some (.int (nI j)), some (.int (nI x)), some (.int (nI qq - 1)), none, none] [] M_54 (fun r9 M1 => ∃ S9, r9 = some (.int (nI (wS (gE al_ it tg pt bd sg co) n y i d (it y) j))) ∧ M1[k + 8]? = some (.inl (0, 21, .inl (ai S9))) ∧ Sm Mq M1 [k + 8]) := by
          intro n54
          induction n54 with
          | zero => intro qq S2 M_54 _ _ _ h; exact absurd h (Nat.not_lt_zero _)
          | succ n54 ih54 =>
            intro qq S2 M_54 s_54 f54_0 hi54 hm54
            refine zw_n 2 rfl ?_
            refine zw_iltZ (a := ((qq : Nat) : Int) - 1) (b := ((i : Nat) : Int)) rfl (nP_toInt (by omega)) (nI_toInt (by omega)) (fun c57 => ?_) (fun c57 => ?_)
            · -- 57 to 136
              refine zw_inc rfl (x' := (nI (x + 1))) (ls' := [some (.ref (k + 3)), some (.int (nI q)), some (.int (nI y)), some (.int (nI i)), some (.int (nI j)), some (.int (nI (x + 1))), some (.int (nI qq - 1)), none, none]) rfl (na (a := x) (b := 1) rfl rfl) rfl ?_
              refine zw_n 1 rfl ?_
              refine zw_ls (ls' := [some (.ref (k + 3)), some (.int (nI q)), some (.int (nI y)), some (.int (nI i)), some (.int (nI j)), some (.int (nI (x + 1))), none, none, none]) ⟨Or.inr rfl, Or.inr rfl, Or.inr rfl, Or.inr rfl, Or.inr rfl, Or.inr rfl, Or.inl rfl, Or.inl rfl, Or.inl rfl, trivial⟩ ?_
              exact ih33 (x + 1) S2 M_54 s_54 f54_0 (⟨by omega, fun p h1 h2 => hi54.2.2.2 p (by omega) h2⟩) (by omega)
            · -- 57 to 60
              refine zw_lse (ls' := [some (.ref (k + 3)), some (.int (nI q)), some (.int (nI y)), some (.int (nI i)), some (.int (nI j)), some (.int (nI x)), some (.int (nI (qq - 1))), none, none]) (by rw [nP (show 0 < qq by omega)]) ?_
              refine zw_n 4 (ls' := [some (.ref (k + 3)), some (.int (nI q)), some (.int (nI y)), some (.int (nI i)), some (.int (nI j)), some (.int (nI x)), some (.int (nI (qq - 1))), some (.int 0), some (.int (nI i))]) rfl ?_
              have lp66 : ∀ (n66 : Nat) (a : Nat) (p : Nat), (i ≤ p ∧ p ≤ qq ∧ a = sumN (wG (gE al_ it tg pt bd sg co) n y i d x (qq - 1)) (p - i)) → qq - p < n66 → Zw 2 zm_Tree_waysBy 66 [some (.ref (k + 3)), some (.int (nI q)), some (.int (nI y)), some (.int (nI i)), some (.int (nI j)), some (.int (nI x)), some (.int (nI (qq - 1))), some (.int (nI a)), some (.int (nI p))] [] M_54 (fun r9 M1 => ∃ S9, r9 = some (.int (nI (wS (gE al_ it tg pt bd sg co) n y i d (it y) j))) ∧ M1[k + 8]? = some (.inl (0, 21, .inl (ai S9))) ∧ Sm Mq M1 [k + 8]) := by
                intro n66
                induction n66 with
                | zero => intro a p _ h; exact absurd h (Nat.not_lt_zero _)
                | succ n66 ih66 =>
                  intro a p hi66 hm66
                  refine zw_n 2 rfl ?_
                  refine zw_igtN (a := p) (b := qq - 1) rfl rfl rfl (by omega) (by omega) (fun c70 => ?_) (fun c70 => ?_)
                  · -- 70 to 121
                    refine zw_n 1 rfl ?_
                    refine zw_get (v := .ref (k + 8)) rfl (Sm.at s_54 (by simp <;> omega) (hZ.get 0 rfl)) rfl ?_
                    refine zw_n 2 rfl ?_
                    refine zw_iastN (g := S2) (j := (qq - 1)) (v := a) rfl f54_0 rfl (by decide) (by omega) (rfl) ?_
                    generalize ez4890 : List.set M_54 (k + 8) _ = Mz4889
                    refine zw_inc rfl (x' := (nI (qq - 1) - 1)) (ls' := [some (.ref (k + 3)), some (.int (nI q)), some (.int (nI y)), some (.int (nI i)), some (.int (nI j)), some (.int (nI x)), some (.int (nI (qq - 1) - 1)), some (.int (nI a)), some (.int (nI p))]) rfl (nPd) rfl ?_
                    refine zw_n 1 rfl ?_
                    refine zw_ls (ls' := [some (.ref (k + 3)), some (.int (nI q)), some (.int (nI y)), some (.int (nI i)), some (.int (nI j)), some (.int (nI x)), some (.int (nI (qq - 1) - 1)), none, none]) ⟨Or.inr rfl, Or.inr rfl, Or.inr rfl, Or.inr rfl, Or.inr rfl, Or.inr rfl, Or.inr rfl, Or.inl rfl, Or.inl rfl, trivial⟩ ?_
                    exact ih54 (qq - 1) (up S2 (qq - 1) a) Mz4889 (Sm.tset s_54 ez4890 (by simp)) (zat_self ez4890 f54_0) (⟨by omega, by omega, fun p9 h1 h2 => by rw [up_n (show p9 ≠ qq - 1 by omega)]; exact hi54.2.2.1 p9 h1 (by omega), fun p9 h1 h2 => by
              by_cases e9 : p9 = qq - 1
              · rw [e9, up_s, wS_G, hi66.2.2, show p = qq - 1 + 1 by omega]
              · rw [up_n e9]; exact hi54.2.2.2 p9 (by omega) h2⟩) (by omega)
                  · -- 70 to 73
                    refine zw_n 1 rfl ?_
                    refine zw_get (v := .ref (k + 8)) rfl (Sm.at s_54 (by simp <;> omega) (hZ.get 0 rfl)) rfl ?_
                    refine zw_n 1 rfl ?_
                    refine zw_iald (f := ai S2) (j := p) rfl f54_0 rfl (by decide) (by omega) ?_
                    refine zw_eq0N (a := S2 p) rfl rfl (by rw [hi54.2.2.1 p (by omega) (by omega)]; exact Nat.lt_of_le_of_lt (wS_b (by omega) (by omega)) (by decide)) (fun c80 => ?_) (fun c80 => ?_)
                    · -- 80 to 115
                      refine zw_inc rfl (x' := (nI (p + 1))) (ls' := [some (.ref (k + 3)), some (.int (nI q)), some (.int (nI y)), some (.int (nI i)), some (.int (nI j)), some (.int (nI x)), some (.int (nI (qq - 1))), some (.int (nI a)), some (.int (nI (p + 1)))]) rfl (na (a := p) (b := 1) rfl rfl) rfl ?_
                      refine zw_n 1 rfl ?_
                      exact ih66 a (p + 1) (⟨by omega, by omega, (Nat.add_zero a).symm.trans (wG_add hi66.2.2 hi66.1 (wG_z (by omega) (hi54.2.2.1 p (by omega) (by omega)) (by first | exact Or.inl c80 | exact Or.inr (fun q9 => (fit_tH hCh (hxs x (by omega)) hS.2.2.2 hd (by omega) (by omega)).mp q9 c100))))⟩) (by omega)
                    · -- 80 to 83
                      refine zw_n 5 rfl ?_
                      refine zw_top (nm (a := y) (b := 5) rfl rfl) ?_
                      refine zw_n 2 rfl ?_
                      refine zw_top (na (a := y * 5) (b := x) rfl rfl) ?_
                      refine zw_n 2 rfl ?_
                      refine zw_callV (as := [.int (nI q), .int (nI ((y * 5) + x)), .int (nI p), .int (nI (qq - 1))]) (rest := []) rfl rfl rfl (Sm.at s_54 (by simp <;> omega) (hZ.get 0 rfl)) rfl rfl rfl (by decide) (c_fitting M_54 k kr kt s W R n em gn al_ it pt tg bd fr af fb c sg li co (seg3 (Sm.at s_54 (by simp <;> omega) (hC.get 0 rfl)) (Sm.at s_54 (by simp <;> omega) (hC.get 1 rfl)) (Sm.at s_54 (by simp <;> omega) (hC.get 2 rfl))) (seg10 (Sm.at s_54 (by simp <;> omega) (hR.get 0 rfl)) (Sm.at s_54 (by simp <;> omega) (hR.get 1 rfl)) (Sm.at s_54 (by simp <;> omega) (hR.get 2 rfl)) (Sm.at s_54 (by simp <;> omega) (hR.get 3 rfl)) (Sm.at s_54 (by simp <;> omega) (hR.get 4 rfl)) (Sm.at s_54 (by simp <;> omega) (hR.get 5 rfl)) (Sm.at s_54 (by simp <;> omega) (hR.get 6 rfl)) (Sm.at s_54 (by simp <;> omega) (hR.get 7 rfl)) (Sm.at s_54 (by simp <;> omega) (hR.get 8 rfl)) (Sm.at s_54 (by simp <;> omega) (hR.get 9 rfl))) (seg4 (Sm.at s_54 (by simp <;> omega) (hT.get 0 rfl)) (Sm.at s_54 (by simp <;> omega) (hT.get 1 rfl)) (Sm.at s_54 (by simp <;> omega) (hT.get 2 rfl)) (Sm.at s_54 (by simp <;> omega) (hT.get 3 rfl))) hG hS (by assumption) (by assumption) sz wt T V Rc En S2 (seg6 (Sm.at s_54 (by simp <;> omega) (hZ.get 0 rfl)) (Sm.at s_54 (by simp <;> omega) (hZ.get 1 rfl)) (Sm.at s_54 (by simp <;> omega) (hZ.get 2 rfl)) (Sm.at s_54 (by simp <;> omega) (hZ.get 3 rfl)) (Sm.at s_54 (by simp <;> omega) (hZ.get 4 rfl)) f54_0) hk q ((y * 5) + x) p (qq - 1) d (by omega) (by omega) (by omega) (by omega) hf4 hd) (fun rz4891 Mz4892 hz4893 => ?_)
                      rw [hz4893.1, hz4893.2]
                      show Zw 2 zm_Tree_waysBy 98 [some (.ref (k + 3)), some (.int (nI q)), some (.int (nI y)), some (.int (nI i)), some (.int (nI j)), some (.int (nI x)), some (.int (nI (qq - 1))), some (.int (nI a)), some (.int (nI p))] [.long (lN (itm (gE al_ it tg pt bd sg co) (w3 W) ((y * 5) + x) p (qq - 1) &&& prtN (bd ((y * 5) + x)) (2 ^ d)))] M_54 _
                      refine zw_n 2 rfl ?_
                      refine zw_leqN (a := itm (gE al_ it tg pt bd sg co) (w3 W) ((y * 5) + x) p (qq - 1) &&& prtN (bd ((y * 5) + x)) (2 ^ d)) (b := 0) rfl rfl rfl (by first | exact Nat.lt_trans (Nat.lt_of_le_of_lt Nat.and_le_left (itm_lt (fun _ _ _ => hW _) hS.2.2.2)) (by decide) | decide) (by first | exact Nat.lt_trans (Nat.lt_of_le_of_lt Nat.and_le_left (itm_lt (fun _ _ _ => hW _) hS.2.2.2)) (by decide) | decide) (fun c100 => ?_) (fun c100 => ?_)
                      · -- 100 to 115
                        refine zw_inc rfl (x' := (nI (p + 1))) (ls' := [some (.ref (k + 3)), some (.int (nI q)), some (.int (nI y)), some (.int (nI i)), some (.int (nI j)), some (.int (nI x)), some (.int (nI (qq - 1))), some (.int (nI a)), some (.int (nI (p + 1)))]) rfl (na (a := p) (b := 1) rfl rfl) rfl ?_
                        refine zw_n 1 rfl ?_
                        exact ih66 a (p + 1) (⟨by omega, by omega, (Nat.add_zero a).symm.trans (wG_add hi66.2.2 hi66.1 (wG_z (by omega) (hi54.2.2.1 p (by omega) (by omega)) (by first | exact Or.inl c80 | exact Or.inr (fun q9 => (fit_tH hCh (hxs x (by omega)) hS.2.2.2 hd (by omega) (by omega)).mp q9 c100))))⟩) (by omega)
                      · -- 100 to 103
                        refine zw_n 2 rfl ?_
                        refine zw_get (v := .ref (k + 8)) rfl (Sm.at s_54 (by simp <;> omega) (hZ.get 0 rfl)) rfl ?_
                        refine zw_n 1 rfl ?_
                        refine zw_iald (f := ai S2) (j := p) rfl f54_0 rfl (by decide) (by omega) ?_
                        refine zw_n 1 rfl ?_
                        refine zw_top (na (a := a) (b := S2 p) rfl rfl) ?_
                        refine zw_n 1 (ls' := [some (.ref (k + 3)), some (.int (nI q)), some (.int (nI y)), some (.int (nI i)), some (.int (nI j)), some (.int (nI x)), some (.int (nI (qq - 1))), some (.int (nI (a + (S2 p)))), some (.int (nI p))]) rfl ?_
                        refine zw_inc rfl (x' := (nI (p + 1))) (ls' := [some (.ref (k + 3)), some (.int (nI q)), some (.int (nI y)), some (.int (nI i)), some (.int (nI j)), some (.int (nI x)), some (.int (nI (qq - 1))), some (.int (nI (a + (S2 p)))), some (.int (nI (p + 1)))]) rfl (na (a := p) (b := 1) rfl rfl) rfl ?_
                        refine zw_n 1 rfl ?_
                        exact ih66 (a + (S2 p)) (p + 1) (⟨by omega, by omega, wG_add hi66.2.2 hi66.1 (wG_y (by omega) (hi54.2.2.1 p (by omega) (by omega)) ((fit_tH hCh (hxs x (by omega)) hS.2.2.2 hd (by omega) (by omega)).mpr c100))⟩) (by omega)
              exact lp66 _ 0 i (⟨Nat.le_refl _, by omega, by rw [Nat.sub_self]; rfl⟩) (Nat.lt_succ_self _)
        refine zw_lse (ls' := [some (.ref (k + 3)), some (.int (nI q)), some (.int (nI y)), some (.int (nI i)), some (.int (nI j)), some (.int (nI x)), some (.int (nI (j + 1) - 1)), none, none]) (by rw [show nI j = nI (j + 1) - 1 from nPs]) ?_
        exact lp54 _ (j + 1) S1 M_33 s_33 f33_0 (⟨by omega, Nat.le_refl _, fun p h1 h2 => hi33.2 p h1 (by omega), fun p h1 h2 => by omega⟩) (Nat.lt_succ_self _)
  exact lp33 _ 0 (up gz4857 i 1) Mz4864 (Sm.tset (Sm.trans Sm.rf hSz4859) ez4865 (by simp)) (zat_self ez4865 h1z4858) (⟨Nat.zero_le _, fun p h1 h2 => by
        rw [wS]
        by_cases e9 : p = i
        · rw [e9, up_s, if_pos rfl]
        · rw [up_n e9, if_neg e9]; exact (hzz4860 p).trans (if_pos (by omega))⟩) (Nat.lt_succ_self _)

set_option maxHeartbeats 4000000 in
set_option maxRecDepth 100000 in
theorem c_waysOf (Mq : zM) (k kr kt s : Nat) (W R : Nat → Nat) (n em : Nat) (gn al_ it pt tg bd fr af fb : Nat → Nat) (c : Nat) (sg li co : Nat → Nat) (hC : Seg Mq k (chtL k kr kt s W R)) (hR : Seg Mq kr (rulL kr (n, gn, al_, it, pt, tg, bd, em, fr, af, fb))) (hT : Seg Mq kt (tokL kt (c, sg, li, co))) (hG : SafeG n gn al_ it pt tg bd) (hS : SafeT c sg li co) (hW : SafeM W) (hQ : SafeM R) (sz wt : Nat) (T V Rc En Su : Nat → Nat) (hZ : Seg Mq (k + 3) (treL k sz wt T V Rc En Su)) (hk : kr + 9 < k ∧ kt + 3 < k) (q r i j d : Nat) (hq : q < 320) (hr : r < n) (hij : i < j) (hjc : j ≤ c) (hd : d < 40) (hf0 : T (q * 8 + 0) = r) (hf2 : T (q * 8 + 2) = i) (hf3 : T (q * 8 + 3) = j) (hf4 : T (q * 8 + 4) = d) (hCh : ChS (gE al_ it tg pt bd sg co) n c W) (hCl : Clo (gE al_ it tg pt bd sg co) n) : Zm 3 zm_Tree_waysOf [.ref (k + 3), .int (nI q)] Mq (fun r9 M1 => ∃ S9, r9 = some (.int (nI (wyN (gE al_ it tg pt bd sg co) n T q))) ∧ M1[k + 8]? = some (.inl (0, 21, .inl (ai S9))) ∧ Sm Mq M1 [k + 8]) := by
  show Zw 3 zm_Tree_waysOf 0 [some (.ref (k + 3)), some (.int (nI q)), none, none, none] [] Mq _
  have hn8 := hG.1
  have hal4 := hG.2.2.1 r
  have hc20 := hS.1
  refine zw_n 3 rfl ?_
  refine zw_callV (as := [.int (nI q), .int 0]) (rest := []) rfl rfl rfl (hZ.get 0 rfl) rfl rfl rfl (by decide) (c_field Mq k sz wt T V Rc En Su (seg6 (hZ.get 0 rfl) (hZ.get 1 rfl) (hZ.get 2 rfl) (hZ.get 3 rfl) (hZ.get 4 rfl) (hZ.get 5 rfl)) q 0 (by omega) (by omega)) (fun rz4894 Mz4895 hz4896 => ?_)
  rw [hz4896.1, hz4896.2, hf0]
  show Zw 3 zm_Tree_waysOf 6 [some (.ref (k + 3)), some (.int (nI q)), none, none, none] [.int (nI r)] Mq _
  refine zw_n 5 (ls' := [some (.ref (k + 3)), some (.int (nI q)), some (.int (nI r)), some (.int 0), some (.int 0)]) rfl ?_
  have lp12 : ∀ (n12 : Nat) (b : Nat) (a : Nat) (S1 : Nat → Nat) (M_12 : zM), Sm Mq M_12 [k + 8] → M_12[k + 8]? = some (.inl (0, 21, .inl (ai S1))) → (a ≤ al_ r ∧ b = sumN (fun a => wS (gE al_ it tg pt bd sg co) n (r * 4 + a) i d (it (r * 4 + a)) j) a) → al_ r - a < n12 → Zw 3 zm_Tree_waysOf 12 [some (.ref (k + 3)), some (.int (nI q)), some (.int (nI r)), some (.int (nI b)), some (.int (nI a))] [] M_12 (fun r9 M1 => ∃ S9, r9 = some (.int (nI (wyN (gE al_ it tg pt bd sg co) n T q))) ∧ M1[k + 8]? = some (.inl (0, 21, .inl (ai S9))) ∧ Sm Mq M1 [k + 8]) := by
    intro n12
    induction n12 with
    | zero => intro b a S1 M_12 _ _ _ h; exact absurd h (Nat.not_lt_zero _)
    | succ n12 ih12 =>
      intro b a S1 M_12 s_12 f12_0 hi12 hm12
      refine zw_n 2 rfl ?_
      refine zw_get (v := .ref k) rfl (Sm.at s_12 (by simp <;> omega) (hZ.get 0 rfl)) rfl ?_
      refine zw_get (v := .ref kr) rfl (Sm.at s_12 (by simp <;> omega) (hC.get 0 rfl)) rfl ?_
      refine zw_get (v := .ref (kr + 2)) rfl (Sm.at s_12 (by simp <;> omega) (hR.get 0 rfl)) rfl ?_
      refine zw_n 1 rfl ?_
      refine zw_iald (f := ai al_) (j := r) rfl (Sm.at s_12 (by simp <;> omega) (hR.get 2 rfl)) rfl (by decide) (by omega) ?_
      have bz4897 := hG.2.2.1 r
      refine zw_igeN (a := a) (b := al_ r) rfl rfl rfl (by omega) (by omega) (fun c26 => ?_) (fun c26 => ?_)
      · -- 26 to 49
        refine zw_n 1 rfl ?_
        exact zw_iret rfl rfl (⟨S1, by unfold wyN; rw [hf0, hf2, hf3, hf4, hi12.2, show a = al_ r by omega]; rfl, f12_0, s_12⟩)
      · -- 26 to 29
        refine zw_n 6 rfl ?_
        refine zw_top (nm (a := r) (b := 4) rfl rfl) ?_
        refine zw_n 2 rfl ?_
        refine zw_top (na (a := r * 4) (b := a) rfl rfl) ?_
        refine zw_callV (as := [.int (nI q), .int (nI ((r * 4) + a))]) (rest := [.int (nI b)]) rfl rfl rfl (Sm.at s_12 (by simp <;> omega) (hZ.get 0 rfl)) rfl rfl rfl (by decide) (c_waysBy M_12 k kr kt s W R n em gn al_ it pt tg bd fr af fb c sg li co (seg3 (Sm.at s_12 (by simp <;> omega) (hC.get 0 rfl)) (Sm.at s_12 (by simp <;> omega) (hC.get 1 rfl)) (Sm.at s_12 (by simp <;> omega) (hC.get 2 rfl))) (seg10 (Sm.at s_12 (by simp <;> omega) (hR.get 0 rfl)) (Sm.at s_12 (by simp <;> omega) (hR.get 1 rfl)) (Sm.at s_12 (by simp <;> omega) (hR.get 2 rfl)) (Sm.at s_12 (by simp <;> omega) (hR.get 3 rfl)) (Sm.at s_12 (by simp <;> omega) (hR.get 4 rfl)) (Sm.at s_12 (by simp <;> omega) (hR.get 5 rfl)) (Sm.at s_12 (by simp <;> omega) (hR.get 6 rfl)) (Sm.at s_12 (by simp <;> omega) (hR.get 7 rfl)) (Sm.at s_12 (by simp <;> omega) (hR.get 8 rfl)) (Sm.at s_12 (by simp <;> omega) (hR.get 9 rfl))) (seg4 (Sm.at s_12 (by simp <;> omega) (hT.get 0 rfl)) (Sm.at s_12 (by simp <;> omega) (hT.get 1 rfl)) (Sm.at s_12 (by simp <;> omega) (hT.get 2 rfl)) (Sm.at s_12 (by simp <;> omega) (hT.get 3 rfl))) hG hS (by assumption) (by assumption) sz wt T V Rc En S1 (seg6 (Sm.at s_12 (by simp <;> omega) (hZ.get 0 rfl)) (Sm.at s_12 (by simp <;> omega) (hZ.get 1 rfl)) (Sm.at s_12 (by simp <;> omega) (hZ.get 2 rfl)) (Sm.at s_12 (by simp <;> omega) (hZ.get 3 rfl)) (Sm.at s_12 (by simp <;> omega) (hZ.get 4 rfl)) f12_0) hk q ((r * 4) + a) i j d (by omega) (by omega) hij hjc hd hf2 hf3 hf4 hCh (fun z h1 => hCl r hr a (show a < al_ r by omega) z h1)) (fun rz4902 Mz4903 hz4904 => ?_)
        obtain ⟨Sz4898, hAz4899, hBz4900, hSz4901⟩ := hz4904
        rw [hAz4899]
        show Zw 3 zm_Tree_waysOf 41 [some (.ref (k + 3)), some (.int (nI q)), some (.int (nI r)), some (.int (nI b)), some (.int (nI a))] [.int (nI (wS (gE al_ it tg pt bd sg co) n ((r * 4) + a) i d (it ((r * 4) + a)) j)), .int (nI b)] Mz4903 _
        refine zw_n 1 rfl ?_
        refine zw_top (na (a := b) (b := wS (gE al_ it tg pt bd sg co) n ((r * 4) + a) i d (it ((r * 4) + a)) j) rfl rfl) ?_
        refine zw_n 1 (ls' := [some (.ref (k + 3)), some (.int (nI q)), some (.int (nI r)), some (.int (nI (b + (wS (gE al_ it tg pt bd sg co) n ((r * 4) + a) i d (it ((r * 4) + a)) j)))), some (.int (nI a))]) rfl ?_
        refine zw_inc rfl (x' := (nI (a + 1))) (ls' := [some (.ref (k + 3)), some (.int (nI q)), some (.int (nI r)), some (.int (nI (b + (wS (gE al_ it tg pt bd sg co) n ((r * 4) + a) i d (it ((r * 4) + a)) j)))), some (.int (nI (a + 1)))]) rfl (na (a := a) (b := 1) rfl rfl) rfl ?_
        refine zw_n 1 rfl ?_
        exact ih12 (b + (wS (gE al_ it tg pt bd sg co) n ((r * 4) + a) i d (it ((r * 4) + a)) j)) (a + 1) Sz4898 Mz4903 (Sm.trans s_12 hSz4901) hBz4900 (⟨by omega, sumN_s hi12.2 rfl⟩) (by omega)
  exact lp12 _ 0 0 Su Mq Sm.rf (hZ.get 5 rfl) (⟨Nat.zero_le _, rfl⟩) (Nat.lt_succ_self _)
