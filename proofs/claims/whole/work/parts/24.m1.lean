set_option maxHeartbeats 4000000 in
set_option maxRecDepth 100000 in
theorem c_isSign (Mq : zM) (x : Int32) : Zm 0 zm_CG_isSign [.int x] Mq (fun r M1 => r = some (.int (nI (if 33 ≤ x.toInt ∧ x.toInt ≤ 126 then 1 else 0))) ∧ M1 = Mq) := by
  show Zw 0 zm_CG_isSign 0 [some (.int x)] [] Mq _
  refine zw_n 2 rfl ?_
  refine zw_iltZ (a := x.toInt) (b := 33) rfl (rfl) (by decide) (fun c3 => ?_) (fun c3 => ?_)
  · -- 3 to 16
    refine zw_n 1 rfl ?_
    exact zw_zret rfl rfl (Or.inl rfl) (⟨by rw [if_neg (by omega)]; rfl, rfl⟩)
  · -- 3 to 6
    refine zw_n 2 rfl ?_
    refine zw_igtZ (a := x.toInt) (b := 126) rfl (rfl) (by decide) (fun c9 => ?_) (fun c9 => ?_)
    · -- 9 to 16
      refine zw_n 1 rfl ?_
      exact zw_zret rfl rfl (Or.inl rfl) (⟨by rw [if_neg (by omega)]; rfl, rfl⟩)
    · -- 9 to 12
      refine zw_n 2 rfl ?_
      exact zw_zret rfl rfl (Or.inr rfl) (⟨by rw [if_pos (by omega)]; rfl, rfl⟩)

set_option maxHeartbeats 4000000 in
set_option maxRecDepth 100000 in
theorem c_isColumn (Mq : zM) (x : Int32) : Zm 0 zm_CG_isColumn [.int x] Mq (fun r M1 => r = some (.int (nI (if 0 ≤ x.toInt ∧ x.toInt < 40 then 1 else 0))) ∧ M1 = Mq) := by
  show Zw 0 zm_CG_isColumn 0 [some (.int x)] [] Mq _
  refine zw_n 1 rfl ?_
  refine zw_lt0Z (a := x.toInt) rfl (rfl) (fun c1 => ?_) (fun c1 => ?_)
  · -- 1 to 14
    refine zw_n 1 rfl ?_
    exact zw_zret rfl rfl (Or.inl rfl) (⟨by rw [if_neg (by omega)]; rfl, rfl⟩)
  · -- 1 to 4
    refine zw_n 2 rfl ?_
    refine zw_igeZ (a := x.toInt) (b := 40) rfl (rfl) (by decide) (fun c7 => ?_) (fun c7 => ?_)
    · -- 7 to 14
      refine zw_n 1 rfl ?_
      exact zw_zret rfl rfl (Or.inl rfl) (⟨by rw [if_neg (by omega)]; rfl, rfl⟩)
    · -- 7 to 10
      refine zw_n 2 rfl ?_
      exact zw_zret rfl rfl (Or.inr rfl) (⟨by rw [if_pos (by omega)]; rfl, rfl⟩)

set_option maxHeartbeats 4000000 in
set_option maxRecDepth 100000 in
theorem c_beginsLine (Mq : zM) (k : Nat) (c : Nat) (sg li co : Nat → Nat) (hT : Seg Mq k (tokL k (c, sg, li, co))) (i : Nat) (hi : i < 20) (hl : ∀ q, li q < 2147483648) : Zm 0 zm_Tokens_beginsLine [.ref k, .int (nI i)] Mq (fun r M1 => r = some (.int (nI (if i = 0 ∨ li (i - 1) ≠ li i then 1 else 0))) ∧ M1 = Mq) := by
  show Zw 0 zm_Tokens_beginsLine 0 [some (.ref k), some (.int (nI i))] [] Mq _
  refine zw_n 1 rfl ?_
  refine zw_eq0N (a := i) rfl rfl (by omega) (fun c1 => ?_) (fun c1 => ?_)
  · -- 1 to 21
    refine zw_n 2 rfl ?_
    exact zw_zret rfl rfl (Or.inr rfl) (⟨by rw [if_pos (by omega)]; rfl, rfl⟩)
  · -- 1 to 4
    refine zw_n 1 rfl ?_
    refine zw_get (v := .ref (k + 2)) rfl (hT.get 0 rfl) rfl ?_
    refine zw_n 3 rfl ?_
    refine zw_top (ns (a := i) (b := 1) rfl rfl (by omega)) ?_
    refine zw_iald (f := ai li) (j := (i - 1)) rfl (hT.get 2 rfl) rfl (by decide) (by omega) ?_
    have bz1 := hl (i - 1)
    refine zw_n 1 rfl ?_
    refine zw_get (v := .ref (k + 2)) rfl (hT.get 0 rfl) rfl ?_
    refine zw_n 1 rfl ?_
    refine zw_iald (f := ai li) (j := i) rfl (hT.get 2 rfl) rfl (by decide) (by omega) ?_
    have bz2 := hl i
    refine zw_ieqN (a := li (i - 1)) (b := li i) rfl rfl rfl (by omega) (by omega) (fun c18 => ?_) (fun c18 => ?_)
    · -- 18 to 25
      refine zw_n 1 rfl ?_
      exact zw_zret rfl rfl (Or.inl rfl) (⟨by rw [if_neg (by omega)]; rfl, rfl⟩)
    · -- 18 to 21
      refine zw_n 2 rfl ?_
      exact zw_zret rfl rfl (Or.inr rfl) (⟨by rw [if_pos (by omega)]; rfl, rfl⟩)

set_option maxHeartbeats 4000000 in
set_option maxRecDepth 100000 in
theorem c_howManyLines (Mq : zM) (k : Nat) (c : Nat) (sg li co : Nat → Nat) (hT : Seg Mq k (tokL k (c, sg, li, co))) (hc : c ≤ 20) (hl : ∀ q, li q < 2147483648) : Zm 1 zm_Tokens_howManyLines [.ref k] Mq (fun r M1 => r = some (.int (nI (cnt (fun i => decide (i = 0 ∨ li (i - 1) ≠ li i)) c))) ∧ M1 = Mq) := by
  show Zw 1 zm_Tokens_howManyLines 0 [some (.ref k), none, none] [] Mq _
  refine zw_n 4 (ls' := [some (.ref k), some (.int 0), some (.int 0)]) rfl ?_
  have lp4 : ∀ (n4 : Nat) (a : Nat) (i : Nat), (i ≤ c ∧ a = cnt (fun i => decide (i = 0 ∨ li (i - 1) ≠ li i)) i) → c - i < n4 → Zw 1 zm_Tokens_howManyLines 4 [some (.ref k), some (.int (nI a)), some (.int (nI i))] [] Mq (fun r M1 => r = some (.int (nI (cnt (fun i => decide (i = 0 ∨ li (i - 1) ≠ li i)) c))) ∧ M1 = Mq) := by
    intro n4
    induction n4 with
    | zero => intro a i _ h; exact absurd h (Nat.not_lt_zero _)
    | succ n4 ih4 =>
      intro a i hi4 hm4
      refine zw_n 2 rfl ?_
      refine zw_get (v := .int (nI c)) rfl (hT.get 0 rfl) rfl ?_
      refine zw_igeN (a := i) (b := c) rfl rfl rfl (by omega) (by omega) (fun c9 => ?_) (fun c9 => ?_)
      · -- 9 to 34
        refine zw_n 1 rfl ?_
        exact zw_iret rfl rfl (⟨by rw [hi4.2, show i = c by omega], rfl⟩)
      · -- 9 to 12
        refine zw_n 1 rfl ?_
        have j13 : Zw 1 zm_Tokens_howManyLines 26 [some (.ref k), some (.int (nI a)), some (.int (nI i))] [.int (nI (if i = 0 ∨ li (i - 1) ≠ li i then 1 else 0)), .int (nI a)] Mq (fun r M1 => r = some (.int (nI (cnt (fun i => decide (i = 0 ∨ li (i - 1) ≠ li i)) c))) ∧ M1 = Mq) := by
          refine zw_n 1 rfl ?_
          refine zw_top (na (a := a) (b := if i = 0 ∨ li (i - 1) ≠ li i then 1 else 0) rfl rfl) ?_
          refine zw_n 1 (ls' := [some (.ref k), some (.int (nI (a + (if i = 0 ∨ li (i - 1) ≠ li i then 1 else 0)))), some (.int (nI i))]) rfl ?_
          refine zw_inc rfl (x' := (nI (i + 1))) (ls' := [some (.ref k), some (.int (nI (a + (if i = 0 ∨ li (i - 1) ≠ li i then 1 else 0)))), some (.int (nI (i + 1)))]) rfl (na (a := i) (b := 1) rfl rfl) rfl ?_
          refine zw_n 1 rfl ?_
          exact ih4 (a + (if i = 0 ∨ li (i - 1) ≠ li i then 1 else 0)) (i + 1) (⟨by omega, cnt_s hi4.2 (by simp)⟩) (by omega)
        refine zw_n 2 rfl ?_
        refine zw_callV (as := [.int (nI i)]) (rest := [.int (nI a)]) rfl rfl rfl (hT.get 0 rfl) rfl rfl rfl (by decide) (c_beginsLine _ _ c sg li co hT i (by omega) hl) (fun rz3 Mz4 hz5 => ?_)
        rw [hz5.1, hz5.2]
        show Zw 1 zm_Tokens_howManyLines 18 [some (.ref k), some (.int (nI a)), some (.int (nI i))] [.int (nI (if i = 0 ∨ li (i - 1) ≠ li i then 1 else 0)), .int (nI a)] Mq _
        refine zw_eq0N (a := if i = 0 ∨ li (i - 1) ≠ li i then 1 else 0) rfl rfl (by split <;> omega) (fun c18 => ?_) (fun c18 => ?_)
        · -- 18 to 25
          refine zw_n 1 rfl ?_
          refine zw_top (x' := nI (if i = 0 ∨ li (i - 1) ≠ li i then 1 else 0)) (show nI 0 = nI (if i = 0 ∨ li (i - 1) ≠ li i then 1 else 0) by rw [if_neg (by revert c18; split <;> omega)]) ?_
          exact j13
        · -- 18 to 21
          refine zw_n 2 rfl ?_
          refine zw_top (x' := nI (if i = 0 ∨ li (i - 1) ≠ li i then 1 else 0)) (show nI 1 = nI (if i = 0 ∨ li (i - 1) ≠ li i then 1 else 0) by rw [if_pos (by revert c18; split <;> omega)]) ?_
          exact j13
  exact lp4 _ 0 0 (⟨by omega, rfl⟩) (Nat.lt_succ_self _)

set_option maxHeartbeats 4000000 in
set_option maxRecDepth 100000 in
theorem c_howManyAheadOf (Mq : zM) (k : Nat) (c : Nat) (sg li co : Nat → Nat) (hT : Seg Mq k (tokL k (c, sg, li, co))) (x a0 b0 : Nat) (hx : x < 2147483648) (hb : b0 ≤ 20) (hab : a0 ≤ b0) (hco : ∀ q, co q < 40) : Zm 0 zm_Tokens_howManyAheadOf [.ref k, .int (nI x), .int (nI a0), .int (nI b0)] Mq (fun r M1 => r = some (.int (nI (cnt (fun i => decide (a0 ≤ i ∧ co i < x)) b0))) ∧ M1 = Mq) := by
  show Zw 0 zm_Tokens_howManyAheadOf 0 [some (.ref k), some (.int (nI x)), some (.int (nI a0)), some (.int (nI b0)), none, none] [] Mq _
  refine zw_n 4 (ls' := [some (.ref k), some (.int (nI x)), some (.int (nI a0)), some (.int (nI b0)), some (.int 0), some (.int (nI a0))]) rfl ?_
  have lp6 : ∀ (n6 : Nat) (a : Nat) (i : Nat), (a0 ≤ i ∧ i ≤ b0 ∧ a = cnt (fun i => decide (a0 ≤ i ∧ co i < x)) i) → b0 - i < n6 → Zw 0 zm_Tokens_howManyAheadOf 6 [some (.ref k), some (.int (nI x)), some (.int (nI a0)), some (.int (nI b0)), some (.int (nI a)), some (.int (nI i))] [] Mq (fun r M1 => r = some (.int (nI (cnt (fun i => decide (a0 ≤ i ∧ co i < x)) b0))) ∧ M1 = Mq) := by
    intro n6
    induction n6 with
    | zero => intro a i _ h; exact absurd h (Nat.not_lt_zero _)
    | succ n6 ih6 =>
      intro a i hi6 hm6
      refine zw_n 2 rfl ?_
      refine zw_igeN (a := i) (b := b0) rfl rfl rfl (by omega) (by omega) (fun c9 => ?_) (fun c9 => ?_)
      · -- 9 to 39
        refine zw_n 1 rfl ?_
        exact zw_iret rfl rfl (⟨by rw [hi6.2.2, show i = b0 by omega], rfl⟩)
      · -- 9 to 12
        refine zw_n 1 rfl ?_
        have j14 : Zw 0 zm_Tokens_howManyAheadOf 30 [some (.ref k), some (.int (nI x)), some (.int (nI a0)), some (.int (nI b0)), some (.int (nI a)), some (.int (nI i))] [.int (nI (if co i < x then 1 else 0)), .int (nI a)] Mq (fun r M1 => r = some (.int (nI (cnt (fun i => decide (a0 ≤ i ∧ co i < x)) b0))) ∧ M1 = Mq) := by
          refine zw_n 1 rfl ?_
          refine zw_top (na (a := a) (b := if co i < x then 1 else 0) rfl rfl) ?_
          refine zw_n 1 (ls' := [some (.ref k), some (.int (nI x)), some (.int (nI a0)), some (.int (nI b0)), some (.int (nI (a + (if co i < x then 1 else 0)))), some (.int (nI i))]) rfl ?_
          refine zw_inc rfl (x' := (nI (i + 1))) (ls' := [some (.ref k), some (.int (nI x)), some (.int (nI a0)), some (.int (nI b0)), some (.int (nI (a + (if co i < x then 1 else 0)))), some (.int (nI (i + 1)))]) rfl (na (a := i) (b := 1) rfl rfl) rfl ?_
          refine zw_n 1 rfl ?_
          exact ih6 (a + (if co i < x then 1 else 0)) (i + 1) (⟨by omega, by omega, cnt_s hi6.2.2 (by simp; omega)⟩) (by omega)
        refine zw_n 1 rfl ?_
        refine zw_get (v := .ref (k + 3)) rfl (hT.get 0 rfl) rfl ?_
        refine zw_n 1 rfl ?_
        refine zw_iald (f := ai co) (j := i) rfl (hT.get 3 rfl) rfl (by decide) (by omega) ?_
        have bz6 := hco i
        refine zw_n 1 rfl ?_
        refine zw_igeN (a := co i) (b := x) rfl rfl rfl (by omega) (by omega) (fun c22 => ?_) (fun c22 => ?_)
        · -- 22 to 29
          refine zw_n 1 rfl ?_
          refine zw_top (x' := nI (if co i < x then 1 else 0)) (show nI 0 = nI (if co i < x then 1 else 0) by rw [if_neg (by omega)]) ?_
          exact j14
        · -- 22 to 25
          refine zw_n 2 rfl ?_
          refine zw_top (x' := nI (if co i < x then 1 else 0)) (show nI 1 = nI (if co i < x then 1 else 0) by rw [if_pos (by omega)]) ?_
          exact j14
  exact lp6 _ 0 a0 (⟨by omega, hab, (cnt_0 (fun q hq => by simp; omega)).symm⟩) (Nat.lt_succ_self _)

set_option maxHeartbeats 4000000 in
set_option maxRecDepth 100000 in
theorem c_leastColumn (Mq : zM) (k : Nat) (c : Nat) (sg li co : Nat → Nat) (hT : Seg Mq k (tokL k (c, sg, li, co))) (a0 b0 : Nat) (hb : b0 ≤ 20) (hab : a0 ≤ b0) (hco : ∀ q, co q < 40) : Zm 1 zm_Tokens_leastColumn [.ref k, .int (nI a0), .int (nI b0)] Mq (fun r M1 => r = some (.int (nI (mnc co a0 (b0 - a0)))) ∧ M1 = Mq) := by
  show Zw 1 zm_Tokens_leastColumn 0 [some (.ref k), some (.int (nI a0)), some (.int (nI b0)), none, none] [] Mq _
  refine zw_n 4 (ls' := [some (.ref k), some (.int (nI a0)), some (.int (nI b0)), some (.int (-1)), some (.int (nI a0))]) rfl ?_
  have lp5 : ∀ (n5 : Nat) (a : Nat) (i : Nat), (a0 ≤ i ∧ i ≤ b0 ∧ a = mnc co a0 (i - a0)) → b0 - i < n5 → Zw 1 zm_Tokens_leastColumn 5 [some (.ref k), some (.int (nI a0)), some (.int (nI b0)), some (.int (nI a)), some (.int (nI i))] [] Mq (fun r M1 => r = some (.int (nI (mnc co a0 (b0 - a0)))) ∧ M1 = Mq) := by
    intro n5
    induction n5 with
    | zero => intro a i _ h; exact absurd h (Nat.not_lt_zero _)
    | succ n5 ih5 =>
      intro a i hi5 hm5
      refine zw_n 2 rfl ?_
      refine zw_igeN (a := i) (b := b0) rfl rfl rfl (by omega) (by omega) (fun c8 => ?_) (fun c8 => ?_)
      · -- 8 to 44
        refine zw_n 1 rfl ?_
        exact zw_iret rfl rfl (⟨by rw [hi5.2.2, show i = b0 by omega], rfl⟩)
      · -- 8 to 11
        refine zw_n 2 rfl ?_
        refine zw_ineM (a := a) rfl rfl (by have := mnc_b (a := a0) hco (i - a0); have h9 := hi5.2.2; unfold NO at this; omega) (fun c13 => ?_) (fun c13 => ?_)
        · -- 13 to 26
          refine zw_n 2 rfl ?_
          refine zw_get (v := .ref (k + 3)) rfl (hT.get 0 rfl) rfl ?_
          refine zw_n 1 rfl ?_
          refine zw_iald (f := ai co) (j := i) rfl (hT.get 3 rfl) rfl (by decide) (by omega) ?_
          have bz7 := hco i
          refine zw_minN (a := a) (b := co i) rfl (by decide) rfl rfl rfl (by have := mnc_b (a := a0) hco (i - a0); have h9 := hi5.2.2; unfold NO at this; omega) (by have := mnc_b (a := a0) hco (i - a0); have h9 := hi5.2.2; unfold NO at this; omega) ?_
          refine zw_n 1 (ls' := [some (.ref k), some (.int (nI a0)), some (.int (nI b0)), some (.int (nI (min a (co i)))), some (.int (nI i))]) rfl ?_
          refine zw_inc rfl (x' := (nI (i + 1))) (ls' := [some (.ref k), some (.int (nI a0)), some (.int (nI b0)), some (.int (nI (min a (co i)))), some (.int (nI (i + 1)))]) rfl (na (a := i) (b := 1) rfl rfl) rfl ?_
          refine zw_n 1 rfl ?_
          exact ih5 (min a (co i)) (i + 1) (⟨by omega, by omega, by rw [show i + 1 - a0 = (i - a0) + 1 by omega, mnc, ← hi5.2.2, show a0 + (i - a0) = i by omega]; first | rw [if_pos c13] | rw [if_neg c13]⟩) (by omega)
        · -- 13 to 16
          refine zw_n 1 rfl ?_
          refine zw_get (v := .ref (k + 3)) rfl (hT.get 0 rfl) rfl ?_
          refine zw_n 1 rfl ?_
          refine zw_iald (f := ai co) (j := i) rfl (hT.get 3 rfl) rfl (by decide) (by omega) ?_
          have bz8 := hco i
          refine zw_n 2 (ls' := [some (.ref k), some (.int (nI a0)), some (.int (nI b0)), some (.int (nI (co i))), some (.int (nI i))]) rfl ?_
          refine zw_inc rfl (x' := (nI (i + 1))) (ls' := [some (.ref k), some (.int (nI a0)), some (.int (nI b0)), some (.int (nI (co i))), some (.int (nI (i + 1)))]) rfl (na (a := i) (b := 1) rfl rfl) rfl ?_
          refine zw_n 1 rfl ?_
          exact ih5 (co i) (i + 1) (⟨by omega, by omega, by rw [show i + 1 - a0 = (i - a0) + 1 by omega, mnc, ← hi5.2.2, show a0 + (i - a0) = i by omega]; first | rw [if_pos c13] | rw [if_neg c13]⟩) (by omega)
  exact lp5 _ NO a0 (⟨by omega, hab, by rw [Nat.sub_self]; rfl⟩) (Nat.lt_succ_self _)

set_option maxHeartbeats 4000000 in
set_option maxRecDepth 100000 in
theorem c_greatestColumn (Mq : zM) (k : Nat) (c : Nat) (sg li co : Nat → Nat) (hT : Seg Mq k (tokL k (c, sg, li, co))) (a0 b0 : Nat) (hb : b0 ≤ 20) (hab : a0 ≤ b0) (hco : ∀ q, co q < 40) : Zm 1 zm_Tokens_greatestColumn [.ref k, .int (nI a0), .int (nI b0)] Mq (fun r M1 => r = some (.int (nI (mxc co a0 (b0 - a0)))) ∧ M1 = Mq) := by
  show Zw 1 zm_Tokens_greatestColumn 0 [some (.ref k), some (.int (nI a0)), some (.int (nI b0)), none, none] [] Mq _
  refine zw_n 4 (ls' := [some (.ref k), some (.int (nI a0)), some (.int (nI b0)), some (.int (-1)), some (.int (nI a0))]) rfl ?_
  have lp5 : ∀ (n5 : Nat) (a : Nat) (i : Nat), (a0 ≤ i ∧ i ≤ b0 ∧ a = mxc co a0 (i - a0)) → b0 - i < n5 → Zw 1 zm_Tokens_greatestColumn 5 [some (.ref k), some (.int (nI a0)), some (.int (nI b0)), some (.int (nI a)), some (.int (nI i))] [] Mq (fun r M1 => r = some (.int (nI (mxc co a0 (b0 - a0)))) ∧ M1 = Mq) := by
    intro n5
    induction n5 with
    | zero => intro a i _ h; exact absurd h (Nat.not_lt_zero _)
    | succ n5 ih5 =>
      intro a i hi5 hm5
      refine zw_n 2 rfl ?_
      refine zw_igeN (a := i) (b := b0) rfl rfl rfl (by omega) (by omega) (fun c8 => ?_) (fun c8 => ?_)
      · -- 8 to 29
        refine zw_n 1 rfl ?_
        exact zw_iret rfl rfl (⟨by rw [hi5.2.2, show i = b0 by omega], rfl⟩)
      · -- 8 to 11
        refine zw_n 2 rfl ?_
        refine zw_get (v := .ref (k + 3)) rfl (hT.get 0 rfl) rfl ?_
        refine zw_n 1 rfl ?_
        refine zw_iald (f := ai co) (j := i) rfl (hT.get 3 rfl) rfl (by decide) (by omega) ?_
        have bz9 := hco i
        refine zw_max rfl (by decide) rfl ?_
        refine zw_top (x' := (nI (if a = NO then co i else max a (co i)))) (mx_ok (by have := mxc_b (a := a0) hco (i - a0); have h9 := hi5.2.2; unfold NO at this ⊢; omega) (by omega)) ?_
        refine zw_n 1 (ls' := [some (.ref k), some (.int (nI a0)), some (.int (nI b0)), some (.int (nI (if a = NO then co i else max a (co i)))), some (.int (nI i))]) rfl ?_
        refine zw_inc rfl (x' := (nI (i + 1))) (ls' := [some (.ref k), some (.int (nI a0)), some (.int (nI b0)), some (.int (nI (if a = NO then co i else max a (co i)))), some (.int (nI (i + 1)))]) rfl (na (a := i) (b := 1) rfl rfl) rfl ?_
        refine zw_n 1 rfl ?_
        exact ih5 (if a = NO then co i else max a (co i)) (i + 1) (⟨by omega, by omega, by rw [show i + 1 - a0 = (i - a0) + 1 by omega, mxc, ← hi5.2.2, show a0 + (i - a0) = i by omega]⟩) (by omega)
  exact lp5 _ NO a0 (⟨by omega, hab, by rw [Nat.sub_self]; rfl⟩) (Nat.lt_succ_self _)

set_option maxHeartbeats 4000000 in
set_option maxRecDepth 100000 in
theorem c_named (Mq : zM) (k : Nat) (n em : Nat) (gn al_ it pt tg bd fr af fb : Nat → Nat) (hR : Seg Mq k (rulL k (n, gn, al_, it, pt, tg, bd, em, fr, af, fb))) (hn : n ≤ 8) (x : Nat) (hx : x < 2147483648) (hnm : ∀ q, gn q < 2147483648) : Zm 0 zm_Rules_named [.ref k, .int (nI x)] Mq (fun r M1 => r = some (.int (nI (srch (fun q => gn q == x) 0 n))) ∧ M1 = Mq) := by
  show Zw 0 zm_Rules_named 0 [some (.ref k), some (.int (nI x)), none] [] Mq _
  refine zw_n 2 (ls' := [some (.ref k), some (.int (nI x)), some (.int 0)]) rfl ?_
  have lp2 : ∀ (n2 : Nat) (i : Nat), (i ≤ n ∧ srch (fun q => gn q == x) 0 n = srch (fun q => gn q == x) i (n - i)) → n - i < n2 → Zw 0 zm_Rules_named 2 [some (.ref k), some (.int (nI x)), some (.int (nI i))] [] Mq (fun r M1 => r = some (.int (nI (srch (fun q => gn q == x) 0 n))) ∧ M1 = Mq) := by
    intro n2
    induction n2 with
    | zero => intro i _ h; exact absurd h (Nat.not_lt_zero _)
    | succ n2 ih2 =>
      intro i hi2 hm2
      refine zw_n 2 rfl ?_
      refine zw_get (v := .int (nI n)) rfl (hR.get 0 rfl) rfl ?_
      refine zw_igeN (a := i) (b := n) rfl rfl rfl (by omega) (by omega) (fun c7 => ?_) (fun c7 => ?_)
      · -- 7 to 28
        refine zw_n 1 rfl ?_
        exact zw_iret rfl rfl (⟨by rw [hi2.2, srch_end (by omega)]; decide, rfl⟩)
      · -- 7 to 10
        refine zw_n 1 rfl ?_
        refine zw_get (v := .ref (k + 1)) rfl (hR.get 0 rfl) rfl ?_
        refine zw_n 1 rfl ?_
        refine zw_iald (f := ai gn) (j := i) rfl (hR.get 1 rfl) rfl (by decide) (by omega) ?_
        have bz10 := hnm i
        refine zw_n 1 rfl ?_
        refine zw_ineN (a := gn i) (b := x) rfl rfl rfl (by omega) (by omega) (fun c17 => ?_) (fun c17 => ?_)
        · -- 17 to 22
          refine zw_inc rfl (x' := (nI (i + 1))) (ls' := [some (.ref k), some (.int (nI x)), some (.int (nI (i + 1)))]) rfl (na (a := i) (b := 1) rfl rfl) rfl ?_
          refine zw_n 1 rfl ?_
          exact ih2 (i + 1) (⟨by omega, by rw [hi2.2, srch_no (by omega) (by simpa using c17), show n - (i + 1) = n - i - 1 by omega]⟩) (by omega)
        · -- 17 to 20
          refine zw_n 1 rfl ?_
          exact zw_iret rfl rfl (⟨by rw [hi2.2, srch_yes (by omega) (by simpa using c17)], rfl⟩)
  exact lp2 _ 0 (⟨Nat.zero_le _, rfl⟩) (Nat.lt_succ_self _)
