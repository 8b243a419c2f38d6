/-- the first number from i on (n of them) of which p holds; 2^32 - 1 where there is none -/
def srch (p : Nat → Bool) (i : Nat) : Nat → Nat
  | 0 => 4294967295
  | n + 1 => bif p i then i else srch p (i + 1) n
theorem srch_no {p : Nat → Bool} {i n : Nat} (h : 0 < n) (hp : p i = false) : srch p i n = srch p (i + 1) (n - 1) := by
  match n, h with
  | n + 1, _ => rw [srch, hp]; rfl
set_option maxHeartbeats 4000000 in
set_option maxRecDepth 100000 in
theorem c_isSign (M : zM) (x : Int32) : Zm 0 zm_CG_isSign [.int x] M (fun r M1 => r = some (.int (if 33 ≤ x ∧ x ≤ 126 then 1 else 0)) ∧ M1 = M) := by
  show Zw 0 zm_CG_isSign 0 [some (.int x)] [] M _
  refine zw_n 2 rfl ?_
  refine zw_ilt rfl (fun c3 => ?_) (fun c3 => ?_)
  · -- 3 to 16
    refine zw_n 1 rfl ?_
    exact zw_zret rfl rfl (Or.inl rfl) (⟨by simp_all, rfl⟩)
  · -- 3 to 6
    refine zw_n 2 rfl ?_
    refine zw_igt rfl (fun c9 => ?_) (fun c9 => ?_)
    · -- 9 to 16
      refine zw_n 1 rfl ?_
      exact zw_zret rfl rfl (Or.inl rfl) (⟨by simp_all, rfl⟩)
    · -- 9 to 12
      refine zw_n 2 rfl ?_
      exact zw_zret rfl rfl (Or.inr rfl) (⟨by simp_all, rfl⟩)

set_option maxHeartbeats 4000000 in
set_option maxRecDepth 100000 in
theorem c_isColumn (M : zM) (x : Int32) : Zm 0 zm_CG_isColumn [.int x] M (fun r M1 => r = some (.int (if 0 ≤ x ∧ x < 40 then 1 else 0)) ∧ M1 = M) := by
  show Zw 0 zm_CG_isColumn 0 [some (.int x)] [] M _
  refine zw_n 1 rfl ?_
  refine zw_lt0 rfl (fun c1 => ?_) (fun c1 => ?_)
  · -- 1 to 14
    refine zw_n 1 rfl ?_
    exact zw_zret rfl rfl (Or.inl rfl) (⟨by simp_all, rfl⟩)
  · -- 1 to 4
    refine zw_n 2 rfl ?_
    refine zw_ige rfl (fun c7 => ?_) (fun c7 => ?_)
    · -- 7 to 14
      refine zw_n 1 rfl ?_
      exact zw_zret rfl rfl (Or.inl rfl) (⟨by simp_all, rfl⟩)
    · -- 7 to 10
      refine zw_n 2 rfl ?_
      exact zw_zret rfl rfl (Or.inr rfl) (⟨by simp_all, rfl⟩)

set_option maxHeartbeats 4000000 in
set_option maxRecDepth 100000 in
theorem c_beginsLine (M : zM) (k : Nat) (c : Nat) (sg li co : Nat → Nat) (hT : Seg M k (tokL k (c, sg, li, co))) (i : Nat) (hi : i < 20) (hl : ∀ q, li q < 2147483648) : Zm 0 zm_Tokens_beginsLine [.ref k, .int (nI i)] M (fun r M1 => r = some (.int (nI (if i = 0 ∨ li (i - 1) ≠ li i then 1 else 0))) ∧ M1 = M) := by
  show Zw 0 zm_Tokens_beginsLine 0 [some (.ref k), some (.int (nI i))] [] M _
  refine zw_n 1 rfl ?_
  refine zw_eq0N (a := i) rfl rfl (by omega) (fun c1 => ?_) (fun c1 => ?_)
  · -- 1 to 21
    refine zw_n 2 rfl ?_
    exact zw_zret rfl rfl (Or.inr rfl) (⟨by congr 2; simp_all <;> omega, rfl⟩)
  · -- 1 to 4
    refine zw_n 1 rfl ?_
    refine zw_get rfl (hT.get 0 rfl) rfl ?_
    refine zw_n 3 rfl ?_
    refine zw_top (ns (a := i) (b := 1) rfl rfl (by omega)) ?_
    refine zw_iald (j := (i - 1)) rfl (hT.get 2 rfl) rfl (by decide) (by omega) ?_
    have b1 := hl (i - 1)
    refine zw_n 1 rfl ?_
    refine zw_get rfl (hT.get 0 rfl) rfl ?_
    refine zw_n 1 rfl ?_
    refine zw_iald (j := i) rfl (hT.get 2 rfl) rfl (by decide) (by omega) ?_
    have b2 := hl i
    refine zw_ieqN (a := li (i - 1)) (b := li i) rfl rfl rfl (by omega) (by omega) (fun c18 => ?_) (fun c18 => ?_)
    · -- 18 to 25
      refine zw_n 1 rfl ?_
      exact zw_zret rfl rfl (Or.inl rfl) (⟨by congr 2; simp_all <;> omega, rfl⟩)
    · -- 18 to 21
      refine zw_n 2 rfl ?_
      exact zw_zret rfl rfl (Or.inr rfl) (⟨by congr 2; simp_all <;> omega, rfl⟩)

set_option maxHeartbeats 4000000 in
set_option maxRecDepth 100000 in
theorem c_named (M : zM) (k : Nat) (n em : Nat) (nm al_ it pt tg bd fr af fb : Nat → Nat) (hR : Seg M k (rulL k (n, nm, al_, it, pt, tg, bd, em, fr, af, fb))) (hn : n ≤ 8) (x : Nat) (hx : x < 2147483648) (hnm : ∀ q, nm q < 2147483648) : Zm 0 zm_Rules_named [.ref k, .int (nI x)] M (fun r M1 => r = some (.int (nI (srch (fun q => nm q == x) 0 n))) ∧ M1 = M) := by
  show Zw 0 zm_Rules_named 0 [some (.ref k), some (.int (nI x)), none] [] M _
  refine zw_n 2 (ls' := [some (.ref k), some (.int (nI x)), some (.int 0)]) rfl ?_
  have lp2 : ∀ (n2 : Nat) (i : Nat), (i ≤ n ∧ srch (fun q => nm q == x) 0 n = srch (fun q => nm q == x) i (n - i)) → n - i < n2 → Zw 0 zm_Rules_named 2 [some (.ref k), some (.int (nI x)), some (.int (nI i))] [] M _ := by
    intro n2
    induction n2 with
    | zero => intro i _ h; exact absurd h (Nat.not_lt_zero _)
    | succ n2 ih2 =>
      intro i hi2 hm2
      refine zw_n 2 rfl ?_
      refine zw_get rfl (hR.get 0 rfl) rfl ?_
      refine zw_igeN (a := i) (b := n) rfl rfl rfl (by omega) (by omega) (fun c7 => ?_) (fun c7 => ?_)
      · -- 7 to 28
        refine zw_n 1 rfl ?_
        exact zw_iret rfl rfl (sorry)
      · -- 7 to 10
        refine zw_n 1 rfl ?_
        refine zw_get rfl (hR.get 0 rfl) rfl ?_
        refine zw_n 1 rfl ?_
        refine zw_iald (j := i) rfl (hR.get 1 rfl) rfl (by decide) (by omega) ?_
        have b3 := hnm i
        refine zw_n 1 rfl ?_
        refine zw_ineN (a := nm i) (b := x) rfl rfl rfl (by omega) (by omega) (fun c17 => ?_) (fun c17 => ?_)
        · -- 17 to 22
          refine zw_inc rfl (x' := nI (i + 1)) (ls' := [some (.ref k), some (.int (nI x)), some (.int (nI (i + 1)))]) rfl (na (a := i) (b := 1) rfl rfl) rfl ?_
          refine zw_n 1 rfl ?_
          exact ih2 (i + 1) (⟨by omega, by rw [hi2.2]; exact srch_no (by omega) (by simpa using c19)⟩) (by omega)
        · -- 17 to 20
          refine zw_n 1 rfl ?_
          exact zw_iret rfl rfl (sorry)
  exact lp2 _ 0 (⟨Nat.zero_le _, rfl⟩) (Nat.lt_succ_self _)
