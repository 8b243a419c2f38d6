set_option maxHeartbeats 4000000 in
set_option maxRecDepth 100000 in
theorem c_copyTok (Mq : zM) (k k2 : Nat) (c : Nat) (sg li co : Nat → Nat) (hT : Seg Mq k (tokL k (c, sg, li, co))) (c2 : Nat) (sg2 li2 co2 : Nat → Nat) (hT2 : Seg Mq k2 (tokL k2 (c2, sg2, li2, co2))) (hd : k + 3 < k2 ∨ k2 + 3 < k) : Zm 1 zm_Tokens_copyFrom [.ref k, .ref k2] Mq (fun r9 M1 => r9 = none ∧ Seg M1 k (tokL k (c2, sg2, li2, co2)) ∧ Sm Mq M1 [k, k + 1, k + 2, k + 3]) := by
  show Zw 1 zm_Tokens_copyFrom 0 [some (.ref k), some (.ref k2)] [] Mq _
  refine zw_n 2 rfl ?_
  refine zw_get (v := .int (nI c2)) rfl (hT2.get 0 rfl) rfl ?_
  refine zw_put rfl (hT.get 0 rfl) (rfl) (Nat.le_of_ble_eq_true rfl) ?_
  generalize ez247 : List.set Mq k _ = Mz246
  refine zw_n 1 rfl ?_
  refine zw_get (v := .ref (k2 + 1)) rfl (zat_set ez247 (by omega) (hT2.get 0 rfl)) rfl ?_
  refine zw_n 2 rfl ?_
  refine zw_get (v := .ref (k + 1)) rfl (zat_self ez247 (hT.get 0 rfl)) rfl ?_
  refine zw_n 2 rfl ?_
  refine zw_cpyi (n := 20) (sp := 0) (dp := 0) rfl (by decide) (zat_set ez247 (by omega) (hT2.get 1 rfl)) (zat_set ez247 (by omega) (hT.get 1 rfl)) rfl rfl rfl (by omega) (by omega) rfl ?_
  rw [z_cp_all]
  generalize ez249 : List.set Mz246 (k + 1) _ = Mz248
  refine zw_n 1 rfl ?_
  refine zw_get (v := .ref (k2 + 2)) rfl (zat_set ez249 (by omega) (zat_set ez247 (by omega) (hT2.get 0 rfl))) rfl ?_
  refine zw_n 2 rfl ?_
  refine zw_get (v := .ref (k + 2)) rfl (zat_set ez249 (by omega) (zat_self ez247 (hT.get 0 rfl))) rfl ?_
  refine zw_n 2 rfl ?_
  refine zw_cpyi (n := 20) (sp := 0) (dp := 0) rfl (by decide) (zat_set ez249 (by omega) (zat_set ez247 (by omega) (hT2.get 2 rfl))) (zat_set ez249 (by omega) (zat_set ez247 (by omega) (hT.get 2 rfl))) rfl rfl rfl (by omega) (by omega) rfl ?_
  rw [z_cp_all]
  generalize ez251 : List.set Mz248 (k + 2) _ = Mz250
  refine zw_n 1 rfl ?_
  refine zw_get (v := .ref (k2 + 3)) rfl (zat_set ez251 (by omega) (zat_set ez249 (by omega) (zat_set ez247 (by omega) (hT2.get 0 rfl)))) rfl ?_
  refine zw_n 2 rfl ?_
  refine zw_get (v := .ref (k + 3)) rfl (zat_set ez251 (by omega) (zat_set ez249 (by omega) (zat_self ez247 (hT.get 0 rfl)))) rfl ?_
  refine zw_n 2 rfl ?_
  refine zw_cpyi (n := 20) (sp := 0) (dp := 0) rfl (by decide) (zat_set ez251 (by omega) (zat_set ez249 (by omega) (zat_set ez247 (by omega) (hT2.get 3 rfl)))) (zat_set ez251 (by omega) (zat_set ez249 (by omega) (zat_set ez247 (by omega) (hT.get 3 rfl)))) rfl rfl rfl (by omega) (by omega) rfl ?_
  rw [z_cp_all]
  generalize ez253 : List.set Mz250 (k + 3) _ = Mz252
  exact zw_vret rfl rfl (⟨rfl, (seg4 (zat_set ez253 (by omega) (zat_set ez251 (by omega) (zat_set ez249 (by omega) (zat_self ez247 (hT.get 0 rfl))))) (zat_set ez253 (by omega) (zat_set ez251 (by omega) (zat_self ez249 (zat_set ez247 (by omega) (hT.get 1 rfl))))) (zat_set ez253 (by omega) (zat_self ez251 (zat_set ez249 (by omega) (zat_set ez247 (by omega) (hT.get 2 rfl))))) (zat_self ez253 (zat_set ez251 (by omega) (zat_set ez249 (by omega) (zat_set ez247 (by omega) (hT.get 3 rfl)))))), Sm.tset (Sm.tset (Sm.tset (Sm.tset Sm.rf ez247 (by simp)) ez249 (by simp)) ez251 (by simp)) ez253 (by simp)⟩)

set_option maxHeartbeats 4000000 in
set_option maxRecDepth 100000 in
theorem c_addTok (Mq : zM) (k : Nat) (c : Nat) (sg li co : Nat → Nat) (hT : Seg Mq k (tokL k (c, sg, li, co))) (hS : SafeT c sg li co) (x y z : Nat) (hc : c < 20) : Zm 0 zm_Tokens_add [.ref k, .int (nI x), .int (nI y), .int (nI z)] Mq (fun r9 M1 => r9 = some (.int 1) ∧ Seg M1 k (tokL k (c + 1, up sg c x, up li c y, up co c z)) ∧ Sm Mq M1 [k, k + 1, k + 2, k + 3]) := by
  show Zw 0 zm_Tokens_add 0 [some (.ref k), some (.int (nI x)), some (.int (nI y)), some (.int (nI z))] [] Mq _
  refine zw_n 1 rfl ?_
  refine zw_get (v := .int (nI c)) rfl (hT.get 0 rfl) rfl ?_
  refine zw_n 1 rfl ?_
  refine zw_iltN (a := c) (b := 20) rfl rfl rfl (by omega) (by omega) (fun c6 => ?_) (fun c6 => ?_)
  · -- 6 to 11
    refine zw_n 1 rfl ?_
    refine zw_get (v := .ref (k + 1)) rfl (hT.get 0 rfl) rfl ?_
    refine zw_n 1 rfl ?_
    refine zw_get (v := .int (nI c)) rfl (hT.get 0 rfl) rfl ?_
    refine zw_n 1 rfl ?_
    refine zw_iastN (g := sg) (j := c) (v := x) rfl (hT.get 1 rfl) rfl (by decide) (by omega) (rfl) ?_
    generalize ez255 : List.set Mq (k + 1) _ = Mz254
    refine zw_n 1 rfl ?_
    refine zw_get (v := .ref (k + 2)) rfl (zat_set ez255 (by omega) (hT.get 0 rfl)) rfl ?_
    refine zw_n 1 rfl ?_
    refine zw_get (v := .int (nI c)) rfl (zat_set ez255 (by omega) (hT.get 0 rfl)) rfl ?_
    refine zw_n 1 rfl ?_
    refine zw_iastN (g := li) (j := c) (v := y) rfl (zat_set ez255 (by omega) (hT.get 2 rfl)) rfl (by decide) (by omega) (rfl) ?_
    generalize ez257 : List.set Mz254 (k + 2) _ = Mz256
    refine zw_n 1 rfl ?_
    refine zw_get (v := .ref (k + 3)) rfl (zat_set ez257 (by omega) (zat_set ez255 (by omega) (hT.get 0 rfl))) rfl ?_
    refine zw_n 1 rfl ?_
    refine zw_get (v := .int (nI c)) rfl (zat_set ez257 (by omega) (zat_set ez255 (by omega) (hT.get 0 rfl))) rfl ?_
    refine zw_n 1 rfl ?_
    refine zw_iastN (g := co) (j := c) (v := z) rfl (zat_set ez257 (by omega) (zat_set ez255 (by omega) (hT.get 3 rfl))) rfl (by decide) (by omega) (rfl) ?_
    generalize ez259 : List.set Mz256 (k + 3) _ = Mz258
    refine zw_n 2 rfl ?_
    refine zw_get (v := .int (nI c)) rfl (zat_set ez259 (by omega) (zat_set ez257 (by omega) (zat_set ez255 (by omega) (hT.get 0 rfl)))) rfl ?_
    refine zw_n 2 rfl ?_
    refine zw_top (na (a := c) (b := 1) rfl rfl) ?_
    refine zw_put rfl (zat_set ez259 (by omega) (zat_set ez257 (by omega) (zat_set ez255 (by omega) (hT.get 0 rfl)))) (rfl) (Nat.le_of_ble_eq_true rfl) ?_
    generalize ez261 : List.set Mz258 k _ = Mz260
    refine zw_n 1 rfl ?_
    exact zw_zret rfl rfl (Or.inr rfl) (⟨rfl, (seg4 (zat_self ez261 (zat_set ez259 (by omega) (zat_set ez257 (by omega) (zat_set ez255 (by omega) (hT.get 0 rfl))))) (zat_set ez261 (by omega) (zat_set ez259 (by omega) (zat_set ez257 (by omega) (zat_self ez255 (hT.get 1 rfl))))) (zat_set ez261 (by omega) (zat_set ez259 (by omega) (zat_self ez257 (zat_set ez255 (by omega) (hT.get 2 rfl))))) (zat_set ez261 (by omega) (zat_self ez259 (zat_set ez257 (by omega) (zat_set ez255 (by omega) (hT.get 3 rfl)))))), Sm.tset (Sm.tset (Sm.tset (Sm.tset Sm.rf ez255 (by simp)) ez257 (by simp)) ez259 (by simp)) ez261 (by simp)⟩)
  · -- 6 to 9
    exfalso
    omega

set_option maxHeartbeats 4000000 in
set_option maxRecDepth 100000 in
theorem c_addFull (Mq : zM) (k : Nat) (c : Nat) (sg li co : Nat → Nat) (hT : Seg Mq k (tokL k (c, sg, li, co))) (hS : SafeT c sg li co) (x y z : Nat) (hc : 20 ≤ c) : Zm 0 zm_Tokens_add [.ref k, .int (nI x), .int (nI y), .int (nI z)] Mq (fun r9 M1 => r9 = some (.int 0) ∧ M1 = Mq) := by
  show Zw 0 zm_Tokens_add 0 [some (.ref k), some (.int (nI x)), some (.int (nI y)), some (.int (nI z))] [] Mq _
  have hc2 := hS.1
  refine zw_n 1 rfl ?_
  refine zw_get (v := .int (nI c)) rfl (hT.get 0 rfl) rfl ?_
  refine zw_n 1 rfl ?_
  refine zw_iltN (a := c) (b := 20) rfl rfl rfl (by omega) (by omega) (fun c6 => ?_) (fun c6 => ?_)
  · -- 6 to 11
    exfalso
    omega
  · -- 6 to 9
    refine zw_n 1 rfl ?_
    exact zw_zret rfl rfl (Or.inl rfl) (⟨rfl, rfl⟩)

set_option maxHeartbeats 4000000 in
set_option maxRecDepth 100000 in
theorem c_moveLine (Mq : zM) (k : Nat) (c : Nat) (sg li co : Nat → Nat) (hT : Seg Mq k (tokL k (c, sg, li, co))) (hS : SafeT c sg li co) (x z : Int32) : Zm 1 zm_Tokens_moveLine [.ref k, .int x, .int z] Mq (fun r9 M1 => r9 = some (.int (nI (mvA c li co x.toInt z.toInt))) ∧ ∃ co9, Seg M1 k (tokL k (c, sg, li, co9)) ∧ Sm Mq M1 [k + 3] ∧ (∀ q, co9 q < 40) ∧ (∀ q, q < c → co9 q = if mvA c li co x.toInt z.toInt < 2147483648 then mvC li co x.toInt z.toInt q else co q) ∧ (¬ mvA c li co x.toInt z.toInt < 2147483648 → co9 = co)) := by
  show Zw 1 zm_Tokens_moveLine 0 [some (.ref k), some (.int x), some (.int z), none, none, none] [] Mq _
  have hc20 := hS.1
  refine zw_n 2 rfl ?_
  refine zw_ileZ (a := z.toInt) (b := (-40)) rfl (rfl) (by decide) (fun c3 => ?_) (fun c3 => ?_)
  · -- 3 to 12
    refine zw_n 1 rfl ?_
    exact zw_iret rfl rfl (⟨by rw [show mvA c li co x.toInt z.toInt = 4294967295 from (by unfold mvA; rw [if_pos (by omega)])]; rfl, co, hT, Sm.rf, hS.2.2.2, fun q hq => by rw [if_neg]; rw [show mvA c li co x.toInt z.toInt = 4294967295 from (by unfold mvA; rw [if_pos (by omega)])]; decide, fun _ => rfl⟩)
  · -- 3 to 6
    refine zw_n 2 rfl ?_
    refine zw_iltZ (a := z.toInt) (b := 40) rfl (rfl) (by decide) (fun c9 => ?_) (fun c9 => ?_)
    · -- 9 to 14
      refine zw_n 6 (ls' := [some (.ref k), some (.int x), some (.int z), some (.int 0), some (.int 1), some (.int 0)]) rfl ?_
      have lp22 : ∀ (n22 : Nat) (a : Nat) (s9 : Nat) (i : Nat), (i ≤ c ∧ a = cnt (inL li x.toInt) i ∧ s9 = (if stB li co x.toInt z.toInt i = true then 1 else 0)) → c - i < n22 → Zw 1 zm_Tokens_moveLine 22 [some (.ref k), some (.int x), some (.int z), some (.int (nI a)), some (.int (nI s9)), some (.int (nI i))] [] Mq (fun r9 M1 => r9 = some (.int (nI (mvA c li co x.toInt z.toInt))) ∧ ∃ co9, Seg M1 k (tokL k (c, sg, li, co9)) ∧ Sm Mq M1 [k + 3] ∧ (∀ q, co9 q < 40) ∧ (∀ q, q < c → co9 q = if mvA c li co x.toInt z.toInt < 2147483648 then mvC li co x.toInt z.toInt q else co q) ∧ (¬ mvA c li co x.toInt z.toInt < 2147483648 → co9 = co)) := by
        intro n22
        induction n22 with
        | zero => intro a s9 i _ h; exact absurd h (Nat.not_lt_zero _)
        | succ n22 ih22 =>
          intro a s9 i hi22 hm22
          have hal := cnt_le (inL li x.toInt) i
          have hs1 : s9 ≤ 1 := by rw [hi22.2.2]; split <;> decide
          refine zw_n 2 rfl ?_
          refine zw_get (v := .int (nI c)) rfl (hT.get 0 rfl) rfl ?_
          refine zw_igeN (a := i) (b := c) rfl rfl rfl (by omega) (by omega) (fun c28 => ?_) (fun c28 => ?_)
          · -- 28 to 78
            refine zw_n 1 rfl ?_
            refine zw_ne0N (a := a) rfl rfl (by omega) (fun c79 => ?_) (fun c79 => ?_)
            · -- 79 to 85
              refine zw_n 1 rfl ?_
              refine zw_ne0N (a := s9) rfl rfl (by omega) (fun c87 => ?_) (fun c87 => ?_)
              · -- 87 to 93
                have hst := (show stB li co x.toInt z.toInt c = true by have h9 := hi22.2.2; rw [show i = c by omega] at h9; cases hq : stB li co x.toInt z.toInt c with | true => rfl | false => rw [hq] at h9; simp at h9; omega)
                have hmv := (show mvA c li co x.toInt z.toInt = cnt (inL li x.toInt) c by unfold mvA; rw [if_neg (by omega), if_neg (by rw [← show i = c by omega, ← hi22.2.1]; omega), if_neg (by rw [hst]; decide)])
                have hcl := cnt_le (inL li x.toInt) c
                refine zw_n 2 (ls' := [some (.ref k), some (.int x), some (.int z), some (.int (nI a)), some (.int (nI s9)), some (.int 0)]) rfl ?_
                have lp96 : ∀ (n96 : Nat) (j : Nat) (cq : Nat → Nat) (M_96 : zM), Sm Mq M_96 [k + 3] → M_96[k + 3]? = some (.inl (0, 20, .inl (ai cq))) → (j ≤ c ∧ (∀ q, cq q < 40) ∧ ∀ q, cq q = if q < j then mvC li co x.toInt z.toInt q else co q) → c - j < n96 → Zw 1 zm_Tokens_moveLine 96 [some (.ref k), some (.int x), some (.int z), some (.int (nI a)), some (.int (nI s9)), some (.int (nI j))] [] M_96 (fun r9 M1 => r9 = some (.int (nI (mvA c li co x.toInt z.toInt))) ∧ ∃ co9, Seg M1 k (tokL k (c, sg, li, co9)) ∧ Sm Mq M1 [k + 3] ∧ (∀ q, co9 q < 40) ∧ (∀ q, q < c → co9 q = if mvA c li co x.toInt z.toInt < 2147483648 then mvC li co x.toInt z.toInt q else co q) ∧ (¬ mvA c li co x.toInt z.toInt < 2147483648 → co9 = co)) := by
                  intro n96
                  induction n96 with
                  | zero => intro j cq M_96 _ _ _ h; exact absurd h (Nat.not_lt_zero _)
                  | succ n96 ih96 =>
                    intro j cq M_96 s_96 f96_0 hi96 hm96
                    refine zw_n 2 rfl ?_
                    refine zw_get (v := .int (nI c)) rfl (Sm.at s_96 (by simp <;> omega) (hT.get 0 rfl)) rfl ?_
                    refine zw_igeN (a := j) (b := c) rfl rfl rfl (by omega) (by omega) (fun c102 => ?_) (fun c102 => ?_)
                    · -- 102 to 137
                      refine zw_n 1 rfl ?_
                      exact zw_iret rfl rfl (⟨by rw [hmv, hi22.2.1, show i = c by omega], cq, (seg4 (Sm.at s_96 (by simp <;> omega) (hT.get 0 rfl)) (Sm.at s_96 (by simp <;> omega) (hT.get 1 rfl)) (Sm.at s_96 (by simp <;> omega) (hT.get 2 rfl)) f96_0), s_96, hi96.2.1, fun q hq => by rw [hmv, if_pos (by omega), hi96.2.2 q, if_pos (by omega)], fun hq => absurd (by rw [hmv]; omega) hq⟩)
                    · -- 102 to 105
                      refine zw_n 1 rfl ?_
                      refine zw_get (v := .ref (k + 3)) rfl (Sm.at s_96 (by simp <;> omega) (hT.get 0 rfl)) rfl ?_
                      refine zw_n 2 rfl ?_
                      refine zw_iald (f := ai cq) (j := j) rfl f96_0 rfl (by decide) (by omega) ?_
                      have j113 : Zw 1 zm_Tokens_moveLine 129 [some (.ref k), some (.int x), some (.int z), some (.int (nI a)), some (.int (nI s9)), some (.int (nI j))] [.int (if (li j : Int) = x.toInt then z else 0), .int (nI (cq j)), .int (nI j), .ref (k + 3)] M_96 (fun r9 M1 => r9 = some (.int (nI (mvA c li co x.toInt z.toInt))) ∧ ∃ co9, Seg M1 k (tokL k (c, sg, li, co9)) ∧ Sm Mq M1 [k + 3] ∧ (∀ q, co9 q < 40) ∧ (∀ q, q < c → co9 q = if mvA c li co x.toInt z.toInt < 2147483648 then mvC li co x.toInt z.toInt q else co q) ∧ (¬ mvA c li co x.toInt z.toInt < 2147483648 → co9 = co)) := by
                        refine zw_n 1 rfl ?_
                        refine zw_iastN (g := cq) (j := j) (v := (mvC li co x.toInt z.toInt j)) rfl f96_0 rfl (by decide) (by omega) (mv_store hi96 hst (by omega) hS.2.2.2 (by omega)) ?_
                        generalize ez263 : List.set M_96 (k + 3) _ = Mz262
                        refine zw_inc rfl (x' := (nI (j + 1))) (ls' := [some (.ref k), some (.int x), some (.int z), some (.int (nI a)), some (.int (nI s9)), some (.int (nI (j + 1)))]) rfl (na (a := j) (b := 1) rfl rfl) rfl ?_
                        refine zw_n 1 rfl ?_
                        exact ih96 (j + 1) (up cq j (mvC li co x.toInt z.toInt j)) Mz262 (Sm.tset s_96 ez263 (by simp)) (zat_self ez263 f96_0) (mv_next hi96 (by omega) hst hS.2.2.2) (by omega)
                      refine zw_n 1 rfl ?_
                      refine zw_get (v := .ref (k + 2)) rfl (Sm.at s_96 (by simp <;> omega) (hT.get 0 rfl)) rfl ?_
                      refine zw_n 1 rfl ?_
                      refine zw_iald (f := ai li) (j := j) rfl (Sm.at s_96 (by simp <;> omega) (hT.get 2 rfl)) rfl (by decide) (by omega) ?_
                      have bz264 := hS.2.2.1 j
                      refine zw_n 1 rfl ?_
                      refine zw_ineZ (a := ((li j : Nat) : Int)) (b := x.toInt) rfl (nI_toInt (by omega)) (rfl) (fun c121 => ?_) (fun c121 => ?_)
                      · -- 121 to 128
                        refine zw_n 1 rfl ?_
                        refine zw_top (x' := (if (li j : Int) = x.toInt then z else 0)) (show (0 : Int32) = (if (li j : Int) = x.toInt then z else 0) by rw [if_neg (by omega)]) ?_
                        exact j113
                      · -- 121 to 124
                        refine zw_n 2 rfl ?_
                        refine zw_top (x' := (if (li j : Int) = x.toInt then z else 0)) (show (z : Int32) = (if (li j : Int) = x.toInt then z else 0) by rw [if_pos (by omega)]) ?_
                        exact j113
                exact lp96 _ 0 co Mq Sm.rf (hT.get 3 rfl) (⟨Nat.zero_le _, hS.2.2.2, fun q => by rw [if_neg (by omega)]⟩) (Nat.lt_succ_self _)
              · -- 87 to 90
                refine zw_n 1 rfl ?_
                exact zw_iret rfl rfl (⟨by rw [show mvA c li co x.toInt z.toInt = 4294967293 from (by unfold mvA; rw [if_neg (by omega), if_neg (by rw [← show i = c by omega, ← hi22.2.1]; exact c79), if_pos (by rw [← show i = c by omega]; cases hq : stB li co x.toInt z.toInt i with | false => rfl | true => (have h9 := hi22.2.2; rw [hq] at h9; simp at h9; omega))])]; rfl, co, hT, Sm.rf, hS.2.2.2, fun q hq => by rw [if_neg]; rw [show mvA c li co x.toInt z.toInt = 4294967293 from (by unfold mvA; rw [if_neg (by omega), if_neg (by rw [← show i = c by omega, ← hi22.2.1]; exact c79), if_pos (by rw [← show i = c by omega]; cases hq : stB li co x.toInt z.toInt i with | false => rfl | true => (have h9 := hi22.2.2; rw [hq] at h9; simp at h9; omega))])]; decide, fun _ => rfl⟩)
            · -- 79 to 82
              refine zw_n 1 rfl ?_
              exact zw_iret rfl rfl (⟨by rw [show mvA c li co x.toInt z.toInt = 4294967294 from (by unfold mvA; rw [if_neg (by omega), if_pos (by rw [← show i = c by omega, ← hi22.2.1]; exact c79)])]; rfl, co, hT, Sm.rf, hS.2.2.2, fun q hq => by rw [if_neg]; rw [show mvA c li co x.toInt z.toInt = 4294967294 from (by unfold mvA; rw [if_neg (by omega), if_pos (by rw [← show i = c by omega, ← hi22.2.1]; exact c79)])]; decide, fun _ => rfl⟩)
          · -- 28 to 31
            refine zw_n 1 rfl ?_
            refine zw_get (v := .ref (k + 2)) rfl (hT.get 0 rfl) rfl ?_
            refine zw_n 1 rfl ?_
            refine zw_iald (f := ai li) (j := i) rfl (hT.get 2 rfl) rfl (by decide) (by omega) ?_
            have bz265 := hS.2.2.1 i
            refine zw_n 1 rfl ?_
            refine zw_ineZ (a := ((li i : Nat) : Int)) (b := x.toInt) rfl (nI_toInt (by omega)) (rfl) (fun c39 => ?_) (fun c39 => ?_)
            · -- 39 to 72
              refine zw_inc rfl (x' := (nI (i + 1))) (ls' := [some (.ref k), some (.int x), some (.int z), some (.int (nI a)), some (.int (nI s9)), some (.int (nI (i + 1)))]) rfl (na (a := i) (b := 1) rfl rfl) rfl ?_
              refine zw_n 1 rfl ?_
              exact ih22 a s9 (i + 1) (⟨by omega, by first | exact cnt_yes hi22.2.1 (by simp [inL]; omega) | exact cnt_no hi22.2.1 (by simp [inL]; omega), by first | exact stB_s hi22.2.2 ⟨fun hq => ⟨hq.1, fun _ => by rw [← addI hS.2.2.2 (by omega) (by omega)]; exact hq.2⟩, fun hq => ⟨hq.1, by rw [addI hS.2.2.2 (by omega) (by omega)]; exact hq.2 (by omega)⟩⟩ | exact stB_o hi22.2.2 (by omega)⟩) (by omega)
            · -- 39 to 42
              refine zw_inc rfl (x' := (nI (a + 1))) (ls' := [some (.ref k), some (.int x), some (.int z), some (.int (nI (a + 1))), some (.int (nI s9)), some (.int (nI i))]) rfl (na (a := a) (b := 1) rfl rfl) rfl ?_
              have j45 : Zw 1 zm_Tokens_moveLine 70 [some (.ref k), some (.int x), some (.int z), some (.int (nI (a + 1))), some (.int (nI s9)), some (.int (nI i))] [.int (nI (if s9 ≠ 0 ∧ (0 ≤ (nI (co i) + z).toInt ∧ (nI (co i) + z).toInt < 40) then 1 else 0))] Mq (fun r9 M1 => r9 = some (.int (nI (mvA c li co x.toInt z.toInt))) ∧ ∃ co9, Seg M1 k (tokL k (c, sg, li, co9)) ∧ Sm Mq M1 [k + 3] ∧ (∀ q, co9 q < 40) ∧ (∀ q, q < c → co9 q = if mvA c li co x.toInt z.toInt < 2147483648 then mvC li co x.toInt z.toInt q else co q) ∧ (¬ mvA c li co x.toInt z.toInt < 2147483648 → co9 = co)) := by
                refine zw_n 1 (ls' := [some (.ref k), some (.int x), some (.int z), some (.int (nI (a + 1))), some (.int (nI (if s9 ≠ 0 ∧ (0 ≤ (nI (co i) + z).toInt ∧ (nI (co i) + z).toInt < 40) then 1 else 0))), some (.int (nI i))]) rfl ?_
                refine zw_inc rfl (x' := (nI (i + 1))) (ls' := [some (.ref k), some (.int x), some (.int z), some (.int (nI (a + 1))), some (.int (nI (if s9 ≠ 0 ∧ (0 ≤ (nI (co i) + z).toInt ∧ (nI (co i) + z).toInt < 40) then 1 else 0))), some (.int (nI (i + 1)))]) rfl (na (a := i) (b := 1) rfl rfl) rfl ?_
                refine zw_n 1 rfl ?_
                exact ih22 (a + 1) (if s9 ≠ 0 ∧ (0 ≤ (nI (co i) + z).toInt ∧ (nI (co i) + z).toInt < 40) then 1 else 0) (i + 1) (⟨by omega, by first | exact cnt_yes hi22.2.1 (by simp [inL]; omega) | exact cnt_no hi22.2.1 (by simp [inL]; omega), by first | exact stB_s hi22.2.2 ⟨fun hq => ⟨hq.1, fun _ => by rw [← addI hS.2.2.2 (by omega) (by omega)]; exact hq.2⟩, fun hq => ⟨hq.1, by rw [addI hS.2.2.2 (by omega) (by omega)]; exact hq.2 (by omega)⟩⟩ | exact stB_o hi22.2.2 (by omega)⟩) (by omega)
              refine zw_n 1 rfl ?_
              refine zw_eq0N (a := s9) rfl rfl (by omega) (fun c47 => ?_) (fun c47 => ?_)
              · -- 47 to 69
                refine zw_n 1 rfl ?_
                refine zw_top (x' := nI (if s9 ≠ 0 ∧ (0 ≤ (nI (co i) + z).toInt ∧ (nI (co i) + z).toInt < 40) then 1 else 0)) (show nI 0 = nI (if s9 ≠ 0 ∧ (0 ≤ (nI (co i) + z).toInt ∧ (nI (co i) + z).toInt < 40) then 1 else 0) by rw [if_neg (by first | (intro hq; exact hq.1 c47) | (intro hq; revert c62; rw [if_pos hq.2]; omega))]) ?_
                exact j45
              · -- 47 to 50
                refine zw_n 1 rfl ?_
                refine zw_get (v := .ref (k + 3)) rfl (hT.get 0 rfl) rfl ?_
                refine zw_n 1 rfl ?_
                refine zw_iald (f := ai co) (j := i) rfl (hT.get 3 rfl) rfl (by decide) (by omega) ?_
                have bz266 := hS.2.2.2 i
                refine zw_n 2 rfl ?_
                refine zw_callS (as := [.int ((nI (co i)) + z)]) (rest := []) rfl rfl rfl rfl rfl rfl (by decide) (c_isColumn _ _) (fun rz267 Mz268 hz269 => ?_)
                rw [hz269.1, hz269.2]
                show Zw 1 zm_Tokens_moveLine 62 [some (.ref k), some (.int x), some (.int z), some (.int (nI (a + 1))), some (.int (nI s9)), some (.int (nI i))] [.int (nI (if 0 ≤ ((nI (co i)) + z).toInt ∧ ((nI (co i)) + z).toInt < 40 then 1 else 0))] Mq _
                refine zw_eq0N (a := if 0 ≤ ((nI (co i)) + z).toInt ∧ ((nI (co i)) + z).toInt < 40 then 1 else 0) rfl rfl (ite_b) (fun c62 => ?_) (fun c62 => ?_)
                · -- 62 to 69
                  refine zw_n 1 rfl ?_
                  refine zw_top (x' := nI (if s9 ≠ 0 ∧ (0 ≤ (nI (co i) + z).toInt ∧ (nI (co i) + z).toInt < 40) then 1 else 0)) (show nI 0 = nI (if s9 ≠ 0 ∧ (0 ≤ (nI (co i) + z).toInt ∧ (nI (co i) + z).toInt < 40) then 1 else 0) by rw [if_neg (by first | (intro hq; exact hq.1 c47) | (intro hq; revert c62; rw [if_pos hq.2]; omega))]) ?_
                  exact j45
                · -- 62 to 65
                  refine zw_n 2 rfl ?_
                  refine zw_top (x' := nI (if s9 ≠ 0 ∧ (0 ≤ (nI (co i) + z).toInt ∧ (nI (co i) + z).toInt < 40) then 1 else 0)) (show nI 1 = nI (if s9 ≠ 0 ∧ (0 ≤ (nI (co i) + z).toInt ∧ (nI (co i) + z).toInt < 40) then 1 else 0) by rw [if_pos (by refine ⟨c47, ?_⟩; revert c62; split <;> omega)]) ?_
                  exact j45
      exact lp22 _ 0 1 0 (⟨Nat.zero_le _, rfl, rfl⟩) (Nat.lt_succ_self _)
    · -- 9 to 12
      refine zw_n 1 rfl ?_
      exact zw_iret rfl rfl (⟨by rw [show mvA c li co x.toInt z.toInt = 4294967295 from (by unfold mvA; rw [if_pos (by omega)])]; rfl, co, hT, Sm.rf, hS.2.2.2, fun q hq => by rw [if_neg]; rw [show mvA c li co x.toInt z.toInt = 4294967295 from (by unfold mvA; rw [if_pos (by omega)])]; decide, fun _ => rfl⟩)

set_option maxHeartbeats 4000000 in
set_option maxRecDepth 100000 in
theorem c_shift (Mq : zM) (k : Nat) (c : Nat) (sg li co : Nat → Nat) (hT : Seg Mq k (tokL k (c, sg, li, co))) (hS : SafeT c sg li co) (x z : Nat) (hx : x ≤ c) (hz : z + (c - x) ≤ 20) : Zm 1 zm_Tokens_shift [.ref k, .int (nI x), .int (nI z)] Mq (fun r9 M1 => r9 = none ∧ Seg M1 k (tokL k (c, z_cp sg sg x z (c - x) 20, z_cp li li x z (c - x) 20, z_cp co co x z (c - x) 20)) ∧ Sm Mq M1 [k, k + 1, k + 2, k + 3]) := by
  show Zw 1 zm_Tokens_shift 0 [some (.ref k), some (.int (nI x)), some (.int (nI z))] [] Mq _
  have hc20 := hS.1
  refine zw_n 1 rfl ?_
  refine zw_get (v := .ref (k + 1)) rfl (hT.get 0 rfl) rfl ?_
  refine zw_n 2 rfl ?_
  refine zw_get (v := .ref (k + 1)) rfl (hT.get 0 rfl) rfl ?_
  refine zw_n 2 rfl ?_
  refine zw_get (v := .int (nI c)) rfl (hT.get 0 rfl) rfl ?_
  refine zw_n 2 rfl ?_
  refine zw_top (ns (a := c) (b := x) rfl rfl (by omega)) ?_
  refine zw_cpyi (n := (c - x)) (sp := x) (dp := z) rfl (by decide) (hT.get 1 rfl) (hT.get 1 rfl) rfl rfl rfl (by omega) (by omega) rfl ?_
  rw [ai_cp]
  generalize ez271 : List.set Mq (k + 1) _ = Mz270
  refine zw_n 1 rfl ?_
  refine zw_get (v := .ref (k + 2)) rfl (zat_set ez271 (by omega) (hT.get 0 rfl)) rfl ?_
  refine zw_n 2 rfl ?_
  refine zw_get (v := .ref (k + 2)) rfl (zat_set ez271 (by omega) (hT.get 0 rfl)) rfl ?_
  refine zw_n 2 rfl ?_
  refine zw_get (v := .int (nI c)) rfl (zat_set ez271 (by omega) (hT.get 0 rfl)) rfl ?_
  refine zw_n 2 rfl ?_
  refine zw_top (ns (a := c) (b := x) rfl rfl (by omega)) ?_
  refine zw_cpyi (n := (c - x)) (sp := x) (dp := z) rfl (by decide) (zat_set ez271 (by omega) (hT.get 2 rfl)) (zat_set ez271 (by omega) (hT.get 2 rfl)) rfl rfl rfl (by omega) (by omega) rfl ?_
  rw [ai_cp]
  generalize ez273 : List.set Mz270 (k + 2) _ = Mz272
  refine zw_n 1 rfl ?_
  refine zw_get (v := .ref (k + 3)) rfl (zat_set ez273 (by omega) (zat_set ez271 (by omega) (hT.get 0 rfl))) rfl ?_
  refine zw_n 2 rfl ?_
  refine zw_get (v := .ref (k + 3)) rfl (zat_set ez273 (by omega) (zat_set ez271 (by omega) (hT.get 0 rfl))) rfl ?_
  refine zw_n 2 rfl ?_
  refine zw_get (v := .int (nI c)) rfl (zat_set ez273 (by omega) (zat_set ez271 (by omega) (hT.get 0 rfl))) rfl ?_
  refine zw_n 2 rfl ?_
  refine zw_top (ns (a := c) (b := x) rfl rfl (by omega)) ?_
  refine zw_cpyi (n := (c - x)) (sp := x) (dp := z) rfl (by decide) (zat_set ez273 (by omega) (zat_set ez271 (by omega) (hT.get 3 rfl))) (zat_set ez273 (by omega) (zat_set ez271 (by omega) (hT.get 3 rfl))) rfl rfl rfl (by omega) (by omega) rfl ?_
  rw [ai_cp]
  generalize ez275 : List.set Mz272 (k + 3) _ = Mz274
  exact zw_vret rfl rfl (⟨rfl, (seg4 (zat_set ez275 (by omega) (zat_set ez273 (by omega) (zat_set ez271 (by omega) (hT.get 0 rfl)))) (zat_set ez275 (by omega) (zat_set ez273 (by omega) (zat_self ez271 (hT.get 1 rfl)))) (zat_set ez275 (by omega) (zat_self ez273 (zat_set ez271 (by omega) (hT.get 2 rfl)))) (zat_self ez275 (zat_set ez273 (by omega) (zat_set ez271 (by omega) (hT.get 3 rfl))))), Sm.tset (Sm.tset (Sm.tset Sm.rf ez271 (by simp)) ez273 (by simp)) ez275 (by simp)⟩)

set_option maxHeartbeats 4000000 in
set_option maxRecDepth 100000 in
theorem c_takeOk (Mq : zM) (k : Nat) (c : Nat) (sg li co : Nat → Nat) (hT : Seg Mq k (tokL k (c, sg, li, co))) (hS : SafeT c sg li co) (x : Nat) (hx : x < c) : Zm 2 zm_Tokens_takeToken [.ref k, .int (nI x)] Mq (fun r9 M1 => r9 = some (.int (nI (c - 1))) ∧ ∃ sg9 li9 co9, Seg M1 k (tokL k (c - 1, sg9, li9, co9)) ∧ Sm Mq M1 [k, k + 1, k + 2, k + 3] ∧ SafeT (c - 1) sg9 li9 co9 ∧ (∀ q, q < c - 1 → sg9 q = tkF x sg q ∧ li9 q = tkF x li q ∧ co9 q = tkF x co q) ∧ ∀ L, (∀ q, li q < L) → ∀ q, li9 q < L) := by
  show Zw 2 zm_Tokens_takeToken 0 [some (.ref k), some (.int (nI x))] [] Mq _
  have hc20 := hS.1
  refine zw_n 1 rfl ?_
  refine zw_lt0N (a := x) rfl rfl (by omega) ?_
  refine zw_n 2 rfl ?_
  refine zw_get (v := .int (nI c)) rfl (hT.get 0 rfl) rfl ?_
  refine zw_iltN (a := x) (b := c) rfl rfl rfl (by omega) (by omega) (fun c9 => ?_) (fun c9 => ?_)
  · -- 9 to 15
    refine zw_n 4 rfl ?_
    refine zw_top (na (a := x) (b := 1) rfl rfl) ?_
    refine zw_n 1 rfl ?_
    refine zw_callV (as := [.int (nI (x + 1)), .int (nI x)]) (rest := []) rfl rfl rfl (hT.get 0 rfl) rfl rfl rfl (by decide) (c_shift Mq k c sg li co (seg4 (hT.get 0 rfl) (hT.get 1 rfl) (hT.get 2 rfl) (hT.get 3 rfl)) hS (x + 1) x (by omega) (by omega)) (fun rz279 Mz280 hz281 => ?_)
    obtain ⟨hAz276, hBz277, hSz278⟩ := hz281
    rw [hAz276]
    show Zw 2 zm_Tokens_takeToken 23 [some (.ref k), some (.int (nI x))] [] Mz280 _
    refine zw_n 2 rfl ?_
    refine zw_get (v := .int (nI c)) rfl (hBz277.get 0 rfl) rfl ?_
    refine zw_n 2 rfl ?_
    refine zw_top (ns (a := c) (b := 1) rfl rfl (by omega)) ?_
    refine zw_put rfl (hBz277.get 0 rfl) (rfl) (Nat.le_of_ble_eq_true rfl) ?_
    generalize ez283 : List.set Mz280 k _ = Mz282
    refine zw_n 1 rfl ?_
    refine zw_get (v := .int (nI (c - 1))) rfl (zat_self ez283 (hBz277.get 0 rfl)) rfl ?_
    exact zw_iret rfl rfl (⟨rfl, _, _, _, (seg4 (zat_self ez283 (hBz277.get 0 rfl)) (zat_set ez283 (by omega) (hBz277.get 1 rfl)) (zat_set ez283 (by omega) (hBz277.get 2 rfl)) (zat_set ez283 (by omega) (hBz277.get 3 rfl))), Sm.tset (Sm.trans Sm.rf hSz278) ez283 (by simp), ⟨by omega, cp_sg hS.2.1, cp_lt hS.2.2.1, cp_lt hS.2.2.2⟩, fun q hq => ⟨cp_take hx hc20 q hq, cp_take hx hc20 q hq, cp_take hx hc20 q hq⟩, fun L hL => cp_lt hL⟩)
  · -- 9 to 12
    exfalso
    omega

set_option maxHeartbeats 4000000 in
set_option maxRecDepth 100000 in
theorem c_takeNo (Mq : zM) (k : Nat) (c : Nat) (sg li co : Nat → Nat) (hT : Seg Mq k (tokL k (c, sg, li, co))) (hS : SafeT c sg li co) (x : Int32) (hx : ¬ (0 ≤ x.toInt ∧ x.toInt < c)) : Zm 2 zm_Tokens_takeToken [.ref k, .int x] Mq (fun r9 M1 => r9 = some (.int (-2)) ∧ M1 = Mq) := by
  show Zw 2 zm_Tokens_takeToken 0 [some (.ref k), some (.int x)] [] Mq _
  have hc20 := hS.1
  refine zw_n 1 rfl ?_
  refine zw_lt0Z (a := x.toInt) rfl (rfl) (fun c1 => ?_) (fun c1 => ?_)
  · -- 1 to 12
    refine zw_n 1 rfl ?_
    exact zw_iret rfl rfl (⟨rfl, rfl⟩)
  · -- 1 to 4
    refine zw_n 2 rfl ?_
    refine zw_get (v := .int (nI c)) rfl (hT.get 0 rfl) rfl ?_
    refine zw_iltZ (a := x.toInt) (b := ((c : Nat) : Int)) rfl (rfl) (nI_toInt (by omega)) (fun c9 => ?_) (fun c9 => ?_)
    · -- 9 to 15
      exfalso
      omega
    · -- 9 to 12
      refine zw_n 1 rfl ?_
      exact zw_iret rfl rfl (⟨rfl, rfl⟩)

set_option maxHeartbeats 4000000 in
set_option maxRecDepth 100000 in
theorem c_changeA (Mq : zM) (k : Nat) (c : Nat) (sg li co : Nat → Nat) (hT : Seg Mq k (tokL k (c, sg, li, co))) (hS : SafeT c sg li co) (x z : Int32) (hz : ¬ (33 ≤ z.toInt ∧ z.toInt ≤ 126)) : Zm 1 zm_Tokens_changeToken [.ref k, .int x, .int z] Mq (fun r9 M1 => r9 = some (.int (-1)) ∧ M1 = Mq) := by
  show Zw 1 zm_Tokens_changeToken 0 [some (.ref k), some (.int x), some (.int z), none] [] Mq _
  refine zw_n 1 rfl ?_
  refine zw_callS (as := [.int z]) (rest := []) rfl rfl rfl rfl rfl rfl (by decide) (c_isSign _ _) (fun rz284 Mz285 hz286 => ?_)
  rw [hz286.1, hz286.2]
  show Zw 1 zm_Tokens_changeToken 4 [some (.ref k), some (.int x), some (.int z), none] [.int (nI (if 33 ≤ z.toInt ∧ z.toInt ≤ 126 then 1 else 0))] Mq _
  refine zw_ne0N (a := if 33 ≤ z.toInt ∧ z.toInt ≤ 126 then 1 else 0) rfl rfl (ite_b) (fun c4 => ?_) (fun c4 => ?_)
  · -- 4 to 9
    exfalso
    rw [if_neg hz] at c4; exact c4 rfl
  · -- 4 to 7
    refine zw_n 1 rfl ?_
    exact zw_iret rfl rfl (⟨rfl, rfl⟩)

set_option maxHeartbeats 4000000 in
set_option maxRecDepth 100000 in
theorem c_changeB (Mq : zM) (k : Nat) (c : Nat) (sg li co : Nat → Nat) (hT : Seg Mq k (tokL k (c, sg, li, co))) (hS : SafeT c sg li co) (x z : Int32) (hz : 33 ≤ z.toInt ∧ z.toInt ≤ 126) (hx : ¬ (0 ≤ x.toInt ∧ x.toInt < c)) : Zm 1 zm_Tokens_changeToken [.ref k, .int x, .int z] Mq (fun r9 M1 => r9 = some (.int (-2)) ∧ M1 = Mq) := by
  show Zw 1 zm_Tokens_changeToken 0 [some (.ref k), some (.int x), some (.int z), none] [] Mq _
  have hc20 := hS.1
  refine zw_n 1 rfl ?_
  refine zw_callS (as := [.int z]) (rest := []) rfl rfl rfl rfl rfl rfl (by decide) (c_isSign _ _) (fun rz287 Mz288 hz289 => ?_)
  rw [hz289.1, hz289.2]
  show Zw 1 zm_Tokens_changeToken 4 [some (.ref k), some (.int x), some (.int z), none] [.int (nI (if 33 ≤ z.toInt ∧ z.toInt ≤ 126 then 1 else 0))] Mq _
  refine zw_ne0N (a := if 33 ≤ z.toInt ∧ z.toInt ≤ 126 then 1 else 0) rfl rfl (ite_b) (fun c4 => ?_) (fun c4 => ?_)
  · -- 4 to 9
    refine zw_n 1 rfl ?_
    refine zw_lt0Z (a := x.toInt) rfl (rfl) (fun c10 => ?_) (fun c10 => ?_)
    · -- 10 to 21
      refine zw_n 1 rfl ?_
      exact zw_iret rfl rfl (⟨rfl, rfl⟩)
    · -- 10 to 13
      refine zw_n 2 rfl ?_
      refine zw_get (v := .int (nI c)) rfl (hT.get 0 rfl) rfl ?_
      refine zw_iltZ (a := x.toInt) (b := ((c : Nat) : Int)) rfl (rfl) (nI_toInt (by omega)) (fun c18 => ?_) (fun c18 => ?_)
      · -- 18 to 24
        exfalso
        omega
      · -- 18 to 21
        refine zw_n 1 rfl ?_
        exact zw_iret rfl rfl (⟨rfl, rfl⟩)
  · -- 4 to 7
    exfalso
    rw [if_pos hz] at c4; cases c4

set_option maxHeartbeats 4000000 in
set_option maxRecDepth 100000 in
theorem c_changeOk (Mq : zM) (k : Nat) (c : Nat) (sg li co : Nat → Nat) (hT : Seg Mq k (tokL k (c, sg, li, co))) (hS : SafeT c sg li co) (x g : Nat) (hx : x < c) (hg : 33 ≤ g ∧ g ≤ 126) : Zm 1 zm_Tokens_changeToken [.ref k, .int (nI x), .int (nI g)] Mq (fun r9 M1 => if sg x = g then r9 = some (.int (-3)) ∧ M1 = Mq else r9 = some (.int (nI (sg x))) ∧ Seg M1 k (tokL k (c, up sg x g, li, co)) ∧ Sm Mq M1 [k + 1]) := by
  show Zw 1 zm_Tokens_changeToken 0 [some (.ref k), some (.int (nI x)), some (.int (nI g)), none] [] Mq _
  have hc20 := hS.1
  refine zw_n 1 rfl ?_
  refine zw_callS (as := [.int (nI g)]) (rest := []) rfl rfl rfl rfl rfl rfl (by decide) (c_isSign _ _) (fun rz290 Mz291 hz292 => ?_)
  rw [hz292.1, hz292.2]
  show Zw 1 zm_Tokens_changeToken 4 [some (.ref k), some (.int (nI x)), some (.int (nI g)), none] [.int (nI (if 33 ≤ (nI g).toInt ∧ (nI g).toInt ≤ 126 then 1 else 0))] Mq _
  refine zw_ne0N (a := if 33 ≤ (nI g).toInt ∧ (nI g).toInt ≤ 126 then 1 else 0) rfl rfl (ite_b) (fun c4 => ?_) (fun c4 => ?_)
  · -- 4 to 9
    refine zw_n 1 rfl ?_
    refine zw_lt0N (a := x) rfl rfl (by omega) ?_
    refine zw_n 2 rfl ?_
    refine zw_get (v := .int (nI c)) rfl (hT.get 0 rfl) rfl ?_
    refine zw_iltN (a := x) (b := c) rfl rfl rfl (by omega) (by omega) (fun c18 => ?_) (fun c18 => ?_)
    · -- 18 to 24
      refine zw_n 1 rfl ?_
      refine zw_get (v := .ref (k + 1)) rfl (hT.get 0 rfl) rfl ?_
      refine zw_n 1 rfl ?_
      refine zw_iald (f := ai sg) (j := x) rfl (hT.get 1 rfl) rfl (by decide) (by omega) ?_
      have bz293 := hS.2.1 x
      refine zw_n 1 rfl ?_
      refine zw_ineN (a := sg x) (b := g) rfl rfl rfl (by omega) (by omega) (fun c31 => ?_) (fun c31 => ?_)
      · -- 31 to 37
        refine zw_n 1 rfl ?_
        refine zw_get (v := .ref (k + 1)) rfl (hT.get 0 rfl) rfl ?_
        refine zw_n 1 rfl ?_
        refine zw_iald (f := ai sg) (j := x) rfl (hT.get 1 rfl) rfl (by decide) (by omega) ?_
        have bz294 := hS.2.1 x
        refine zw_n 2 (ls' := [some (.ref k), some (.int (nI x)), some (.int (nI g)), some (.int (nI (sg x)))]) rfl ?_
        refine zw_get (v := .ref (k + 1)) rfl (hT.get 0 rfl) rfl ?_
        refine zw_n 2 rfl ?_
        refine zw_iastN (g := sg) (j := x) (v := g) rfl (hT.get 1 rfl) rfl (by decide) (by omega) (rfl) ?_
        generalize ez296 : List.set Mq (k + 1) _ = Mz295
        refine zw_n 1 rfl ?_
        exact zw_iret rfl rfl (by rw [if_neg c31]; exact ⟨rfl, (seg4 (zat_set ez296 (by omega) (hT.get 0 rfl)) (zat_self ez296 (hT.get 1 rfl)) (zat_set ez296 (by omega) (hT.get 2 rfl)) (zat_set ez296 (by omega) (hT.get 3 rfl))), Sm.tset Sm.rf ez296 (by simp)⟩)
      · -- 31 to 34
        refine zw_n 1 rfl ?_
        exact zw_iret rfl rfl (by rw [if_pos c31]; exact ⟨rfl, rfl⟩)
    · -- 18 to 21
      exfalso
      omega
  · -- 4 to 7
    exfalso
    rw [if_pos (by rw [nI_toInt (by omega)]; omega)] at c4; cases c4

set_option maxHeartbeats 4000000 in
set_option maxRecDepth 100000 in
theorem c_isAhead (Mq : zM) (k : Nat) (c : Nat) (sg li co : Nat → Nat) (hT : Seg Mq k (tokL k (c, sg, li, co))) (hS : SafeT c sg li co) (q l d : Nat) (hq : q < 20) (hl : l < 2147483648) (hd : d < 40) : Zm 0 zm_Tokens_isAhead [.ref k, .int (nI q), .int (nI l), .int (nI d)] Mq (fun r9 M1 => r9 = some (.int (nI (if ahB li co l d q = true then 1 else 0))) ∧ M1 = Mq) := by
  show Zw 0 zm_Tokens_isAhead 0 [some (.ref k), some (.int (nI q)), some (.int (nI l)), some (.int (nI d))] [] Mq _
  refine zw_n 1 rfl ?_
  refine zw_get (v := .ref (k + 2)) rfl (hT.get 0 rfl) rfl ?_
  refine zw_n 1 rfl ?_
  refine zw_iald (f := ai li) (j := q) rfl (hT.get 2 rfl) rfl (by decide) (by omega) ?_
  have bz297 := hS.2.2.1 q
  refine zw_n 1 rfl ?_
  refine zw_iltN (a := li q) (b := l) rfl rfl rfl (by omega) (by omega) (fun c7 => ?_) (fun c7 => ?_)
  · -- 7 to 30
    refine zw_n 2 rfl ?_
    exact zw_zret rfl rfl (Or.inr rfl) (⟨by rw [if_pos (by unfold ahB; simp; omega)]; rfl, rfl⟩)
  · -- 7 to 10
    refine zw_n 1 rfl ?_
    refine zw_get (v := .ref (k + 2)) rfl (hT.get 0 rfl) rfl ?_
    refine zw_n 1 rfl ?_
    refine zw_iald (f := ai li) (j := q) rfl (hT.get 2 rfl) rfl (by decide) (by omega) ?_
    have bz298 := hS.2.2.1 q
    refine zw_n 1 rfl ?_
    refine zw_ineN (a := li q) (b := l) rfl rfl rfl (by omega) (by omega) (fun c17 => ?_) (fun c17 => ?_)
    · -- 17 to 34
      refine zw_n 1 rfl ?_
      exact zw_zret rfl rfl (Or.inl rfl) (⟨by rw [if_neg (by unfold ahB; simp; omega)]; rfl, rfl⟩)
    · -- 17 to 20
      refine zw_n 1 rfl ?_
      refine zw_get (v := .ref (k + 3)) rfl (hT.get 0 rfl) rfl ?_
      refine zw_n 1 rfl ?_
      refine zw_iald (f := ai co) (j := q) rfl (hT.get 3 rfl) rfl (by decide) (by omega) ?_
      have bz299 := hS.2.2.2 q
      refine zw_n 1 rfl ?_
      refine zw_igeN (a := co q) (b := d) rfl rfl rfl (by omega) (by omega) (fun c27 => ?_) (fun c27 => ?_)
      · -- 27 to 34
        refine zw_n 1 rfl ?_
        exact zw_zret rfl rfl (Or.inl rfl) (⟨by rw [if_neg (by unfold ahB; simp; omega)]; rfl, rfl⟩)
      · -- 27 to 30
        refine zw_n 2 rfl ?_
        exact zw_zret rfl rfl (Or.inr rfl) (⟨by rw [if_pos (by unfold ahB; simp; omega)]; rfl, rfl⟩)

set_option maxHeartbeats 4000000 in
set_option maxRecDepth 100000 in
theorem c_putNo (Mq : zM) (k : Nat) (c : Nat) (sg li co : Nat → Nat) (hT : Seg Mq k (tokL k (c, sg, li, co))) (hS : SafeT c sg li co) (x z g : Int32) (hx : ∀ u : Int, (c = 0 → u = 0) → (0 < c → u = (li (c - 1) : Int) + 1) → ¬ ((0 ≤ x.toInt ∧ x.toInt ≤ u) ∧ (0 ≤ z.toInt ∧ z.toInt < 40) ∧ 33 ≤ g.toInt ∧ g.toInt ≤ 126)) : Zm 1 zm_Tokens_putSign [.ref k, .int x, .int z, .int g] Mq (fun r9 M1 => r9 = some (.int (-1)) ∧ M1 = Mq) := by
  show Zw 1 zm_Tokens_putSign 0 [some (.ref k), some (.int x), some (.int z), some (.int g), none, none, none] [] Mq _
  have hc20 := hS.1
  refine zw_n 1 rfl ?_
  refine zw_get (v := .int (nI c)) rfl (hT.get 0 rfl) rfl ?_
  refine zw_ne0N (a := c) rfl rfl (by omega) (fun c4 => ?_) (fun c4 => ?_)
  · -- 4 to 11
    refine zw_n 1 rfl ?_
    refine zw_get (v := .ref (k + 2)) rfl (hT.get 0 rfl) rfl ?_
    refine zw_n 1 rfl ?_
    refine zw_get (v := .int (nI c)) rfl (hT.get 0 rfl) rfl ?_
    refine zw_n 2 rfl ?_
    refine zw_top (ns (a := c) (b := 1) rfl rfl (by omega)) ?_
    refine zw_iald (f := ai li) (j := (c - 1)) rfl (hT.get 2 rfl) rfl (by decide) (by omega) ?_
    have bz300 := hS.2.2.1 (c - 1)
    refine zw_n 2 (ls' := [some (.ref k), some (.int x), some (.int z), some (.int g), some (.int (nI (li (c - 1)))), none, none]) rfl ?_
    refine zw_lt0Z (a := x.toInt) rfl (rfl) (fun c25 => ?_) (fun c25 => ?_)
    · -- 25 to 50
      refine zw_n 1 rfl ?_
      exact zw_iret rfl rfl (⟨rfl, rfl⟩)
    · -- 25 to 28
      refine zw_n 4 rfl ?_
      refine zw_top (na (a := li (c - 1)) (b := 1) rfl rfl) ?_
      refine zw_igtZ (a := x.toInt) (b := (((li (c - 1)) + 1 : Nat) : Int)) rfl (rfl) (nI_toInt (by omega)) (fun c33 => ?_) (fun c33 => ?_)
      · -- 33 to 50
        refine zw_n 1 rfl ?_
        exact zw_iret rfl rfl (⟨rfl, rfl⟩)
      · -- 33 to 36
        refine zw_n 1 rfl ?_
        refine zw_callS (as := [.int z]) (rest := []) rfl rfl rfl rfl rfl rfl (by decide) (c_isColumn _ _) (fun rz301 Mz302 hz303 => ?_)
        rw [hz303.1, hz303.2]
        show Zw 1 zm_Tokens_putSign 40 [some (.ref k), some (.int x), some (.int z), some (.int g), some (.int (nI (li (c - 1)))), none, none] [.int (nI (if 0 ≤ z.toInt ∧ z.toInt < 40 then 1 else 0))] Mq _
        refine zw_eq0N (a := if 0 ≤ z.toInt ∧ z.toInt < 40 then 1 else 0) rfl rfl (ite_b) (fun c40 => ?_) (fun c40 => ?_)
        · -- 40 to 50
          refine zw_n 1 rfl ?_
          exact zw_iret rfl rfl (⟨rfl, rfl⟩)
        · -- 40 to 43
          refine zw_n 1 rfl ?_
          refine zw_callS (as := [.int g]) (rest := []) rfl rfl rfl rfl rfl rfl (by decide) (c_isSign _ _) (fun rz304 Mz305 hz306 => ?_)
          rw [hz306.1, hz306.2]
          show Zw 1 zm_Tokens_putSign 47 [some (.ref k), some (.int x), some (.int z), some (.int g), some (.int (nI (li (c - 1)))), none, none] [.int (nI (if 33 ≤ g.toInt ∧ g.toInt ≤ 126 then 1 else 0))] Mq _
          refine zw_ne0N (a := if 33 ≤ g.toInt ∧ g.toInt ≤ 126 then 1 else 0) rfl rfl (ite_b) (fun c47 => ?_) (fun c47 => ?_)
          · -- 47 to 52
            exfalso
            first | exact hx 0 (fun _ => rfl) (by omega) ⟨⟨by omega, by omega⟩, ite_ne c40, ite_ne c47⟩ | exact hx _ (by omega) (fun _ => rfl) ⟨⟨by omega, by omega⟩, ite_ne c40, ite_ne c47⟩
          · -- 47 to 50
            refine zw_n 1 rfl ?_
            exact zw_iret rfl rfl (⟨rfl, rfl⟩)
  · -- 4 to 7
    refine zw_n 4 (ls' := [some (.ref k), some (.int x), some (.int z), some (.int g), some (.int (-1)), none, none]) rfl ?_
    refine zw_lt0Z (a := x.toInt) rfl (rfl) (fun c25 => ?_) (fun c25 => ?_)
    · -- 25 to 50
      refine zw_n 1 rfl ?_
      exact zw_iret rfl rfl (⟨rfl, rfl⟩)
    · -- 25 to 28
      refine zw_n 4 rfl ?_
      refine zw_igtZ (a := x.toInt) (b := 0) rfl (rfl) (by decide) (fun c33 => ?_) (fun c33 => ?_)
      · -- 33 to 50
        refine zw_n 1 rfl ?_
        exact zw_iret rfl rfl (⟨rfl, rfl⟩)
      · -- 33 to 36
        refine zw_n 1 rfl ?_
        refine zw_callS (as := [.int z]) (rest := []) rfl rfl rfl rfl rfl rfl (by decide) (c_isColumn _ _) (fun rz307 Mz308 hz309 => ?_)
        rw [hz309.1, hz309.2]
        show Zw 1 zm_Tokens_putSign 40 [some (.ref k), some (.int x), some (.int z), some (.int g), some (.int (-1)), none, none] [.int (nI (if 0 ≤ z.toInt ∧ z.toInt < 40 then 1 else 0))] Mq _
        refine zw_eq0N (a := if 0 ≤ z.toInt ∧ z.toInt < 40 then 1 else 0) rfl rfl (ite_b) (fun c40 => ?_) (fun c40 => ?_)
        · -- 40 to 50
          refine zw_n 1 rfl ?_
          exact zw_iret rfl rfl (⟨rfl, rfl⟩)
        · -- 40 to 43
          refine zw_n 1 rfl ?_
          refine zw_callS (as := [.int g]) (rest := []) rfl rfl rfl rfl rfl rfl (by decide) (c_isSign _ _) (fun rz310 Mz311 hz312 => ?_)
          rw [hz312.1, hz312.2]
          show Zw 1 zm_Tokens_putSign 47 [some (.ref k), some (.int x), some (.int z), some (.int g), some (.int (-1)), none, none] [.int (nI (if 33 ≤ g.toInt ∧ g.toInt ≤ 126 then 1 else 0))] Mq _
          refine zw_ne0N (a := if 33 ≤ g.toInt ∧ g.toInt ≤ 126 then 1 else 0) rfl rfl (ite_b) (fun c47 => ?_) (fun c47 => ?_)
          · -- 47 to 52
            exfalso
            first | exact hx 0 (fun _ => rfl) (by omega) ⟨⟨by omega, by omega⟩, ite_ne c40, ite_ne c47⟩ | exact hx _ (by omega) (fun _ => rfl) ⟨⟨by omega, by omega⟩, ite_ne c40, ite_ne c47⟩
          · -- 47 to 50
            refine zw_n 1 rfl ?_
            exact zw_iret rfl rfl (⟨rfl, rfl⟩)

set_option maxHeartbeats 4000000 in
set_option maxRecDepth 100000 in
theorem c_putOk (Mq : zM) (k : Nat) (c : Nat) (sg li co : Nat → Nat) (hT : Seg Mq k (tokL k (c, sg, li, co))) (hS : SafeT c sg li co) (l d g : Nat) (hd : d < 40) (hg : 33 ≤ g ∧ g ≤ 126) (hl0 : c = 0 → l = 0) (hl1 : 0 < c → l ≤ li (c - 1) + 1) (hl : l < 1000000) (hs : Srt c li co) : Zm 2 zm_Tokens_putSign [.ref k, .int (nI l), .int (nI d), .int (nI g)] Mq (fun r9 M1 => if cnt (thB li co l d) c ≠ 0 ∨ c = 20 then r9 = some (.int (-3)) ∧ M1 = Mq else r9 = some (.int (nI (cnt (ahB li co l d) c))) ∧ ∃ sg9 li9 co9, Seg M1 k (tokL k (c + 1, sg9, li9, co9)) ∧ Sm Mq M1 [k, k + 1, k + 2, k + 3] ∧ SafeT (c + 1) sg9 li9 co9 ∧ (∀ q, q < c + 1 → sg9 q = inF (cnt (ahB li co l d) c) g sg q ∧ li9 q = inF (cnt (ahB li co l d) c) l li q ∧ co9 q = inF (cnt (ahB li co l d) c) d co q) ∧ ∀ L, (∀ q, li q < L) → l < L → ∀ q, li9 q < L) := by
  show Zw 2 zm_Tokens_putSign 0 [some (.ref k), some (.int (nI l)), some (.int (nI d)), some (.int (nI g)), none, none, none] [] Mq _
  have hc20 := hS.1
  refine zw_n 1 rfl ?_
  refine zw_get (v := .int (nI c)) rfl (hT.get 0 rfl) rfl ?_
  refine zw_ne0N (a := c) rfl rfl (by omega) (fun c4 => ?_) (fun c4 => ?_)
  · -- 4 to 11
    refine zw_n 1 rfl ?_
    refine zw_get (v := .ref (k + 2)) rfl (hT.get 0 rfl) rfl ?_
    refine zw_n 1 rfl ?_
    refine zw_get (v := .int (nI c)) rfl (hT.get 0 rfl) rfl ?_
    refine zw_n 2 rfl ?_
    refine zw_top (ns (a := c) (b := 1) rfl rfl (by omega)) ?_
    refine zw_iald (f := ai li) (j := (c - 1)) rfl (hT.get 2 rfl) rfl (by decide) (by omega) ?_
    have bz313 := hS.2.2.1 (c - 1)
    refine zw_n 2 (ls' := [some (.ref k), some (.int (nI l)), some (.int (nI d)), some (.int (nI g)), some (.int (nI (li (c - 1)))), none, none]) rfl ?_
    refine zw_lt0N (a := l) rfl rfl (by omega) ?_
    refine zw_n 4 rfl ?_
    refine zw_top (na (a := li (c - 1)) (b := 1) rfl rfl) ?_
    refine zw_igtN (a := l) (b := (li (c - 1)) + 1) rfl rfl rfl (by omega) (by omega) (fun c33 => ?_) (fun c33 => ?_)
    · -- 33 to 50
      exfalso
      first | omega | exact absurd (show 0 ≤ (nI d).toInt ∧ (nI d).toInt < 40 by rw [nI_toInt (by omega)]; omega) (ite_eq0 c40) | exact absurd (show 33 ≤ (nI g).toInt ∧ (nI g).toInt ≤ 126 by rw [nI_toInt (by omega)]; omega) (ite_eq0 c47)
    · -- 33 to 36
      refine zw_n 1 rfl ?_
      refine zw_callS (as := [.int (nI d)]) (rest := []) rfl rfl rfl rfl rfl rfl (by decide) (c_isColumn _ _) (fun rz314 Mz315 hz316 => ?_)
      rw [hz316.1, hz316.2]
      show Zw 2 zm_Tokens_putSign 40 [some (.ref k), some (.int (nI l)), some (.int (nI d)), some (.int (nI g)), some (.int (nI (li (c - 1)))), none, none] [.int (nI (if 0 ≤ (nI d).toInt ∧ (nI d).toInt < 40 then 1 else 0))] Mq _
      refine zw_eq0N (a := if 0 ≤ (nI d).toInt ∧ (nI d).toInt < 40 then 1 else 0) rfl rfl (ite_b) (fun c40 => ?_) (fun c40 => ?_)
      · -- 40 to 50
        exfalso
        first | omega | exact absurd (show 0 ≤ (nI d).toInt ∧ (nI d).toInt < 40 by rw [nI_toInt (by omega)]; omega) (ite_eq0 c40) | exact absurd (show 33 ≤ (nI g).toInt ∧ (nI g).toInt ≤ 126 by rw [nI_toInt (by omega)]; omega) (ite_eq0 c47)
      · -- 40 to 43
        refine zw_n 1 rfl ?_
        refine zw_callS (as := [.int (nI g)]) (rest := []) rfl rfl rfl rfl rfl rfl (by decide) (c_isSign _ _) (fun rz317 Mz318 hz319 => ?_)
        rw [hz319.1, hz319.2]
        show Zw 2 zm_Tokens_putSign 47 [some (.ref k), some (.int (nI l)), some (.int (nI d)), some (.int (nI g)), some (.int (nI (li (c - 1)))), none, none] [.int (nI (if 33 ≤ (nI g).toInt ∧ (nI g).toInt ≤ 126 then 1 else 0))] Mq _
        refine zw_ne0N (a := if 33 ≤ (nI g).toInt ∧ (nI g).toInt ≤ 126 then 1 else 0) rfl rfl (ite_b) (fun c47 => ?_) (fun c47 => ?_)
        · -- 47 to 52
          refine zw_n 2 (ls' := [some (.ref k), some (.int (nI l)), some (.int (nI d)), some (.int (nI g)), some (.int (nI (li (c - 1)))), some (.int 0), none]) rfl ?_
          have lp55 : ∀ (n55 : Nat) (p : Nat), (p ≤ c ∧ ∀ q, q < p → ahB li co l d q = true) → c - p < n55 → Zw 2 zm_Tokens_putSign 55 [some (.ref k), some (.int (nI l)), some (.int (nI d)), some (.int (nI g)), some (.int (nI (li (c - 1)))), some (.int (nI p)), none] [] Mq (fun r9 M1 => if cnt (thB li co l d) c ≠ 0 ∨ c = 20 then r9 = some (.int (-3)) ∧ M1 = Mq else r9 = some (.int (nI (cnt (ahB li co l d) c))) ∧ ∃ sg9 li9 co9, Seg M1 k (tokL k (c + 1, sg9, li9, co9)) ∧ Sm Mq M1 [k, k + 1, k + 2, k + 3] ∧ SafeT (c + 1) sg9 li9 co9 ∧ (∀ q, q < c + 1 → sg9 q = inF (cnt (ahB li co l d) c) g sg q ∧ li9 q = inF (cnt (ahB li co l d) c) l li q ∧ co9 q = inF (cnt (ahB li co l d) c) d co q) ∧ ∀ L, (∀ q, li q < L) → l < L → ∀ q, li9 q < L) := by
            intro n55
            induction n55 with
            | zero => intro p _ h; exact absurd h (Nat.not_lt_zero _)
            | succ n55 ih55 =>
              intro p hi55 hm55
              refine zw_n 2 rfl ?_
              refine zw_get (v := .int (nI c)) rfl (hT.get 0 rfl) rfl ?_
              refine zw_igeN (a := p) (b := c) rfl rfl rfl (by omega) (by omega) (fun c61 => ?_) (fun c61 => ?_)
              · -- 61 to 81
                have hpc := ah_cnt hs hi55.1 hi55.2 (fun hpc => by first | omega | (have := ite_eq0 c72; cases hb : ahB li co l d p with | false => rfl | true => exact absurd hb this))
                have hth := th_at hs hi55.1 hi55.2 (fun hpc => by first | omega | (have := ite_eq0 c72; cases hb : ahB li co l d p with | false => rfl | true => exact absurd hb this))
                have j81 : Zw 2 zm_Tokens_putSign 117 [some (.ref k), some (.int (nI l)), some (.int (nI d)), some (.int (nI g)), some (.int (nI (li (c - 1)))), some (.int (nI p)), none] [.int (nI (if p < c ∧ li p = l ∧ co p = d then 1 else 0))] Mq (fun r9 M1 => if cnt (thB li co l d) c ≠ 0 ∨ c = 20 then r9 = some (.int (-3)) ∧ M1 = Mq else r9 = some (.int (nI (cnt (ahB li co l d) c))) ∧ ∃ sg9 li9 co9, Seg M1 k (tokL k (c + 1, sg9, li9, co9)) ∧ Sm Mq M1 [k, k + 1, k + 2, k + 3] ∧ SafeT (c + 1) sg9 li9 co9 ∧ (∀ q, q < c + 1 → sg9 q = inF (cnt (ahB li co l d) c) g sg q ∧ li9 q = inF (cnt (ahB li co l d) c) l li q ∧ co9 q = inF (cnt (ahB li co l d) c) d co q) ∧ ∀ L, (∀ q, li q < L) → l < L → ∀ q, li9 q < L) := by
                  refine zw_n 2 (ls' := [some (.ref k), some (.int (nI l)), some (.int (nI d)), some (.int (nI g)), some (.int (nI (li (c - 1)))), some (.int (nI p)), some (.int (nI (if p < c ∧ li p = l ∧ co p = d then 1 else 0)))]) rfl ?_
                  refine zw_ne0N (a := if p < c ∧ li p = l ∧ co p = d then 1 else 0) rfl rfl (ite_b) (fun c121 => ?_) (fun c121 => ?_)
                  · -- 121 to 133
                    refine zw_n 1 rfl ?_
                    exact zw_iret rfl rfl (by rw [if_pos (by first | exact Or.inl (hth.mp (ite_ne c121)) | exact Or.inr (by omega))]; exact ⟨rfl, rfl⟩)
                  · -- 121 to 124
                    refine zw_n 1 rfl ?_
                    refine zw_get (v := .int (nI c)) rfl (hT.get 0 rfl) rfl ?_
                    refine zw_n 1 rfl ?_
                    refine zw_iltN (a := c) (b := 20) rfl rfl rfl (by omega) (by omega) (fun c130 => ?_) (fun c130 => ?_)
                    · -- 130 to 136
                      refine zw_n 5 rfl ?_
                      refine zw_top (na (a := p) (b := 1) rfl rfl) ?_
                      refine zw_callV (as := [.int (nI p), .int (nI (p + 1))]) (rest := []) rfl rfl rfl (hT.get 0 rfl) rfl rfl rfl (by decide) (c_shift Mq k c sg li co (seg4 (hT.get 0 rfl) (hT.get 1 rfl) (hT.get 2 rfl) (hT.get 3 rfl)) hS p (p + 1) (by omega) (by omega)) (fun rz323 Mz324 hz325 => ?_)
                      obtain ⟨hAz320, hBz321, hSz322⟩ := hz325
                      rw [hAz320]
                      show Zw 2 zm_Tokens_putSign 146 [some (.ref k), some (.int (nI l)), some (.int (nI d)), some (.int (nI g)), some (.int (nI (li (c - 1)))), some (.int (nI p)), some (.int (nI (if p < c ∧ li p = l ∧ co p = d then 1 else 0)))] [] Mz324 _
                      refine zw_n 1 rfl ?_
                      refine zw_get (v := .ref (k + 1)) rfl (hBz321.get 0 rfl) rfl ?_
                      refine zw_n 2 rfl ?_
                      refine zw_iastN (g := (z_cp sg sg p (p + 1) (c - p) 20)) (j := p) (v := g) rfl (hBz321.get 1 rfl) rfl (by decide) (by omega) (rfl) ?_
                      generalize ez327 : List.set Mz324 (k + 1) _ = Mz326
                      refine zw_n 1 rfl ?_
                      refine zw_get (v := .ref (k + 2)) rfl (zat_set ez327 (by omega) (hBz321.get 0 rfl)) rfl ?_
                      refine zw_n 2 rfl ?_
                      refine zw_iastN (g := (z_cp li li p (p + 1) (c - p) 20)) (j := p) (v := l) rfl (zat_set ez327 (by omega) (hBz321.get 2 rfl)) rfl (by decide) (by omega) (rfl) ?_
                      generalize ez329 : List.set Mz326 (k + 2) _ = Mz328
                      refine zw_n 1 rfl ?_
                      refine zw_get (v := .ref (k + 3)) rfl (zat_set ez329 (by omega) (zat_set ez327 (by omega) (hBz321.get 0 rfl))) rfl ?_
                      refine zw_n 2 rfl ?_
                      refine zw_iastN (g := (z_cp co co p (p + 1) (c - p) 20)) (j := p) (v := d) rfl (zat_set ez329 (by omega) (zat_set ez327 (by omega) (hBz321.get 3 rfl))) rfl (by decide) (by omega) (rfl) ?_
                      generalize ez331 : List.set Mz328 (k + 3) _ = Mz330
                      refine zw_n 2 rfl ?_
                      refine zw_get (v := .int (nI c)) rfl (zat_set ez331 (by omega) (zat_set ez329 (by omega) (zat_set ez327 (by omega) (hBz321.get 0 rfl)))) rfl ?_
                      refine zw_n 2 rfl ?_
                      refine zw_top (na (a := c) (b := 1) rfl rfl) ?_
                      refine zw_put rfl (zat_set ez331 (by omega) (zat_set ez329 (by omega) (zat_set ez327 (by omega) (hBz321.get 0 rfl)))) (rfl) (Nat.le_of_ble_eq_true rfl) ?_
                      generalize ez333 : List.set Mz330 k _ = Mz332
                      refine zw_n 1 rfl ?_
                      exact zw_iret rfl rfl (by rw [if_neg (fun hq => hq.elim (fun q => ite_eq0 c121 (hth.mpr q)) (fun q => by omega)), hpc]; exact ⟨rfl, _, _, _, (seg4 (zat_self ez333 (zat_set ez331 (by omega) (zat_set ez329 (by omega) (zat_set ez327 (by omega) (hBz321.get 0 rfl))))) (zat_set ez333 (by omega) (zat_set ez331 (by omega) (zat_set ez329 (by omega) (zat_self ez327 (hBz321.get 1 rfl))))) (zat_set ez333 (by omega) (zat_set ez331 (by omega) (zat_self ez329 (zat_set ez327 (by omega) (hBz321.get 2 rfl))))) (zat_set ez333 (by omega) (zat_self ez331 (zat_set ez329 (by omega) (zat_set ez327 (by omega) (hBz321.get 3 rfl)))))), Sm.tset (Sm.tset (Sm.tset (Sm.tset (Sm.trans Sm.rf hSz322) ez327 (by simp)) ez329 (by simp)) ez331 (by simp)) ez333 (by simp), ⟨by omega, up_sg (cp_sg hS.2.1) (by omega), up_lt (cp_lt hS.2.2.1) hl, up_lt (cp_lt hS.2.2.2) hd⟩, fun q hq => ⟨cp_ins hi55.1 (by omega) q hq, cp_ins hi55.1 (by omega) q hq, cp_ins hi55.1 (by omega) q hq⟩, fun L hL hl9 => up_lt (cp_lt hL) hl9⟩)
                    · -- 130 to 133
                      refine zw_n 1 rfl ?_
                      exact zw_iret rfl rfl (by rw [if_pos (by first | exact Or.inl (hth.mp (ite_ne c121)) | exact Or.inr (by omega))]; exact ⟨rfl, rfl⟩)
                have hpc := ah_cnt hs hi55.1 hi55.2 (fun hpc => by first | omega | (have := ite_eq0 c72; cases hb : ahB li co l d p with | false => rfl | true => exact absurd hb this))
                have hth := th_at hs hi55.1 hi55.2 (fun hpc => by first | omega | (have := ite_eq0 c72; cases hb : ahB li co l d p with | false => rfl | true => exact absurd hb this))
                refine zw_n 2 rfl ?_
                refine zw_get (v := .int (nI c)) rfl (hT.get 0 rfl) rfl ?_
                refine zw_igeN (a := p) (b := c) rfl rfl rfl (by omega) (by omega) (fun c87 => ?_) (fun c87 => ?_)
                · -- 87 to 116
                  refine zw_n 1 rfl ?_
                  refine zw_top (x' := nI (if p < c ∧ li p = l ∧ co p = d then 1 else 0)) (show nI 0 = nI (if p < c ∧ li p = l ∧ co p = d then 1 else 0) by rw [if_neg (by omega)]) ?_
                  exact j81
                · -- 87 to 90
                  refine zw_n 1 rfl ?_
                  refine zw_get (v := .ref (k + 2)) rfl (hT.get 0 rfl) rfl ?_
                  refine zw_n 1 rfl ?_
                  refine zw_iald (f := ai li) (j := p) rfl (hT.get 2 rfl) rfl (by decide) (by omega) ?_
                  have bz334 := hS.2.2.1 p
                  refine zw_n 1 rfl ?_
                  refine zw_ineN (a := li p) (b := l) rfl rfl rfl (by omega) (by omega) (fun c98 => ?_) (fun c98 => ?_)
                  · -- 98 to 116
                    refine zw_n 1 rfl ?_
                    refine zw_top (x' := nI (if p < c ∧ li p = l ∧ co p = d then 1 else 0)) (show nI 0 = nI (if p < c ∧ li p = l ∧ co p = d then 1 else 0) by rw [if_neg (by omega)]) ?_
                    exact j81
                  · -- 98 to 101
                    refine zw_n 1 rfl ?_
                    refine zw_get (v := .ref (k + 3)) rfl (hT.get 0 rfl) rfl ?_
                    refine zw_n 1 rfl ?_
                    refine zw_iald (f := ai co) (j := p) rfl (hT.get 3 rfl) rfl (by decide) (by omega) ?_
                    have bz335 := hS.2.2.2 p
                    refine zw_n 1 rfl ?_
                    refine zw_ineN (a := co p) (b := d) rfl rfl rfl (by omega) (by omega) (fun c109 => ?_) (fun c109 => ?_)
                    · -- 109 to 116
                      refine zw_n 1 rfl ?_
                      refine zw_top (x' := nI (if p < c ∧ li p = l ∧ co p = d then 1 else 0)) (show nI 0 = nI (if p < c ∧ li p = l ∧ co p = d then 1 else 0) by rw [if_neg (by omega)]) ?_
                      exact j81
                    · -- 109 to 112
                      refine zw_n 2 rfl ?_
                      refine zw_top (x' := nI (if p < c ∧ li p = l ∧ co p = d then 1 else 0)) (show nI 1 = nI (if p < c ∧ li p = l ∧ co p = d then 1 else 0) by rw [if_pos (by omega)]) ?_
                      exact j81
              · -- 61 to 64
                refine zw_n 4 rfl ?_
                refine zw_callV (as := [.int (nI p), .int (nI l), .int (nI d)]) (rest := []) rfl rfl rfl (hT.get 0 rfl) rfl rfl rfl (by decide) (c_isAhead Mq k c sg li co (seg4 (hT.get 0 rfl) (hT.get 1 rfl) (hT.get 2 rfl) (hT.get 3 rfl)) hS p l d (by omega) (by omega) (by omega)) (fun rz336 Mz337 hz338 => ?_)
                rw [hz338.1, hz338.2]
                show Zw 2 zm_Tokens_putSign 72 [some (.ref k), some (.int (nI l)), some (.int (nI d)), some (.int (nI g)), some (.int (nI (li (c - 1)))), some (.int (nI p)), none] [.int (nI (if ahB li co l d p = true then 1 else 0))] Mq _
                refine zw_eq0N (a := if ahB li co l d p = true then 1 else 0) rfl rfl (ite_b) (fun c72 => ?_) (fun c72 => ?_)
                · -- 72 to 81
                  have hpc := ah_cnt hs hi55.1 hi55.2 (fun hpc => by first | omega | (have := ite_eq0 c72; cases hb : ahB li co l d p with | false => rfl | true => exact absurd hb this))
                  have hth := th_at hs hi55.1 hi55.2 (fun hpc => by first | omega | (have := ite_eq0 c72; cases hb : ahB li co l d p with | false => rfl | true => exact absurd hb this))
                  have j81 : Zw 2 zm_Tokens_putSign 117 [some (.ref k), some (.int (nI l)), some (.int (nI d)), some (.int (nI g)), some (.int (nI (li (c - 1)))), some (.int (nI p)), none] [.int (nI (if p < c ∧ li p = l ∧ co p = d then 1 else 0))] Mq (fun r9 M1 => if cnt (thB li co l d) c ≠ 0 ∨ c = 20 then r9 = some (.int (-3)) ∧ M1 = Mq else r9 = some (.int (nI (cnt (ahB li co l d) c))) ∧ ∃ sg9 li9 co9, Seg M1 k (tokL k (c + 1, sg9, li9, co9)) ∧ Sm Mq M1 [k, k + 1, k + 2, k + 3] ∧ SafeT (c + 1) sg9 li9 co9 ∧ (∀ q, q < c + 1 → sg9 q = inF (cnt (ahB li co l d) c) g sg q ∧ li9 q = inF (cnt (ahB li co l d) c) l li q ∧ co9 q = inF (cnt (ahB li co l d) c) d co q) ∧ ∀ L, (∀ q, li q < L) → l < L → ∀ q, li9 q < L) := by
                    refine zw_n 2 (ls' := [some (.ref k), some (.int (nI l)), some (.int (nI d)), some (.int (nI g)), some (.int (nI (li (c - 1)))), some (.int (nI p)), some (.int (nI (if p < c ∧ li p = l ∧ co p = d then 1 else 0)))]) rfl ?_
                    refine zw_ne0N (a := if p < c ∧ li p = l ∧ co p = d then 1 else 0) rfl rfl (ite_b) (fun c121 => ?_) (fun c121 => ?_)
                    · -- 121 to 133
                      refine zw_n 1 rfl ?_
                      exact zw_iret rfl rfl (by rw [if_pos (by first | exact Or.inl (hth.mp (ite_ne c121)) | exact Or.inr (by omega))]; exact ⟨rfl, rfl⟩)
                    · -- 121 to 124
                      refine zw_n 1 rfl ?_
                      refine zw_get (v := .int (nI c)) rfl (hT.get 0 rfl) rfl ?_
                      refine zw_n 1 rfl ?_
                      refine zw_iltN (a := c) (b := 20) rfl rfl rfl (by omega) (by omega) (fun c130 => ?_) (fun c130 => ?_)
                      · -- 130 to 136
                        refine zw_n 5 rfl ?_
                        refine zw_top (na (a := p) (b := 1) rfl rfl) ?_
                        refine zw_callV (as := [.int (nI p), .int (nI (p + 1))]) (rest := []) rfl rfl rfl (hT.get 0 rfl) rfl rfl rfl (by decide) (c_shift Mq k c sg li co (seg4 (hT.get 0 rfl) (hT.get 1 rfl) (hT.get 2 rfl) (hT.get 3 rfl)) hS p (p + 1) (by omega) (by omega)) (fun rz342 Mz343 hz344 => ?_)
                        obtain ⟨hAz339, hBz340, hSz341⟩ := hz344
                        rw [hAz339]
                        show Zw 2 zm_Tokens_putSign 146 [some (.ref k), some (.int (nI l)), some (.int (nI d)), some (.int (nI g)), some (.int (nI (li (c - 1)))), some (.int (nI p)), some (.int (nI (if p < c ∧ li p = l ∧ co p = d then 1 else 0)))] [] Mz343 _
                        refine zw_n 1 rfl ?_
                        refine zw_get (v := .ref (k + 1)) rfl (hBz340.get 0 rfl) rfl ?_
                        refine zw_n 2 rfl ?_
                        refine zw_iastN (g := (z_cp sg sg p (p + 1) (c - p) 20)) (j := p) (v := g) rfl (hBz340.get 1 rfl) rfl (by decide) (by omega) (rfl) ?_
                        generalize ez346 : List.set Mz343 (k + 1) _ = Mz345
                        refine zw_n 1 rfl ?_
                        refine zw_get (v := .ref (k + 2)) rfl (zat_set ez346 (by omega) (hBz340.get 0 rfl)) rfl ?_
                        refine zw_n 2 rfl ?_
                        refine zw_iastN (g := (z_cp li li p (p + 1) (c - p) 20)) (j := p) (v := l) rfl (zat_set ez346 (by omega) (hBz340.get 2 rfl)) rfl (by decide) (by omega) (rfl) ?_
                        generalize ez348 : List.set Mz345 (k + 2) _ = Mz347
                        refine zw_n 1 rfl ?_
                        refine zw_get (v := .ref (k + 3)) rfl (zat_set ez348 (by omega) (zat_set ez346 (by omega) (hBz340.get 0 rfl))) rfl ?_
                        refine zw_n 2 rfl ?_
                        refine zw_iastN (g := (z_cp co co p (p + 1) (c - p) 20)) (j := p) (v := d) rfl (zat_set ez348 (by omega) (zat_set ez346 (by omega) (hBz340.get 3 rfl))) rfl (by decide) (by omega) (rfl) ?_
                        generalize ez350 : List.set Mz347 (k + 3) _ = Mz349
                        refine zw_n 2 rfl ?_
                        refine zw_get (v := .int (nI c)) rfl (zat_set ez350 (by omega) (zat_set ez348 (by omega) (zat_set ez346 (by omega) (hBz340.get 0 rfl)))) rfl ?_
                        refine zw_n 2 rfl ?_
                        refine zw_top (na (a := c) (b := 1) rfl rfl) ?_
                        refine zw_put rfl (zat_set ez350 (by omega) (zat_set ez348 (by omega) (zat_set ez346 (by omega) (hBz340.get 0 rfl)))) (rfl) (Nat.le_of_ble_eq_true rfl) ?_
                        generalize ez352 : List.set Mz349 k _ = Mz351
                        refine zw_n 1 rfl ?_
                        exact zw_iret rfl rfl (by rw [if_neg (fun hq => hq.elim (fun q => ite_eq0 c121 (hth.mpr q)) (fun q => by omega)), hpc]; exact ⟨rfl, _, _, _, (seg4 (zat_self ez352 (zat_set ez350 (by omega) (zat_set ez348 (by omega) (zat_set ez346 (by omega) (hBz340.get 0 rfl))))) (zat_set ez352 (by omega) (zat_set ez350 (by omega) (zat_set ez348 (by omega) (zat_self ez346 (hBz340.get 1 rfl))))) (zat_set ez352 (by omega) (zat_set ez350 (by omega) (zat_self ez348 (zat_set ez346 (by omega) (hBz340.get 2 rfl))))) (zat_set ez352 (by omega) (zat_self ez350 (zat_set ez348 (by omega) (zat_set ez346 (by omega) (hBz340.get 3 rfl)))))), Sm.tset (Sm.tset (Sm.tset (Sm.tset (Sm.trans Sm.rf hSz341) ez346 (by simp)) ez348 (by simp)) ez350 (by simp)) ez352 (by simp), ⟨by omega, up_sg (cp_sg hS.2.1) (by omega), up_lt (cp_lt hS.2.2.1) hl, up_lt (cp_lt hS.2.2.2) hd⟩, fun q hq => ⟨cp_ins hi55.1 (by omega) q hq, cp_ins hi55.1 (by omega) q hq, cp_ins hi55.1 (by omega) q hq⟩, fun L hL hl9 => up_lt (cp_lt hL) hl9⟩)
                      · -- 130 to 133
                        refine zw_n 1 rfl ?_
                        exact zw_iret rfl rfl (by rw [if_pos (by first | exact Or.inl (hth.mp (ite_ne c121)) | exact Or.inr (by omega))]; exact ⟨rfl, rfl⟩)
                  have hpc := ah_cnt hs hi55.1 hi55.2 (fun hpc => by first | omega | (have := ite_eq0 c72; cases hb : ahB li co l d p with | false => rfl | true => exact absurd hb this))
                  have hth := th_at hs hi55.1 hi55.2 (fun hpc => by first | omega | (have := ite_eq0 c72; cases hb : ahB li co l d p with | false => rfl | true => exact absurd hb this))
                  refine zw_n 2 rfl ?_
                  refine zw_get (v := .int (nI c)) rfl (hT.get 0 rfl) rfl ?_
                  refine zw_igeN (a := p) (b := c) rfl rfl rfl (by omega) (by omega) (fun c87 => ?_) (fun c87 => ?_)
                  · -- 87 to 116
                    refine zw_n 1 rfl ?_
                    refine zw_top (x' := nI (if p < c ∧ li p = l ∧ co p = d then 1 else 0)) (show nI 0 = nI (if p < c ∧ li p = l ∧ co p = d then 1 else 0) by rw [if_neg (by omega)]) ?_
                    exact j81
                  · -- 87 to 90
                    refine zw_n 1 rfl ?_
                    refine zw_get (v := .ref (k + 2)) rfl (hT.get 0 rfl) rfl ?_
                    refine zw_n 1 rfl ?_
                    refine zw_iald (f := ai li) (j := p) rfl (hT.get 2 rfl) rfl (by decide) (by omega) ?_
                    have bz353 := hS.2.2.1 p
                    refine zw_n 1 rfl ?_
                    refine zw_ineN (a := li p) (b := l) rfl rfl rfl (by omega) (by omega) (fun c98 => ?_) (fun c98 => ?_)
                    · -- 98 to 116
                      refine zw_n 1 rfl ?_
                      refine zw_top (x' := nI (if p < c ∧ li p = l ∧ co p = d then 1 else 0)) (show nI 0 = nI (if p < c ∧ li p = l ∧ co p = d then 1 else 0) by rw [if_neg (by omega)]) ?_
                      exact j81
                    · -- 98 to 101
                      refine zw_n 1 rfl ?_
                      refine zw_get (v := .ref (k + 3)) rfl (hT.get 0 rfl) rfl ?_
                      refine zw_n 1 rfl ?_
                      refine zw_iald (f := ai co) (j := p) rfl (hT.get 3 rfl) rfl (by decide) (by omega) ?_
                      have bz354 := hS.2.2.2 p
                      refine zw_n 1 rfl ?_
                      refine zw_ineN (a := co p) (b := d) rfl rfl rfl (by omega) (by omega) (fun c109 => ?_) (fun c109 => ?_)
                      · -- 109 to 116
                        refine zw_n 1 rfl ?_
                        refine zw_top (x' := nI (if p < c ∧ li p = l ∧ co p = d then 1 else 0)) (show nI 0 = nI (if p < c ∧ li p = l ∧ co p = d then 1 else 0) by rw [if_neg (by omega)]) ?_
                        exact j81
                      · -- 109 to 112
                        refine zw_n 2 rfl ?_
                        refine zw_top (x' := nI (if p < c ∧ li p = l ∧ co p = d then 1 else 0)) (show nI 1 = nI (if p < c ∧ li p = l ∧ co p = d then 1 else 0) by rw [if_pos (by omega)]) ?_
                        exact j81
                · -- 72 to 75
                  refine zw_inc rfl (x' := (nI (p + 1))) (ls' := [some (.ref k), some (.int (nI l)), some (.int (nI d)), some (.int (nI g)), some (.int (nI (li (c - 1)))), some (.int (nI (p + 1))), none]) rfl (na (a := p) (b := 1) rfl rfl) rfl ?_
                  refine zw_n 1 rfl ?_
                  exact ih55 (p + 1) (⟨by omega, fun q hq => if e : q = p then e ▸ ite_ne c72 else hi55.2 q (by omega)⟩) (by omega)
          exact lp55 _ 0 (⟨Nat.zero_le _, fun q hq => by omega⟩) (Nat.lt_succ_self _)
        · -- 47 to 50
          exfalso
          first | omega | exact absurd (show 0 ≤ (nI d).toInt ∧ (nI d).toInt < 40 by rw [nI_toInt (by omega)]; omega) (ite_eq0 c40) | exact absurd (show 33 ≤ (nI g).toInt ∧ (nI g).toInt ≤ 126 by rw [nI_toInt (by omega)]; omega) (ite_eq0 c47)
  · -- 4 to 7
    refine zw_n 4 (ls' := [some (.ref k), some (.int (nI l)), some (.int (nI d)), some (.int (nI g)), some (.int (-1)), none, none]) rfl ?_
    refine zw_lt0N (a := l) rfl rfl (by omega) ?_
    refine zw_n 4 rfl ?_
    refine zw_igtN (a := l) (b := 0) rfl rfl rfl (by omega) (by omega) (fun c33 => ?_) (fun c33 => ?_)
    · -- 33 to 50
      exfalso
      first | omega | exact absurd (show 0 ≤ (nI d).toInt ∧ (nI d).toInt < 40 by rw [nI_toInt (by omega)]; omega) (ite_eq0 c40) | exact absurd (show 33 ≤ (nI g).toInt ∧ (nI g).toInt ≤ 126 by rw [nI_toInt (by omega)]; omega) (ite_eq0 c47)
    · -- 33 to 36
      refine zw_n 1 rfl ?_
      refine zw_callS (as := [.int (nI d)]) (rest := []) rfl rfl rfl rfl rfl rfl (by decide) (c_isColumn _ _) (fun rz355 Mz356 hz357 => ?_)
      rw [hz357.1, hz357.2]
      show Zw 2 zm_Tokens_putSign 40 [some (.ref k), some (.int (nI l)), some (.int (nI d)), some (.int (nI g)), some (.int (-1)), none, none] [.int (nI (if 0 ≤ (nI d).toInt ∧ (nI d).toInt < 40 then 1 else 0))] Mq _
      refine zw_eq0N (a := if 0 ≤ (nI d).toInt ∧ (nI d).toInt < 40 then 1 else 0) rfl rfl (ite_b) (fun c40 => ?_) (fun c40 => ?_)
      · -- 40 to 50
        exfalso
        first | omega | exact absurd (show 0 ≤ (nI d).toInt ∧ (nI d).toInt < 40 by rw [nI_toInt (by omega)]; omega) (ite_eq0 c40) | exact absurd (show 33 ≤ (nI g).toInt ∧ (nI g).toInt ≤ 126 by rw [nI_toInt (by omega)]; omega) (ite_eq0 c47)
      · -- 40 to 43
        refine zw_n 1 rfl ?_
        refine zw_callS (as := [.int (nI g)]) (rest := []) rfl rfl rfl rfl rfl rfl (by decide) (c_isSign _ _) (fun rz358 Mz359 hz360 => ?_)
        rw [hz360.1, hz360.2]
        show Zw 2 zm_Tokens_putSign 47 [some (.ref k), some (.int (nI l)), some (.int (nI d)), some (.int (nI g)), some (.int (-1)), none, none] [.int (nI (if 33 ≤ (nI g).toInt ∧ (nI g).toInt ≤ 126 then 1 else 0))] Mq _
        refine zw_ne0N (a := if 33 ≤ (nI g).toInt ∧ (nI g).toInt ≤ 126 then 1 else 0) rfl rfl (ite_b) (fun c47 => ?_) (fun c47 => ?_)
        · -- 47 to 52
          refine zw_n 2 (ls' := [some (.ref k), some (.int (nI l)), some (.int (nI d)), some (.int (nI g)), some (.int (-1)), some (.int 0), none]) rfl ?_
          have lp55 : ∀ (n55 : Nat) (p : Nat), (p ≤ c ∧ ∀ q, q < p → ahB li co l d q = true) → c - p < n55 → Zw 2 zm_Tokens_putSign 55 [some (.ref k), some (.int (nI l)), some (.int (nI d)), some (.int (nI g)), some (.int (-1)), some (.int (nI p)), none] [] Mq (fun r9 M1 => if cnt (thB li co l d) c ≠ 0 ∨ c = 20 then r9 = some (.int (-3)) ∧ M1 = Mq else r9 = some (.int (nI (cnt (ahB li co l d) c))) ∧ ∃ sg9 li9 co9, Seg M1 k (tokL k (c + 1, sg9, li9, co9)) ∧ Sm Mq M1 [k, k + 1, k + 2, k + 3] ∧ SafeT (c + 1) sg9 li9 co9 ∧ (∀ q, q < c + 1 → sg9 q = inF (cnt (ahB li co l d) c) g sg q ∧ li9 q = inF (cnt (ahB li co l d) c) l li q ∧ co9 q = inF (cnt (ahB li co l d) c) d co q) ∧ ∀ L, (∀ q, li q < L) → l < L → ∀ q, li9 q < L) := by
            intro n55
            induction n55 with
            | zero => intro p _ h; exact absurd h (Nat.not_lt_zero _)
            | succ n55 ih55 =>
              intro p hi55 hm55
              refine zw_n 2 rfl ?_
              refine zw_get (v := .int (nI c)) rfl (hT.get 0 rfl) rfl ?_
              refine zw_igeN (a := p) (b := c) rfl rfl rfl (by omega) (by omega) (fun c61 => ?_) (fun c61 => ?_)
              · -- 61 to 81
                have hpc := ah_cnt hs hi55.1 hi55.2 (fun hpc => by first | omega | (have := ite_eq0 c72; cases hb : ahB li co l d p with | false => rfl | true => exact absurd hb this))
                have hth := th_at hs hi55.1 hi55.2 (fun hpc => by first | omega | (have := ite_eq0 c72; cases hb : ahB li co l d p with | false => rfl | true => exact absurd hb this))
                have j81 : Zw 2 zm_Tokens_putSign 117 [some (.ref k), some (.int (nI l)), some (.int (nI d)), some (.int (nI g)), some (.int (-1)), some (.int (nI p)), none] [.int (nI (if p < c ∧ li p = l ∧ co p = d then 1 else 0))] Mq (fun r9 M1 => if cnt (thB li co l d) c ≠ 0 ∨ c = 20 then r9 = some (.int (-3)) ∧ M1 = Mq else r9 = some (.int (nI (cnt (ahB li co l d) c))) ∧ ∃ sg9 li9 co9, Seg M1 k (tokL k (c + 1, sg9, li9, co9)) ∧ Sm Mq M1 [k, k + 1, k + 2, k + 3] ∧ SafeT (c + 1) sg9 li9 co9 ∧ (∀ q, q < c + 1 → sg9 q = inF (cnt (ahB li co l d) c) g sg q ∧ li9 q = inF (cnt (ahB li co l d) c) l li q ∧ co9 q = inF (cnt (ahB li co l d) c) d co q) ∧ ∀ L, (∀ q, li q < L) → l < L → ∀ q, li9 q < L) := by
                  refine zw_n 2 (ls' := [some (.ref k), some (.int (nI l)), some (.int (nI d)), some (.int (nI g)), some (.int (-1)), some (.int (nI p)), some (.int (nI (if p < c ∧ li p = l ∧ co p = d then 1 else 0)))]) rfl ?_
                  refine zw_ne0N (a := if p < c ∧ li p = l ∧ co p = d then 1 else 0) rfl rfl (ite_b) (fun c121 => ?_) (fun c121 => ?_)
                  · -- 121 to 133
                    refine zw_n 1 rfl ?_
                    exact zw_iret rfl rfl (by rw [if_pos (by first | exact Or.inl (hth.mp (ite_ne c121)) | exact Or.inr (by omega))]; exact ⟨rfl, rfl⟩)
                  · -- 121 to 124
                    refine zw_n 1 rfl ?_
                    refine zw_get (v := .int (nI c)) rfl (hT.get 0 rfl) rfl ?_
                    refine zw_n 1 rfl ?_
                    refine zw_iltN (a := c) (b := 20) rfl rfl rfl (by omega) (by omega) (fun c130 => ?_) (fun c130 => ?_)
                    · -- 130 to 136
                      refine zw_n 5 rfl ?_
                      refine zw_top (na (a := p) (b := 1) rfl rfl) ?_
                      refine zw_callV (as := [.int (nI p), .int (nI (p + 1))]) (rest := []) rfl rfl rfl (hT.get 0 rfl) rfl rfl rfl (by decide) (c_shift Mq k c sg li co (seg4 (hT.get 0 rfl) (hT.get 1 rfl) (hT.get 2 rfl) (hT.get 3 rfl)) hS p (p + 1) (by omega) (by omega)) (fun rz364 Mz365 hz366 => ?_)
                      obtain ⟨hAz361, hBz362, hSz363⟩ := hz366
                      rw [hAz361]
                      show Zw 2 zm_Tokens_putSign 146 [some (.ref k), some (.int (nI l)), some (.int (nI d)), some (.int (nI g)), some (.int (-1)), some (.int (nI p)), some (.int (nI (if p < c ∧ li p = l ∧ co p = d then 1 else 0)))] [] Mz365 _
                      refine zw_n 1 rfl ?_
                      refine zw_get (v := .ref (k + 1)) rfl (hBz362.get 0 rfl) rfl ?_
                      refine zw_n 2 rfl ?_
                      refine zw_iastN (g := (z_cp sg sg p (p + 1) (c - p) 20)) (j := p) (v := g) rfl (hBz362.get 1 rfl) rfl (by decide) (by omega) (rfl) ?_
                      generalize ez368 : List.set Mz365 (k + 1) _ = Mz367
                      refine zw_n 1 rfl ?_
                      refine zw_get (v := .ref (k + 2)) rfl (zat_set ez368 (by omega) (hBz362.get 0 rfl)) rfl ?_
                      refine zw_n 2 rfl ?_
                      refine zw_iastN (g := (z_cp li li p (p + 1) (c - p) 20)) (j := p) (v := l) rfl (zat_set ez368 (by omega) (hBz362.get 2 rfl)) rfl (by decide) (by omega) (rfl) ?_
                      generalize ez370 : List.set Mz367 (k + 2) _ = Mz369
                      refine zw_n 1 rfl ?_
                      refine zw_get (v := .ref (k + 3)) rfl (zat_set ez370 (by omega) (zat_set ez368 (by omega) (hBz362.get 0 rfl))) rfl ?_
                      refine zw_n 2 rfl ?_
                      refine zw_iastN (g := (z_cp co co p (p + 1) (c - p) 20)) (j := p) (v := d) rfl (zat_set ez370 (by omega) (zat_set ez368 (by omega) (hBz362.get 3 rfl))) rfl (by decide) (by omega) (rfl) ?_
                      generalize ez372 : List.set Mz369 (k + 3) _ = Mz371
                      refine zw_n 2 rfl ?_
                      refine zw_get (v := .int (nI c)) rfl (zat_set ez372 (by omega) (zat_set ez370 (by omega) (zat_set ez368 (by omega) (hBz362.get 0 rfl)))) rfl ?_
                      refine zw_n 2 rfl ?_
                      refine zw_top (na (a := c) (b := 1) rfl rfl) ?_
                      refine zw_put rfl (zat_set ez372 (by omega) (zat_set ez370 (by omega) (zat_set ez368 (by omega) (hBz362.get 0 rfl)))) (rfl) (Nat.le_of_ble_eq_true rfl) ?_
                      generalize ez374 : List.set Mz371 k _ = Mz373
                      refine zw_n 1 rfl ?_
                      exact zw_iret rfl rfl (by rw [if_neg (fun hq => hq.elim (fun q => ite_eq0 c121 (hth.mpr q)) (fun q => by omega)), hpc]; exact ⟨rfl, _, _, _, (seg4 (zat_self ez374 (zat_set ez372 (by omega) (zat_set ez370 (by omega) (zat_set ez368 (by omega) (hBz362.get 0 rfl))))) (zat_set ez374 (by omega) (zat_set ez372 (by omega) (zat_set ez370 (by omega) (zat_self ez368 (hBz362.get 1 rfl))))) (zat_set ez374 (by omega) (zat_set ez372 (by omega) (zat_self ez370 (zat_set ez368 (by omega) (hBz362.get 2 rfl))))) (zat_set ez374 (by omega) (zat_self ez372 (zat_set ez370 (by omega) (zat_set ez368 (by omega) (hBz362.get 3 rfl)))))), Sm.tset (Sm.tset (Sm.tset (Sm.tset (Sm.trans Sm.rf hSz363) ez368 (by simp)) ez370 (by simp)) ez372 (by simp)) ez374 (by simp), ⟨by omega, up_sg (cp_sg hS.2.1) (by omega), up_lt (cp_lt hS.2.2.1) hl, up_lt (cp_lt hS.2.2.2) hd⟩, fun q hq => ⟨cp_ins hi55.1 (by omega) q hq, cp_ins hi55.1 (by omega) q hq, cp_ins hi55.1 (by omega) q hq⟩, fun L hL hl9 => up_lt (cp_lt hL) hl9⟩)
                    · -- 130 to 133
                      refine zw_n 1 rfl ?_
                      exact zw_iret rfl rfl (by rw [if_pos (by first | exact Or.inl (hth.mp (ite_ne c121)) | exact Or.inr (by omega))]; exact ⟨rfl, rfl⟩)
                have hpc := ah_cnt hs hi55.1 hi55.2 (fun hpc => by first | omega | (have := ite_eq0 c72; cases hb : ahB li co l d p with | false => rfl | true => exact absurd hb this))
                have hth := th_at hs hi55.1 hi55.2 (fun hpc => by first | omega | (have := ite_eq0 c72; cases hb : ahB li co l d p with | false => rfl | true => exact absurd hb this))
                refine zw_n 2 rfl ?_
                refine zw_get (v := .int (nI c)) rfl (hT.get 0 rfl) rfl ?_
                refine zw_igeN (a := p) (b := c) rfl rfl rfl (by omega) (by omega) (fun c87 => ?_) (fun c87 => ?_)
                · -- 87 to 116
                  refine zw_n 1 rfl ?_
                  refine zw_top (x' := nI (if p < c ∧ li p = l ∧ co p = d then 1 else 0)) (show nI 0 = nI (if p < c ∧ li p = l ∧ co p = d then 1 else 0) by rw [if_neg (by omega)]) ?_
                  exact j81
                · -- 87 to 90
                  refine zw_n 1 rfl ?_
                  refine zw_get (v := .ref (k + 2)) rfl (hT.get 0 rfl) rfl ?_
                  refine zw_n 1 rfl ?_
                  refine zw_iald (f := ai li) (j := p) rfl (hT.get 2 rfl) rfl (by decide) (by omega) ?_
                  have bz375 := hS.2.2.1 p
                  refine zw_n 1 rfl ?_
                  refine zw_ineN (a := li p) (b := l) rfl rfl rfl (by omega) (by omega) (fun c98 => ?_) (fun c98 => ?_)
                  · -- 98 to 116
                    refine zw_n 1 rfl ?_
                    refine zw_top (x' := nI (if p < c ∧ li p = l ∧ co p = d then 1 else 0)) (show nI 0 = nI (if p < c ∧ li p = l ∧ co p = d then 1 else 0) by rw [if_neg (by omega)]) ?_
                    exact j81
                  · -- 98 to 101
                    refine zw_n 1 rfl ?_
                    refine zw_get (v := .ref (k + 3)) rfl (hT.get 0 rfl) rfl ?_
                    refine zw_n 1 rfl ?_
                    refine zw_iald (f := ai co) (j := p) rfl (hT.get 3 rfl) rfl (by decide) (by omega) ?_
                    have bz376 := hS.2.2.2 p
                    refine zw_n 1 rfl ?_
                    refine zw_ineN (a := co p) (b := d) rfl rfl rfl (by omega) (by omega) (fun c109 => ?_) (fun c109 => ?_)
                    · -- 109 to 116
                      refine zw_n 1 rfl ?_
                      refine zw_top (x' := nI (if p < c ∧ li p = l ∧ co p = d then 1 else 0)) (show nI 0 = nI (if p < c ∧ li p = l ∧ co p = d then 1 else 0) by rw [if_neg (by omega)]) ?_
                      exact j81
                    · -- 109 to 112
                      refine zw_n 2 rfl ?_
                      refine zw_top (x' := nI (if p < c ∧ li p = l ∧ co p = d then 1 else 0)) (show nI 1 = nI (if p < c ∧ li p = l ∧ co p = d then 1 else 0) by rw [if_pos (by omega)]) ?_
                      exact j81
              · -- 61 to 64
                refine zw_n 4 rfl ?_
                refine zw_callV (as := [.int (nI p), .int (nI l), .int (nI d)]) (rest := []) rfl rfl rfl (hT.get 0 rfl) rfl rfl rfl (by decide) (c_isAhead Mq k c sg li co (seg4 (hT.get 0 rfl) (hT.get 1 rfl) (hT.get 2 rfl) (hT.get 3 rfl)) hS p l d (by omega) (by omega) (by omega)) (fun rz377 Mz378 hz379 => ?_)
                rw [hz379.1, hz379.2]
                show Zw 2 zm_Tokens_putSign 72 [some (.ref k), some (.int (nI l)), some (.int (nI d)), some (.int (nI g)), some (.int (-1)), some (.int (nI p)), none] [.int (nI (if ahB li co l d p = true then 1 else 0))] Mq _
                refine zw_eq0N (a := if ahB li co l d p = true then 1 else 0) rfl rfl (ite_b) (fun c72 => ?_) (fun c72 => ?_)
                · -- 72 to 81
                  have hpc := ah_cnt hs hi55.1 hi55.2 (fun hpc => by first | omega | (have := ite_eq0 c72; cases hb : ahB li co l d p with | false => rfl | true => exact absurd hb this))
                  have hth := th_at hs hi55.1 hi55.2 (fun hpc => by first | omega | (have := ite_eq0 c72; cases hb : ahB li co l d p with | false => rfl | true => exact absurd hb this))
                  have j81 : Zw 2 zm_Tokens_putSign 117 [some (.ref k), some (.int (nI l)), some (.int (nI d)), some (.int (nI g)), some (.int (-1)), some (.int (nI p)), none] [.int (nI (if p < c ∧ li p = l ∧ co p = d then 1 else 0))] Mq (fun r9 M1 => if cnt (thB li co l d) c ≠ 0 ∨ c = 20 then r9 = some (.int (-3)) ∧ M1 = Mq else r9 = some (.int (nI (cnt (ahB li co l d) c))) ∧ ∃ sg9 li9 co9, Seg M1 k (tokL k (c + 1, sg9, li9, co9)) ∧ Sm Mq M1 [k, k + 1, k + 2, k + 3] ∧ SafeT (c + 1) sg9 li9 co9 ∧ (∀ q, q < c + 1 → sg9 q = inF (cnt (ahB li co l d) c) g sg q ∧ li9 q = inF (cnt (ahB li co l d) c) l li q ∧ co9 q = inF (cnt (ahB li co l d) c) d co q) ∧ ∀ L, (∀ q, li q < L) → l < L → ∀ q, li9 q < L) := by
                    refine zw_n 2 (ls' := [some (.ref k), some (.int (nI l)), some (.int (nI d)), some (.int (nI g)), some (.int (-1)), some (.int (nI p)), some (.int (nI (if p < c ∧ li p = l ∧ co p = d then 1 else 0)))]) rfl ?_
                    refine zw_ne0N (a := if p < c ∧ li p = l ∧ co p = d then 1 else 0) rfl rfl (ite_b) (fun c121 => ?_) (fun c121 => ?_)
                    · -- 121 to 133
                      refine zw_n 1 rfl ?_
                      exact zw_iret rfl rfl (by rw [if_pos (by first | exact Or.inl (hth.mp (ite_ne c121)) | exact Or.inr (by omega))]; exact ⟨rfl, rfl⟩)
                    · -- 121 to 124
                      refine zw_n 1 rfl ?_
                      refine zw_get (v := .int (nI c)) rfl (hT.get 0 rfl) rfl ?_
                      refine zw_n 1 rfl ?_
                      refine zw_iltN (a := c) (b := 20) rfl rfl rfl (by omega) (by omega) (fun c130 => ?_) (fun c130 => ?_)
                      · -- 130 to 136
                        refine zw_n 5 rfl ?_
                        refine zw_top (na (a := p) (b := 1) rfl rfl) ?_
                        refine zw_callV (as := [.int (nI p), .int (nI (p + 1))]) (rest := []) rfl rfl rfl (hT.get 0 rfl) rfl rfl rfl (by decide) (c_shift Mq k c sg li co (seg4 (hT.get 0 rfl) (hT.get 1 rfl) (hT.get 2 rfl) (hT.get 3 rfl)) hS p (p + 1) (by omega) (by omega)) (fun rz383 Mz384 hz385 => ?_)
                        obtain ⟨hAz380, hBz381, hSz382⟩ := hz385
                        rw [hAz380]
                        show Zw 2 zm_Tokens_putSign 146 [some (.ref k), some (.int (nI l)), some (.int (nI d)), some (.int (nI g)), some (.int (-1)), some (.int (nI p)), some (.int (nI (if p < c ∧ li p = l ∧ co p = d then 1 else 0)))] [] Mz384 _
                        refine zw_n 1 rfl ?_
                        refine zw_get (v := .ref (k + 1)) rfl (hBz381.get 0 rfl) rfl ?_
                        refine zw_n 2 rfl ?_
                        refine zw_iastN (g := (z_cp sg sg p (p + 1) (c - p) 20)) (j := p) (v := g) rfl (hBz381.get 1 rfl) rfl (by decide) (by omega) (rfl) ?_
                        generalize ez387 : List.set Mz384 (k + 1) _ = Mz386
                        refine zw_n 1 rfl ?_
                        refine zw_get (v := .ref (k + 2)) rfl (zat_set ez387 (by omega) (hBz381.get 0 rfl)) rfl ?_
                        refine zw_n 2 rfl ?_
                        refine zw_iastN (g := (z_cp li li p (p + 1) (c - p) 20)) (j := p) (v := l) rfl (zat_set ez387 (by omega) (hBz381.get 2 rfl)) rfl (by decide) (by omega) (rfl) ?_
                        generalize ez389 : List.set Mz386 (k + 2) _ = Mz388
                        refine zw_n 1 rfl ?_
                        refine zw_get (v := .ref (k + 3)) rfl (zat_set ez389 (by omega) (zat_set ez387 (by omega) (hBz381.get 0 rfl))) rfl ?_
                        refine zw_n 2 rfl ?_
                        refine zw_iastN (g := (z_cp co co p (p + 1) (c - p) 20)) (j := p) (v := d) rfl (zat_set ez389 (by omega) (zat_set ez387 (by omega) (hBz381.get 3 rfl))) rfl (by decide) (by omega) (rfl) ?_
                        generalize ez391 : List.set Mz388 (k + 3) _ = Mz390
                        refine zw_n 2 rfl ?_
                        refine zw_get (v := .int (nI c)) rfl (zat_set ez391 (by omega) (zat_set ez389 (by omega) (zat_set ez387 (by omega) (hBz381.get 0 rfl)))) rfl ?_
                        refine zw_n 2 rfl ?_
                        refine zw_top (na (a := c) (b := 1) rfl rfl) ?_
                        refine zw_put rfl (zat_set ez391 (by omega) (zat_set ez389 (by omega) (zat_set ez387 (by omega) (hBz381.get 0 rfl)))) (rfl) (Nat.le_of_ble_eq_true rfl) ?_
                        generalize ez393 : List.set Mz390 k _ = Mz392
                        refine zw_n 1 rfl ?_
                        exact zw_iret rfl rfl (by rw [if_neg (fun hq => hq.elim (fun q => ite_eq0 c121 (hth.mpr q)) (fun q => by omega)), hpc]; exact ⟨rfl, _, _, _, (seg4 (zat_self ez393 (zat_set ez391 (by omega) (zat_set ez389 (by omega) (zat_set ez387 (by omega) (hBz381.get 0 rfl))))) (zat_set ez393 (by omega) (zat_set ez391 (by omega) (zat_set ez389 (by omega) (zat_self ez387 (hBz381.get 1 rfl))))) (zat_set ez393 (by omega) (zat_set ez391 (by omega) (zat_self ez389 (zat_set ez387 (by omega) (hBz381.get 2 rfl))))) (zat_set ez393 (by omega) (zat_self ez391 (zat_set ez389 (by omega) (zat_set ez387 (by omega) (hBz381.get 3 rfl)))))), Sm.tset (Sm.tset (Sm.tset (Sm.tset (Sm.trans Sm.rf hSz382) ez387 (by simp)) ez389 (by simp)) ez391 (by simp)) ez393 (by simp), ⟨by omega, up_sg (cp_sg hS.2.1) (by omega), up_lt (cp_lt hS.2.2.1) hl, up_lt (cp_lt hS.2.2.2) hd⟩, fun q hq => ⟨cp_ins hi55.1 (by omega) q hq, cp_ins hi55.1 (by omega) q hq, cp_ins hi55.1 (by omega) q hq⟩, fun L hL hl9 => up_lt (cp_lt hL) hl9⟩)
                      · -- 130 to 133
                        refine zw_n 1 rfl ?_
                        exact zw_iret rfl rfl (by rw [if_pos (by first | exact Or.inl (hth.mp (ite_ne c121)) | exact Or.inr (by omega))]; exact ⟨rfl, rfl⟩)
                  have hpc := ah_cnt hs hi55.1 hi55.2 (fun hpc => by first | omega | (have := ite_eq0 c72; cases hb : ahB li co l d p with | false => rfl | true => exact absurd hb this))
                  have hth := th_at hs hi55.1 hi55.2 (fun hpc => by first | omega | (have := ite_eq0 c72; cases hb : ahB li co l d p with | false => rfl | true => exact absurd hb this))
                  refine zw_n 2 rfl ?_
                  refine zw_get (v := .int (nI c)) rfl (hT.get 0 rfl) rfl ?_
                  refine zw_igeN (a := p) (b := c) rfl rfl rfl (by omega) (by omega) (fun c87 => ?_) (fun c87 => ?_)
                  · -- 87 to 116
                    refine zw_n 1 rfl ?_
                    refine zw_top (x' := nI (if p < c ∧ li p = l ∧ co p = d then 1 else 0)) (show nI 0 = nI (if p < c ∧ li p = l ∧ co p = d then 1 else 0) by rw [if_neg (by omega)]) ?_
                    exact j81
                  · -- 87 to 90
                    refine zw_n 1 rfl ?_
                    refine zw_get (v := .ref (k + 2)) rfl (hT.get 0 rfl) rfl ?_
                    refine zw_n 1 rfl ?_
                    refine zw_iald (f := ai li) (j := p) rfl (hT.get 2 rfl) rfl (by decide) (by omega) ?_
                    have bz394 := hS.2.2.1 p
                    refine zw_n 1 rfl ?_
                    refine zw_ineN (a := li p) (b := l) rfl rfl rfl (by omega) (by omega) (fun c98 => ?_) (fun c98 => ?_)
                    · -- 98 to 116
                      refine zw_n 1 rfl ?_
                      refine zw_top (x' := nI (if p < c ∧ li p = l ∧ co p = d then 1 else 0)) (show nI 0 = nI (if p < c ∧ li p = l ∧ co p = d then 1 else 0) by rw [if_neg (by omega)]) ?_
                      exact j81
                    · -- 98 to 101
                      refine zw_n 1 rfl ?_
                      refine zw_get (v := .ref (k + 3)) rfl (hT.get 0 rfl) rfl ?_
                      refine zw_n 1 rfl ?_
                      refine zw_iald (f := ai co) (j := p) rfl (hT.get 3 rfl) rfl (by decide) (by omega) ?_
                      have bz395 := hS.2.2.2 p
                      refine zw_n 1 rfl ?_
                      refine zw_ineN (a := co p) (b := d) rfl rfl rfl (by omega) (by omega) (fun c109 => ?_) (fun c109 => ?_)
                      · -- 109 to 116
                        refine zw_n 1 rfl ?_
                        refine zw_top (x' := nI (if p < c ∧ li p = l ∧ co p = d then 1 else 0)) (show nI 0 = nI (if p < c ∧ li p = l ∧ co p = d then 1 else 0) by rw [if_neg (by omega)]) ?_
                        exact j81
                      · -- 109 to 112
                        refine zw_n 2 rfl ?_
                        refine zw_top (x' := nI (if p < c ∧ li p = l ∧ co p = d then 1 else 0)) (show nI 1 = nI (if p < c ∧ li p = l ∧ co p = d then 1 else 0) by rw [if_pos (by omega)]) ?_
                        exact j81
                · -- 72 to 75
                  refine zw_inc rfl (x' := (nI (p + 1))) (ls' := [some (.ref k), some (.int (nI l)), some (.int (nI d)), some (.int (nI g)), some (.int (-1)), some (.int (nI (p + 1))), none]) rfl (na (a := p) (b := 1) rfl rfl) rfl ?_
                  refine zw_n 1 rfl ?_
                  exact ih55 (p + 1) (⟨by omega, fun q hq => if e : q = p then e ▸ ite_ne c72 else hi55.2 q (by omega)⟩) (by omega)
          exact lp55 _ 0 (⟨Nat.zero_le _, fun q hq => by omega⟩) (Nat.lt_succ_self _)
        · -- 47 to 50
          exfalso
          first | omega | exact absurd (show 0 ≤ (nI d).toInt ∧ (nI d).toInt < 40 by rw [nI_toInt (by omega)]; omega) (ite_eq0 c40) | exact absurd (show 33 ≤ (nI g).toInt ∧ (nI g).toInt ≤ 126 by rw [nI_toInt (by omega)]; omega) (ite_eq0 c47)

set_option maxHeartbeats 4000000 in
set_option maxRecDepth 100000 in
theorem c_partA (Mq : zM) (k : Nat) (c : Nat) (sg li co : Nat → Nat) (hT : Seg Mq k (tokL k (c, sg, li, co))) (hS : SafeT c sg li co) (x z : Int32) (hz : ¬ (0 ≤ z.toInt ∧ z.toInt < 40)) : Zm 1 zm_Tokens_partLine [.ref k, .int x, .int z] Mq (fun r9 M1 => r9 = some (.int (-1)) ∧ M1 = Mq) := by
  show Zw 1 zm_Tokens_partLine 0 [some (.ref k), some (.int x), some (.int z), none, none, none, none] [] Mq _
  refine zw_n 1 rfl ?_
  refine zw_callS (as := [.int z]) (rest := []) rfl rfl rfl rfl rfl rfl (by decide) (c_isColumn _ _) (fun rz396 Mz397 hz398 => ?_)
  rw [hz398.1, hz398.2]
  show Zw 1 zm_Tokens_partLine 4 [some (.ref k), some (.int x), some (.int z), none, none, none, none] [.int (nI (if 0 ≤ z.toInt ∧ z.toInt < 40 then 1 else 0))] Mq _
  refine zw_ne0N (a := if 0 ≤ z.toInt ∧ z.toInt < 40 then 1 else 0) rfl rfl (ite_b) (fun c4 => ?_) (fun c4 => ?_)
  · -- 4 to 9
    exfalso
    rw [if_neg hz] at c4; exact c4 rfl
  · -- 4 to 7
    refine zw_n 1 rfl ?_
    exact zw_iret rfl rfl (⟨rfl, rfl⟩)

set_option maxHeartbeats 4000000 in
set_option maxRecDepth 100000 in
theorem c_partB (Mq : zM) (k : Nat) (c : Nat) (sg li co : Nat → Nat) (hT : Seg Mq k (tokL k (c, sg, li, co))) (hS : SafeT c sg li co) (x z : Int32) (hz : 0 ≤ z.toInt ∧ z.toInt < 40) (hx : ¬ (0 ≤ x.toInt ∧ x.toInt < c)) : Zm 1 zm_Tokens_partLine [.ref k, .int x, .int z] Mq (fun r9 M1 => r9 = some (.int (-2)) ∧ M1 = Mq) := by
  show Zw 1 zm_Tokens_partLine 0 [some (.ref k), some (.int x), some (.int z), none, none, none, none] [] Mq _
  have hc20 := hS.1
  refine zw_n 1 rfl ?_
  refine zw_callS (as := [.int z]) (rest := []) rfl rfl rfl rfl rfl rfl (by decide) (c_isColumn _ _) (fun rz399 Mz400 hz401 => ?_)
  rw [hz401.1, hz401.2]
  show Zw 1 zm_Tokens_partLine 4 [some (.ref k), some (.int x), some (.int z), none, none, none, none] [.int (nI (if 0 ≤ z.toInt ∧ z.toInt < 40 then 1 else 0))] Mq _
  refine zw_ne0N (a := if 0 ≤ z.toInt ∧ z.toInt < 40 then 1 else 0) rfl rfl (ite_b) (fun c4 => ?_) (fun c4 => ?_)
  · -- 4 to 9
    refine zw_n 1 rfl ?_
    refine zw_lt0Z (a := x.toInt) rfl (rfl) (fun c10 => ?_) (fun c10 => ?_)
    · -- 10 to 21
      refine zw_n 1 rfl ?_
      exact zw_iret rfl rfl (⟨rfl, rfl⟩)
    · -- 10 to 13
      refine zw_n 2 rfl ?_
      refine zw_get (v := .int (nI c)) rfl (hT.get 0 rfl) rfl ?_
      refine zw_iltZ (a := x.toInt) (b := ((c : Nat) : Int)) rfl (rfl) (nI_toInt (by omega)) (fun c18 => ?_) (fun c18 => ?_)
      · -- 18 to 24
        exfalso
        omega
      · -- 18 to 21
        refine zw_n 1 rfl ?_
        exact zw_iret rfl rfl (⟨rfl, rfl⟩)
  · -- 4 to 7
    exfalso
    rw [if_pos hz] at c4; cases c4

set_option maxHeartbeats 4000000 in
set_option maxRecDepth 100000 in
theorem c_partOk (Mq : zM) (k : Nat) (c : Nat) (sg li co : Nat → Nat) (hT : Seg Mq k (tokL k (c, sg, li, co))) (hS : SafeT c sg li co) (x d : Nat) (hx : x < c) (hd : d < 40) (hs : Srt c li co) (L : Nat) (hL : ∀ q, li q < L) (hL1 : L < 1000000) : Zm 1 zm_Tokens_partLine [.ref k, .int (nI x), .int (nI d)] Mq (fun r9 M1 => (¬ ptOk c li co x d → r9 = some (.int (-3)) ∧ M1 = Mq) ∧ (ptOk c li co x d → r9 = some (.int (nI (li x + 1))) ∧ ∃ li9 co9, Seg M1 k (tokL k (c, sg, li9, co9)) ∧ Sm Mq M1 [k + 2, k + 3] ∧ SafeT c sg li9 co9 ∧ (∀ q, q < c → li9 q = ptL li x q ∧ co9 q = ptC li co x d q) ∧ ∀ q, li9 q < L + 1)) := by
  show Zw 1 zm_Tokens_partLine 0 [some (.ref k), some (.int (nI x)), some (.int (nI d)), none, none, none, none] [] Mq _
  have hc20 := hS.1
  have hcx := hS.2.2.2 x
  refine zw_n 1 rfl ?_
  refine zw_callS (as := [.int (nI d)]) (rest := []) rfl rfl rfl rfl rfl rfl (by decide) (c_isColumn _ _) (fun rz402 Mz403 hz404 => ?_)
  rw [hz404.1, hz404.2]
  show Zw 1 zm_Tokens_partLine 4 [some (.ref k), some (.int (nI x)), some (.int (nI d)), none, none, none, none] [.int (nI (if 0 ≤ (nI d).toInt ∧ (nI d).toInt < 40 then 1 else 0))] Mq _
  refine zw_ne0N (a := if 0 ≤ (nI d).toInt ∧ (nI d).toInt < 40 then 1 else 0) rfl rfl (ite_b) (fun c4 => ?_) (fun c4 => ?_)
  · -- 4 to 9
    refine zw_n 1 rfl ?_
    refine zw_lt0N (a := x) rfl rfl (by omega) ?_
    refine zw_n 2 rfl ?_
    refine zw_get (v := .int (nI c)) rfl (hT.get 0 rfl) rfl ?_
    refine zw_iltN (a := x) (b := c) rfl rfl rfl (by omega) (by omega) (fun c18 => ?_) (fun c18 => ?_)
    · -- 18 to 24
      refine zw_n 1 rfl ?_
      refine zw_get (v := .ref (k + 2)) rfl (hT.get 0 rfl) rfl ?_
      refine zw_n 1 rfl ?_
      refine zw_iald (f := ai li) (j := x) rfl (hT.get 2 rfl) rfl (by decide) (by omega) ?_
      have bz405 := hS.2.2.1 x
      refine zw_n 3 (ls' := [some (.ref k), some (.int (nI x)), some (.int (nI d)), some (.int (nI (li x))), none, none, none]) rfl ?_
      refine zw_get (v := .ref (k + 3)) rfl (hT.get 0 rfl) rfl ?_
      refine zw_n 1 rfl ?_
      refine zw_iald (f := ai co) (j := x) rfl (hT.get 3 rfl) rfl (by decide) (by omega) ?_
      have bz406 := hS.2.2.2 x
      refine zw_n 1 rfl ?_
      refine zw_n 3 (ls' := [some (.ref k), some (.int (nI x)), some (.int (nI d)), some (.int (nI (li x))), some (.int ((nI d) - (nI (co x)))), some (.int (nI x)), none]) rfl ?_
      have lp44 : ∀ (n44 : Nat) (b : Nat), (x ≤ b ∧ b < c ∧ ∀ q, x ≤ q → q ≤ b → li q = li x) → c - b < n44 → Zw 1 zm_Tokens_partLine 44 [some (.ref k), some (.int (nI x)), some (.int (nI d)), some (.int (nI (li x))), some (.int ((nI d) - (nI (co x)))), some (.int (nI b)), none] [] Mq (fun r9 M1 => (¬ ptOk c li co x d → r9 = some (.int (-3)) ∧ M1 = Mq) ∧ (ptOk c li co x d → r9 = some (.int (nI (li x + 1))) ∧ ∃ li9 co9, Seg M1 k (tokL k (c, sg, li9, co9)) ∧ Sm Mq M1 [k + 2, k + 3] ∧ SafeT c sg li9 co9 ∧ (∀ q, q < c → li9 q = ptL li x q ∧ co9 q = ptC li co x d q) ∧ ∀ q, li9 q < L + 1)) := by
        intro n44
        induction n44 with
        | zero => intro b _ h; exact absurd h (Nat.not_lt_zero _)
        | succ n44 ih44 =>
          intro b hi44 hm44
          refine zw_n 3 rfl ?_
          refine zw_top (na (a := b) (b := 1) rfl rfl) ?_
          refine zw_n 1 rfl ?_
          refine zw_get (v := .int (nI c)) rfl (hT.get 0 rfl) rfl ?_
          refine zw_igeN (a := b + 1) (b := c) rfl rfl rfl (by omega) (by omega) (fun c52 => ?_) (fun c52 => ?_)
          · -- 52 to 74
            have hbe := pt_end hs hi44.1 hi44.2.2 (fun hq => by omega)
            have hpc := pt_col (d := d) hs hi44.1 hi44.2.1 hi44.2.2 hbe
            have hcb := hS.2.2.2 b
            have hge := co_ge hs hi44.1 hi44.2.1 (hi44.2.2 b hi44.1 (Nat.le_refl _))
            refine zw_n 2 rfl ?_
            refine zw_callV (as := [.int (nI x)]) (rest := []) rfl rfl rfl (hT.get 0 rfl) rfl rfl rfl (by decide) (c_beginsLine Mq k c sg li co (seg4 (hT.get 0 rfl) (hT.get 1 rfl) (hT.get 2 rfl) (hT.get 3 rfl)) x (by omega) (fun q => Nat.lt_trans (hS.2.2.1 q) (by decide))) (fun rz407 Mz408 hz409 => ?_)
            rw [hz409.1, hz409.2]
            show Zw 1 zm_Tokens_partLine 79 [some (.ref k), some (.int (nI x)), some (.int (nI d)), some (.int (nI (li x))), some (.int ((nI d) - (nI (co x)))), some (.int (nI b)), none] [.int (nI (if x = 0 ∨ li (x - 1) ≠ li x then 1 else 0))] Mq _
            refine zw_ne0N (a := if x = 0 ∨ li (x - 1) ≠ li x then 1 else 0) rfl rfl (ite_b) (fun c79 => ?_) (fun c79 => ?_)
            · -- 79 to 98
              refine zw_n 1 rfl ?_
              exact zw_iret rfl rfl (⟨fun _ => ⟨rfl, rfl⟩, fun hp => by first | exact absurd (ite_ne c79) hp.1 | (exfalso; exact ite_eq0 c95 (by rw [pt_sum hcb hcx hd]; have h9 := hpc.mpr hp.2; omega))⟩)
            · -- 79 to 82
              refine zw_n 1 rfl ?_
              refine zw_get (v := .ref (k + 3)) rfl (hT.get 0 rfl) rfl ?_
              refine zw_n 1 rfl ?_
              refine zw_iald (f := ai co) (j := b) rfl (hT.get 3 rfl) rfl (by decide) (by omega) ?_
              have bz410 := hS.2.2.2 b
              refine zw_n 2 rfl ?_
              refine zw_callS (as := [.int ((nI (co b)) + ((nI d) - (nI (co x))))]) (rest := []) rfl rfl rfl rfl rfl rfl (by decide) (c_isColumn _ _) (fun rz411 Mz412 hz413 => ?_)
              rw [hz413.1, hz413.2]
              show Zw 1 zm_Tokens_partLine 95 [some (.ref k), some (.int (nI x)), some (.int (nI d)), some (.int (nI (li x))), some (.int ((nI d) - (nI (co x)))), some (.int (nI b)), none] [.int (nI (if 0 ≤ ((nI (co b)) + ((nI d) - (nI (co x)))).toInt ∧ ((nI (co b)) + ((nI d) - (nI (co x)))).toInt < 40 then 1 else 0))] Mq _
              refine zw_ne0N (a := if 0 ≤ ((nI (co b)) + ((nI d) - (nI (co x)))).toInt ∧ ((nI (co b)) + ((nI d) - (nI (co x)))).toInt < 40 then 1 else 0) rfl rfl (ite_b) (fun c95 => ?_) (fun c95 => ?_)
              · -- 95 to 101
                have hpo : ptOk c li co x d := ⟨ite_eq0 c79, hpc.mp (by have h9 := ite_ne c95; rw [pt_sum hcb hcx hd] at h9; omega)⟩
                refine zw_n 2 (ls' := [some (.ref k), some (.int (nI x)), some (.int (nI d)), some (.int (nI (li x))), some (.int ((nI d) - (nI (co x)))), some (.int (nI b)), some (.int (nI x))]) rfl ?_
                have lp104 : ∀ (n104 : Nat) (j : Nat) (lq : Nat → Nat) (cq : Nat → Nat) (M_104 : zM), Sm Mq M_104 [k + 2, k + 3] → M_104[k + 2]? = some (.inl (0, 20, .inl (ai lq))) → M_104[k + 3]? = some (.inl (0, 20, .inl (ai cq))) → (x ≤ j ∧ j ≤ c ∧ (∀ q, lq q = if x ≤ q ∧ q < j then li q + 1 else li q) ∧ (∀ q, cq q = if x ≤ q ∧ q < j then ptC li co x d q else co q)) → c - j < n104 → Zw 1 zm_Tokens_partLine 104 [some (.ref k), some (.int (nI x)), some (.int (nI d)), some (.int (nI (li x))), some (.int ((nI d) - (nI (co x)))), some (.int (nI b)), some (.int (nI j))] [] M_104 (fun r9 M1 => (¬ ptOk c li co x d → r9 = some (.int (-3)) ∧ M1 = Mq) ∧ (ptOk c li co x d → r9 = some (.int (nI (li x + 1))) ∧ ∃ li9 co9, Seg M1 k (tokL k (c, sg, li9, co9)) ∧ Sm Mq M1 [k + 2, k + 3] ∧ SafeT c sg li9 co9 ∧ (∀ q, q < c → li9 q = ptL li x q ∧ co9 q = ptC li co x d q) ∧ ∀ q, li9 q < L + 1)) := by
                  intro n104
                  induction n104 with
                  | zero => intro j lq cq M_104 _ _ _ _ h; exact absurd h (Nat.not_lt_zero _)
                  | succ n104 ih104 =>
                    intro j lq cq M_104 s_104 f104_0 f104_1 hi104 hm104
                    refine zw_n 2 rfl ?_
                    refine zw_get (v := .int (nI c)) rfl (Sm.at s_104 (by simp <;> omega) (hT.get 0 rfl)) rfl ?_
                    refine zw_igeN (a := j) (b := c) rfl rfl rfl (by omega) (by omega) (fun c110 => ?_) (fun c110 => ?_)
                    · -- 110 to 153
                      refine zw_n 3 rfl ?_
                      refine zw_top (na (a := li x) (b := 1) rfl rfl) ?_
                      exact zw_iret rfl rfl (⟨fun hp => absurd hpo hp, fun _ => ⟨rfl, lq, cq, (seg4 (Sm.at s_104 (by simp <;> omega) (hT.get 0 rfl)) (Sm.at s_104 (by simp <;> omega) (hT.get 1 rfl)) f104_0 f104_1), s_104, ⟨hc20, hS.2.1, fun q => by rw [hi104.2.2.1 q]; have := hL q; split <;> omega, fun q => by rw [hi104.2.2.2 q]; split <;> first | exact hS.2.2.2 q | exact ptC_lt hpo hS.2.2.2 q (by omega)⟩, fun q hq => ⟨by rw [hi104.2.2.1 q]; unfold ptL; split <;> split <;> omega, by rw [hi104.2.2.2 q]; split <;> first | rfl | (unfold ptC; rw [if_neg (by omega)])⟩, fun q => by rw [hi104.2.2.1 q]; have := hL q; split <;> omega⟩⟩)
                    · -- 110 to 113
                      refine zw_n 1 rfl ?_
                      refine zw_get (v := .ref (k + 3)) rfl (Sm.at s_104 (by simp <;> omega) (hT.get 0 rfl)) rfl ?_
                      refine zw_n 2 rfl ?_
                      refine zw_iald (f := ai cq) (j := j) rfl f104_1 rfl (by decide) (by omega) ?_
                      have j121 : Zw 1 zm_Tokens_partLine 134 [some (.ref k), some (.int (nI x)), some (.int (nI d)), some (.int (nI (li x))), some (.int ((nI d) - (nI (co x)))), some (.int (nI b)), some (.int (nI j))] [.int (if j ≤ b then nI d - nI (co x) else 0), .int (nI (cq j)), .int (nI j), .ref (k + 3)] M_104 (fun r9 M1 => (¬ ptOk c li co x d → r9 = some (.int (-3)) ∧ M1 = Mq) ∧ (ptOk c li co x d → r9 = some (.int (nI (li x + 1))) ∧ ∃ li9 co9, Seg M1 k (tokL k (c, sg, li9, co9)) ∧ Sm Mq M1 [k + 2, k + 3] ∧ SafeT c sg li9 co9 ∧ (∀ q, q < c → li9 q = ptL li x q ∧ co9 q = ptC li co x d q) ∧ ∀ q, li9 q < L + 1)) := by
                        refine zw_n 1 rfl ?_
                        refine zw_iastN (g := cq) (j := j) (v := (ptC li co x d j)) rfl f104_1 rfl (by decide) (by omega) (pt_store hs hS.2.2.2 hd (by omega) (by omega) (by rw [hi104.2.2.2 j, if_neg (by omega)]) hi44.2.2 hbe) ?_
                        generalize ez415 : List.set M_104 (k + 3) _ = Mz414
                        refine zw_n 1 rfl ?_
                        refine zw_get (v := .ref (k + 2)) rfl (zat_set ez415 (by omega) (Sm.at s_104 (by simp <;> omega) (hT.get 0 rfl))) rfl ?_
                        refine zw_n 2 rfl ?_
                        refine zw_iald (f := ai lq) (j := j) rfl (zat_set ez415 (by omega) f104_0) rfl (by decide) (by omega) ?_
                        refine zw_n 2 rfl ?_
                        refine zw_top (na (a := lq j) (b := 1) rfl rfl) ?_
                        refine zw_iastN (g := lq) (j := j) (v := ((lq j) + 1)) rfl (zat_set ez415 (by omega) f104_0) rfl (by decide) (by omega) (rfl) ?_
                        generalize ez417 : List.set Mz414 (k + 2) _ = Mz416
                        refine zw_inc rfl (x' := (nI (j + 1))) (ls' := [some (.ref k), some (.int (nI x)), some (.int (nI d)), some (.int (nI (li x))), some (.int ((nI d) - (nI (co x)))), some (.int (nI b)), some (.int (nI (j + 1)))]) rfl (na (a := j) (b := 1) rfl rfl) rfl ?_
                        refine zw_n 1 rfl ?_
                        exact ih104 (j + 1) (up lq j ((lq j) + 1)) (up cq j (ptC li co x d j)) Mz416 (Sm.tset (Sm.tset s_104 ez415 (by simp)) ez417 (by simp)) (zat_self ez417 (zat_set ez415 (by omega) f104_0)) (zat_set ez417 (by omega) (zat_self ez415 f104_1)) (⟨by omega, by omega, fun q => up_step (hi104.2.2.1) (by omega) (by rw [hi104.2.2.1 j, if_neg (by omega)]) q, fun q => up_step hi104.2.2.2 (by omega) rfl q⟩) (by omega)
                      refine zw_n 2 rfl ?_
                      refine zw_igtN (a := j) (b := b) rfl rfl rfl (by omega) (by omega) (fun c125 => ?_) (fun c125 => ?_)
                      · -- 125 to 133
                        refine zw_n 1 rfl ?_
                        refine zw_top (x' := (if j ≤ b then nI d - nI (co x) else 0)) (show (0 : Int32) = (if j ≤ b then nI d - nI (co x) else 0) by rw [if_neg (by omega)]) ?_
                        exact j121
                      · -- 125 to 128
                        refine zw_n 2 rfl ?_
                        refine zw_top (x' := (if j ≤ b then nI d - nI (co x) else 0)) (show (nI d - nI (co x) : Int32) = (if j ≤ b then nI d - nI (co x) else 0) by rw [if_pos (by omega)]) ?_
                        exact j121
                exact lp104 _ x li co Mq Sm.rf (hT.get 2 rfl) (hT.get 3 rfl) (⟨Nat.le_refl _, by omega, fun q => by rw [if_neg (by omega)], fun q => by rw [if_neg (by omega)]⟩) (Nat.lt_succ_self _)
              · -- 95 to 98
                refine zw_n 1 rfl ?_
                exact zw_iret rfl rfl (⟨fun _ => ⟨rfl, rfl⟩, fun hp => by first | exact absurd (ite_ne c79) hp.1 | (exfalso; exact ite_eq0 c95 (by rw [pt_sum hcb hcx hd]; have h9 := hpc.mpr hp.2; omega))⟩)
          · -- 52 to 55
            refine zw_n 1 rfl ?_
            refine zw_get (v := .ref (k + 2)) rfl (hT.get 0 rfl) rfl ?_
            refine zw_n 3 rfl ?_
            refine zw_top (na (a := b) (b := 1) rfl rfl) ?_
            refine zw_iald (f := ai li) (j := (b + 1)) rfl (hT.get 2 rfl) rfl (by decide) (by omega) ?_
            have bz418 := hS.2.2.1 (b + 1)
            refine zw_n 1 rfl ?_
            refine zw_ineN (a := li (b + 1)) (b := li x) rfl rfl rfl (by omega) (by omega) (fun c65 => ?_) (fun c65 => ?_)
            · -- 65 to 74
              have hbe := pt_end hs hi44.1 hi44.2.2 (fun hq => by omega)
              have hpc := pt_col (d := d) hs hi44.1 hi44.2.1 hi44.2.2 hbe
              have hcb := hS.2.2.2 b
              have hge := co_ge hs hi44.1 hi44.2.1 (hi44.2.2 b hi44.1 (Nat.le_refl _))
              refine zw_n 2 rfl ?_
              refine zw_callV (as := [.int (nI x)]) (rest := []) rfl rfl rfl (hT.get 0 rfl) rfl rfl rfl (by decide) (c_beginsLine Mq k c sg li co (seg4 (hT.get 0 rfl) (hT.get 1 rfl) (hT.get 2 rfl) (hT.get 3 rfl)) x (by omega) (fun q => Nat.lt_trans (hS.2.2.1 q) (by decide))) (fun rz419 Mz420 hz421 => ?_)
              rw [hz421.1, hz421.2]
              show Zw 1 zm_Tokens_partLine 79 [some (.ref k), some (.int (nI x)), some (.int (nI d)), some (.int (nI (li x))), some (.int ((nI d) - (nI (co x)))), some (.int (nI b)), none] [.int (nI (if x = 0 ∨ li (x - 1) ≠ li x then 1 else 0))] Mq _
              refine zw_ne0N (a := if x = 0 ∨ li (x - 1) ≠ li x then 1 else 0) rfl rfl (ite_b) (fun c79 => ?_) (fun c79 => ?_)
              · -- 79 to 98
                refine zw_n 1 rfl ?_
                exact zw_iret rfl rfl (⟨fun _ => ⟨rfl, rfl⟩, fun hp => by first | exact absurd (ite_ne c79) hp.1 | (exfalso; exact ite_eq0 c95 (by rw [pt_sum hcb hcx hd]; have h9 := hpc.mpr hp.2; omega))⟩)
              · -- 79 to 82
                refine zw_n 1 rfl ?_
                refine zw_get (v := .ref (k + 3)) rfl (hT.get 0 rfl) rfl ?_
                refine zw_n 1 rfl ?_
                refine zw_iald (f := ai co) (j := b) rfl (hT.get 3 rfl) rfl (by decide) (by omega) ?_
                have bz422 := hS.2.2.2 b
                refine zw_n 2 rfl ?_
                refine zw_callS (as := [.int ((nI (co b)) + ((nI d) - (nI (co x))))]) (rest := []) rfl rfl rfl rfl rfl rfl (by decide) (c_isColumn _ _) (fun rz423 Mz424 hz425 => ?_)
                rw [hz425.1, hz425.2]
                show Zw 1 zm_Tokens_partLine 95 [some (.ref k), some (.int (nI x)), some (.int (nI d)), some (.int (nI (li x))), some (.int ((nI d) - (nI (co x)))), some (.int (nI b)), none] [.int (nI (if 0 ≤ ((nI (co b)) + ((nI d) - (nI (co x)))).toInt ∧ ((nI (co b)) + ((nI d) - (nI (co x)))).toInt < 40 then 1 else 0))] Mq _
                refine zw_ne0N (a := if 0 ≤ ((nI (co b)) + ((nI d) - (nI (co x)))).toInt ∧ ((nI (co b)) + ((nI d) - (nI (co x)))).toInt < 40 then 1 else 0) rfl rfl (ite_b) (fun c95 => ?_) (fun c95 => ?_)
                · -- 95 to 101
                  have hpo : ptOk c li co x d := ⟨ite_eq0 c79, hpc.mp (by have h9 := ite_ne c95; rw [pt_sum hcb hcx hd] at h9; omega)⟩
                  refine zw_n 2 (ls' := [some (.ref k), some (.int (nI x)), some (.int (nI d)), some (.int (nI (li x))), some (.int ((nI d) - (nI (co x)))), some (.int (nI b)), some (.int (nI x))]) rfl ?_
                  have lp104 : ∀ (n104 : Nat) (j : Nat) (lq : Nat → Nat) (cq : Nat → Nat) (M_104 : zM), Sm Mq M_104 [k + 2, k + 3] → M_104[k + 2]? = some (.inl (0, 20, .inl (ai lq))) → M_104[k + 3]? = some (.inl (0, 20, .inl (ai cq))) → (x ≤ j ∧ j ≤ c ∧ (∀ q, lq q = if x ≤ q ∧ q < j then li q + 1 else li q) ∧ (∀ q, cq q = if x ≤ q ∧ q < j then ptC li co x d q else co q)) → c - j < n104 → Zw 1 zm_Tokens_partLine 104 [some (.ref k), some (.int (nI x)), some (.int (nI d)), some (.int (nI (li x))), some (.int ((nI d) - (nI (co x)))), some (.int (nI b)), some (.int (nI j))] [] M_104 (fun r9 M1 => (¬ ptOk c li co x d → r9 = some (.int (-3)) ∧ M1 = Mq) ∧ (ptOk c li co x d → r9 = some (.int (nI (li x + 1))) ∧ ∃ li9 co9, Seg M1 k (tokL k (c, sg, li9, co9)) ∧ Sm Mq M1 [k + 2, k + 3] ∧ SafeT c sg li9 co9 ∧ (∀ q, q < c → li9 q = ptL li x q ∧ co9 q = ptC li co x d q) ∧ ∀ q, li9 q < L + 1)) := by
                    intro n104
                    induction n104 with
                    | zero => intro j lq cq M_104 _ _ _ _ h; exact absurd h (Nat.not_lt_zero _)
                    | succ n104 ih104 =>
                      intro j lq cq M_104 s_104 f104_0 f104_1 hi104 hm104
                      refine zw_n 2 rfl ?_
                      refine zw_get (v := .int (nI c)) rfl (Sm.at s_104 (by simp <;> omega) (hT.get 0 rfl)) rfl ?_
                      refine zw_igeN (a := j) (b := c) rfl rfl rfl (by omega) (by omega) (fun c110 => ?_) (fun c110 => ?_)
                      · -- 110 to 153
                        refine zw_n 3 rfl ?_
                        refine zw_top (na (a := li x) (b := 1) rfl rfl) ?_
                        exact zw_iret rfl rfl (⟨fun hp => absurd hpo hp, fun _ => ⟨rfl, lq, cq, (seg4 (Sm.at s_104 (by simp <;> omega) (hT.get 0 rfl)) (Sm.at s_104 (by simp <;> omega) (hT.get 1 rfl)) f104_0 f104_1), s_104, ⟨hc20, hS.2.1, fun q => by rw [hi104.2.2.1 q]; have := hL q; split <;> omega, fun q => by rw [hi104.2.2.2 q]; split <;> first | exact hS.2.2.2 q | exact ptC_lt hpo hS.2.2.2 q (by omega)⟩, fun q hq => ⟨by rw [hi104.2.2.1 q]; unfold ptL; split <;> split <;> omega, by rw [hi104.2.2.2 q]; split <;> first | rfl | (unfold ptC; rw [if_neg (by omega)])⟩, fun q => by rw [hi104.2.2.1 q]; have := hL q; split <;> omega⟩⟩)
                      · -- 110 to 113
                        refine zw_n 1 rfl ?_
                        refine zw_get (v := .ref (k + 3)) rfl (Sm.at s_104 (by simp <;> omega) (hT.get 0 rfl)) rfl ?_
                        refine zw_n 2 rfl ?_
                        refine zw_iald (f := ai cq) (j := j) rfl f104_1 rfl (by decide) (by omega) ?_
                        have j121 : Zw 1 zm_Tokens_partLine 134 [some (.ref k), some (.int (nI x)), some (.int (nI d)), some (.int (nI (li x))), some (.int ((nI d) - (nI (co x)))), some (.int (nI b)), some (.int (nI j))] [.int (if j ≤ b then nI d - nI (co x) else 0), .int (nI (cq j)), .int (nI j), .ref (k + 3)] M_104 (fun r9 M1 => (¬ ptOk c li co x d → r9 = some (.int (-3)) ∧ M1 = Mq) ∧ (ptOk c li co x d → r9 = some (.int (nI (li x + 1))) ∧ ∃ li9 co9, Seg M1 k (tokL k (c, sg, li9, co9)) ∧ Sm Mq M1 [k + 2, k + 3] ∧ SafeT c sg li9 co9 ∧ (∀ q, q < c → li9 q = ptL li x q ∧ co9 q = ptC li co x d q) ∧ ∀ q, li9 q < L + 1)) := by
                          refine zw_n 1 rfl ?_
                          refine zw_iastN (g := cq) (j := j) (v := (ptC li co x d j)) rfl f104_1 rfl (by decide) (by omega) (pt_store hs hS.2.2.2 hd (by omega) (by omega) (by rw [hi104.2.2.2 j, if_neg (by omega)]) hi44.2.2 hbe) ?_
                          generalize ez427 : List.set M_104 (k + 3) _ = Mz426
                          refine zw_n 1 rfl ?_
                          refine zw_get (v := .ref (k + 2)) rfl (zat_set ez427 (by omega) (Sm.at s_104 (by simp <;> omega) (hT.get 0 rfl))) rfl ?_
                          refine zw_n 2 rfl ?_
                          refine zw_iald (f := ai lq) (j := j) rfl (zat_set ez427 (by omega) f104_0) rfl (by decide) (by omega) ?_
                          refine zw_n 2 rfl ?_
                          refine zw_top (na (a := lq j) (b := 1) rfl rfl) ?_
                          refine zw_iastN (g := lq) (j := j) (v := ((lq j) + 1)) rfl (zat_set ez427 (by omega) f104_0) rfl (by decide) (by omega) (rfl) ?_
                          generalize ez429 : List.set Mz426 (k + 2) _ = Mz428
                          refine zw_inc rfl (x' := (nI (j + 1))) (ls' := [some (.ref k), some (.int (nI x)), some (.int (nI d)), some (.int (nI (li x))), some (.int ((nI d) - (nI (co x)))), some (.int (nI b)), some (.int (nI (j + 1)))]) rfl (na (a := j) (b := 1) rfl rfl) rfl ?_
                          refine zw_n 1 rfl ?_
                          exact ih104 (j + 1) (up lq j ((lq j) + 1)) (up cq j (ptC li co x d j)) Mz428 (Sm.tset (Sm.tset s_104 ez427 (by simp)) ez429 (by simp)) (zat_self ez429 (zat_set ez427 (by omega) f104_0)) (zat_set ez429 (by omega) (zat_self ez427 f104_1)) (⟨by omega, by omega, fun q => up_step (hi104.2.2.1) (by omega) (by rw [hi104.2.2.1 j, if_neg (by omega)]) q, fun q => up_step hi104.2.2.2 (by omega) rfl q⟩) (by omega)
                        refine zw_n 2 rfl ?_
                        refine zw_igtN (a := j) (b := b) rfl rfl rfl (by omega) (by omega) (fun c125 => ?_) (fun c125 => ?_)
                        · -- 125 to 133
                          refine zw_n 1 rfl ?_
                          refine zw_top (x' := (if j ≤ b then nI d - nI (co x) else 0)) (show (0 : Int32) = (if j ≤ b then nI d - nI (co x) else 0) by rw [if_neg (by omega)]) ?_
                          exact j121
                        · -- 125 to 128
                          refine zw_n 2 rfl ?_
                          refine zw_top (x' := (if j ≤ b then nI d - nI (co x) else 0)) (show (nI d - nI (co x) : Int32) = (if j ≤ b then nI d - nI (co x) else 0) by rw [if_pos (by omega)]) ?_
                          exact j121
                  exact lp104 _ x li co Mq Sm.rf (hT.get 2 rfl) (hT.get 3 rfl) (⟨Nat.le_refl _, by omega, fun q => by rw [if_neg (by omega)], fun q => by rw [if_neg (by omega)]⟩) (Nat.lt_succ_self _)
                · -- 95 to 98
                  refine zw_n 1 rfl ?_
                  exact zw_iret rfl rfl (⟨fun _ => ⟨rfl, rfl⟩, fun hp => by first | exact absurd (ite_ne c79) hp.1 | (exfalso; exact ite_eq0 c95 (by rw [pt_sum hcb hcx hd]; have h9 := hpc.mpr hp.2; omega))⟩)
            · -- 65 to 68
              refine zw_inc rfl (x' := (nI (b + 1))) (ls' := [some (.ref k), some (.int (nI x)), some (.int (nI d)), some (.int (nI (li x))), some (.int ((nI d) - (nI (co x)))), some (.int (nI (b + 1))), none]) rfl (na (a := b) (b := 1) rfl rfl) rfl ?_
              refine zw_n 1 rfl ?_
              exact ih44 (b + 1) (⟨by omega, by omega, fun q q1 q2 => if e : q = b + 1 then e ▸ c65 else hi44.2.2 q q1 (by omega)⟩) (by omega)
      exact lp44 _ x (⟨Nat.le_refl _, hx, fun q q1 q2 => by rw [show q = x by omega]⟩) (Nat.lt_succ_self _)
    · -- 18 to 21
      exfalso
      omega
  · -- 4 to 7
    exfalso
    exact absurd (show 0 ≤ (nI d).toInt ∧ (nI d).toInt < 40 by rw [nI_toInt (by omega)]; omega) (ite_eq0 c4)
