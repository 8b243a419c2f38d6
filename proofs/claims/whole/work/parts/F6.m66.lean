set_option maxHeartbeats 4000000 in
set_option maxRecDepth 100000 in
theorem c_lineFor (Mq : zM) (sd : Nat) (h45 : Mq[45]? = some (.inr (2, [.ref 46, .ref 16, .int (nI (sd))]))) (hsd : sd < 1000003) (c9 : Nat) (sg9 li9 co9 : Nat → Nat) (h46 : Seg Mq 46 (tokL 46 (c9, sg9, li9, co9))) (hS9 : SafeT c9 sg9 li9 co9) (d : Nat) (hd : d < 40) : Zm 0 zm_Grower_lineFor [.ref 45, .int (nI d)] Mq (fun r9 M1 => r9 = some (.int (nI (if c9 = 0 then 0 else li9 (c9 - 1) + if co9 (c9 - 1) < d then 0 else 1))) ∧ M1 = Mq) := by
  show Zw 0 zm_Grower_lineFor 0 [some (.ref 45), some (.int (nI d)), none] [] Mq _
  have hc9 := hS9.1
  refine zw_n 1 rfl ?_
  refine zw_get (v := .ref 46) rfl h45 rfl ?_
  refine zw_get (v := .int (nI c9)) rfl (h46.get 0 rfl) rfl ?_
  refine zw_ne0N (a := c9) rfl rfl (by omega) (fun c7 => ?_) (fun c7 => ?_)
  · -- 7 to 12
    refine zw_n 1 rfl ?_
    refine zw_get (v := .ref 46) rfl h45 rfl ?_
    refine zw_get (v := .int (nI c9)) rfl (h46.get 0 rfl) rfl ?_
    refine zw_n 2 rfl ?_
    refine zw_top (ns (a := c9) (b := 1) rfl rfl (by omega)) ?_
    refine zw_n 2 (ls' := [some (.ref 45), some (.int (nI d)), some (.int (nI (c9 - 1)))]) rfl ?_
    refine zw_get (v := .ref 46) rfl h45 rfl ?_
    refine zw_get (v := .ref 48) rfl (h46.get 0 rfl) rfl ?_
    refine zw_n 1 rfl ?_
    refine zw_iald (f := ai li9) (j := (c9 - 1)) rfl (h46.get 2 rfl) rfl (by decide) (by omega) ?_
    have bz5863 := hS9.2.2.1 (c9 - 1)
    have j31 : Zw 0 zm_Grower_lineFor 49 [some (.ref 45), some (.int (nI d)), some (.int (nI (c9 - 1)))] [.int (nI (if co9 (c9 - 1) < d then 0 else 1)), .int (nI (li9 (c9 - 1)))] Mq (fun r9 M1 => r9 = some (.int (nI (if c9 = 0 then 0 else li9 (c9 - 1) + if co9 (c9 - 1) < d then 0 else 1))) ∧ M1 = Mq) := by
      refine zw_n 1 rfl ?_
      refine zw_top (na (a := li9 (c9 - 1)) (b := if co9 (c9 - 1) < d then 0 else 1) rfl rfl) ?_
      exact zw_iret rfl rfl (⟨by rw [if_neg c7], rfl⟩)
    refine zw_n 1 rfl ?_
    refine zw_get (v := .ref 46) rfl h45 rfl ?_
    refine zw_get (v := .ref 49) rfl (h46.get 0 rfl) rfl ?_
    refine zw_n 1 rfl ?_
    refine zw_iald (f := ai co9) (j := (c9 - 1)) rfl (h46.get 3 rfl) rfl (by decide) (by omega) ?_
    have bz5864 := hS9.2.2.2 (c9 - 1)
    refine zw_n 1 rfl ?_
    refine zw_igeN (a := co9 (c9 - 1)) (b := d) rfl rfl rfl (by omega) (by omega) (fun c41 => ?_) (fun c41 => ?_)
    · -- 41 to 48
      refine zw_n 1 rfl ?_
      refine zw_top (x' := nI (if co9 (c9 - 1) < d then 0 else 1)) (show nI 1 = nI (if co9 (c9 - 1) < d then 0 else 1) by rw [if_neg (by omega)]) ?_
      exact j31
    · -- 41 to 44
      refine zw_n 2 rfl ?_
      refine zw_top (x' := nI (if co9 (c9 - 1) < d then 0 else 1)) (show nI 0 = nI (if co9 (c9 - 1) < d then 0 else 1) by rw [if_pos (by omega)]) ?_
      exact j31
  · -- 7 to 10
    refine zw_n 1 rfl ?_
    refine zw_top (x' := nI 0) (by decide) ?_
    exact zw_iret rfl rfl (⟨by rw [if_pos c7], rfl⟩)
