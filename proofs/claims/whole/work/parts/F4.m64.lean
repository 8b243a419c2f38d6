set_option maxHeartbeats 4000000 in
set_option maxRecDepth 100000 in
theorem c_draw (Mq : zM) (sd : Nat) (h45 : Mq[45]? = some (.inr (2, [.ref 46, .ref 16, .int (nI (sd))]))) (hsd : sd < 1000003) (m : Nat) (hm : m < 2147483648) : Zm 0 zm_Grower_draw [.ref 45, .int (nI m)] Mq (fun r9 M1 => r9 = some (.int (nI (drV m sd))) ∧ M1[45]? = some (.inr (2, [.ref 46, .ref 16, .int (nI (drN sd))])) ∧ Sm Mq M1 [45]) := by
  show Zw 0 zm_Grower_draw 0 [some (.ref 45), some (.int (nI m))] [] Mq _
  refine zw_n 3 rfl ?_
  refine zw_get (v := .int (nI sd)) rfl h45 rfl ?_
  refine zw_n 1 rfl ?_
  refine zw_top (nm (a := 1103) (b := sd) rfl rfl) ?_
  refine zw_n 2 rfl ?_
  refine zw_top (na (a := 1103 * sd) (b := 12345) rfl rfl) ?_
  refine zw_n 2 rfl ?_
  refine zw_top (x' := (nI (drN sd))) (nrem (a := 1103 * sd + 12345) (b := 1000003) rfl rfl (by omega) (by decide) (by decide)) ?_
  refine zw_put rfl h45 (rfl) (Nat.le_of_ble_eq_true rfl) ?_
  generalize ez5834 : List.set Mq 45 _ = Mz5833
  refine zw_n 1 rfl ?_
  refine zw_le0N (a := m) rfl rfl (by omega) (fun c20 => ?_) (fun c20 => ?_)
  · -- 20 to 32
    refine zw_n 1 rfl ?_
    refine zw_top (x' := nI 0) (by decide) ?_
    exact zw_iret rfl rfl (⟨by unfold drV; rw [if_neg (by omega)], zat_self ez5834 h45, Sm.tset Sm.rf ez5834 (by decide)⟩)
  · -- 20 to 23
    refine zw_n 1 rfl ?_
    refine zw_get (v := .int (nI (drN sd))) rfl (zat_self ez5834 h45) rfl ?_
    refine zw_n 1 rfl ?_
    refine zw_rem rfl (nI_ne0b (by omega) hm) ?_
    refine zw_top (x' := (nI (drN sd % m))) (nrem (a := drN sd) (b := m) rfl rfl (by have := drN_lt sd; omega) (by omega) (by omega)) ?_
    refine zw_n 1 rfl ?_
    exact zw_iret rfl rfl (⟨by unfold drV; rw [if_pos (by omega)], zat_self ez5834 h45, Sm.tset Sm.rf ez5834 (by decide)⟩)

set_option maxHeartbeats 4000000 in
set_option maxRecDepth 100000 in
theorem c_drawColumn (Mq : zM) (sd : Nat) (h45 : Mq[45]? = some (.inr (2, [.ref 46, .ref 16, .int (nI (sd))]))) (hsd : sd < 1000003) (x : Nat) (hx : x < 1099511627776) : Zm 1 zm_Grower_drawColumn [.ref 45, .long (lN x)] Mq (fun r9 M1 => r9 = some (.int (nI (nthC (fun c => x.testBit c) (drV (bc x) sd) 0 40))) ∧ M1[45]? = some (.inr (2, [.ref 46, .ref 16, .int (nI (drN sd))])) ∧ Sm Mq M1 [45]) := by
  show Zw 1 zm_Grower_drawColumn 0 [some (.ref 45), some (.long (lN x)), none, none, none] [] Mq _
  have hbl := bc_lt x
  refine zw_n 2 rfl ?_
  refine zw_callS (as := [.long (lN x)]) (rest := [.ref 45]) rfl rfl rfl rfl rfl rfl (by decide) (c_bitCount _ _ (hx)) (fun rz5835 Mz5836 hz5837 => ?_)
  rw [hz5837.1, hz5837.2]
  show Zw 1 zm_Grower_drawColumn 5 [some (.ref 45), some (.long (lN x)), none, none, none] [.int (nI (bc x)), .ref 45] Mq _
  refine zw_callV (as := [.int (nI (bc x))]) (rest := []) rfl rfl rfl h45 rfl rfl rfl (by decide) (c_draw Mq sd h45 (by omega) (bc x) (by omega)) (fun rz5842 Mz5843 hz5844 => ?_)
  obtain ⟨hAz5838, hBz5839, hSz5840⟩ := hz5844
  rw [hAz5838]
  have hbz5841 := drV_lt (bc x) sd
  show Zw 1 zm_Grower_drawColumn 8 [some (.ref 45), some (.long (lN x)), none, none, none] [.int (nI (drV (bc x) sd))] Mz5843 _
  refine zw_n 3 (ls' := [some (.ref 45), some (.long (lN x)), none, some (.int (nI (drV (bc x) sd))), some (.int 0)]) rfl ?_
  have lp12 : ∀ (n12 : Nat) (l : Nat) (e : Nat), (e ≤ 40 ∧ l < 1000003 ∧ nthC (fun c => x.testBit c) (drV (bc x) sd) 0 40 = nthC (fun c => x.testBit c) l e (40 - e)) → 40 - e < n12 → Zw 1 zm_Grower_drawColumn 12 [some (.ref 45), some (.long (lN x)), none, some (.int (nI l)), some (.int (nI e))] [] Mz5843 (fun r9 M1 => r9 = some (.int (nI (nthC (fun c => x.testBit c) (drV (bc x) sd) 0 40))) ∧ M1[45]? = some (.inr (2, [.ref 46, .ref 16, .int (nI (drN sd))])) ∧ Sm Mq M1 [45]) := by
    intro n12
    induction n12 with
    | zero => intro l e _ h; exact absurd h (Nat.not_lt_zero _)
    | succ n12 ih12 =>
      intro l e hi12 hm12
      refine zw_n 2 rfl ?_
      refine zw_igeN (a := e) (b := 40) rfl rfl rfl (by omega) (by omega) (fun c16 => ?_) (fun c16 => ?_)
      · -- 16 to 44
        refine zw_n 1 rfl ?_
        refine zw_top (x' := nI 0) (by decide) ?_
        exact zw_iret rfl rfl (⟨by rw [hi12.2.2, show 40 - e = 0 by omega, nthC_end], hBz5839, Sm.trans Sm.rf hSz5840⟩)
      · -- 16 to 19
        refine zw_n 2 rfl ?_
        refine zw_callS (as := [.long (lN x), .int (nI e)]) (rest := []) rfl rfl rfl rfl rfl rfl (by decide) (c_hasColumn _ _ _ (hx) (by omega)) (fun rz5845 Mz5846 hz5847 => ?_)
        rw [hz5847.1, hz5847.2]
        show Zw 1 zm_Grower_drawColumn 25 [some (.ref 45), some (.long (lN x)), none, some (.int (nI l)), some (.int (nI e))] [.int (nI (if (x).testBit e = true then 1 else 0))] Mz5843 _
        refine zw_eq0N (a := if (x).testBit e = true then 1 else 0) rfl rfl (ite_b) (fun c25 => ?_) (fun c25 => ?_)
        · -- 25 to 38
          refine zw_inc rfl (x' := (nI (e + 1))) (ls' := [some (.ref 45), some (.long (lN x)), none, some (.int (nI l)), some (.int (nI (e + 1)))]) rfl (na (a := e) (b := 1) rfl rfl) rfl ?_
          refine zw_n 1 rfl ?_
          exact ih12 l (e + 1) (⟨by omega, by omega, by first | exact hi12.2.2.trans (nthC_nx (by omega) (ite_ne c25) c29) | exact hi12.2.2.trans (nthC_no (by omega) (ite_eq0 c25))⟩) (by omega)
        · -- 25 to 28
          refine zw_n 1 rfl ?_
          refine zw_ne0N (a := l) rfl rfl (by omega) (fun c29 => ?_) (fun c29 => ?_)
          · -- 29 to 35
            refine zw_inc rfl (x' := (nI (l - 1))) (ls' := [some (.ref 45), some (.long (lN x)), none, some (.int (nI (l - 1))), some (.int (nI e))]) rfl (nsc (a := l) (n := 1) (by decide) rfl (by omega)) rfl ?_
            refine zw_inc rfl (x' := (nI (e + 1))) (ls' := [some (.ref 45), some (.long (lN x)), none, some (.int (nI (l - 1))), some (.int (nI (e + 1)))]) rfl (na (a := e) (b := 1) rfl rfl) rfl ?_
            refine zw_n 1 rfl ?_
            exact ih12 (l - 1) (e + 1) (⟨by omega, by omega, by first | exact hi12.2.2.trans (nthC_nx (by omega) (ite_ne c25) c29) | exact hi12.2.2.trans (nthC_no (by omega) (ite_eq0 c25))⟩) (by omega)
          · -- 29 to 32
            refine zw_n 1 rfl ?_
            exact zw_iret rfl rfl (⟨by rw [hi12.2.2, nthC_hit (by omega) (ite_ne c25) c29], hBz5839, Sm.trans Sm.rf hSz5840⟩)
  exact lp12 _ (drV (bc x) sd) 0 (⟨Nat.zero_le _, by omega, rfl⟩) (Nat.lt_succ_self _)
