set_option maxHeartbeats 4000000 in
set_option maxRecDepth 100000 in
theorem c_field (Mq : zM) (k : Nat) (sz wt : Nat) (T V Rc En Su : Nat → Nat) (hZ : Seg Mq (k + 3) (treL k sz wt T V Rc En Su)) (q w : Nat) (hq : q < 320) (hw : w < 8) : Zm 0 zm_Tree_field [.ref (k + 3), .int (nI q), .int (nI w)] Mq (fun r9 M1 => r9 = some (.int (nI (T (q * 8 + w)))) ∧ M1 = Mq) := by
  show Zw 0 zm_Tree_field 0 [some (.ref (k + 3)), some (.int (nI q)), some (.int (nI w))] [] Mq _
  refine zw_n 1 rfl ?_
  refine zw_get (v := .ref (k + 4)) rfl (hZ.get 0 rfl) rfl ?_
  refine zw_n 3 rfl ?_
  refine zw_top (nm (a := q) (b := 8) rfl rfl) ?_
  refine zw_n 2 rfl ?_
  refine zw_top (na (a := q * 8) (b := w) rfl rfl) ?_
  refine zw_iald (f := ai T) (j := ((q * 8) + w)) rfl (hZ.get 1 rfl) rfl (by decide) (by omega) ?_
  exact zw_iret rfl rfl (⟨rfl, rfl⟩)

set_option maxHeartbeats 4000000 in
set_option maxRecDepth 100000 in
theorem c_fitting (Mq : zM) (k kr kt s : Nat) (W R : Nat → Nat) (n em : Nat) (gn al_ it pt tg bd fr af fb : Nat → Nat) (c : Nat) (sg li co : Nat → Nat) (hC : Seg Mq k (chtL k kr kt s W R)) (hR : Seg Mq kr (rulL kr (n, gn, al_, it, pt, tg, bd, em, fr, af, fb))) (hT : Seg Mq kt (tokL kt (c, sg, li, co))) (hG : SafeG n gn al_ it pt tg bd) (hS : SafeT c sg li co) (hW : SafeM W) (hQ : SafeM R) (sz wt : Nat) (T V Rc En Su : Nat → Nat) (hZ : Seg Mq (k + 3) (treL k sz wt T V Rc En Su)) (hk : kr + 9 < k ∧ kt + 3 < k) (q x p e d : Nat) (hq : q < 320) (hx : x < 160) (hp : p < 21) (he : e < 21) (hf4 : T (q * 8 + 4) = d) (hd : d < 40) : Zm 1 zm_Tree_fitting [.ref (k + 3), .int (nI q), .int (nI x), .int (nI p), .int (nI e)] Mq (fun r9 M1 => r9 = some (.long (lN (itm (gE al_ it tg pt bd sg co) (w3 W) x p e &&& prtN (bd x) (2 ^ d)))) ∧ M1 = Mq) := by
  show Zw 1 zm_Tree_fitting 0 [some (.ref (k + 3)), some (.int (nI q)), some (.int (nI x)), some (.int (nI p)), some (.int (nI e))] [] Mq _
  refine zw_n 1 rfl ?_
  refine zw_get (v := .ref k) rfl (hZ.get 0 rfl) rfl ?_
  refine zw_n 3 rfl ?_
  refine zw_callV (as := [.int (nI x), .int (nI p), .int (nI e)]) (rest := []) rfl rfl rfl (hC.get 0 rfl) rfl rfl rfl (by decide) (c_columnsOfItem Mq k kr kt s W R n em gn al_ it pt tg bd fr af fb c sg li co (seg3 (hC.get 0 rfl) (hC.get 1 rfl) (hC.get 2 rfl)) (seg10 (hR.get 0 rfl) (hR.get 1 rfl) (hR.get 2 rfl) (hR.get 3 rfl) (hR.get 4 rfl) (hR.get 5 rfl) (hR.get 6 rfl) (hR.get 7 rfl) (hR.get 8 rfl) (hR.get 9 rfl)) (seg4 (hT.get 0 rfl) (hT.get 1 rfl) (hT.get 2 rfl) (hT.get 3 rfl)) hG hS (by assumption) (by assumption) x p e (by omega) (by omega) (by omega)) (fun rz4566 Mz4567 hz4568 => ?_)
  rw [hz4568.1, hz4568.2]
  show Zw 1 zm_Tree_fitting 11 [some (.ref (k + 3)), some (.int (nI q)), some (.int (nI x)), some (.int (nI p)), some (.int (nI e))] [.long (lN (itm (gE al_ it tg pt bd sg co) (w3 W) x p e))] Mq _
  refine zw_n 1 rfl ?_
  refine zw_get (v := .ref k) rfl (hZ.get 0 rfl) rfl ?_
  refine zw_get (v := .ref kr) rfl (hC.get 0 rfl) rfl ?_
  refine zw_get (v := .ref (kr + 6)) rfl (hR.get 0 rfl) rfl ?_
  refine zw_n 1 rfl ?_
  refine zw_iald (f := ai bd) (j := x) rfl (hR.get 6 rfl) rfl (by decide) (by omega) ?_
  have bz4569 := hG.2.2.2.2.2.2 x
  refine zw_n 4 rfl ?_
  refine zw_callV (as := [.int (nI q), .int 4]) (rest := [.long 1, .int (nI (bd x)), .long (lN (itm (gE al_ it tg pt bd sg co) (w3 W) x p e))]) rfl rfl rfl (hZ.get 0 rfl) rfl rfl rfl (by decide) (c_field Mq k sz wt T V Rc En Su (seg6 (hZ.get 0 rfl) (hZ.get 1 rfl) (hZ.get 2 rfl) (hZ.get 3 rfl) (hZ.get 4 rfl) (hZ.get 5 rfl)) q 4 (by omega) (by omega)) (fun rz4570 Mz4571 hz4572 => ?_)
  rw [hz4572.1, hz4572.2, hf4]
  show Zw 1 zm_Tree_fitting 30 [some (.ref (k + 3)), some (.int (nI q)), some (.int (nI x)), some (.int (nI p)), some (.int (nI e))] [.int (nI d), .long 1, .int (nI (bd x)), .long (lN (itm (gE al_ it tg pt bd sg co) (w3 W) x p e))] Mq _
  refine zw_n 1 rfl ?_
  refine zw_topl (x' := (lN (2 ^ d))) ((lsl (m := 1) (k := d) rfl rfl (by omega)).trans (by rw [Nat.one_mul])) ?_
  refine zw_callS (as := [.int (nI (bd x)), .long (lN (2 ^ d))]) (rest := [.long (lN (itm (gE al_ it tg pt bd sg co) (w3 W) x p e))]) rfl rfl rfl rfl rfl rfl (by decide) (c_partsOf _ _ _ (by omega) (Nat.pow_lt_pow_right (by decide) hd)) (fun rz4573 Mz4574 hz4575 => ?_)
  rw [hz4575.1, hz4575.2]
  show Zw 1 zm_Tree_fitting 34 [some (.ref (k + 3)), some (.int (nI q)), some (.int (nI x)), some (.int (nI p)), some (.int (nI e))] [.long (lN (prtN (bd x) (2 ^ d))), .long (lN (itm (gE al_ it tg pt bd sg co) (w3 W) x p e))] Mq _
  refine zw_n 1 rfl ?_
  refine zw_topl (lan (a := itm (gE al_ it tg pt bd sg co) (w3 W) x p e) (b := prtN (bd x) (2 ^ d)) rfl rfl) ?_
  exact zw_lret rfl rfl (⟨rfl, rfl⟩)

set_option maxHeartbeats 4000000 in
set_option maxRecDepth 100000 in
theorem c_leastEnd (Mq : zM) (k kr kt s : Nat) (W R : Nat → Nat) (n em : Nat) (gn al_ it pt tg bd fr af fb : Nat → Nat) (c : Nat) (sg li co : Nat → Nat) (hC : Seg Mq k (chtL k kr kt s W R)) (hR : Seg Mq kr (rulL kr (n, gn, al_, it, pt, tg, bd, em, fr, af, fb))) (hT : Seg Mq kt (tokL kt (c, sg, li, co))) (hG : SafeG n gn al_ it pt tg bd) (hS : SafeT c sg li co) (hW : SafeM W) (hQ : SafeM R) (sz wt : Nat) (T V Rc En Su : Nat → Nat) (hZ : Seg Mq (k + 3) (treL k sz wt T V Rc En Su)) (hk : kr + 9 < k ∧ kt + 3 < k) (q y z p i j d : Nat) (hq : q < 320) (hy : y < 32) (hz : z < it y) (hip : i ≤ p) (hpj : p ≤ j) (hjc : j ≤ c) (hd : d < 40) (hf3 : T (q * 8 + 3) = j) (hf4 : T (q * 8 + 4) = d) (hRc : RcI (gE al_ it tg pt bd sg co) n y i j d (z + 1) Rc) (hCh : ChS (gE al_ it tg pt bd sg co) n c W) (hx : tg (y * 5 + z) = NO ∨ tg (y * 5 + z) < n) : Zm 2 zm_Tree_leastEnd [.ref (k + 3), .int (nI q), .int (nI y), .int (nI z), .int (nI p)] Mq (fun r9 M1 => r9 = some (.int (nI (tL (gE al_ it tg pt bd sg co) n y j d z p))) ∧ M1 = Mq) := by
  show Zw 2 zm_Tree_leastEnd 0 [some (.ref (k + 3)), some (.int (nI q)), some (.int (nI y)), some (.int (nI z)), some (.int (nI p)), none] [] Mq _
  have hit5 := hG.2.2.2.1 y
  have hc20 := hS.1
  have hL : srch (lEp (gE al_ it tg pt bd sg co) W Rc d (y * 5 + z) (z + 1) p) p (j + 1 - p) = tL (gE al_ it tg pt bd sg co) n y j d z p := lEp_tL hCh hx hS.2.2.2 hd hRc hz hip hjc
  refine zw_n 2 (ls' := [some (.ref (k + 3)), some (.int (nI q)), some (.int (nI y)), some (.int (nI z)), some (.int (nI p)), some (.int (nI p))]) rfl ?_
  have lp4 : ∀ (n4 : Nat) (e : Nat), (p ≤ e ∧ e ≤ j + 1 ∧ tL (gE al_ it tg pt bd sg co) n y j d z p = srch (lEp (gE al_ it tg pt bd sg co) W Rc d (y * 5 + z) (z + 1) p) e (j + 1 - e)) → j + 1 - e < n4 → Zw 2 zm_Tree_leastEnd 4 [some (.ref (k + 3)), some (.int (nI q)), some (.int (nI y)), some (.int (nI z)), some (.int (nI p)), some (.int (nI e))] [] Mq (fun r9 M1 => r9 = some (.int (nI (tL (gE al_ it tg pt bd sg co) n y j d z p))) ∧ M1 = Mq) := by
    intro n4
    induction n4 with
    | zero => intro e _ h; exact absurd h (Nat.not_lt_zero _)
    | succ n4 ih4 =>
      intro e hi4 hm4
      refine zw_n 4 rfl ?_
      refine zw_callV (as := [.int (nI q), .int 3]) (rest := [.int (nI e)]) rfl rfl rfl (hZ.get 0 rfl) rfl rfl rfl (by decide) (c_field Mq k sz wt T V Rc En Su (seg6 (hZ.get 0 rfl) (hZ.get 1 rfl) (hZ.get 2 rfl) (hZ.get 3 rfl) (hZ.get 4 rfl) (hZ.get 5 rfl)) q 3 (by omega) (by omega)) (fun rz4576 Mz4577 hz4578 => ?_)
      rw [hz4578.1, hz4578.2, hf3]
      show Zw 2 zm_Tree_leastEnd 12 [some (.ref (k + 3)), some (.int (nI q)), some (.int (nI y)), some (.int (nI z)), some (.int (nI p)), some (.int (nI e))] [.int (nI j), .int (nI e)] Mq _
      refine zw_igtN (a := e) (b := j) rfl rfl rfl (by omega) (by omega) (fun c12 => ?_) (fun c12 => ?_)
      · -- 12 to 59
        refine zw_n 1 rfl ?_
        exact zw_iret rfl rfl (⟨by rw [hi4.2.2, srch_end (by omega)]; decide, rfl⟩)
      · -- 12 to 15
        refine zw_n 1 rfl ?_
        refine zw_get (v := .ref (k + 6)) rfl (hZ.get 0 rfl) rfl ?_
        refine zw_n 3 rfl ?_
        refine zw_top (na (a := z) (b := 1) rfl rfl) ?_
        refine zw_iald (f := ai Rc) (j := (z + 1)) rfl (hZ.get 3 rfl) rfl (by decide) (by omega) ?_
        have bz4579 := hRc.lt (by omega) (Nat.le_refl _) (show z + 1 ≤ it y by omega)
        refine zw_n 4 rfl ?_
        refine zw_top (x' := (nI (Rc (z + 1) / 2 ^ e % 2))) (isr (by omega) (by omega)) ?_
        refine zw_eq0N (a := Rc (z + 1) / 2 ^ e % 2) rfl rfl (by omega) (fun c28 => ?_) (fun c28 => ?_)
        · -- 28 to 53
          refine zw_inc rfl (x' := (nI (e + 1))) (ls' := [some (.ref (k + 3)), some (.int (nI q)), some (.int (nI y)), some (.int (nI z)), some (.int (nI p)), some (.int (nI (e + 1)))]) rfl (na (a := e) (b := 1) rfl rfl) rfl ?_
          refine zw_n 1 rfl ?_
          exact ih4 (e + 1) (⟨by omega, by omega, srch_nx hi4.2.2 (by omega) (by first | exact lEp_f1 c28 | exact lEp_f2 c47)⟩) (by omega)
        · -- 28 to 31
          refine zw_n 5 rfl ?_
          refine zw_top (nm (a := y) (b := 5) rfl rfl) ?_
          refine zw_n 2 rfl ?_
          refine zw_top (na (a := y * 5) (b := z) rfl rfl) ?_
          refine zw_n 2 rfl ?_
          refine zw_callV (as := [.int (nI q), .int (nI ((y * 5) + z)), .int (nI p), .int (nI e)]) (rest := []) rfl rfl rfl (hZ.get 0 rfl) rfl rfl rfl (by decide) (c_fitting Mq k kr kt s W R n em gn al_ it pt tg bd fr af fb c sg li co (seg3 (hC.get 0 rfl) (hC.get 1 rfl) (hC.get 2 rfl)) (seg10 (hR.get 0 rfl) (hR.get 1 rfl) (hR.get 2 rfl) (hR.get 3 rfl) (hR.get 4 rfl) (hR.get 5 rfl) (hR.get 6 rfl) (hR.get 7 rfl) (hR.get 8 rfl) (hR.get 9 rfl)) (seg4 (hT.get 0 rfl) (hT.get 1 rfl) (hT.get 2 rfl) (hT.get 3 rfl)) hG hS (by assumption) (by assumption) sz wt T V Rc En Su (seg6 (hZ.get 0 rfl) (hZ.get 1 rfl) (hZ.get 2 rfl) (hZ.get 3 rfl) (hZ.get 4 rfl) (hZ.get 5 rfl)) hk q ((y * 5) + z) p e d (by omega) (by omega) (by omega) (by omega) hf4 hd) (fun rz4580 Mz4581 hz4582 => ?_)
          rw [hz4582.1, hz4582.2]
          show Zw 2 zm_Tree_leastEnd 45 [some (.ref (k + 3)), some (.int (nI q)), some (.int (nI y)), some (.int (nI z)), some (.int (nI p)), some (.int (nI e))] [.long (lN (itm (gE al_ it tg pt bd sg co) (w3 W) ((y * 5) + z) p e &&& prtN (bd ((y * 5) + z)) (2 ^ d)))] Mq _
          refine zw_n 2 rfl ?_
          refine zw_leqN (a := itm (gE al_ it tg pt bd sg co) (w3 W) ((y * 5) + z) p e &&& prtN (bd ((y * 5) + z)) (2 ^ d)) (b := 0) rfl rfl rfl (by first | exact Nat.lt_trans (Nat.lt_of_le_of_lt Nat.and_le_left (itm_lt (fun _ _ _ => hW _) hS.2.2.2)) (by decide) | decide) (by first | exact Nat.lt_trans (Nat.lt_of_le_of_lt Nat.and_le_left (itm_lt (fun _ _ _ => hW _) hS.2.2.2)) (by decide) | decide) (fun c47 => ?_) (fun c47 => ?_)
          · -- 47 to 53
            refine zw_inc rfl (x' := (nI (e + 1))) (ls' := [some (.ref (k + 3)), some (.int (nI q)), some (.int (nI y)), some (.int (nI z)), some (.int (nI p)), some (.int (nI (e + 1)))]) rfl (na (a := e) (b := 1) rfl rfl) rfl ?_
            refine zw_n 1 rfl ?_
            exact ih4 (e + 1) (⟨by omega, by omega, srch_nx hi4.2.2 (by omega) (by first | exact lEp_f1 c28 | exact lEp_f2 c47)⟩) (by omega)
          · -- 47 to 50
            refine zw_n 1 rfl ?_
            exact zw_iret rfl rfl (⟨by rw [hi4.2.2, srch_yes (by omega) (lEp_t c28 c47)], rfl⟩)
  exact lp4 _ p (⟨Nat.le_refl _, by omega, hL.symm⟩) (Nat.lt_succ_self _)

set_option maxHeartbeats 4000000 in
set_option maxRecDepth 100000 in
theorem c_reaches (Mq : zM) (k kr kt s : Nat) (W R : Nat → Nat) (n em : Nat) (gn al_ it pt tg bd fr af fb : Nat → Nat) (c : Nat) (sg li co : Nat → Nat) (hC : Seg Mq k (chtL k kr kt s W R)) (hR : Seg Mq kr (rulL kr (n, gn, al_, it, pt, tg, bd, em, fr, af, fb))) (hT : Seg Mq kt (tokL kt (c, sg, li, co))) (hG : SafeG n gn al_ it pt tg bd) (hS : SafeT c sg li co) (hW : SafeM W) (hQ : SafeM R) (sz wt : Nat) (T V Rc En Su : Nat → Nat) (hZ : Seg Mq (k + 3) (treL k sz wt T V Rc En Su)) (hk : kr + 9 < k ∧ kt + 3 < k) (q y i j d : Nat) (hq : q < 320) (hy : y < 32) (hij : i ≤ j) (hjc : j ≤ c) (hd : d < 40) (hf2 : T (q * 8 + 2) = i) (hf3 : T (q * 8 + 3) = j) (hf4 : T (q * 8 + 4) = d) (hCh : ChS (gE al_ it tg pt bd sg co) n c W) (hxs : ∀ z, z < it y → tg (y * 5 + z) = NO ∨ tg (y * 5 + z) < n) : Zm 3 zm_Tree_reaches [.ref (k + 3), .int (nI q), .int (nI y)] Mq (fun r9 M1 => ∃ R9, r9 = some (.int (nI (if tC (gE al_ it tg pt bd sg co) n y j d (it y) i = true then 1 else 0))) ∧ M1[k + 6]? = some (.inl (0, 6, .inl (ai R9))) ∧ Sm Mq M1 [k + 6] ∧ RcI (gE al_ it tg pt bd sg co) n y i j d 0 R9) := by
  show Zw 3 zm_Tree_reaches 0 [some (.ref (k + 3)), some (.int (nI q)), some (.int (nI y)), none, none, none] [] Mq _
  have hit5 := hG.2.2.2.1 y
  have hc20 := hS.1
  refine zw_n 1 rfl ?_
  refine zw_get (v := .ref k) rfl (hZ.get 0 rfl) rfl ?_
  refine zw_get (v := .ref kr) rfl (hC.get 0 rfl) rfl ?_
  refine zw_get (v := .ref (kr + 3)) rfl (hR.get 0 rfl) rfl ?_
  refine zw_n 1 rfl ?_
  refine zw_iald (f := ai it) (j := y) rfl (hR.get 3 rfl) rfl (by decide) (by omega) ?_
  have bz4583 := hG.2.2.2.1 y
  refine zw_n 2 (ls' := [some (.ref (k + 3)), some (.int (nI q)), some (.int (nI y)), some (.int (nI (it y))), none, none]) rfl ?_
  refine zw_get (v := .ref (k + 6)) rfl (hZ.get 0 rfl) rfl ?_
  refine zw_n 5 rfl ?_
  refine zw_callV (as := [.int (nI q), .int 3]) (rest := [.int 1, .int (nI (it y)), .ref (k + 6)]) rfl rfl rfl (hZ.get 0 rfl) rfl rfl rfl (by decide) (c_field Mq k sz wt T V Rc En Su (seg6 (hZ.get 0 rfl) (hZ.get 1 rfl) (hZ.get 2 rfl) (hZ.get 3 rfl) (hZ.get 4 rfl) (hZ.get 5 rfl)) q 3 (by omega) (by omega)) (fun rz4584 Mz4585 hz4586 => ?_)
  rw [hz4586.1, hz4586.2, hf3]
  show Zw 3 zm_Tree_reaches 25 [some (.ref (k + 3)), some (.int (nI q)), some (.int (nI y)), some (.int (nI (it y))), none, none] [.int (nI j), .int 1, .int (nI (it y)), .ref (k + 6)] Mq _
  refine zw_n 1 rfl ?_
  refine zw_top (x' := (nI (2 ^ j))) (isl (by omega)) ?_
  refine zw_iastN (g := Rc) (j := (it y)) (v := (2 ^ j)) rfl (hZ.get 3 rfl) rfl (by decide) (by omega) (rfl) ?_
  generalize ez4588 : List.set Mq (k + 6) _ = Mz4587
  refine zw_n 3 rfl ?_
  refine zw_n 1 (ls' := [some (.ref (k + 3)), some (.int (nI q)), some (.int (nI y)), some (.int (nI (it y))), some (.int (nI (it y) - 1)), none]) rfl ?_
  have lp32 : ∀ (n32 : Nat) (x : Nat) (R1 : Nat → Nat) (M_32 : zM), Sm Mq M_32 [k + 6] → M_32[k + 6]? = some (.inl (0, 6, .inl (ai R1))) → (x ≤ it y ∧ RcI (gE al_ it tg pt bd sg co) n y i j d x R1) → x < n32 → Zw 3 zm_Tree_reaches 32 [some (.ref (k + 3)), some (.int (nI q)), some (.int (nI y)), some (.int (nI (it y))), some (.int (nI x - 1)), none] [] M_32 (fun r9 M1 => ∃ R9, r9 = some (.int (nI (if tC (gE al_ it tg pt bd sg co) n y j d (it y) i = true then 1 else 0))) ∧ M1[k + 6]? = some (.inl (0, 6, .inl (ai R9))) ∧ Sm Mq M1 [k + 6] ∧ RcI (gE al_ it tg pt bd sg co) n y i j d 0 R9) := by
    intro n32
    induction n32 with
    | zero => intro x R1 M_32 _ _ _ h; exact absurd h (Nat.not_lt_zero _)
    | succ n32 ih32 =>
      intro x R1 M_32 s_32 f32_0 hi32 hm32
      refine zw_n 1 rfl ?_
      refine zw_lt0Z (a := ((x : Nat) : Int) - 1) rfl (nP_toInt (by omega)) (fun c34 => ?_) (fun c34 => ?_)
      · -- 34 to 104
        have hz0 : RcI (gE al_ it tg pt bd sg co) n y i j d 0 R1 := hi32.2.ce (by omega)
        have hb0 : (R1 0).testBit i = tC (gE al_ it tg pt bd sg co) n y j d (it y) i := hz0.at0 hij
        refine zw_n 1 rfl ?_
        refine zw_get (v := .ref (k + 6)) rfl (Sm.at s_32 (by simp <;> omega) (hZ.get 0 rfl)) rfl ?_
        refine zw_n 1 rfl ?_
        refine zw_iald (f := ai R1) (j := 0) rfl f32_0 rfl (by decide) (by omega) ?_
        refine zw_n 3 rfl ?_
        refine zw_callV (as := [.int (nI q), .int 2]) (rest := [.int (nI (R1 0))]) rfl rfl rfl (Sm.at s_32 (by simp <;> omega) (hZ.get 0 rfl)) rfl rfl rfl (by decide) (c_field M_32 k sz wt T V R1 En Su (seg6 (Sm.at s_32 (by simp <;> omega) (hZ.get 0 rfl)) (Sm.at s_32 (by simp <;> omega) (hZ.get 1 rfl)) (Sm.at s_32 (by simp <;> omega) (hZ.get 2 rfl)) f32_0 (Sm.at s_32 (by simp <;> omega) (hZ.get 4 rfl)) (Sm.at s_32 (by simp <;> omega) (hZ.get 5 rfl))) q 2 (by omega) (by omega)) (fun rz4589 Mz4590 hz4591 => ?_)
        rw [hz4591.1, hz4591.2, hf2]
        show Zw 3 zm_Tree_reaches 116 [some (.ref (k + 3)), some (.int (nI q)), some (.int (nI y)), some (.int (nI (it y))), some (.int (nI x - 1)), none] [.int (nI i), .int (nI (R1 0))] M_32 _
        refine zw_n 3 rfl ?_
        refine zw_top (x' := (nI (R1 0 / 2 ^ i % 2))) (isr (Nat.lt_trans (hz0.lt (by omega) (Nat.le_refl _) (Nat.zero_le _)) (by decide)) (by omega)) ?_
        refine zw_eq0N (a := R1 0 / 2 ^ i % 2) rfl rfl (by omega) (fun c119 => ?_) (fun c119 => ?_)
        · -- 119 to 126
          refine zw_n 1 rfl ?_
          exact zw_zret rfl rfl (Or.inl rfl) (⟨R1, by rw [if_neg (fun q9 => by rw [← hb0, tbF c119] at q9; cases q9)]; rfl, f32_0, s_32, hz0⟩)
        · -- 119 to 122
          refine zw_n 2 rfl ?_
          exact zw_zret rfl rfl (Or.inr rfl) (⟨R1, by rw [if_pos (hb0.symm.trans (tbT c119))]; rfl, f32_0, s_32, hz0⟩)
      · -- 34 to 37
        rw [nP (show 0 < x by omega)]
        refine zw_n 1 rfl ?_
        refine zw_get (v := .ref (k + 6)) rfl (Sm.at s_32 (by simp <;> omega) (hZ.get 0 rfl)) rfl ?_
        refine zw_n 2 rfl ?_
        refine zw_iastN (g := R1) (j := (x - 1)) (v := 0) rfl f32_0 rfl (by decide) (by omega) (rfl) ?_
        generalize ez4593 : List.set M_32 (k + 6) _ = Mz4592
        refine zw_n 3 rfl ?_
        refine zw_callV (as := [.int (nI q), .int 2]) (rest := []) rfl rfl rfl (zat_set ez4593 (by omega) (Sm.at s_32 (by simp <;> omega) (hZ.get 0 rfl))) rfl rfl rfl (by decide) (c_field Mz4592 k sz wt T V (up R1 (x - 1) 0) En Su (seg6 (zat_set ez4593 (by omega) (Sm.at s_32 (by simp <;> omega) (hZ.get 0 rfl))) (zat_set ez4593 (by omega) (Sm.at s_32 (by simp <;> omega) (hZ.get 1 rfl))) (zat_set ez4593 (by omega) (Sm.at s_32 (by simp <;> omega) (hZ.get 2 rfl))) (zat_self ez4593 f32_0) (zat_set ez4593 (by omega) (Sm.at s_32 (by simp <;> omega) (hZ.get 4 rfl))) (zat_set ez4593 (by omega) (Sm.at s_32 (by simp <;> omega) (hZ.get 5 rfl)))) q 2 (by omega) (by omega)) (fun rz4594 Mz4595 hz4596 => ?_)
        rw [hz4596.1, hz4596.2, hf2]
        show Zw 3 zm_Tree_reaches 51 [some (.ref (k + 3)), some (.int (nI q)), some (.int (nI y)), some (.int (nI (it y))), some (.int (nI (x - 1))), none] [.int (nI i)] Mz4592 _
        refine zw_n 1 (ls' := [some (.ref (k + 3)), some (.int (nI q)), some (.int (nI y)), some (.int (nI (it y))), some (.int (nI (x - 1))), some (.int (nI i))]) rfl ?_
        have mz4597 : Mz4592[k]? = some (.inr (0, [.ref kr, .ref kt, .int (nI s), .ref (k + 1), .ref (k + 2)])) := zat_set ez4593 (by omega) (Sm.at s_32 (by simp <;> omega) (hC.get 0 rfl))
        have mz4598 : Mz4592[k + 1]? = some (.inl (1, 3528, .inr (.inl (al W)))) := zat_set ez4593 (by omega) (Sm.at s_32 (by simp <;> omega) (hC.get 1 rfl))
        have mz4599 : Mz4592[k + 2]? = some (.inl (1, 3360, .inr (.inl (al R)))) := zat_set ez4593 (by omega) (Sm.at s_32 (by simp <;> omega) (hC.get 2 rfl))
        have mz4600 : Mz4592[kr]? = some (.inr (8, [.int (nI n), .ref (kr + 1), .ref (kr + 2), .ref (kr + 3), .ref (kr + 4), .ref (kr + 5), .ref (kr + 6), .int (nI em), .ref (kr + 7), .ref (kr + 8), .ref (kr + 9)])) := zat_set ez4593 (by omega) (Sm.at s_32 (by simp <;> omega) (hR.get 0 rfl))
        have mz4601 : Mz4592[kr + 1]? = some (.inl (0, 8, .inl (ai gn))) := zat_set ez4593 (by omega) (Sm.at s_32 (by simp <;> omega) (hR.get 1 rfl))
        have mz4602 : Mz4592[kr + 2]? = some (.inl (0, 8, .inl (ai al_))) := zat_set ez4593 (by omega) (Sm.at s_32 (by simp <;> omega) (hR.get 2 rfl))
        have mz4603 : Mz4592[kr + 3]? = some (.inl (0, 32, .inl (ai it))) := zat_set ez4593 (by omega) (Sm.at s_32 (by simp <;> omega) (hR.get 3 rfl))
        have mz4604 : Mz4592[kr + 4]? = some (.inl (0, 160, .inl (ai pt))) := zat_set ez4593 (by omega) (Sm.at s_32 (by simp <;> omega) (hR.get 4 rfl))
        have mz4605 : Mz4592[kr + 5]? = some (.inl (0, 160, .inl (ai tg))) := zat_set ez4593 (by omega) (Sm.at s_32 (by simp <;> omega) (hR.get 5 rfl))
        have mz4606 : Mz4592[kr + 6]? = some (.inl (0, 160, .inl (ai bd))) := zat_set ez4593 (by omega) (Sm.at s_32 (by simp <;> omega) (hR.get 6 rfl))
        have mz4607 : Mz4592[kr + 7]? = some (.inl (1, 8, .inr (.inl (al fr)))) := zat_set ez4593 (by omega) (Sm.at s_32 (by simp <;> omega) (hR.get 7 rfl))
        have mz4608 : Mz4592[kr + 8]? = some (.inl (1, 32, .inr (.inl (al af)))) := zat_set ez4593 (by omega) (Sm.at s_32 (by simp <;> omega) (hR.get 8 rfl))
        have mz4609 : Mz4592[kr + 9]? = some (.inl (1, 160, .inr (.inl (al fb)))) := zat_set ez4593 (by omega) (Sm.at s_32 (by simp <;> omega) (hR.get 9 rfl))
        have mz4610 : Mz4592[kt]? = some (.inr (9, [.int (nI c), .ref (kt + 1), .ref (kt + 2), .ref (kt + 3)])) := zat_set ez4593 (by omega) (Sm.at s_32 (by simp <;> omega) (hT.get 0 rfl))
        have mz4611 : Mz4592[kt + 1]? = some (.inl (0, 20, .inl (ai sg))) := zat_set ez4593 (by omega) (Sm.at s_32 (by simp <;> omega) (hT.get 1 rfl))
        have mz4612 : Mz4592[kt + 2]? = some (.inl (0, 20, .inl (ai li))) := zat_set ez4593 (by omega) (Sm.at s_32 (by simp <;> omega) (hT.get 2 rfl))
        have mz4613 : Mz4592[kt + 3]? = some (.inl (0, 20, .inl (ai co))) := zat_set ez4593 (by omega) (Sm.at s_32 (by simp <;> omega) (hT.get 3 rfl))
        have mz4614 : Mz4592[k + 3]? = some (.inr (10, [.int (nI sz), .ref (k + 4), .ref (k + 5), .int (nI wt), .ref (k + 6), .ref (k + 7), .ref (k + 8), .ref k])) := zat_set ez4593 (by omega) (Sm.at s_32 (by simp <;> omega) (hZ.get 0 rfl))
        have mz4615 : Mz4592[k + 4]? = some (.inl (0, 2560, .inl (ai T))) := zat_set ez4593 (by omega) (Sm.at s_32 (by simp <;> omega) (hZ.get 1 rfl))
        have mz4616 : Mz4592[k + 5]? = some (.inl (0, 2560, .inl (ai V))) := zat_set ez4593 (by omega) (Sm.at s_32 (by simp <;> omega) (hZ.get 2 rfl))
        have mz4617 : Mz4592[k + 7]? = some (.inl (0, 6, .inl (ai En))) := zat_set ez4593 (by omega) (Sm.at s_32 (by simp <;> omega) (hZ.get 4 rfl))
        have mz4618 : Mz4592[k + 8]? = some (.inl (0, 21, .inl (ai Su))) := zat_set ez4593 (by omega) (Sm.at s_32 (by simp <;> omega) (hZ.get 5 rfl))
        have lp53 : ∀ (n53 : Nat) (p : Nat) (R2 : Nat → Nat) (M_53 : zM), Sm Mq M_53 [k + 6] → M_53[k + 6]? = some (.inl (0, 6, .inl (ai R2))) → (i ≤ p ∧ p ≤ j + 1 ∧ RcP (gE al_ it tg pt bd sg co) n y i j d (x - 1) p R2) → j + 1 - p < n53 → Zw 3 zm_Tree_reaches 53 [some (.ref (k + 3)), some (.int (nI q)), some (.int (nI y)), some (.int (nI (it y))), some (.int (nI (x - 1))), some (.int (nI p))] [] M_53 (fun r9 M1 => ∃ R9, r9 = some (.int (nI (if tC (gE al_ it tg pt bd sg co) n y j d (it y) i = true then 1 else 0))) ∧ M1[k + 6]? = some (.inl (0, 6, .inl (ai R9))) ∧ Sm Mq M1 [k + 6] ∧ RcI (gE al_ it tg pt bd sg co) n y i j d 0 R9) := by
          intro n53
          induction n53 with
          | zero => intro p R2 M_53 _ _ _ h; exact absurd h (Nat.not_lt_zero _)
          | succ n53 ih53 =>
            intro p R2 M_53 s_53 f53_0 hi53 hm53
            refine zw_n 4 rfl ?_
            refine zw_callV (as := [.int (nI q), .int 3]) (rest := [.int (nI p)]) rfl rfl rfl (Sm.at s_53 (by simp <;> omega) (hZ.get 0 rfl)) rfl rfl rfl (by decide) (c_field M_53 k sz wt T V R2 En Su (seg6 (Sm.at s_53 (by simp <;> omega) (hZ.get 0 rfl)) (Sm.at s_53 (by simp <;> omega) (hZ.get 1 rfl)) (Sm.at s_53 (by simp <;> omega) (hZ.get 2 rfl)) f53_0 (Sm.at s_53 (by simp <;> omega) (hZ.get 4 rfl)) (Sm.at s_53 (by simp <;> omega) (hZ.get 5 rfl))) q 3 (by omega) (by omega)) (fun rz4619 Mz4620 hz4621 => ?_)
            rw [hz4621.1, hz4621.2, hf3]
            show Zw 3 zm_Tree_reaches 61 [some (.ref (k + 3)), some (.int (nI q)), some (.int (nI y)), some (.int (nI (it y))), some (.int (nI (x - 1))), some (.int (nI p))] [.int (nI j), .int (nI p)] M_53 _
            refine zw_igtN (a := p) (b := j) rfl rfl rfl (by omega) (by omega) (fun c61 => ?_) (fun c61 => ?_)
            · -- 61 to 98
              refine zw_inc rfl (x' := (nI (x - 1) - 1)) (ls' := [some (.ref (k + 3)), some (.int (nI q)), some (.int (nI y)), some (.int (nI (it y))), some (.int (nI (x - 1) - 1)), some (.int (nI p))]) rfl (nPd) rfl ?_
              refine zw_n 1 rfl ?_
              refine zw_ls (ls' := [some (.ref (k + 3)), some (.int (nI q)), some (.int (nI y)), some (.int (nI (it y))), some (.int (nI (x - 1) - 1)), none]) ⟨Or.inr rfl, Or.inr rfl, Or.inr rfl, Or.inr rfl, Or.inr rfl, Or.inl rfl, trivial⟩ ?_
              exact ih32 (x - 1) R2 M_53 s_53 f53_0 (⟨by omega, RcP.fin ((show p = j + 1 by omega) ▸ hi53.2.2)⟩) (by omega)
            · -- 61 to 64
              refine zw_n 5 rfl ?_
              refine zw_callV (as := [.int (nI q), .int (nI y), .int (nI (x - 1)), .int (nI p)]) (rest := []) rfl rfl rfl (Sm.at s_53 (by simp <;> omega) (hZ.get 0 rfl)) rfl rfl rfl (by decide) (c_leastEnd M_53 k kr kt s W R n em gn al_ it pt tg bd fr af fb c sg li co (seg3 (Sm.at s_53 (by simp <;> omega) (hC.get 0 rfl)) (Sm.at s_53 (by simp <;> omega) (hC.get 1 rfl)) (Sm.at s_53 (by simp <;> omega) (hC.get 2 rfl))) (seg10 (Sm.at s_53 (by simp <;> omega) (hR.get 0 rfl)) (Sm.at s_53 (by simp <;> omega) (hR.get 1 rfl)) (Sm.at s_53 (by simp <;> omega) (hR.get 2 rfl)) (Sm.at s_53 (by simp <;> omega) (hR.get 3 rfl)) (Sm.at s_53 (by simp <;> omega) (hR.get 4 rfl)) (Sm.at s_53 (by simp <;> omega) (hR.get 5 rfl)) (Sm.at s_53 (by simp <;> omega) (hR.get 6 rfl)) (Sm.at s_53 (by simp <;> omega) (hR.get 7 rfl)) (Sm.at s_53 (by simp <;> omega) (hR.get 8 rfl)) (Sm.at s_53 (by simp <;> omega) (hR.get 9 rfl))) (seg4 (Sm.at s_53 (by simp <;> omega) (hT.get 0 rfl)) (Sm.at s_53 (by simp <;> omega) (hT.get 1 rfl)) (Sm.at s_53 (by simp <;> omega) (hT.get 2 rfl)) (Sm.at s_53 (by simp <;> omega) (hT.get 3 rfl))) hG hS (by assumption) (by assumption) sz wt T V R2 En Su (seg6 (Sm.at s_53 (by simp <;> omega) (hZ.get 0 rfl)) (Sm.at s_53 (by simp <;> omega) (hZ.get 1 rfl)) (Sm.at s_53 (by simp <;> omega) (hZ.get 2 rfl)) f53_0 (Sm.at s_53 (by simp <;> omega) (hZ.get 4 rfl)) (Sm.at s_53 (by simp <;> omega) (hZ.get 5 rfl))) hk q y (x - 1) p i j d (by omega) (by omega) (by omega) (by omega) (by omega) hjc hd hf3 hf4 (hi53.2.2.1) hCh (hxs (x - 1) (by omega))) (fun rz4623 Mz4624 hz4625 => ?_)
              rw [hz4625.1, hz4625.2]
              have hbz4622 := @tL_b (gE al_ it tg pt bd sg co) n y j d (x - 1) p
              show Zw 3 zm_Tree_reaches 74 [some (.ref (k + 3)), some (.int (nI q)), some (.int (nI y)), some (.int (nI (it y))), some (.int (nI (x - 1))), some (.int (nI p))] [.int (nI (tL (gE al_ it tg pt bd sg co) n y j d (x - 1) p))] M_53 _
              refine zw_n 1 rfl ?_
              refine zw_ieqM (a := tL (gE al_ it tg pt bd sg co) n y j d (x - 1) p) rfl rfl (by omega) (fun c75 => ?_) (fun c75 => ?_)
              · -- 75 to 92
                refine zw_inc rfl (x' := (nI (p + 1))) (ls' := [some (.ref (k + 3)), some (.int (nI q)), some (.int (nI y)), some (.int (nI (it y))), some (.int (nI (x - 1))), some (.int (nI (p + 1)))]) rfl (na (a := p) (b := 1) rfl rfl) rfl ?_
                refine zw_n 1 rfl ?_
                exact ih53 (p + 1) R2 M_53 s_53 f53_0 (⟨by omega, by omega, by first | exact hi53.2.2.yes (by omega) ((tL_C (show x - 1 < it y by omega)).trans (decide_eq_true c75)) | exact hi53.2.2.no ((tL_C (show x - 1 < it y by omega)).trans (decide_eq_false (fun q9 => q9 c75)))⟩) (by omega)
              · -- 75 to 78
                refine zw_n 1 rfl ?_
                refine zw_get (v := .ref (k + 6)) rfl (Sm.at s_53 (by simp <;> omega) (hZ.get 0 rfl)) rfl ?_
                refine zw_n 2 rfl ?_
                refine zw_iald (f := ai R2) (j := (x - 1)) rfl f53_0 rfl (by decide) (by omega) ?_
                have bz4626 := hi53.2.2.lt (by omega)
                refine zw_n 3 rfl ?_
                refine zw_top (x' := (nI (2 ^ p))) (isl (by omega)) ?_
                refine zw_n 1 rfl ?_
                refine zw_top (x' := (nI (R2 (x - 1) ||| 2 ^ p))) (ior rfl rfl (by omega) (pow21 (by omega))) ?_
                refine zw_iastN (g := R2) (j := (x - 1)) (v := (R2 (x - 1) ||| 2 ^ p)) rfl f53_0 rfl (by decide) (by omega) (rfl) ?_
                generalize ez4628 : List.set M_53 (k + 6) _ = Mz4627
                refine zw_inc rfl (x' := (nI (p + 1))) (ls' := [some (.ref (k + 3)), some (.int (nI q)), some (.int (nI y)), some (.int (nI (it y))), some (.int (nI (x - 1))), some (.int (nI (p + 1)))]) rfl (na (a := p) (b := 1) rfl rfl) rfl ?_
                refine zw_n 1 rfl ?_
                exact ih53 (p + 1) (up R2 (x - 1) (R2 (x - 1) ||| 2 ^ p)) Mz4627 (Sm.tset s_53 ez4628 (by simp)) (zat_self ez4628 f53_0) (⟨by omega, by omega, by first | exact hi53.2.2.yes (by omega) ((tL_C (show x - 1 < it y by omega)).trans (decide_eq_true c75)) | exact hi53.2.2.no ((tL_C (show x - 1 < it y by omega)).trans (decide_eq_false (fun q9 => q9 c75)))⟩) (by omega)
        exact lp53 _ i (up R1 (x - 1) 0) Mz4592 (Sm.tset s_32 ez4593 (by simp)) (zat_self ez4593 f32_0) (⟨Nat.le_refl _, by omega, RcP.start (hi32.2.ce (by omega))⟩) (Nat.lt_succ_self _)
  exact lp32 _ (it y) (up Rc (it y) (2 ^ j)) Mz4587 (Sm.tset Sm.rf ez4588 (by simp)) (zat_self ez4588 (hZ.get 3 rfl)) (⟨Nat.le_refl _, RcI.last hij⟩) (Nat.lt_succ_self _)

set_option maxHeartbeats 4000000 in
set_option maxRecDepth 100000 in
theorem c_await0 (Mq : zM) (k : Nat) (sz wt : Nat) (T V Rc En Su : Nat → Nat) (hZ : Seg Mq (k + 3) (treL k sz wt T V Rc En Su)) (hwt : wt < 320) (j d : Nat) : Zm 1 zm_Tree_await [.ref (k + 3), .int 0, .int 0, .int (nI j), .int (nI d), .int (-1), .int 0] Mq (fun r9 M1 => r9 = none ∧ M1[k + 3]? = some (.inr (10, [.int (nI sz), .ref (k + 4), .ref (k + 5), .int (nI (wt + 1)), .ref (k + 6), .ref (k + 7), .ref (k + 8), .ref k])) ∧ M1[k + 5]? = some (.inl (0, 2560, .inl (ai (pu8 V wt 0 0 j d 4294967295 0 0)))) ∧ Sm Mq M1 [k + 3, k + 5]) := by
  show Zw 1 zm_Tree_await 0 [some (.ref (k + 3)), some (.int 0), some (.int 0), some (.int (nI j)), some (.int (nI d)), some (.int (-1)), some (.int 0), none] [] Mq _
  refine zw_n 1 rfl ?_
  refine zw_get (v := .int (nI wt)) rfl (hZ.get 0 rfl) rfl ?_
  refine zw_n 1 rfl ?_
  refine zw_iltN (a := wt) (b := 320) rfl rfl rfl (by omega) (by omega) (fun c7 => ?_) (fun c7 => ?_)
  · -- 7 to 11
    refine zw_n 1 rfl ?_
    refine zw_get (v := .int (nI wt)) rfl (hZ.get 0 rfl) rfl ?_
    refine zw_n 2 rfl ?_
    refine zw_top (nm (a := wt) (b := 8) rfl rfl) ?_
    refine zw_n 2 (ls' := [some (.ref (k + 3)), some (.int 0), some (.int 0), some (.int (nI j)), some (.int (nI d)), some (.int (-1)), some (.int 0), some (.int (nI (wt * 8)))]) rfl ?_
    refine zw_get (v := .ref (k + 5)) rfl (hZ.get 0 rfl) rfl ?_
    refine zw_n 3 rfl ?_
    refine zw_top (na (a := wt * 8) (b := 0) rfl rfl) ?_
    refine zw_n 1 rfl ?_
    refine zw_iastN (g := V) (j := ((wt * 8) + 0)) (v := 0) rfl (hZ.get 2 rfl) rfl (by decide) (by omega) (rfl) ?_
    generalize ez4630 : List.set Mq (k + 5) _ = Mz4629
    refine zw_n 1 rfl ?_
    refine zw_get (v := .ref (k + 5)) rfl (zat_set ez4630 (by omega) (hZ.get 0 rfl)) rfl ?_
    refine zw_n 3 rfl ?_
    refine zw_top (na (a := wt * 8) (b := 2) rfl rfl) ?_
    refine zw_n 1 rfl ?_
    refine zw_iastN (g := (up V ((wt * 8) + 0) 0)) (j := ((wt * 8) + 2)) (v := 0) rfl (zat_self ez4630 (hZ.get 2 rfl)) rfl (by decide) (by omega) (rfl) ?_
    generalize ez4632 : List.set Mz4629 (k + 5) _ = Mz4631
    refine zw_n 1 rfl ?_
    refine zw_get (v := .ref (k + 5)) rfl (zat_set ez4632 (by omega) (zat_set ez4630 (by omega) (hZ.get 0 rfl))) rfl ?_
    refine zw_n 3 rfl ?_
    refine zw_top (na (a := wt * 8) (b := 3) rfl rfl) ?_
    refine zw_n 1 rfl ?_
    refine zw_iastN (g := (up (up V ((wt * 8) + 0) 0) ((wt * 8) + 2) 0)) (j := ((wt * 8) + 3)) (v := j) rfl (zat_self ez4632 (zat_self ez4630 (hZ.get 2 rfl))) rfl (by decide) (by omega) (rfl) ?_
    generalize ez4634 : List.set Mz4631 (k + 5) _ = Mz4633
    refine zw_n 1 rfl ?_
    refine zw_get (v := .ref (k + 5)) rfl (zat_set ez4634 (by omega) (zat_set ez4632 (by omega) (zat_set ez4630 (by omega) (hZ.get 0 rfl)))) rfl ?_
    refine zw_n 3 rfl ?_
    refine zw_top (na (a := wt * 8) (b := 4) rfl rfl) ?_
    refine zw_n 1 rfl ?_
    refine zw_iastN (g := (up (up (up V ((wt * 8) + 0) 0) ((wt * 8) + 2) 0) ((wt * 8) + 3) j)) (j := ((wt * 8) + 4)) (v := d) rfl (zat_self ez4634 (zat_self ez4632 (zat_self ez4630 (hZ.get 2 rfl)))) rfl (by decide) (by omega) (rfl) ?_
    generalize ez4636 : List.set Mz4633 (k + 5) _ = Mz4635
    refine zw_n 1 rfl ?_
    refine zw_get (v := .ref (k + 5)) rfl (zat_set ez4636 (by omega) (zat_set ez4634 (by omega) (zat_set ez4632 (by omega) (zat_set ez4630 (by omega) (hZ.get 0 rfl))))) rfl ?_
    refine zw_n 3 rfl ?_
    refine zw_top (na (a := wt * 8) (b := 5) rfl rfl) ?_
    refine zw_n 1 rfl ?_
    refine zw_iastN (g := (up (up (up (up V ((wt * 8) + 0) 0) ((wt * 8) + 2) 0) ((wt * 8) + 3) j) ((wt * 8) + 4) d)) (j := ((wt * 8) + 5)) (v := 4294967295) rfl (zat_self ez4636 (zat_self ez4634 (zat_self ez4632 (zat_self ez4630 (hZ.get 2 rfl))))) rfl (by decide) (by omega) (by decide) ?_
    generalize ez4638 : List.set Mz4635 (k + 5) _ = Mz4637
    refine zw_n 1 rfl ?_
    refine zw_get (v := .ref (k + 5)) rfl (zat_set ez4638 (by omega) (zat_set ez4636 (by omega) (zat_set ez4634 (by omega) (zat_set ez4632 (by omega) (zat_set ez4630 (by omega) (hZ.get 0 rfl)))))) rfl ?_
    refine zw_n 3 rfl ?_
    refine zw_top (na (a := wt * 8) (b := 6) rfl rfl) ?_
    refine zw_n 2 rfl ?_
    refine zw_ic rfl ?_
    show Zw 1 zm_Tree_await 87 [some (.ref (k + 3)), some (.int 0), some (.int 0), some (.int (nI j)), some (.int (nI d)), some (.int (-1)), some (.int 0), some (.int (nI (wt * 8)))] [.int (nI ((wt * 8) + 6)), .ref (k + 5)] Mz4637 _
    refine zw_n 2 rfl ?_
    refine zw_iastN (g := (up (up (up (up (up V ((wt * 8) + 0) 0) ((wt * 8) + 2) 0) ((wt * 8) + 3) j) ((wt * 8) + 4) d) ((wt * 8) + 5) 4294967295)) (j := ((wt * 8) + 6)) (v := 0) rfl (zat_self ez4638 (zat_self ez4636 (zat_self ez4634 (zat_self ez4632 (zat_self ez4630 (hZ.get 2 rfl)))))) rfl (by decide) (by omega) (rfl) ?_
    generalize ez4640 : List.set Mz4637 (k + 5) _ = Mz4639
    refine zw_n 1 rfl ?_
    refine zw_get (v := .ref (k + 5)) rfl (zat_set ez4640 (by omega) (zat_set ez4638 (by omega) (zat_set ez4636 (by omega) (zat_set ez4634 (by omega) (zat_set ez4632 (by omega) (zat_set ez4630 (by omega) (hZ.get 0 rfl))))))) rfl ?_
    refine zw_n 3 rfl ?_
    refine zw_top (na (a := wt * 8) (b := 7) rfl rfl) ?_
    refine zw_n 1 rfl ?_
    refine zw_iastN (g := (up (up (up (up (up (up V ((wt * 8) + 0) 0) ((wt * 8) + 2) 0) ((wt * 8) + 3) j) ((wt * 8) + 4) d) ((wt * 8) + 5) 4294967295) ((wt * 8) + 6) 0)) (j := ((wt * 8) + 7)) (v := 0) rfl (zat_self ez4640 (zat_self ez4638 (zat_self ez4636 (zat_self ez4634 (zat_self ez4632 (zat_self ez4630 (hZ.get 2 rfl))))))) rfl (by decide) (by omega) (rfl) ?_
    generalize ez4642 : List.set Mz4639 (k + 5) _ = Mz4641
    refine zw_n 2 rfl ?_
    refine zw_get (v := .int (nI wt)) rfl (zat_set ez4642 (by omega) (zat_set ez4640 (by omega) (zat_set ez4638 (by omega) (zat_set ez4636 (by omega) (zat_set ez4634 (by omega) (zat_set ez4632 (by omega) (zat_set ez4630 (by omega) (hZ.get 0 rfl)))))))) rfl ?_
    refine zw_n 2 rfl ?_
    refine zw_top (na (a := wt) (b := 1) rfl rfl) ?_
    refine zw_put rfl (zat_set ez4642 (by omega) (zat_set ez4640 (by omega) (zat_set ez4638 (by omega) (zat_set ez4636 (by omega) (zat_set ez4634 (by omega) (zat_set ez4632 (by omega) (zat_set ez4630 (by omega) (hZ.get 0 rfl)))))))) (rfl) (Nat.le_of_ble_eq_true rfl) ?_
    generalize ez4644 : List.set Mz4641 (k + 3) _ = Mz4643
    exact zw_vret rfl rfl (⟨rfl, zat_self ez4644 (zat_set ez4642 (by omega) (zat_set ez4640 (by omega) (zat_set ez4638 (by omega) (zat_set ez4636 (by omega) (zat_set ez4634 (by omega) (zat_set ez4632 (by omega) (zat_set ez4630 (by omega) (hZ.get 0 rfl)))))))), zat_set ez4644 (by omega) (zat_self ez4642 (zat_self ez4640 (zat_self ez4638 (zat_self ez4636 (zat_self ez4634 (zat_self ez4632 (zat_self ez4630 (hZ.get 2 rfl)))))))), Sm.tset (Sm.tset (Sm.tset (Sm.tset (Sm.tset (Sm.tset (Sm.tset (Sm.tset Sm.rf ez4630 (by simp)) ez4632 (by simp)) ez4634 (by simp)) ez4636 (by simp)) ez4638 (by simp)) ez4640 (by simp)) ez4642 (by simp)) ez4644 (by simp)⟩)
  · -- 7 to 10
    exfalso
    omega

set_option maxHeartbeats 4000000 in
set_option maxRecDepth 100000 in
theorem c_await (Mq : zM) (k : Nat) (sz wt : Nat) (T V Rc En Su : Nat → Nat) (hZ : Seg Mq (k + 3) (treL k sz wt T V Rc En Su)) (hwt : wt < 320) (t i j d ab bd lv : Nat) (hab : ab < 320) (hlv : T (ab * 8 + 6) = lv) : Zm 1 zm_Tree_await [.ref (k + 3), .int (nI t), .int (nI i), .int (nI j), .int (nI d), .int (nI ab), .int (nI bd)] Mq (fun r9 M1 => r9 = none ∧ M1[k + 3]? = some (.inr (10, [.int (nI sz), .ref (k + 4), .ref (k + 5), .int (nI (wt + 1)), .ref (k + 6), .ref (k + 7), .ref (k + 8), .ref k])) ∧ M1[k + 5]? = some (.inl (0, 2560, .inl (ai (pu8 V wt t i j d ab (lv + 1) bd)))) ∧ Sm Mq M1 [k + 3, k + 5]) := by
  show Zw 1 zm_Tree_await 0 [some (.ref (k + 3)), some (.int (nI t)), some (.int (nI i)), some (.int (nI j)), some (.int (nI d)), some (.int (nI ab)), some (.int (nI bd)), none] [] Mq _
  refine zw_n 1 rfl ?_
  refine zw_get (v := .int (nI wt)) rfl (hZ.get 0 rfl) rfl ?_
  refine zw_n 1 rfl ?_
  refine zw_iltN (a := wt) (b := 320) rfl rfl rfl (by omega) (by omega) (fun c7 => ?_) (fun c7 => ?_)
  · -- 7 to 11
    refine zw_n 1 rfl ?_
    refine zw_get (v := .int (nI wt)) rfl (hZ.get 0 rfl) rfl ?_
    refine zw_n 2 rfl ?_
    refine zw_top (nm (a := wt) (b := 8) rfl rfl) ?_
    refine zw_n 2 (ls' := [some (.ref (k + 3)), some (.int (nI t)), some (.int (nI i)), some (.int (nI j)), some (.int (nI d)), some (.int (nI ab)), some (.int (nI bd)), some (.int (nI (wt * 8)))]) rfl ?_
    refine zw_get (v := .ref (k + 5)) rfl (hZ.get 0 rfl) rfl ?_
    refine zw_n 3 rfl ?_
    refine zw_top (na (a := wt * 8) (b := 0) rfl rfl) ?_
    refine zw_n 1 rfl ?_
    refine zw_iastN (g := V) (j := ((wt * 8) + 0)) (v := t) rfl (hZ.get 2 rfl) rfl (by decide) (by omega) (rfl) ?_
    generalize ez4646 : List.set Mq (k + 5) _ = Mz4645
    refine zw_n 1 rfl ?_
    refine zw_get (v := .ref (k + 5)) rfl (zat_set ez4646 (by omega) (hZ.get 0 rfl)) rfl ?_
    refine zw_n 3 rfl ?_
    refine zw_top (na (a := wt * 8) (b := 2) rfl rfl) ?_
    refine zw_n 1 rfl ?_
    refine zw_iastN (g := (up V ((wt * 8) + 0) t)) (j := ((wt * 8) + 2)) (v := i) rfl (zat_self ez4646 (hZ.get 2 rfl)) rfl (by decide) (by omega) (rfl) ?_
    generalize ez4648 : List.set Mz4645 (k + 5) _ = Mz4647
    refine zw_n 1 rfl ?_
    refine zw_get (v := .ref (k + 5)) rfl (zat_set ez4648 (by omega) (zat_set ez4646 (by omega) (hZ.get 0 rfl))) rfl ?_
    refine zw_n 3 rfl ?_
    refine zw_top (na (a := wt * 8) (b := 3) rfl rfl) ?_
    refine zw_n 1 rfl ?_
    refine zw_iastN (g := (up (up V ((wt * 8) + 0) t) ((wt * 8) + 2) i)) (j := ((wt * 8) + 3)) (v := j) rfl (zat_self ez4648 (zat_self ez4646 (hZ.get 2 rfl))) rfl (by decide) (by omega) (rfl) ?_
    generalize ez4650 : List.set Mz4647 (k + 5) _ = Mz4649
    refine zw_n 1 rfl ?_
    refine zw_get (v := .ref (k + 5)) rfl (zat_set ez4650 (by omega) (zat_set ez4648 (by omega) (zat_set ez4646 (by omega) (hZ.get 0 rfl)))) rfl ?_
    refine zw_n 3 rfl ?_
    refine zw_top (na (a := wt * 8) (b := 4) rfl rfl) ?_
    refine zw_n 1 rfl ?_
    refine zw_iastN (g := (up (up (up V ((wt * 8) + 0) t) ((wt * 8) + 2) i) ((wt * 8) + 3) j)) (j := ((wt * 8) + 4)) (v := d) rfl (zat_self ez4650 (zat_self ez4648 (zat_self ez4646 (hZ.get 2 rfl)))) rfl (by decide) (by omega) (rfl) ?_
    generalize ez4652 : List.set Mz4649 (k + 5) _ = Mz4651
    refine zw_n 1 rfl ?_
    refine zw_get (v := .ref (k + 5)) rfl (zat_set ez4652 (by omega) (zat_set ez4650 (by omega) (zat_set ez4648 (by omega) (zat_set ez4646 (by omega) (hZ.get 0 rfl))))) rfl ?_
    refine zw_n 3 rfl ?_
    refine zw_top (na (a := wt * 8) (b := 5) rfl rfl) ?_
    refine zw_n 1 rfl ?_
    refine zw_iastN (g := (up (up (up (up V ((wt * 8) + 0) t) ((wt * 8) + 2) i) ((wt * 8) + 3) j) ((wt * 8) + 4) d)) (j := ((wt * 8) + 5)) (v := ab) rfl (zat_self ez4652 (zat_self ez4650 (zat_self ez4648 (zat_self ez4646 (hZ.get 2 rfl))))) rfl (by decide) (by omega) (rfl) ?_
    generalize ez4654 : List.set Mz4651 (k + 5) _ = Mz4653
    refine zw_n 1 rfl ?_
    refine zw_get (v := .ref (k + 5)) rfl (zat_set ez4654 (by omega) (zat_set ez4652 (by omega) (zat_set ez4650 (by omega) (zat_set ez4648 (by omega) (zat_set ez4646 (by omega) (hZ.get 0 rfl)))))) rfl ?_
    refine zw_n 3 rfl ?_
    refine zw_top (na (a := wt * 8) (b := 6) rfl rfl) ?_
    refine zw_n 2 rfl ?_
    refine zw_ineM (a := ab) rfl rfl (by omega) (fun c84 => ?_) (fun c84 => ?_)
    · -- 84 to 91
      refine zw_n 3 rfl ?_
      refine zw_callV (as := [.int (nI ab), .int 6]) (rest := [.int (nI ((wt * 8) + 6)), .ref (k + 5)]) rfl rfl rfl (zat_set ez4654 (by omega) (zat_set ez4652 (by omega) (zat_set ez4650 (by omega) (zat_set ez4648 (by omega) (zat_set ez4646 (by omega) (hZ.get 0 rfl)))))) rfl rfl rfl (by decide) (c_field Mz4653 k sz wt T (up (up (up (up (up V ((wt * 8) + 0) t) ((wt * 8) + 2) i) ((wt * 8) + 3) j) ((wt * 8) + 4) d) ((wt * 8) + 5) ab) Rc En Su (seg6 (zat_set ez4654 (by omega) (zat_set ez4652 (by omega) (zat_set ez4650 (by omega) (zat_set ez4648 (by omega) (zat_set ez4646 (by omega) (hZ.get 0 rfl)))))) (zat_set ez4654 (by omega) (zat_set ez4652 (by omega) (zat_set ez4650 (by omega) (zat_set ez4648 (by omega) (zat_set ez4646 (by omega) (hZ.get 1 rfl)))))) (zat_self ez4654 (zat_self ez4652 (zat_self ez4650 (zat_self ez4648 (zat_self ez4646 (hZ.get 2 rfl)))))) (zat_set ez4654 (by omega) (zat_set ez4652 (by omega) (zat_set ez4650 (by omega) (zat_set ez4648 (by omega) (zat_set ez4646 (by omega) (hZ.get 3 rfl)))))) (zat_set ez4654 (by omega) (zat_set ez4652 (by omega) (zat_set ez4650 (by omega) (zat_set ez4648 (by omega) (zat_set ez4646 (by omega) (hZ.get 4 rfl)))))) (zat_set ez4654 (by omega) (zat_set ez4652 (by omega) (zat_set ez4650 (by omega) (zat_set ez4648 (by omega) (zat_set ez4646 (by omega) (hZ.get 5 rfl))))))) ab 6 (by omega) (by omega)) (fun rz4655 Mz4656 hz4657 => ?_)
      rw [hz4657.1, hz4657.2, hlv]
      show Zw 1 zm_Tree_await 99 [some (.ref (k + 3)), some (.int (nI t)), some (.int (nI i)), some (.int (nI j)), some (.int (nI d)), some (.int (nI ab)), some (.int (nI bd)), some (.int (nI (wt * 8)))] [.int (nI lv), .int (nI ((wt * 8) + 6)), .ref (k + 5)] Mz4653 _
      refine zw_n 2 rfl ?_
      refine zw_top (na (a := lv) (b := 1) rfl rfl) ?_
      refine zw_iastN (g := (up (up (up (up (up V ((wt * 8) + 0) t) ((wt * 8) + 2) i) ((wt * 8) + 3) j) ((wt * 8) + 4) d) ((wt * 8) + 5) ab)) (j := ((wt * 8) + 6)) (v := (lv + 1)) rfl (zat_self ez4654 (zat_self ez4652 (zat_self ez4650 (zat_self ez4648 (zat_self ez4646 (hZ.get 2 rfl)))))) rfl (by decide) (by omega) (rfl) ?_
      generalize ez4659 : List.set Mz4653 (k + 5) _ = Mz4658
      refine zw_n 1 rfl ?_
      refine zw_get (v := .ref (k + 5)) rfl (zat_set ez4659 (by omega) (zat_set ez4654 (by omega) (zat_set ez4652 (by omega) (zat_set ez4650 (by omega) (zat_set ez4648 (by omega) (zat_set ez4646 (by omega) (hZ.get 0 rfl))))))) rfl ?_
      refine zw_n 3 rfl ?_
      refine zw_top (na (a := wt * 8) (b := 7) rfl rfl) ?_
      refine zw_n 1 rfl ?_
      refine zw_iastN (g := (up (up (up (up (up (up V ((wt * 8) + 0) t) ((wt * 8) + 2) i) ((wt * 8) + 3) j) ((wt * 8) + 4) d) ((wt * 8) + 5) ab) ((wt * 8) + 6) (lv + 1))) (j := ((wt * 8) + 7)) (v := bd) rfl (zat_self ez4659 (zat_self ez4654 (zat_self ez4652 (zat_self ez4650 (zat_self ez4648 (zat_self ez4646 (hZ.get 2 rfl))))))) rfl (by decide) (by omega) (rfl) ?_
      generalize ez4661 : List.set Mz4658 (k + 5) _ = Mz4660
      refine zw_n 2 rfl ?_
      refine zw_get (v := .int (nI wt)) rfl (zat_set ez4661 (by omega) (zat_set ez4659 (by omega) (zat_set ez4654 (by omega) (zat_set ez4652 (by omega) (zat_set ez4650 (by omega) (zat_set ez4648 (by omega) (zat_set ez4646 (by omega) (hZ.get 0 rfl)))))))) rfl ?_
      refine zw_n 2 rfl ?_
      refine zw_top (na (a := wt) (b := 1) rfl rfl) ?_
      refine zw_put rfl (zat_set ez4661 (by omega) (zat_set ez4659 (by omega) (zat_set ez4654 (by omega) (zat_set ez4652 (by omega) (zat_set ez4650 (by omega) (zat_set ez4648 (by omega) (zat_set ez4646 (by omega) (hZ.get 0 rfl)))))))) (rfl) (Nat.le_of_ble_eq_true rfl) ?_
      generalize ez4663 : List.set Mz4660 (k + 3) _ = Mz4662
      exact zw_vret rfl rfl (⟨rfl, zat_self ez4663 (zat_set ez4661 (by omega) (zat_set ez4659 (by omega) (zat_set ez4654 (by omega) (zat_set ez4652 (by omega) (zat_set ez4650 (by omega) (zat_set ez4648 (by omega) (zat_set ez4646 (by omega) (hZ.get 0 rfl)))))))), zat_set ez4663 (by omega) (zat_self ez4661 (zat_self ez4659 (zat_self ez4654 (zat_self ez4652 (zat_self ez4650 (zat_self ez4648 (zat_self ez4646 (hZ.get 2 rfl)))))))), Sm.tset (Sm.tset (Sm.tset (Sm.tset (Sm.tset (Sm.tset (Sm.tset (Sm.tset Sm.rf ez4646 (by simp)) ez4648 (by simp)) ez4650 (by simp)) ez4652 (by simp)) ez4654 (by simp)) ez4659 (by simp)) ez4661 (by simp)) ez4663 (by simp)⟩)
    · -- 84 to 87
      exfalso
      omega
  · -- 7 to 10
    exfalso
    omega
