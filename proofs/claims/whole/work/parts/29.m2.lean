set_option maxHeartbeats 4000000 in
set_option maxRecDepth 100000 in
theorem c_wholesOf (Mq : zM) (b m : Nat) (hb : b < 2147483648) (hm : m < 1099511627776) : Zm 0 zm_CG_wholesOf [.int (nI b), .long (lN m)] Mq (fun r M1 => r = some (.long (lN (letsN b m))) ∧ M1 = Mq) := by
  show Zw 0 zm_CG_wholesOf 0 [some (.int (nI b)), some (.long (lN m)), none, none, none] [] Mq _
  refine zw_n 3 rfl ?_
  refine zw_leqN (a := m) (b := 0) rfl rfl rfl (by omega) (by omega) (fun c3 => ?_) (fun c3 => ?_)
  · -- 3 to 12
    refine zw_n 1 rfl ?_
    exact zw_lret rfl rfl (⟨by unfold letsN; simp_all, rfl⟩)
  · -- 3 to 6
    refine zw_n 2 rfl ?_
    refine zw_ineN (a := b) (b := 61) rfl rfl rfl (by omega) (by omega) (fun c9 => ?_) (fun c9 => ?_)
    · -- 9 to 14
      refine zw_n 2 rfl ?_
      refine zw_ineN (a := b) (b := 42) rfl rfl rfl (by omega) (by omega) (fun c17 => ?_) (fun c17 => ?_)
      · -- 17 to 24
        refine zw_n 4 rfl ?_
        refine zw_topl (x' := (lN (m / 2 ^ 1))) (lsr (k := 1) rfl rfl (by omega) (by decide)) ?_
        refine zw_n 1 rfl ?_
        refine zw_topl (lo (a := m) (b := m / 2 ^ 1) rfl rfl) ?_
        refine zw_topl (x' := (lN (smr 1 m))) (rfl) ?_
        refine zw_n 5 (ls' := [some (.int (nI b)), some (.long (lN m)), none, some (.long (lN (smr 1 m))), none]) rfl ?_
        refine zw_topl (x' := (lN (smr 1 m / 2 ^ 2))) (lsr (k := 2) rfl rfl (by have := @smr_lt 1 m hm; omega) (by decide)) ?_
        refine zw_n 1 rfl ?_
        refine zw_topl (lo (a := smr 1 m) (b := smr 1 m / 2 ^ 2) rfl rfl) ?_
        refine zw_topl (x' := (lN (smr 2 (smr 1 m)))) (rfl) ?_
        refine zw_n 5 (ls' := [some (.int (nI b)), some (.long (lN m)), none, some (.long (lN (smr 2 (smr 1 m)))), none]) rfl ?_
        refine zw_topl (x' := (lN (smr 2 (smr 1 m) / 2 ^ 4))) (lsr (k := 4) rfl rfl (by have := @smr_lt 2 _ (@smr_lt 1 m hm); omega) (by decide)) ?_
        refine zw_n 1 rfl ?_
        refine zw_topl (lo (a := smr 2 (smr 1 m)) (b := smr 2 (smr 1 m) / 2 ^ 4) rfl rfl) ?_
        refine zw_topl (x' := (lN (smr 4 (smr 2 (smr 1 m))))) (rfl) ?_
        refine zw_n 5 (ls' := [some (.int (nI b)), some (.long (lN m)), none, some (.long (lN (smr 4 (smr 2 (smr 1 m))))), none]) rfl ?_
        refine zw_topl (x' := (lN (smr 4 (smr 2 (smr 1 m)) / 2 ^ 8))) (lsr (k := 8) rfl rfl (by have := @smr_lt 4 _ (@smr_lt 2 _ (@smr_lt 1 m hm)); omega) (by decide)) ?_
        refine zw_n 1 rfl ?_
        refine zw_topl (lo (a := smr 4 (smr 2 (smr 1 m))) (b := smr 4 (smr 2 (smr 1 m)) / 2 ^ 8) rfl rfl) ?_
        refine zw_topl (x' := (lN (smr 8 (smr 4 (smr 2 (smr 1 m)))))) (rfl) ?_
        refine zw_n 5 (ls' := [some (.int (nI b)), some (.long (lN m)), none, some (.long (lN (smr 8 (smr 4 (smr 2 (smr 1 m)))))), none]) rfl ?_
        refine zw_topl (x' := (lN (smr 8 (smr 4 (smr 2 (smr 1 m))) / 2 ^ 16))) (lsr (k := 16) rfl rfl (by have := @smr_lt 8 _ (@smr_lt 4 _ (@smr_lt 2 _ (@smr_lt 1 m hm))); omega) (by decide)) ?_
        refine zw_n 1 rfl ?_
        refine zw_topl (lo (a := smr 8 (smr 4 (smr 2 (smr 1 m)))) (b := smr 8 (smr 4 (smr 2 (smr 1 m))) / 2 ^ 16) rfl rfl) ?_
        refine zw_topl (x' := (lN (smr 16 (smr 8 (smr 4 (smr 2 (smr 1 m))))))) (rfl) ?_
        refine zw_n 5 (ls' := [some (.int (nI b)), some (.long (lN m)), none, some (.long (lN (smr 16 (smr 8 (smr 4 (smr 2 (smr 1 m))))))), none]) rfl ?_
        refine zw_topl (x' := (lN (smr 16 (smr 8 (smr 4 (smr 2 (smr 1 m)))) / 2 ^ 32))) (lsr (k := 32) rfl rfl (by have := @smr_lt 16 _ (@smr_lt 8 _ (@smr_lt 4 _ (@smr_lt 2 _ (@smr_lt 1 m hm)))); omega) (by decide)) ?_
        refine zw_n 1 rfl ?_
        refine zw_topl (lo (a := smr 16 (smr 8 (smr 4 (smr 2 (smr 1 m))))) (b := smr 16 (smr 8 (smr 4 (smr 2 (smr 1 m)))) / 2 ^ 32) rfl rfl) ?_
        refine zw_topl (x' := (lN (2 ^ (Nat.log2 m + 1) - 1))) (congrArg lN (smr_log c3 hm)) ?_
        refine zw_n 3 (ls' := [some (.int (nI b)), some (.long (lN m)), none, some (.long (lN (2 ^ (Nat.log2 m + 1) - 1))), none]) rfl ?_
        refine zw_ineN (a := b) (b := 62) rfl rfl rfl (by omega) (by omega) (fun c66 => ?_) (fun c66 => ?_)
        · -- 66 to 75
          refine zw_n 1 rfl ?_
          exact zw_lret rfl rfl (⟨by unfold letsN; simp_all, rfl⟩)
        · -- 66 to 69
          refine zw_n 3 rfl ?_
          refine zw_topl (x' := (lN (2 ^ Nat.log2 m - 1))) ((lsr (m := 2 ^ (Nat.log2 m + 1) - 1) (k := 1) rfl rfl (by rw [← smr_log c3 hm]; have := @smr_lt 32 _ (@smr_lt 16 _ (@smr_lt 8 _ (@smr_lt 4 _ (@smr_lt 2 _ (@smr_lt 1 m hm))))); omega) (by decide)).trans (congrArg lN p2log)) ?_
          refine zw_n 1 rfl ?_
          exact zw_lret rfl rfl (⟨by unfold letsN; simp_all, rfl⟩)
      · -- 17 to 20
        refine zw_n 1 rfl ?_
        refine zw_topl (x' := lN 1099511627775) (by decide) ?_
        exact zw_lret rfl rfl (⟨by unfold letsN; simp_all, rfl⟩)
    · -- 9 to 12
      refine zw_n 1 rfl ?_
      exact zw_lret rfl rfl (⟨by unfold letsN; simp_all, rfl⟩)

set_option maxHeartbeats 4000000 in
set_option maxRecDepth 100000 in
theorem c_columnsOver (Mq : zM) (k kr kt s : Nat) (W R : Nat → Nat) (n em : Nat) (gn al_ it pt tg bd fr af fb : Nat → Nat) (c : Nat) (sg li co : Nat → Nat) (hC : Seg Mq k (chtL k kr kt s W R)) (hR : Seg Mq kr (rulL kr (n, gn, al_, it, pt, tg, bd, em, fr, af, fb))) (hT : Seg Mq kt (tokL kt (c, sg, li, co))) (hG : SafeG n gn al_ it pt tg bd) (hS : SafeT c sg li co) (hW : SafeM W) (hQ : SafeM R) (r i j : Nat) (hr : r < 8) (hi : i < 21) (hj : j < 21) : Zm 0 zm_Chart_columnsOver [.ref k, .int (nI r), .int (nI i), .int (nI j)] Mq (fun r9 M1 => r9 = some (.long (lN (w3 W r i j))) ∧ M1 = Mq) := by
  show Zw 0 zm_Chart_columnsOver 0 [some (.ref k), some (.int (nI r)), some (.int (nI i)), some (.int (nI j))] [] Mq _
  refine zw_n 1 rfl ?_
  refine zw_get (v := .ref (k + 1)) rfl (hC.get 0 rfl) rfl ?_
  refine zw_n 3 rfl ?_
  refine zw_top (nm (a := r) (b := 21) rfl rfl) ?_
  refine zw_n 2 rfl ?_
  refine zw_top (na (a := r * 21) (b := i) rfl rfl) ?_
  refine zw_n 2 rfl ?_
  refine zw_top (nm (a := (r * 21) + i) (b := 21) rfl rfl) ?_
  refine zw_n 2 rfl ?_
  refine zw_top (na (a := ((r * 21) + i) * 21) (b := j) rfl rfl) ?_
  refine zw_lald (f := al W) (j := ((((r * 21) + i) * 21) + j)) rfl (hC.get 1 rfl) rfl (by decide) (by omega) ?_
  exact zw_lret rfl rfl (⟨rfl, rfl⟩)

set_option maxHeartbeats 4000000 in
set_option maxRecDepth 100000 in
theorem c_aheadOf (Mq : zM) (k kr kt s : Nat) (W R : Nat → Nat) (n em : Nat) (gn al_ it pt tg bd fr af fb : Nat → Nat) (c : Nat) (sg li co : Nat → Nat) (hC : Seg Mq k (chtL k kr kt s W R)) (hR : Seg Mq kr (rulL kr (n, gn, al_, it, pt, tg, bd, em, fr, af, fb))) (hT : Seg Mq kt (tokL kt (c, sg, li, co))) (hG : SafeG n gn al_ it pt tg bd) (hS : SafeT c sg li co) (hW : SafeM W) (hQ : SafeM R) (x i p : Nat) (hx : x < 160) (hi : i < 21) (hp : p < 21) : Zm 0 zm_Chart_aheadOf [.ref k, .int (nI x), .int (nI i), .int (nI p)] Mq (fun r9 M1 => r9 = some (.long (lN (ahd R x i p))) ∧ M1 = Mq) := by
  show Zw 0 zm_Chart_aheadOf 0 [some (.ref k), some (.int (nI x)), some (.int (nI i)), some (.int (nI p))] [] Mq _
  refine zw_n 3 rfl ?_
  refine zw_top (x' := (nI (x % 5))) (nrem (a := x) (b := 5) rfl rfl (by omega) (by decide) (by decide)) ?_
  refine zw_ne0N (a := x % 5) rfl rfl (by omega) (fun c3 => ?_) (fun c3 => ?_)
  · -- 3 to 19
    refine zw_n 1 rfl ?_
    refine zw_get (v := .ref (k + 2)) rfl (hC.get 0 rfl) rfl ?_
    refine zw_n 3 rfl ?_
    refine zw_top (ns (a := x) (b := 1) rfl rfl (by omega)) ?_
    refine zw_n 2 rfl ?_
    refine zw_top (nm (a := x - 1) (b := 21) rfl rfl) ?_
    refine zw_n 2 rfl ?_
    refine zw_top (na (a := (x - 1) * 21) (b := p) rfl rfl) ?_
    refine zw_lald (f := al R) (j := (((x - 1) * 21) + p)) rfl (hC.get 2 rfl) rfl (by decide) (by omega) ?_
    exact zw_lret rfl rfl (⟨by unfold ahd; rw [if_neg c3]; rfl, rfl⟩)
  · -- 3 to 6
    refine zw_n 2 rfl ?_
    refine zw_ineN (a := p) (b := i) rfl rfl rfl (by omega) (by omega) (fun c8 => ?_) (fun c8 => ?_)
    · -- 8 to 17
      refine zw_n 1 rfl ?_
      refine zw_topl (x' := lN 0) (by decide) ?_
      exact zw_lret rfl rfl (⟨by unfold ahd; simp_all, rfl⟩)
    · -- 8 to 11
      refine zw_n 2 rfl ?_
      refine zw_topl (x' := lN 1099511627775) (by decide) ?_
      exact zw_lret rfl rfl (⟨by unfold ahd; simp_all, rfl⟩)

set_option maxHeartbeats 4000000 in
set_option maxRecDepth 100000 in
theorem c_columnsOfItem (Mq : zM) (k kr kt s : Nat) (W R : Nat → Nat) (n em : Nat) (gn al_ it pt tg bd fr af fb : Nat → Nat) (c : Nat) (sg li co : Nat → Nat) (hC : Seg Mq k (chtL k kr kt s W R)) (hR : Seg Mq kr (rulL kr (n, gn, al_, it, pt, tg, bd, em, fr, af, fb))) (hT : Seg Mq kt (tokL kt (c, sg, li, co))) (hG : SafeG n gn al_ it pt tg bd) (hS : SafeT c sg li co) (hW : SafeM W) (hQ : SafeM R) (x p q : Nat) (hx : x < 160) (hp : p < 21) (hq : q < 21) : Zm 0 zm_Chart_columnsOfItem [.ref k, .int (nI x), .int (nI p), .int (nI q)] Mq (fun r9 M1 => r9 = some (.long (lN (itm (gE al_ it tg pt bd sg co) (w3 W) x p q))) ∧ M1 = Mq) := by
  show Zw 0 zm_Chart_columnsOfItem 0 [some (.ref k), some (.int (nI x)), some (.int (nI p)), some (.int (nI q)), none] [] Mq _
  refine zw_n 1 rfl ?_
  refine zw_get (v := .ref kr) rfl (hC.get 0 rfl) rfl ?_
  refine zw_get (v := .ref (kr + 5)) rfl (hR.get 0 rfl) rfl ?_
  refine zw_n 1 rfl ?_
  refine zw_iald (f := ai tg) (j := x) rfl (hR.get 5 rfl) rfl (by decide) (by omega) ?_
  have bz11 := hG.2.2.2.2.2.1 x
  refine zw_n 3 (ls' := [some (.ref k), some (.int (nI x)), some (.int (nI p)), some (.int (nI q)), some (.int (nI (tg x)))]) rfl ?_
  refine zw_ieqM (a := tg x) rfl rfl (by omega) (fun c14 => ?_) (fun c14 => ?_)
  · -- 14 to 35
    refine zw_n 4 rfl ?_
    refine zw_top (na (a := p) (b := 1) rfl rfl) ?_
    refine zw_ineN (a := q) (b := p + 1) rfl rfl rfl (by omega) (by omega) (fun c39 => ?_) (fun c39 => ?_)
    · -- 39 to 77
      refine zw_n 1 rfl ?_
      refine zw_topl (x' := lN 0) (by decide) ?_
      exact zw_lret rfl rfl (⟨by unfold itm; rw [if_pos (show (gE al_ it tg pt bd sg co) 2 x = NO from c14)]; rw [if_neg (show ¬ (q = p + 1 ∧ ((gE al_ it tg pt bd sg co) 5 p = (gE al_ it tg pt bd sg co) 3 x ∨ (gE al_ it tg pt bd sg co) 5 p = 1)) from fun hq => by have h8 := hq.1; have h9 : sg p = pt x ∨ sg p = 1 := hq.2; have h7 := hS.2.1 p; omega)], rfl⟩)
    · -- 39 to 42
      refine zw_n 1 rfl ?_
      refine zw_get (v := .ref kt) rfl (hC.get 0 rfl) rfl ?_
      refine zw_get (v := .ref (kt + 1)) rfl (hT.get 0 rfl) rfl ?_
      refine zw_n 1 rfl ?_
      refine zw_iald (f := ai sg) (j := p) rfl (hT.get 1 rfl) rfl (by decide) (by omega) ?_
      have bz12 := hS.2.1 p
      refine zw_n 1 rfl ?_
      refine zw_get (v := .ref kr) rfl (hC.get 0 rfl) rfl ?_
      refine zw_get (v := .ref (kr + 4)) rfl (hR.get 0 rfl) rfl ?_
      refine zw_n 1 rfl ?_
      refine zw_iald (f := ai pt) (j := x) rfl (hR.get 4 rfl) rfl (by decide) (by omega) ?_
      have bz13 := hG.2.2.2.2.1 x
      refine zw_ineN (a := sg p) (b := pt x) rfl rfl rfl (by omega) (by omega) (fun c60 => ?_) (fun c60 => ?_)
      · -- 60 to 77
        refine zw_n 1 rfl ?_
        refine zw_topl (x' := lN 0) (by decide) ?_
        exact zw_lret rfl rfl (⟨by unfold itm; rw [if_pos (show (gE al_ it tg pt bd sg co) 2 x = NO from c14)]; rw [if_neg (show ¬ (q = p + 1 ∧ ((gE al_ it tg pt bd sg co) 5 p = (gE al_ it tg pt bd sg co) 3 x ∨ (gE al_ it tg pt bd sg co) 5 p = 1)) from fun hq => by have h8 := hq.1; have h9 : sg p = pt x ∨ sg p = 1 := hq.2; have h7 := hS.2.1 p; omega)], rfl⟩)
      · -- 60 to 63
        refine zw_n 2 rfl ?_
        refine zw_get (v := .ref kt) rfl (hC.get 0 rfl) rfl ?_
        refine zw_get (v := .ref (kt + 3)) rfl (hT.get 0 rfl) rfl ?_
        refine zw_n 1 rfl ?_
        refine zw_iald (f := ai co) (j := p) rfl (hT.get 3 rfl) rfl (by decide) (by omega) ?_
        have bz14 := hS.2.2.2 p
        refine zw_n 1 rfl ?_
        refine zw_topl (x' := (lN (2 ^ co p))) ((lsl (m := 1) (k := co p) rfl rfl (by omega)).trans (by rw [Nat.one_mul])) ?_
        refine zw_n 1 rfl ?_
        exact zw_lret rfl rfl (⟨by unfold itm; rw [if_pos (show (gE al_ it tg pt bd sg co) 2 x = NO from c14)]; rw [if_pos (show q = p + 1 ∧ ((gE al_ it tg pt bd sg co) 5 p = (gE al_ it tg pt bd sg co) 3 x ∨ (gE al_ it tg pt bd sg co) 5 p = 1) from ⟨c39, Or.inl c60⟩)]; rfl, rfl⟩)
  · -- 14 to 17
    refine zw_n 1 rfl ?_
    refine zw_get (v := .ref (k + 1)) rfl (hC.get 0 rfl) rfl ?_
    refine zw_n 3 rfl ?_
    refine zw_top (nm (a := tg x) (b := 21) rfl rfl) ?_
    refine zw_n 2 rfl ?_
    refine zw_top (na (a := (tg x) * 21) (b := p) rfl rfl) ?_
    refine zw_n 2 rfl ?_
    refine zw_top (nm (a := ((tg x) * 21) + p) (b := 21) rfl rfl) ?_
    refine zw_n 2 rfl ?_
    refine zw_top (na (a := (((tg x) * 21) + p) * 21) (b := q) rfl rfl) ?_
    refine zw_lald (f := al W) (j := (((((tg x) * 21) + p) * 21) + q)) rfl (hC.get 1 rfl) rfl (by decide) (by omega) ?_
    have bz15 := hW (((((tg x) * 21) + p) * 21) + q)
    exact zw_lret rfl rfl (⟨by unfold itm; rw [if_neg (show ¬ (gE al_ it tg pt bd sg co) 2 x = NO from c14)]; rfl, rfl⟩)

set_option maxHeartbeats 4000000 in
set_option maxRecDepth 100000 in
theorem c_upToItem (Mq : zM) (k kr kt s : Nat) (W R : Nat → Nat) (n em : Nat) (gn al_ it pt tg bd fr af fb : Nat → Nat) (c : Nat) (sg li co : Nat → Nat) (hC : Seg Mq k (chtL k kr kt s W R)) (hR : Seg Mq kr (rulL kr (n, gn, al_, it, pt, tg, bd, em, fr, af, fb))) (hT : Seg Mq kt (tokL kt (c, sg, li, co))) (hG : SafeG n gn al_ it pt tg bd) (hS : SafeT c sg li co) (hW : SafeM W) (hQ : SafeM R) (x i j : Nat) (hx : x < 160) (hij : i ≤ j) (hj : j < 21) : Zm 1 zm_Chart_upToItem [.ref k, .int (nI x), .int (nI i), .int (nI j)] Mq (fun r9 M1 => r9 = some (.long (lN (orR (upf R (gE al_ it tg pt bd sg co) (w3 W) x i j) i (j + 1 - i)))) ∧ M1 = Mq) := by
  show Zw 1 zm_Chart_upToItem 0 [some (.ref k), some (.int (nI x)), some (.int (nI i)), some (.int (nI j)), none, none, none, none, none, none, none] [] Mq _
  refine zw_n 1 rfl ?_
  refine zw_get (v := .ref kr) rfl (hC.get 0 rfl) rfl ?_
  refine zw_get (v := .ref (kr + 6)) rfl (hR.get 0 rfl) rfl ?_
  refine zw_n 1 rfl ?_
  refine zw_iald (f := ai bd) (j := x) rfl (hR.get 6 rfl) rfl (by decide) (by omega) ?_
  have bz16 := hG.2.2.2.2.2.2 x
  refine zw_n 2 (ls' := [some (.ref k), some (.int (nI x)), some (.int (nI i)), some (.int (nI j)), some (.int (nI (bd x))), none, none, none, none, none, none]) rfl ?_
  refine zw_get (v := .ref kr) rfl (hC.get 0 rfl) rfl ?_
  refine zw_get (v := .ref (kr + 5)) rfl (hR.get 0 rfl) rfl ?_
  refine zw_n 1 rfl ?_
  refine zw_iald (f := ai tg) (j := x) rfl (hR.get 5 rfl) rfl (by decide) (by omega) ?_
  have bz17 := hG.2.2.2.2.2.1 x
  refine zw_n 1 rfl ?_
  refine zw_ineM (a := tg x) rfl rfl (by omega) (fun c21 => ?_) (fun c21 => ?_)
  · -- 21 to 34
    refine zw_n 6 (ls' := [some (.ref k), some (.int (nI x)), some (.int (nI i)), some (.int (nI j)), some (.int (nI (bd x))), some (.int (nI i)), some (.long 0), none, some (.int (nI i)), none, none]) rfl ?_
    have lp44 : ∀ (n44 : Nat) (a : Nat) (p : Nat), (i ≤ p ∧ p ≤ j + 1 ∧ a = orR (upf R (gE al_ it tg pt bd sg co) (w3 W) x i j) i (p - i)) → j + 1 - p < n44 → Zw 1 zm_Chart_upToItem 44 [some (.ref k), some (.int (nI x)), some (.int (nI i)), some (.int (nI j)), some (.int (nI (bd x))), some (.int (nI i)), some (.long (lN a)), none, some (.int (nI p)), none, none] [] Mq (fun r9 M1 => r9 = some (.long (lN (orR (upf R (gE al_ it tg pt bd sg co) (w3 W) x i j) i (j + 1 - i)))) ∧ M1 = Mq) := by
      intro n44
      induction n44 with
      | zero => intro a p _ h; exact absurd h (Nat.not_lt_zero _)
      | succ n44 ih44 =>
        intro a p hi44 hm44
        refine zw_n 2 rfl ?_
        refine zw_igtN (a := p) (b := j) rfl rfl rfl (by omega) (by omega) (fun c47 => ?_) (fun c47 => ?_)
        · -- 47 to 94
          refine zw_n 1 rfl ?_
          exact zw_lret rfl rfl (⟨by rw [hi44.2.2, show p = j + 1 by omega], rfl⟩)
        · -- 47 to 50
          refine zw_n 4 rfl ?_
          refine zw_callV (as := [.int (nI x), .int (nI i), .int (nI p)]) (rest := []) rfl rfl rfl (hC.get 0 rfl) rfl rfl rfl (by decide) (c_aheadOf Mq k kr kt s W R n em gn al_ it pt tg bd fr af fb c sg li co (seg3 (hC.get 0 rfl) (hC.get 1 rfl) (hC.get 2 rfl)) (seg10 (hR.get 0 rfl) (hR.get 1 rfl) (hR.get 2 rfl) (hR.get 3 rfl) (hR.get 4 rfl) (hR.get 5 rfl) (hR.get 6 rfl) (hR.get 7 rfl) (hR.get 8 rfl) (hR.get 9 rfl)) (seg4 (hT.get 0 rfl) (hT.get 1 rfl) (hT.get 2 rfl) (hT.get 3 rfl)) hG hS hW hQ x i p (by omega) (by omega) (by omega)) (fun rz18 Mz19 hz20 => ?_)
          rw [hz20.1, hz20.2]
          show Zw 1 zm_Chart_upToItem 58 [some (.ref k), some (.int (nI x)), some (.int (nI i)), some (.int (nI j)), some (.int (nI (bd x))), some (.int (nI i)), some (.long (lN a)), none, some (.int (nI p)), none, none] [.long (lN (ahd R x i p))] Mq _
          refine zw_n 4 (ls' := [some (.ref k), some (.int (nI x)), some (.int (nI i)), some (.int (nI j)), some (.int (nI (bd x))), some (.int (nI i)), some (.long (lN a)), none, some (.int (nI p)), some (.long (lN (ahd R x i p))), none]) rfl ?_
          refine zw_leqN (a := ahd R x i p) (b := 0) rfl rfl rfl (by have := ahd_lt hQ x i p; omega) (by have := ahd_lt hQ x i p; omega) (fun c64 => ?_) (fun c64 => ?_)
          · -- 64 to 88
            refine zw_inc rfl (x' := (nI (p + 1))) (ls' := [some (.ref k), some (.int (nI x)), some (.int (nI i)), some (.int (nI j)), some (.int (nI (bd x))), some (.int (nI i)), some (.long (lN a)), none, some (.int (nI (p + 1))), some (.long (lN (ahd R x i p))), none]) rfl (na (a := p) (b := 1) rfl rfl) rfl ?_
            refine zw_n 1 rfl ?_
            refine zw_ls (ls' := [some (.ref k), some (.int (nI x)), some (.int (nI i)), some (.int (nI j)), some (.int (nI (bd x))), some (.int (nI i)), some (.long (lN a)), none, some (.int (nI (p + 1))), none, none]) ⟨Or.inr rfl, Or.inr rfl, Or.inr rfl, Or.inr rfl, Or.inr rfl, Or.inr rfl, Or.inr rfl, Or.inl rfl, Or.inr rfl, Or.inl rfl, Or.inl rfl, trivial⟩ ?_
            exact ih44 a (p + 1) (⟨by omega, by omega, by first | exact orR_s hi44.2.2 hi44.1 rfl | exact orR_s0 hi44.2.2 hi44.1 (show ahd R x i p &&& _ = 0 by rw [c64, Nat.zero_and])⟩) (by omega)
          · -- 64 to 67
            refine zw_n 7 rfl ?_
            refine zw_callV (as := [.int (nI x), .int (nI p), .int (nI j)]) (rest := [.int (nI (bd x)), .long (lN (ahd R x i p)), .long (lN a)]) rfl rfl rfl (hC.get 0 rfl) rfl rfl rfl (by decide) (c_columnsOfItem Mq k kr kt s W R n em gn al_ it pt tg bd fr af fb c sg li co (seg3 (hC.get 0 rfl) (hC.get 1 rfl) (hC.get 2 rfl)) (seg10 (hR.get 0 rfl) (hR.get 1 rfl) (hR.get 2 rfl) (hR.get 3 rfl) (hR.get 4 rfl) (hR.get 5 rfl) (hR.get 6 rfl) (hR.get 7 rfl) (hR.get 8 rfl) (hR.get 9 rfl)) (seg4 (hT.get 0 rfl) (hT.get 1 rfl) (hT.get 2 rfl) (hT.get 3 rfl)) hG hS hW hQ x p j (by omega) (by omega) (by omega)) (fun rz21 Mz22 hz23 => ?_)
            rw [hz23.1, hz23.2]
            show Zw 1 zm_Chart_upToItem 81 [some (.ref k), some (.int (nI x)), some (.int (nI i)), some (.int (nI j)), some (.int (nI (bd x))), some (.int (nI i)), some (.long (lN a)), none, some (.int (nI p)), some (.long (lN (ahd R x i p))), none] [.long (lN (itm (gE al_ it tg pt bd sg co) (w3 W) x p j)), .int (nI (bd x)), .long (lN (ahd R x i p)), .long (lN a)] Mq _
            refine zw_callS (as := [.int (nI (bd x)), .long (lN (itm (gE al_ it tg pt bd sg co) (w3 W) x p j))]) (rest := [.long (lN (ahd R x i p)), .long (lN a)]) rfl rfl rfl rfl rfl rfl (by decide) (c_wholesOf _ _ _ (by omega) (itm_lt (fun _ _ _ => hW _) hS.2.2.2)) (fun rz24 Mz25 hz26 => ?_)
            rw [hz26.1, hz26.2]
            show Zw 1 zm_Chart_upToItem 84 [some (.ref k), some (.int (nI x)), some (.int (nI i)), some (.int (nI j)), some (.int (nI (bd x))), some (.int (nI i)), some (.long (lN a)), none, some (.int (nI p)), some (.long (lN (ahd R x i p))), none] [.long (lN (letsN (bd x) (itm (gE al_ it tg pt bd sg co) (w3 W) x p j))), .long (lN (ahd R x i p)), .long (lN a)] Mq _
            refine zw_n 1 rfl ?_
            refine zw_topl (lan (a := ahd R x i p) (b := letsN (bd x) (itm (gE al_ it tg pt bd sg co) (w3 W) x p j)) rfl rfl) ?_
            refine zw_n 1 rfl ?_
            refine zw_topl (lo (a := a) (b := (ahd R x i p) &&& (letsN (bd x) (itm (gE al_ it tg pt bd sg co) (w3 W) x p j))) rfl rfl) ?_
            refine zw_n 1 (ls' := [some (.ref k), some (.int (nI x)), some (.int (nI i)), some (.int (nI j)), some (.int (nI (bd x))), some (.int (nI i)), some (.long (lN (a ||| ((ahd R x i p) &&& (letsN (bd x) (itm (gE al_ it tg pt bd sg co) (w3 W) x p j)))))), none, some (.int (nI p)), some (.long (lN (ahd R x i p))), none]) rfl ?_
            refine zw_inc rfl (x' := (nI (p + 1))) (ls' := [some (.ref k), some (.int (nI x)), some (.int (nI i)), some (.int (nI j)), some (.int (nI (bd x))), some (.int (nI i)), some (.long (lN (a ||| ((ahd R x i p) &&& (letsN (bd x) (itm (gE al_ it tg pt bd sg co) (w3 W) x p j)))))), none, some (.int (nI (p + 1))), some (.long (lN (ahd R x i p))), none]) rfl (na (a := p) (b := 1) rfl rfl) rfl ?_
            refine zw_n 1 rfl ?_
            refine zw_ls (ls' := [some (.ref k), some (.int (nI x)), some (.int (nI i)), some (.int (nI j)), some (.int (nI (bd x))), some (.int (nI i)), some (.long (lN (a ||| ((ahd R x i p) &&& (letsN (bd x) (itm (gE al_ it tg pt bd sg co) (w3 W) x p j)))))), none, some (.int (nI (p + 1))), none, none]) ⟨Or.inr rfl, Or.inr rfl, Or.inr rfl, Or.inr rfl, Or.inr rfl, Or.inr rfl, Or.inr rfl, Or.inl rfl, Or.inr rfl, Or.inl rfl, Or.inl rfl, trivial⟩ ?_
            exact ih44 (a ||| ((ahd R x i p) &&& (letsN (bd x) (itm (gE al_ it tg pt bd sg co) (w3 W) x p j)))) (p + 1) (⟨by omega, by omega, by first | exact orR_s hi44.2.2 hi44.1 rfl | exact orR_s0 hi44.2.2 hi44.1 (show ahd R x i p &&& _ = 0 by rw [c64, Nat.zero_and])⟩) (by omega)
    exact lp44 _ 0 i (⟨by omega, by omega, by rw [Nat.sub_self]; rfl⟩) (Nat.lt_succ_self _)
  · -- 21 to 24
    refine zw_n 4 rfl ?_
    refine zw_max rfl (by decide) rfl ?_
    refine zw_top (x' := (nI (max i (j - 1)))) (mx1 (by omega) (by omega)) ?_
    refine zw_n 6 (ls' := [some (.ref k), some (.int (nI x)), some (.int (nI i)), some (.int (nI j)), some (.int (nI (bd x))), some (.int (nI (max i (j - 1)))), some (.long 0), none, some (.int (nI (max i (j - 1)))), none, none]) rfl ?_
    have lp44 : ∀ (n44 : Nat) (a : Nat) (p : Nat), ((max i (j - 1)) ≤ p ∧ p ≤ j + 1 ∧ a = orR (upf R (gE al_ it tg pt bd sg co) (w3 W) x i j) (max i (j - 1)) (p - (max i (j - 1)))) → j + 1 - p < n44 → Zw 1 zm_Chart_upToItem 44 [some (.ref k), some (.int (nI x)), some (.int (nI i)), some (.int (nI j)), some (.int (nI (bd x))), some (.int (nI (max i (j - 1)))), some (.long (lN a)), none, some (.int (nI p)), none, none] [] Mq (fun r9 M1 => r9 = some (.long (lN (orR (upf R (gE al_ it tg pt bd sg co) (w3 W) x i j) i (j + 1 - i)))) ∧ M1 = Mq) := by
      intro n44
      induction n44 with
      | zero => intro a p _ h; exact absurd h (Nat.not_lt_zero _)
      | succ n44 ih44 =>
        intro a p hi44 hm44
        refine zw_n 2 rfl ?_
        refine zw_igtN (a := p) (b := j) rfl rfl rfl (by omega) (by omega) (fun c47 => ?_) (fun c47 => ?_)
        · -- 47 to 94
          refine zw_n 1 rfl ?_
          exact zw_lret rfl rfl (⟨by rw [hi44.2.2, show p = j + 1 by omega, orR_from (i := i) (by omega) (by omega) (fun q q1 q2 => upf_sign (show (gE al_ it tg pt bd sg co) 2 x = NO from c21) (by omega))], rfl⟩)
        · -- 47 to 50
          refine zw_n 4 rfl ?_
          refine zw_callV (as := [.int (nI x), .int (nI i), .int (nI p)]) (rest := []) rfl rfl rfl (hC.get 0 rfl) rfl rfl rfl (by decide) (c_aheadOf Mq k kr kt s W R n em gn al_ it pt tg bd fr af fb c sg li co (seg3 (hC.get 0 rfl) (hC.get 1 rfl) (hC.get 2 rfl)) (seg10 (hR.get 0 rfl) (hR.get 1 rfl) (hR.get 2 rfl) (hR.get 3 rfl) (hR.get 4 rfl) (hR.get 5 rfl) (hR.get 6 rfl) (hR.get 7 rfl) (hR.get 8 rfl) (hR.get 9 rfl)) (seg4 (hT.get 0 rfl) (hT.get 1 rfl) (hT.get 2 rfl) (hT.get 3 rfl)) hG hS hW hQ x i p (by omega) (by omega) (by omega)) (fun rz27 Mz28 hz29 => ?_)
          rw [hz29.1, hz29.2]
          show Zw 1 zm_Chart_upToItem 58 [some (.ref k), some (.int (nI x)), some (.int (nI i)), some (.int (nI j)), some (.int (nI (bd x))), some (.int (nI (max i (j - 1)))), some (.long (lN a)), none, some (.int (nI p)), none, none] [.long (lN (ahd R x i p))] Mq _
          refine zw_n 4 (ls' := [some (.ref k), some (.int (nI x)), some (.int (nI i)), some (.int (nI j)), some (.int (nI (bd x))), some (.int (nI (max i (j - 1)))), some (.long (lN a)), none, some (.int (nI p)), some (.long (lN (ahd R x i p))), none]) rfl ?_
          refine zw_leqN (a := ahd R x i p) (b := 0) rfl rfl rfl (by have := ahd_lt hQ x i p; omega) (by have := ahd_lt hQ x i p; omega) (fun c64 => ?_) (fun c64 => ?_)
          · -- 64 to 88
            refine zw_inc rfl (x' := (nI (p + 1))) (ls' := [some (.ref k), some (.int (nI x)), some (.int (nI i)), some (.int (nI j)), some (.int (nI (bd x))), some (.int (nI (max i (j - 1)))), some (.long (lN a)), none, some (.int (nI (p + 1))), some (.long (lN (ahd R x i p))), none]) rfl (na (a := p) (b := 1) rfl rfl) rfl ?_
            refine zw_n 1 rfl ?_
            refine zw_ls (ls' := [some (.ref k), some (.int (nI x)), some (.int (nI i)), some (.int (nI j)), some (.int (nI (bd x))), some (.int (nI (max i (j - 1)))), some (.long (lN a)), none, some (.int (nI (p + 1))), none, none]) ⟨Or.inr rfl, Or.inr rfl, Or.inr rfl, Or.inr rfl, Or.inr rfl, Or.inr rfl, Or.inr rfl, Or.inl rfl, Or.inr rfl, Or.inl rfl, Or.inl rfl, trivial⟩ ?_
            exact ih44 a (p + 1) (⟨by omega, by omega, by first | exact orR_s hi44.2.2 hi44.1 rfl | exact orR_s0 hi44.2.2 hi44.1 (show ahd R x i p &&& _ = 0 by rw [c64, Nat.zero_and])⟩) (by omega)
          · -- 64 to 67
            refine zw_n 7 rfl ?_
            refine zw_callV (as := [.int (nI x), .int (nI p), .int (nI j)]) (rest := [.int (nI (bd x)), .long (lN (ahd R x i p)), .long (lN a)]) rfl rfl rfl (hC.get 0 rfl) rfl rfl rfl (by decide) (c_columnsOfItem Mq k kr kt s W R n em gn al_ it pt tg bd fr af fb c sg li co (seg3 (hC.get 0 rfl) (hC.get 1 rfl) (hC.get 2 rfl)) (seg10 (hR.get 0 rfl) (hR.get 1 rfl) (hR.get 2 rfl) (hR.get 3 rfl) (hR.get 4 rfl) (hR.get 5 rfl) (hR.get 6 rfl) (hR.get 7 rfl) (hR.get 8 rfl) (hR.get 9 rfl)) (seg4 (hT.get 0 rfl) (hT.get 1 rfl) (hT.get 2 rfl) (hT.get 3 rfl)) hG hS hW hQ x p j (by omega) (by omega) (by omega)) (fun rz30 Mz31 hz32 => ?_)
            rw [hz32.1, hz32.2]
            show Zw 1 zm_Chart_upToItem 81 [some (.ref k), some (.int (nI x)), some (.int (nI i)), some (.int (nI j)), some (.int (nI (bd x))), some (.int (nI (max i (j - 1)))), some (.long (lN a)), none, some (.int (nI p)), some (.long (lN (ahd R x i p))), none] [.long (lN (itm (gE al_ it tg pt bd sg co) (w3 W) x p j)), .int (nI (bd x)), .long (lN (ahd R x i p)), .long (lN a)] Mq _
            refine zw_callS (as := [.int (nI (bd x)), .long (lN (itm (gE al_ it tg pt bd sg co) (w3 W) x p j))]) (rest := [.long (lN (ahd R x i p)), .long (lN a)]) rfl rfl rfl rfl rfl rfl (by decide) (c_wholesOf _ _ _ (by omega) (itm_lt (fun _ _ _ => hW _) hS.2.2.2)) (fun rz33 Mz34 hz35 => ?_)
            rw [hz35.1, hz35.2]
            show Zw 1 zm_Chart_upToItem 84 [some (.ref k), some (.int (nI x)), some (.int (nI i)), some (.int (nI j)), some (.int (nI (bd x))), some (.int (nI (max i (j - 1)))), some (.long (lN a)), none, some (.int (nI p)), some (.long (lN (ahd R x i p))), none] [.long (lN (letsN (bd x) (itm (gE al_ it tg pt bd sg co) (w3 W) x p j))), .long (lN (ahd R x i p)), .long (lN a)] Mq _
            refine zw_n 1 rfl ?_
            refine zw_topl (lan (a := ahd R x i p) (b := letsN (bd x) (itm (gE al_ it tg pt bd sg co) (w3 W) x p j)) rfl rfl) ?_
            refine zw_n 1 rfl ?_
            refine zw_topl (lo (a := a) (b := (ahd R x i p) &&& (letsN (bd x) (itm (gE al_ it tg pt bd sg co) (w3 W) x p j))) rfl rfl) ?_
            refine zw_n 1 (ls' := [some (.ref k), some (.int (nI x)), some (.int (nI i)), some (.int (nI j)), some (.int (nI (bd x))), some (.int (nI (max i (j - 1)))), some (.long (lN (a ||| ((ahd R x i p) &&& (letsN (bd x) (itm (gE al_ it tg pt bd sg co) (w3 W) x p j)))))), none, some (.int (nI p)), some (.long (lN (ahd R x i p))), none]) rfl ?_
            refine zw_inc rfl (x' := (nI (p + 1))) (ls' := [some (.ref k), some (.int (nI x)), some (.int (nI i)), some (.int (nI j)), some (.int (nI (bd x))), some (.int (nI (max i (j - 1)))), some (.long (lN (a ||| ((ahd R x i p) &&& (letsN (bd x) (itm (gE al_ it tg pt bd sg co) (w3 W) x p j)))))), none, some (.int (nI (p + 1))), some (.long (lN (ahd R x i p))), none]) rfl (na (a := p) (b := 1) rfl rfl) rfl ?_
            refine zw_n 1 rfl ?_
            refine zw_ls (ls' := [some (.ref k), some (.int (nI x)), some (.int (nI i)), some (.int (nI j)), some (.int (nI (bd x))), some (.int (nI (max i (j - 1)))), some (.long (lN (a ||| ((ahd R x i p) &&& (letsN (bd x) (itm (gE al_ it tg pt bd sg co) (w3 W) x p j)))))), none, some (.int (nI (p + 1))), none, none]) ⟨Or.inr rfl, Or.inr rfl, Or.inr rfl, Or.inr rfl, Or.inr rfl, Or.inr rfl, Or.inr rfl, Or.inl rfl, Or.inr rfl, Or.inl rfl, Or.inl rfl, trivial⟩ ?_
            exact ih44 (a ||| ((ahd R x i p) &&& (letsN (bd x) (itm (gE al_ it tg pt bd sg co) (w3 W) x p j)))) (p + 1) (⟨by omega, by omega, by first | exact orR_s hi44.2.2 hi44.1 rfl | exact orR_s0 hi44.2.2 hi44.1 (show ahd R x i p &&& _ = 0 by rw [c64, Nat.zero_and])⟩) (by omega)
    exact lp44 _ 0 (max i (j - 1)) (⟨by omega, by omega, by rw [Nat.sub_self]; rfl⟩) (Nat.lt_succ_self _)

set_option maxHeartbeats 4000000 in
set_option maxRecDepth 100000 in
theorem c_fillRule (Mq : zM) (k kr kt s : Nat) (W R : Nat → Nat) (n em : Nat) (gn al_ it pt tg bd fr af fb : Nat → Nat) (c : Nat) (sg li co : Nat → Nat) (hC : Seg Mq k (chtL k kr kt s W R)) (hR : Seg Mq kr (rulL kr (n, gn, al_, it, pt, tg, bd, em, fr, af, fb))) (hT : Seg Mq kt (tokL kt (c, sg, li, co))) (hG : SafeG n gn al_ it pt tg bd) (hS : SafeT c sg li co) (hW : SafeM W) (hQ : SafeM R) (hk : (k + 2 < kr ∨ kr + 9 < k) ∧ (k + 2 < kt ∨ kt + 3 < k)) (r i j : Nat) (hr : r < 8) (hij : i ≤ j) (hj : j < 21) (hP : ∀ p, i ≤ p → p < j → RokAt R (gE al_ it tg pt bd sg co) (w3 W) i r p) : Zm 2 zm_Chart_fillRule [.ref k, .int (nI r), .int (nI i), .int (nI j)] Mq (fun r9 M1 => r9 = some (.long (lN (fR (gE al_ it tg pt bd sg co) (w3 W) r i j))) ∧ ∃ R9, M1[k + 2]? = some (.inl (1, 3360, .inr (.inl (al R9)))) ∧ Sm Mq M1 [k + 2] ∧ SafeM R9 ∧ RokAt R9 (gE al_ it tg pt bd sg co) (w3 W) i r j ∧ FilFr R R9 r j) := by
  show Zw 2 zm_Chart_fillRule 0 [some (.ref k), some (.int (nI r)), some (.int (nI i)), some (.int (nI j)), none, none, none, none, none, none, none] [] Mq _
  refine zw_n 5 (ls' := [some (.ref k), some (.int (nI r)), some (.int (nI i)), some (.int (nI j)), some (.long 0), none, none, none, none, none, none]) rfl ?_
  refine zw_top (nm (a := r) (b := 4) rfl rfl) ?_
  refine zw_n 1 (ls' := [some (.ref k), some (.int (nI r)), some (.int (nI i)), some (.int (nI j)), some (.long 0), none, some (.int (nI (r * 4))), none, none, none, none]) rfl ?_
  have lp8 : ∀ (n8 : Nat) (cs : Nat) (a : Nat) (R1 : Nat → Nat) (M_8 : zM), Sm Mq M_8 [k + 2] → M_8[k + 2]? = some (.inl (1, 3360, .inr (.inl (al R1)))) → (a ≤ al_ r ∧ cs = orR (fun a => rch (gE al_ it tg pt bd sg co) (w3 W) i (r * 4 + a) (it (r * 4 + a)) j) 0 a ∧ FilI R R1 (gE al_ it tg pt bd sg co) (w3 W) i r j a 0) → al_ r - a < n8 → Zw 2 zm_Chart_fillRule 8 [some (.ref k), some (.int (nI r)), some (.int (nI i)), some (.int (nI j)), some (.long (lN cs)), none, some (.int (nI (r * 4 + a))), none, none, none, none] [] M_8 (fun r9 M1 => r9 = some (.long (lN (fR (gE al_ it tg pt bd sg co) (w3 W) r i j))) ∧ ∃ R9, M1[k + 2]? = some (.inl (1, 3360, .inr (.inl (al R9)))) ∧ Sm Mq M1 [k + 2] ∧ SafeM R9 ∧ RokAt R9 (gE al_ it tg pt bd sg co) (w3 W) i r j ∧ FilFr R R9 r j) := by
    intro n8
    induction n8 with
    | zero => intro cs a R1 M_8 _ _ _ h; exact absurd h (Nat.not_lt_zero _)
    | succ n8 ih8 =>
      intro cs a R1 M_8 s_8 f8_0 hi8 hm8
      refine zw_n 4 rfl ?_
      refine zw_top (nm (a := r) (b := 4) rfl rfl) ?_
      refine zw_n 1 rfl ?_
      refine zw_get (v := .ref kr) rfl (Sm.at s_8 (by simp <;> omega) (hC.get 0 rfl)) rfl ?_
      refine zw_get (v := .ref (kr + 2)) rfl (Sm.at s_8 (by simp <;> omega) (hR.get 0 rfl)) rfl ?_
      refine zw_n 1 rfl ?_
      refine zw_iald (f := ai al_) (j := r) rfl (Sm.at s_8 (by simp <;> omega) (hR.get 2 rfl)) rfl (by decide) (by omega) ?_
      have bz36 := hG.2.2.1 r
      refine zw_n 1 rfl ?_
      refine zw_top (na (a := r * 4) (b := al_ r) rfl rfl) ?_
      refine zw_igeN (a := r * 4 + a) (b := (r * 4) + (al_ r)) rfl rfl rfl (by omega) (by omega) (fun c23 => ?_) (fun c23 => ?_)
      · -- 23 to 110
        refine zw_n 1 rfl ?_
        exact zw_lret rfl rfl (⟨by rw [hi8.2.1, show a = al_ r by omega]; rfl, R1, f8_0, s_8, hi8.2.2.1, hi8.2.2.fin (show a = al_ r by omega), hi8.2.2.2.2⟩)
      · -- 23 to 26
        have j26 : Zw 2 zm_Chart_fillRule 38 [some (.ref k), some (.int (nI r)), some (.int (nI i)), some (.int (nI j)), some (.long (lN cs)), none, some (.int (nI (r * 4 + a))), none, none, none, none] [.long (lN (if j = i then 1099511627775 else 0))] M_8 (fun r9 M1 => r9 = some (.long (lN (fR (gE al_ it tg pt bd sg co) (w3 W) r i j))) ∧ ∃ R9, M1[k + 2]? = some (.inl (1, 3360, .inr (.inl (al R9)))) ∧ Sm Mq M1 [k + 2] ∧ SafeM R9 ∧ RokAt R9 (gE al_ it tg pt bd sg co) (w3 W) i r j ∧ FilFr R R9 r j) := by
          refine zw_n 3 (ls' := [some (.ref k), some (.int (nI r)), some (.int (nI i)), some (.int (nI j)), some (.long (lN cs)), none, some (.int (nI (r * 4 + a))), some (.long (lN (if j = i then 1099511627775 else 0))), none, some (.int 0), none]) rfl ?_
          have lp43 : ∀ (n43 : Nat) (ba : Nat) (x : Nat) (R2 : Nat → Nat) (M_43 : zM), Sm Mq M_43 [k + 2] → M_43[k + 2]? = some (.inl (1, 3360, .inr (.inl (al R2)))) → (x ≤ it (r * 4 + a) ∧ ba = rch (gE al_ it tg pt bd sg co) (w3 W) i (r * 4 + a) x j ∧ FilI R R2 (gE al_ it tg pt bd sg co) (w3 W) i r j a x) → it (r * 4 + a) - x < n43 → Zw 2 zm_Chart_fillRule 43 [some (.ref k), some (.int (nI r)), some (.int (nI i)), some (.int (nI j)), some (.long (lN cs)), none, some (.int (nI (r * 4 + a))), some (.long (lN ba)), none, some (.int (nI x)), none] [] M_43 (fun r9 M1 => r9 = some (.long (lN (fR (gE al_ it tg pt bd sg co) (w3 W) r i j))) ∧ ∃ R9, M1[k + 2]? = some (.inl (1, 3360, .inr (.inl (al R9)))) ∧ Sm Mq M1 [k + 2] ∧ SafeM R9 ∧ RokAt R9 (gE al_ it tg pt bd sg co) (w3 W) i r j ∧ FilFr R R9 r j) := by
            intro n43
            induction n43 with
            | zero => intro ba x R2 M_43 _ _ _ h; exact absurd h (Nat.not_lt_zero _)
            | succ n43 ih43 =>
              intro ba x R2 M_43 s_43 f43_0 hi43 hm43
              refine zw_n 2 rfl ?_
              refine zw_get (v := .ref kr) rfl (Sm.at s_43 (by simp <;> omega) (hC.get 0 rfl)) rfl ?_
              refine zw_get (v := .ref (kr + 3)) rfl (Sm.at s_43 (by simp <;> omega) (hR.get 0 rfl)) rfl ?_
              refine zw_n 1 rfl ?_
              refine zw_iald (f := ai it) (j := (r * 4 + a)) rfl (Sm.at s_43 (by simp <;> omega) (hR.get 3 rfl)) rfl (by decide) (by omega) ?_
              have bz37 := hG.2.2.2.1 (r * 4 + a)
              refine zw_igeN (a := x) (b := it (r * 4 + a)) rfl rfl rfl (by omega) (by omega) (fun c55 => ?_) (fun c55 => ?_)
              · -- 55 to 97
                refine zw_n 3 rfl ?_
                refine zw_topl (lo (a := cs) (b := ba) rfl rfl) ?_
                refine zw_n 1 (ls' := [some (.ref k), some (.int (nI r)), some (.int (nI i)), some (.int (nI j)), some (.long (lN (cs ||| ba))), none, some (.int (nI (r * 4 + a))), some (.long (lN ba)), none, some (.int (nI x)), none]) rfl ?_
                refine zw_inc rfl (x' := (nI (r * 4 + a + 1))) (ls' := [some (.ref k), some (.int (nI r)), some (.int (nI i)), some (.int (nI j)), some (.long (lN (cs ||| ba))), none, some (.int (nI (r * 4 + a + 1))), some (.long (lN ba)), none, some (.int (nI x)), none]) rfl (na (a := (r * 4 + a)) (b := 1) rfl rfl) rfl ?_
                refine zw_n 1 rfl ?_
                refine zw_ls (ls' := [some (.ref k), some (.int (nI r)), some (.int (nI i)), some (.int (nI j)), some (.long (lN (cs ||| ba))), none, some (.int (nI (r * 4 + a + 1))), none, none, none, none]) ⟨Or.inr rfl, Or.inr rfl, Or.inr rfl, Or.inr rfl, Or.inr rfl, Or.inl rfl, Or.inr rfl, Or.inl rfl, Or.inl rfl, Or.inl rfl, Or.inl rfl, trivial⟩ ?_
                exact ih8 (cs ||| ba) (a + 1) R2 M_43 s_43 f43_0 (⟨by omega, by rw [orR, ← hi8.2.1, hi43.2.1, show x = it (r * 4 + a) by omega, Nat.zero_add], hi43.2.2.next (show x = it (r * 4 + a) by omega)⟩) (by omega)
              · -- 55 to 58
                refine zw_n 3 rfl ?_
                refine zw_top (nm (a := r * 4 + a) (b := 5) rfl rfl) ?_
                refine zw_n 2 rfl ?_
                refine zw_top (na (a := (r * 4 + a) * 5) (b := x) rfl rfl) ?_
                refine zw_n 5 (ls' := [some (.ref k), some (.int (nI r)), some (.int (nI i)), some (.int (nI j)), some (.long (lN cs)), none, some (.int (nI (r * 4 + a))), some (.long (lN ba)), none, some (.int (nI x)), some (.int (nI (((r * 4 + a) * 5) + x)))]) rfl ?_
                refine zw_callV (as := [.int (nI (((r * 4 + a) * 5) + x)), .int (nI i), .int (nI j)]) (rest := []) rfl rfl rfl (Sm.at s_43 (by simp <;> omega) (hC.get 0 rfl)) rfl rfl rfl (by decide) (c_upToItem M_43 k kr kt s W R2 n em gn al_ it pt tg bd fr af fb c sg li co (seg3 (Sm.at s_43 (by simp <;> omega) (hC.get 0 rfl)) (Sm.at s_43 (by simp <;> omega) (hC.get 1 rfl)) f43_0) (seg10 (Sm.at s_43 (by simp <;> omega) (hR.get 0 rfl)) (Sm.at s_43 (by simp <;> omega) (hR.get 1 rfl)) (Sm.at s_43 (by simp <;> omega) (hR.get 2 rfl)) (Sm.at s_43 (by simp <;> omega) (hR.get 3 rfl)) (Sm.at s_43 (by simp <;> omega) (hR.get 4 rfl)) (Sm.at s_43 (by simp <;> omega) (hR.get 5 rfl)) (Sm.at s_43 (by simp <;> omega) (hR.get 6 rfl)) (Sm.at s_43 (by simp <;> omega) (hR.get 7 rfl)) (Sm.at s_43 (by simp <;> omega) (hR.get 8 rfl)) (Sm.at s_43 (by simp <;> omega) (hR.get 9 rfl))) (seg4 (Sm.at s_43 (by simp <;> omega) (hT.get 0 rfl)) (Sm.at s_43 (by simp <;> omega) (hT.get 1 rfl)) (Sm.at s_43 (by simp <;> omega) (hT.get 2 rfl)) (Sm.at s_43 (by simp <;> omega) (hT.get 3 rfl))) hG hS hW hi43.2.2.1 (((r * 4 + a) * 5) + x) i j (by omega) (by omega) (by omega)) (fun rz38 Mz39 hz40 => ?_)
                rw [hz40.1, hz40.2]
                show Zw 2 zm_Chart_fillRule 75 [some (.ref k), some (.int (nI r)), some (.int (nI i)), some (.int (nI j)), some (.long (lN cs)), none, some (.int (nI (r * 4 + a))), some (.long (lN ba)), none, some (.int (nI x)), some (.int (nI (((r * 4 + a) * 5) + x)))] [.long (lN (orR (upf R2 (gE al_ it tg pt bd sg co) (w3 W) (((r * 4 + a) * 5) + x) i j) i (j + 1 - i)))] M_43 _
                refine zw_topl (x' := lN (rch (gE al_ it tg pt bd sg co) (w3 W) i (r * 4 + a) (x + 1) j)) (congrArg lN (fil_ok hP (show a < al_ r by omega) (show x < it (r * 4 + a) by omega) (by omega) hj hi43.2.2)) ?_
                refine zw_n 2 (ls' := [some (.ref k), some (.int (nI r)), some (.int (nI i)), some (.int (nI j)), some (.long (lN cs)), none, some (.int (nI (r * 4 + a))), some (.long (lN (rch (gE al_ it tg pt bd sg co) (w3 W) i (r * 4 + a) (x + 1) j))), none, some (.int (nI x)), some (.int (nI (((r * 4 + a) * 5) + x)))]) rfl ?_
                refine zw_get (v := .ref (k + 2)) rfl (Sm.at s_43 (by simp <;> omega) (hC.get 0 rfl)) rfl ?_
                refine zw_n 3 rfl ?_
                refine zw_top (nm (a := ((r * 4 + a) * 5) + x) (b := 21) rfl rfl) ?_
                refine zw_n 2 rfl ?_
                refine zw_top (na (a := (((r * 4 + a) * 5) + x) * 21) (b := j) rfl rfl) ?_
                refine zw_n 1 rfl ?_
                refine zw_lastN (g := R2) (j := (((((r * 4 + a) * 5) + x) * 21) + j)) (v := (rch (gE al_ it tg pt bd sg co) (w3 W) i (r * 4 + a) (x + 1) j)) rfl f43_0 rfl (by decide) (by omega) (rfl) ?_
                generalize ez42 : List.set M_43 (k + 2) _ = Mz41
                refine zw_inc rfl (x' := (nI (x + 1))) (ls' := [some (.ref k), some (.int (nI r)), some (.int (nI i)), some (.int (nI j)), some (.long (lN cs)), none, some (.int (nI (r * 4 + a))), some (.long (lN (rch (gE al_ it tg pt bd sg co) (w3 W) i (r * 4 + a) (x + 1) j))), none, some (.int (nI (x + 1))), some (.int (nI (((r * 4 + a) * 5) + x)))]) rfl (na (a := x) (b := 1) rfl rfl) rfl ?_
                refine zw_n 1 rfl ?_
                refine zw_ls (ls' := [some (.ref k), some (.int (nI r)), some (.int (nI i)), some (.int (nI j)), some (.long (lN cs)), none, some (.int (nI (r * 4 + a))), some (.long (lN (rch (gE al_ it tg pt bd sg co) (w3 W) i (r * 4 + a) (x + 1) j))), none, some (.int (nI (x + 1))), none]) ⟨Or.inr rfl, Or.inr rfl, Or.inr rfl, Or.inr rfl, Or.inr rfl, Or.inl rfl, Or.inr rfl, Or.inr rfl, Or.inl rfl, Or.inr rfl, Or.inl rfl, trivial⟩ ?_
                exact ih43 (rch (gE al_ it tg pt bd sg co) (w3 W) i (r * 4 + a) (x + 1) j) (x + 1) (up R2 (((((r * 4 + a) * 5) + x) * 21) + j) (rch (gE al_ it tg pt bd sg co) (w3 W) i (r * 4 + a) (x + 1) j)) Mz41 (Sm.tset s_43 ez42 (by simp)) (zat_self ez42 f43_0) (⟨by omega, rfl, hi43.2.2.put (fun q => hG.2.2.2.1 q) (by omega) (by omega) hj⟩) (by omega)
          exact lp43 _ (if j = i then 1099511627775 else 0) 0 R1 M_8 s_8 f8_0 (⟨Nat.zero_le _, rfl, hi8.2.2⟩) (Nat.lt_succ_self _)
        refine zw_n 2 rfl ?_
        refine zw_ineN (a := i) (b := j) rfl rfl rfl (by omega) (by omega) (fun c28 => ?_) (fun c28 => ?_)
        · -- 28 to 37
          refine zw_n 1 rfl ?_
          refine zw_topl (x' := lN (if j = i then 1099511627775 else 0)) (show lN 0 = lN (if j = i then 1099511627775 else 0) by rw [if_neg (by omega)]) ?_
          exact j26
        · -- 28 to 31
          refine zw_n 2 rfl ?_
          refine zw_topl (x' := lN (if j = i then 1099511627775 else 0)) (show lN 1099511627775 = lN (if j = i then 1099511627775 else 0) by rw [if_pos (by omega)]) ?_
          exact j26
  exact lp8 _ 0 0 R Mq Sm.rf (hC.get 2 rfl) (⟨Nat.zero_le _, rfl, FilI.start hQ⟩) (Nat.lt_succ_self _)

set_option maxHeartbeats 4000000 in
set_option maxRecDepth 100000 in
theorem c_fillRows (Mq : zM) (k kr kt s : Nat) (W R : Nat → Nat) (n em : Nat) (gn al_ it pt tg bd fr af fb : Nat → Nat) (c : Nat) (sg li co : Nat → Nat) (hC : Seg Mq k (chtL k kr kt s W R)) (hR : Seg Mq kr (rulL kr (n, gn, al_, it, pt, tg, bd, em, fr, af, fb))) (hT : Seg Mq kt (tokL kt (c, sg, li, co))) (hG : SafeG n gn al_ it pt tg bd) (hS : SafeT c sg li co) (hW : SafeM W) (hQ : SafeM R) (hk : (k + 2 < kr ∨ kr + 9 < k) ∧ (k + 2 < kt ∨ kt + 3 < k)) (i l : Nat) (hil : i ≤ l) (hl : l < 21) : Zm 3 zm_Chart_fillRows [.ref k, .int (nI i), .int (nI l)] Mq (fun r9 M1 => r9 = none ∧ ∃ R9, M1[k + 2]? = some (.inl (1, 3360, .inr (.inl (al R9)))) ∧ Sm Mq M1 [k + 2] ∧ SafeM R9 ∧ ∀ r, r < n → ∀ p, i ≤ p → p ≤ l → RokAt R9 (gE al_ it tg pt bd sg co) (w3 W) i r p) := by
  show Zw 3 zm_Chart_fillRows 0 [some (.ref k), some (.int (nI i)), some (.int (nI l)), none, none] [] Mq _
  have hn8 := hG.1
  refine zw_n 2 (ls' := [some (.ref k), some (.int (nI i)), some (.int (nI l)), some (.int (nI i)), none]) rfl ?_
  have lp2 : ∀ (n2 : Nat) (jj : Nat) (R3 : Nat → Nat) (M_2 : zM), Sm Mq M_2 [k + 2] → M_2[k + 2]? = some (.inl (1, 3360, .inr (.inl (al R3)))) → (i ≤ jj ∧ jj ≤ l + 1 ∧ SafeM R3 ∧ ∀ r, r < n → ∀ p, i ≤ p → p < jj → RokAt R3 (gE al_ it tg pt bd sg co) (w3 W) i r p) → l + 1 - jj < n2 → Zw 3 zm_Chart_fillRows 2 [some (.ref k), some (.int (nI i)), some (.int (nI l)), some (.int (nI jj)), none] [] M_2 (fun r9 M1 => r9 = none ∧ ∃ R9, M1[k + 2]? = some (.inl (1, 3360, .inr (.inl (al R9)))) ∧ Sm Mq M1 [k + 2] ∧ SafeM R9 ∧ ∀ r, r < n → ∀ p, i ≤ p → p ≤ l → RokAt R9 (gE al_ it tg pt bd sg co) (w3 W) i r p) := by
    intro n2
    induction n2 with
    | zero => intro jj R3 M_2 _ _ _ h; exact absurd h (Nat.not_lt_zero _)
    | succ n2 ih2 =>
      intro jj R3 M_2 s_2 f2_0 hi2 hm2
      refine zw_n 2 rfl ?_
      refine zw_igtN (a := jj) (b := l) rfl rfl rfl (by omega) (by omega) (fun c4 => ?_) (fun c4 => ?_)
      · -- 4 to 43
        exact zw_vret rfl rfl (⟨rfl, R3, f2_0, s_2, hi2.2.2.1, fun r hr p p1 p2 => hi2.2.2.2 r hr p p1 (by omega)⟩)
      · -- 4 to 7
        refine zw_n 2 (ls' := [some (.ref k), some (.int (nI i)), some (.int (nI l)), some (.int (nI jj)), some (.int 0)]) rfl ?_
        have lp10 : ∀ (n10 : Nat) (x : Nat) (R4 : Nat → Nat) (M_10 : zM), Sm Mq M_10 [k + 2] → M_10[k + 2]? = some (.inl (1, 3360, .inr (.inl (al R4)))) → (x ≤ n ∧ SafeM R4 ∧ (∀ r, r < n → ∀ p, i ≤ p → p < jj → RokAt R4 (gE al_ it tg pt bd sg co) (w3 W) i r p) ∧ ∀ r, r < x → RokAt R4 (gE al_ it tg pt bd sg co) (w3 W) i r jj) → n - x < n10 → Zw 3 zm_Chart_fillRows 10 [some (.ref k), some (.int (nI i)), some (.int (nI l)), some (.int (nI jj)), some (.int (nI x))] [] M_10 (fun r9 M1 => r9 = none ∧ ∃ R9, M1[k + 2]? = some (.inl (1, 3360, .inr (.inl (al R9)))) ∧ Sm Mq M1 [k + 2] ∧ SafeM R9 ∧ ∀ r, r < n → ∀ p, i ≤ p → p ≤ l → RokAt R9 (gE al_ it tg pt bd sg co) (w3 W) i r p) := by
          intro n10
          induction n10 with
          | zero => intro x R4 M_10 _ _ _ h; exact absurd h (Nat.not_lt_zero _)
          | succ n10 ih10 =>
            intro x R4 M_10 s_10 f10_0 hi10 hm10
            refine zw_n 2 rfl ?_
            refine zw_get (v := .ref kr) rfl (Sm.at s_10 (by simp <;> omega) (hC.get 0 rfl)) rfl ?_
            refine zw_get (v := .int (nI n)) rfl (Sm.at s_10 (by simp <;> omega) (hR.get 0 rfl)) rfl ?_
            refine zw_igeN (a := x) (b := n) rfl rfl rfl (by omega) (by omega) (fun c19 => ?_) (fun c19 => ?_)
            · -- 19 to 37
              refine zw_inc rfl (x' := (nI (jj + 1))) (ls' := [some (.ref k), some (.int (nI i)), some (.int (nI l)), some (.int (nI (jj + 1))), some (.int (nI x))]) rfl (na (a := jj) (b := 1) rfl rfl) rfl ?_
              refine zw_n 1 rfl ?_
              refine zw_ls (ls' := [some (.ref k), some (.int (nI i)), some (.int (nI l)), some (.int (nI (jj + 1))), none]) ⟨Or.inr rfl, Or.inr rfl, Or.inr rfl, Or.inr rfl, Or.inl rfl, trivial⟩ ?_
              exact ih2 (jj + 1) R4 M_10 s_10 f10_0 (⟨by omega, by omega, hi10.2.1, fun r hr p p1 p2 => if e : p = jj then e ▸ hi10.2.2.2 r (by omega) else hi10.2.2.1 r hr p p1 (by omega)⟩) (by omega)
            · -- 19 to 22
              refine zw_n 4 rfl ?_
              refine zw_callV (as := [.int (nI x), .int (nI i), .int (nI jj)]) (rest := []) rfl rfl rfl (Sm.at s_10 (by simp <;> omega) (hC.get 0 rfl)) rfl rfl rfl (by decide) (c_fillRule M_10 k kr kt s W R4 n em gn al_ it pt tg bd fr af fb c sg li co (seg3 (Sm.at s_10 (by simp <;> omega) (hC.get 0 rfl)) (Sm.at s_10 (by simp <;> omega) (hC.get 1 rfl)) f10_0) (seg10 (Sm.at s_10 (by simp <;> omega) (hR.get 0 rfl)) (Sm.at s_10 (by simp <;> omega) (hR.get 1 rfl)) (Sm.at s_10 (by simp <;> omega) (hR.get 2 rfl)) (Sm.at s_10 (by simp <;> omega) (hR.get 3 rfl)) (Sm.at s_10 (by simp <;> omega) (hR.get 4 rfl)) (Sm.at s_10 (by simp <;> omega) (hR.get 5 rfl)) (Sm.at s_10 (by simp <;> omega) (hR.get 6 rfl)) (Sm.at s_10 (by simp <;> omega) (hR.get 7 rfl)) (Sm.at s_10 (by simp <;> omega) (hR.get 8 rfl)) (Sm.at s_10 (by simp <;> omega) (hR.get 9 rfl))) (seg4 (Sm.at s_10 (by simp <;> omega) (hT.get 0 rfl)) (Sm.at s_10 (by simp <;> omega) (hT.get 1 rfl)) (Sm.at s_10 (by simp <;> omega) (hT.get 2 rfl)) (Sm.at s_10 (by simp <;> omega) (hT.get 3 rfl))) hG hS hW hi10.2.1 hk x i jj (by omega) (by omega) (by omega) (fun p p1 p2 => hi10.2.2.1 x (by omega) p p1 p2)) (fun rz50 Mz51 hz52 => ?_)
              obtain ⟨hAz44, Rz43, hBz45, hSz46, hDz47, hEz48, hFz49⟩ := hz52
              rw [hAz44]
              show Zw 3 zm_Chart_fillRows 30 [some (.ref k), some (.int (nI i)), some (.int (nI l)), some (.int (nI jj)), some (.int (nI x))] [.long (lN (fR (gE al_ it tg pt bd sg co) (w3 W) x i jj))] Mz51 _
              refine zw_n 1 rfl ?_
              refine zw_inc rfl (x' := (nI (x + 1))) (ls' := [some (.ref k), some (.int (nI i)), some (.int (nI l)), some (.int (nI jj)), some (.int (nI (x + 1)))]) rfl (na (a := x) (b := 1) rfl rfl) rfl ?_
              refine zw_n 1 rfl ?_
              exact ih10 (x + 1) Rz43 Mz51 (Sm.trans s_10 hSz46) hBz45 (⟨by omega, hDz47, fun r hr p p1 p2 => (hi10.2.2.1 r hr p p1 p2).keep hFz49 (fun q => hG.2.2.1 q) (fun q => hG.2.2.2.1 q) (by omega) (by omega) (Or.inr (by omega)), fun r hr => by
                              by_cases e : r = x
                              · subst e; exact hEz48
                              · exact (hi10.2.2.2 r (by omega)).keep hFz49 (fun q => hG.2.2.1 q) (fun q => hG.2.2.2.1 q) (by omega) (by omega) (Or.inl e)⟩) (by omega)
        exact lp10 _ 0 R3 M_2 s_2 f2_0 (⟨Nat.zero_le _, hi2.2.2.1, hi2.2.2.2, fun r hr => by omega⟩) (Nat.lt_succ_self _)
  exact lp2 _ i R Mq Sm.rf (hC.get 2 rfl) (⟨Nat.le_refl _, by omega, hQ, fun r hr p p1 p2 => by omega⟩) (Nat.lt_succ_self _)

set_option maxHeartbeats 4000000 in
set_option maxRecDepth 100000 in
theorem c_readSpan (Mq : zM) (k kr kt s : Nat) (W R : Nat → Nat) (n em : Nat) (gn al_ it pt tg bd fr af fb : Nat → Nat) (c : Nat) (sg li co : Nat → Nat) (hC : Seg Mq k (chtL k kr kt s W R)) (hR : Seg Mq kr (rulL kr (n, gn, al_, it, pt, tg, bd, em, fr, af, fb))) (hT : Seg Mq kt (tokL kt (c, sg, li, co))) (hG : SafeG n gn al_ it pt tg bd) (hS : SafeT c sg li co) (hW : SafeM W) (hQ : SafeM R) (hk : (k + 2 < kr ∨ kr + 9 < k) ∧ (k + 2 < kt ∨ kt + 3 < k)) (emp : Nat → Prop) (rk : Nat → Nat) (hA : Acyc (gE al_ it tg pt bd sg co) n emp rk) (i j : Nat) (hij : i ≤ j) (hj : j < 21) (hw : SpH (gE al_ it tg pt bd sg co) n W i j) (hP : ∀ r, r < n → ∀ p, i ≤ p → p < j → RokAt R (gE al_ it tg pt bd sg co) (w3 W) i r p) : Zm 3 zm_Chart_readSpan [.ref k, .int (nI i), .int (nI j)] Mq (fun r9 M1 => r9 = none ∧ ∃ ps W9 R9, M1[k + 1]? = some (.inl (1, 3528, .inr (.inl (al W9)))) ∧ M1[k + 2]? = some (.inl (1, 3360, .inr (.inl (al R9)))) ∧ Sm Mq M1 [k + 1, k + 2] ∧ SpP (gE al_ it tg pt bd sg co) n emp rk W i j ps 0 W9 R9) := by
  show Zw 3 zm_Chart_readSpan 0 [some (.ref k), some (.int (nI i)), some (.int (nI j)), none, none, none, none, none, none] [] Mq _
  have hn8 := hG.1
  refine zw_n 2 (ls' := [some (.ref k), some (.int (nI i)), some (.int (nI j)), some (.int 0), none, none, none, none, none]) rfl ?_
  have lp2 : ∀ (n2 : Nat) (x : Nat) (W5 : Nat → Nat) (M_2 : zM), Sm Mq M_2 [k + 1, k + 2] → M_2[k + 1]? = some (.inl (1, 3528, .inr (.inl (al W5)))) → M_2[k + 2]? = some (.inl (1, 3360, .inr (.inl (al R)))) → (x ≤ n ∧ SafeM W5 ∧ WS W W5 i j ∧ ∀ t, t < x → w3 W5 t i j = 0) → n - x < n2 → Zw 3 zm_Chart_readSpan 2 [some (.ref k), some (.int (nI i)), some (.int (nI j)), some (.int (nI x)), none, none, none, none, none] [] M_2 (fun r9 M1 => r9 = none ∧ ∃ ps W9 R9, M1[k + 1]? = some (.inl (1, 3528, .inr (.inl (al W9)))) ∧ M1[k + 2]? = some (.inl (1, 3360, .inr (.inl (al R9)))) ∧ Sm Mq M1 [k + 1, k + 2] ∧ SpP (gE al_ it tg pt bd sg co) n emp rk W i j ps 0 W9 R9) := by
    intro n2
    induction n2 with
    | zero => intro x W5 M_2 _ _ _ _ h; exact absurd h (Nat.not_lt_zero _)
    | succ n2 ih2 =>
      intro x W5 M_2 s_2 f2_0 f2_1 hi2 hm2
      refine zw_n 2 rfl ?_
      refine zw_get (v := .ref kr) rfl (Sm.at s_2 (by simp <;> omega) (hC.get 0 rfl)) rfl ?_
      refine zw_get (v := .int (nI n)) rfl (Sm.at s_2 (by simp <;> omega) (hR.get 0 rfl)) rfl ?_
      refine zw_igeN (a := x) (b := n) rfl rfl rfl (by omega) (by omega) (fun c10 => ?_) (fun c10 => ?_)
      · -- 10 to 36
        refine zw_n 4 (ls' := [some (.ref k), some (.int (nI i)), some (.int (nI j)), some (.int 1), some (.int 0), none, none, none, none]) rfl ?_
        have lp41 : ∀ (n41 : Nat) (mo : Nat) (ps : Nat) (W6 : Nat → Nat) (R6 : Nat → Nat) (M_41 : zM), Sm Mq M_41 [k + 1, k + 2] → M_41[k + 1]? = some (.inl (1, 3528, .inr (.inl (al W6)))) → M_41[k + 2]? = some (.inl (1, 3360, .inr (.inl (al R6)))) → (SpP (gE al_ it tg pt bd sg co) n emp rk W i j ps mo W6 R6) → n + 1 - ps < n41 → Zw 3 zm_Chart_readSpan 41 [some (.ref k), some (.int (nI i)), some (.int (nI j)), some (.int (nI mo)), some (.int (nI ps)), none, none, none, none] [] M_41 (fun r9 M1 => r9 = none ∧ ∃ ps W9 R9, M1[k + 1]? = some (.inl (1, 3528, .inr (.inl (al W9)))) ∧ M1[k + 2]? = some (.inl (1, 3360, .inr (.inl (al R9)))) ∧ Sm Mq M1 [k + 1, k + 2] ∧ SpP (gE al_ it tg pt bd sg co) n emp rk W i j ps 0 W9 R9) := by
          intro n41
          induction n41 with
          | zero => intro mo ps W6 R6 M_41 _ _ _ _ h; exact absurd h (Nat.not_lt_zero _)
          | succ n41 ih41 =>
            intro mo ps W6 R6 M_41 s_41 f41_0 f41_1 hi41 hm41
            have hps := hi41.ps_le
            have hmo := hi41.mo_le
            refine zw_n 1 rfl ?_
            refine zw_eq0N (a := mo) rfl rfl (by have := hi41.mo_le; omega) (fun c42 => ?_) (fun c42 => ?_)
            · -- 42 to 143
              exact zw_vret rfl rfl (⟨rfl, ps, W6, R6, f41_0, f41_1, s_41, (show mo = 0 by first | omega | (have := hi41.ps_le; exact hi41.last (by omega))) ▸ hi41⟩)
            · -- 42 to 45
              refine zw_n 2 rfl ?_
              refine zw_get (v := .ref kr) rfl (Sm.at s_41 (by simp <;> omega) (hC.get 0 rfl)) rfl ?_
              refine zw_get (v := .int (nI n)) rfl (Sm.at s_41 (by simp <;> omega) (hR.get 0 rfl)) rfl ?_
              refine zw_igtN (a := ps) (b := n) rfl rfl rfl (by omega) (by omega) (fun c54 => ?_) (fun c54 => ?_)
              · -- 54 to 143
                exact zw_vret rfl rfl (⟨rfl, ps, W6, R6, f41_0, f41_1, s_41, (show mo = 0 by first | omega | (have := hi41.ps_le; exact hi41.last (by omega))) ▸ hi41⟩)
              · -- 54 to 57
                refine zw_n 3 (ls' := [some (.ref k), some (.int (nI i)), some (.int (nI j)), some (.int 0), some (.int (nI ps)), none, none, none, none]) rfl ?_
                refine zw_get (v := .ref kr) rfl (Sm.at s_41 (by simp <;> omega) (hC.get 0 rfl)) rfl ?_
                refine zw_get (v := .int (nI n)) rfl (Sm.at s_41 (by simp <;> omega) (hR.get 0 rfl)) rfl ?_
                refine zw_n 2 rfl ?_
                refine zw_n 1 (ls' := [some (.ref k), some (.int (nI i)), some (.int (nI j)), some (.int 0), some (.int (nI ps)), some (.int (nI n - 1)), none, none, none]) rfl ?_
                have lp70 : ∀ (n70 : Nat) (mp : Nat) (x : Nat) (W7 : Nat → Nat) (R7 : Nat → Nat) (M_70 : zM), Sm Mq M_70 [k + 1, k + 2] → M_70[k + 1]? = some (.inl (1, 3528, .inr (.inl (al W7)))) → M_70[k + 2]? = some (.inl (1, 3360, .inr (.inl (al R7)))) → (SpI (gE al_ it tg pt bd sg co) n emp rk W i j ps x mp W7 R7) → x < n70 → Zw 3 zm_Chart_readSpan 70 [some (.ref k), some (.int (nI i)), some (.int (nI j)), some (.int (nI mp)), some (.int (nI ps)), some (.int (nI x - 1)), none, none, none] [] M_70 (fun r9 M1 => r9 = none ∧ ∃ ps W9 R9, M1[k + 1]? = some (.inl (1, 3528, .inr (.inl (al W9)))) ∧ M1[k + 2]? = some (.inl (1, 3360, .inr (.inl (al R9)))) ∧ Sm Mq M1 [k + 1, k + 2] ∧ SpP (gE al_ it tg pt bd sg co) n emp rk W i j ps 0 W9 R9) := by
                  intro n70
                  induction n70 with
                  | zero => intro mp x W7 R7 M_70 _ _ _ _ h; exact absurd h (Nat.not_lt_zero _)
                  | succ n70 ih70 =>
                    intro mp x W7 R7 M_70 s_70 f70_0 f70_1 hi70 hm70
                    have hxn := hi70.x_le
                    have hmp := hi70.mp_le
                    refine zw_n 1 rfl ?_
                    refine zw_lt0Z (a := ((x : Nat) : Int) - 1) rfl (nP_toInt (by omega)) (fun c72 => ?_) (fun c72 => ?_)
                    · -- 72 to 137
                      refine zw_inc rfl (x' := (nI (ps + 1))) (ls' := [some (.ref k), some (.int (nI i)), some (.int (nI j)), some (.int (nI mp)), some (.int (nI (ps + 1))), some (.int (nI x - 1)), none, none, none]) rfl (na (a := ps) (b := 1) rfl rfl) rfl ?_
                      refine zw_n 1 rfl ?_
                      refine zw_ls (ls' := [some (.ref k), some (.int (nI i)), some (.int (nI j)), some (.int (nI mp)), some (.int (nI (ps + 1))), none, none, none, none]) ⟨Or.inr rfl, Or.inr rfl, Or.inr rfl, Or.inr rfl, Or.inr rfl, Or.inl rfl, Or.inl rfl, Or.inl rfl, Or.inl rfl, trivial⟩ ?_
                      exact ih41 mp (ps + 1) W7 R7 M_70 s_70 f70_0 f70_1 (SpI.fin hA hij hj hw ((show x = 0 by omega) ▸ hi70) (by omega)) (by omega)
                    · -- 72 to 75
                      rw [nP (show 0 < x by omega)]
                      refine zw_n 4 rfl ?_
                      refine zw_callV (as := [.int (nI (x - 1)), .int (nI i), .int (nI j)]) (rest := []) rfl rfl rfl (Sm.at s_70 (by simp <;> omega) (hC.get 0 rfl)) rfl rfl rfl (by decide) (c_fillRule M_70 k kr kt s W7 R7 n em gn al_ it pt tg bd fr af fb c sg li co (seg3 (Sm.at s_70 (by simp <;> omega) (hC.get 0 rfl)) f70_0 f70_1) (seg10 (Sm.at s_70 (by simp <;> omega) (hR.get 0 rfl)) (Sm.at s_70 (by simp <;> omega) (hR.get 1 rfl)) (Sm.at s_70 (by simp <;> omega) (hR.get 2 rfl)) (Sm.at s_70 (by simp <;> omega) (hR.get 3 rfl)) (Sm.at s_70 (by simp <;> omega) (hR.get 4 rfl)) (Sm.at s_70 (by simp <;> omega) (hR.get 5 rfl)) (Sm.at s_70 (by simp <;> omega) (hR.get 6 rfl)) (Sm.at s_70 (by simp <;> omega) (hR.get 7 rfl)) (Sm.at s_70 (by simp <;> omega) (hR.get 8 rfl)) (Sm.at s_70 (by simp <;> omega) (hR.get 9 rfl))) (seg4 (Sm.at s_70 (by simp <;> omega) (hT.get 0 rfl)) (Sm.at s_70 (by simp <;> omega) (hT.get 1 rfl)) (Sm.at s_70 (by simp <;> omega) (hT.get 2 rfl)) (Sm.at s_70 (by simp <;> omega) (hT.get 3 rfl))) hG hS hi70.sw hi70.sr hk (x - 1) i j (by omega) (by omega) (by omega) (fun p p1 p2 => hi70.rows (x - 1) (by omega) p p1 p2)) (fun rz60 Mz61 hz62 => ?_)
                      obtain ⟨hAz54, Rz53, hBz55, hSz56, hDz57, hEz58, hFz59⟩ := hz62
                      rw [hAz54]
                      show Zw 3 zm_Chart_readSpan 83 [some (.ref k), some (.int (nI i)), some (.int (nI j)), some (.int (nI mp)), some (.int (nI ps)), some (.int (nI (x - 1))), none, none, none] [.long (lN (fR (gE al_ it tg pt bd sg co) (w3 W7) (x - 1) i j))] Mz61 _
                      refine zw_n 4 (ls' := [some (.ref k), some (.int (nI i)), some (.int (nI j)), some (.int (nI mp)), some (.int (nI ps)), some (.int (nI (x - 1))), some (.long (lN (fR (gE al_ it tg pt bd sg co) (w3 W7) (x - 1) i j))), none, none]) rfl ?_
                      refine zw_top (nm (a := x - 1) (b := 21) rfl rfl) ?_
                      refine zw_n 2 rfl ?_
                      refine zw_top (na (a := (x - 1) * 21) (b := i) rfl rfl) ?_
                      refine zw_n 2 rfl ?_
                      refine zw_top (nm (a := ((x - 1) * 21) + i) (b := 21) rfl rfl) ?_
                      refine zw_n 2 rfl ?_
                      refine zw_top (na (a := (((x - 1) * 21) + i) * 21) (b := j) rfl rfl) ?_
                      refine zw_n 1 (ls' := [some (.ref k), some (.int (nI i)), some (.int (nI j)), some (.int (nI mp)), some (.int (nI ps)), some (.int (nI (x - 1))), some (.long (lN (fR (gE al_ it tg pt bd sg co) (w3 W7) (x - 1) i j))), none, some (.int (nI (((((x - 1) * 21) + i) * 21) + j)))]) rfl ?_
                      have j99 : Zw 3 zm_Chart_readSpan 121 [some (.ref k), some (.int (nI i)), some (.int (nI j)), some (.int (nI mp)), some (.int (nI ps)), some (.int (nI (x - 1))), some (.long (lN (fR (gE al_ it tg pt bd sg co) (w3 W7) (x - 1) i j))), none, some (.int (nI (((((x - 1) * 21) + i) * 21) + j)))] [.int (nI (if mp ≠ 0 ∨ fR (gE al_ it tg pt bd sg co) (w3 W7) (x - 1) i j ≠ w3 W7 (x - 1) i j then 1 else 0))] Mz61 (fun r9 M1 => r9 = none ∧ ∃ ps W9 R9, M1[k + 1]? = some (.inl (1, 3528, .inr (.inl (al W9)))) ∧ M1[k + 2]? = some (.inl (1, 3360, .inr (.inl (al R9)))) ∧ Sm Mq M1 [k + 1, k + 2] ∧ SpP (gE al_ it tg pt bd sg co) n emp rk W i j ps 0 W9 R9) := by
                        refine zw_n 2 (ls' := [some (.ref k), some (.int (nI i)), some (.int (nI j)), some (.int (nI (if mp ≠ 0 ∨ fR (gE al_ it tg pt bd sg co) (w3 W7) (x - 1) i j ≠ w3 W7 (x - 1) i j then 1 else 0))), some (.int (nI ps)), some (.int (nI (x - 1))), some (.long (lN (fR (gE al_ it tg pt bd sg co) (w3 W7) (x - 1) i j))), none, some (.int (nI (((((x - 1) * 21) + i) * 21) + j)))]) rfl ?_
                        refine zw_get (v := .ref (k + 1)) rfl (Sm.at hSz56 (by simp <;> omega) (Sm.at s_70 (by simp <;> omega) (hC.get 0 rfl))) rfl ?_
                        refine zw_n 2 rfl ?_
                        refine zw_lastN (g := W7) (j := (((((x - 1) * 21) + i) * 21) + j)) (v := (fR (gE al_ it tg pt bd sg co) (w3 W7) (x - 1) i j)) rfl (Sm.at hSz56 (by simp <;> omega) f70_0) rfl (by decide) (by omega) (rfl) ?_
                        generalize ez64 : List.set Mz61 (k + 1) _ = Mz63
                        refine zw_inc rfl (x' := (nI (x - 1) - 1)) (ls' := [some (.ref k), some (.int (nI i)), some (.int (nI j)), some (.int (nI (if mp ≠ 0 ∨ fR (gE al_ it tg pt bd sg co) (w3 W7) (x - 1) i j ≠ w3 W7 (x - 1) i j then 1 else 0))), some (.int (nI ps)), some (.int (nI (x - 1) - 1)), some (.long (lN (fR (gE al_ it tg pt bd sg co) (w3 W7) (x - 1) i j))), none, some (.int (nI (((((x - 1) * 21) + i) * 21) + j)))]) rfl (nPd) rfl ?_
                        refine zw_n 1 rfl ?_
                        refine zw_ls (ls' := [some (.ref k), some (.int (nI i)), some (.int (nI j)), some (.int (nI (if mp ≠ 0 ∨ fR (gE al_ it tg pt bd sg co) (w3 W7) (x - 1) i j ≠ w3 W7 (x - 1) i j then 1 else 0))), some (.int (nI ps)), some (.int (nI (x - 1) - 1)), none, none, none]) ⟨Or.inr rfl, Or.inr rfl, Or.inr rfl, Or.inr rfl, Or.inr rfl, Or.inr rfl, Or.inl rfl, Or.inl rfl, Or.inl rfl, trivial⟩ ?_
                        exact ih70 (if mp ≠ 0 ∨ fR (gE al_ it tg pt bd sg co) (w3 W7) (x - 1) i j ≠ w3 W7 (x - 1) i j then 1 else 0) (x - 1) (up W7 (((((x - 1) * 21) + i) * 21) + j) (fR (gE al_ it tg pt bd sg co) (w3 W7) (x - 1) i j)) Rz53 Mz63 (Sm.tset (Sm.tw s_70 hSz56 (by simp)) ez64 (by simp)) (zat_self ez64 (Sm.at hSz56 (by simp <;> omega) f70_0)) (zat_set ez64 (by omega) hBz55) (SpI.step hA (fun q => hG.2.2.1 q) (fun q => hG.2.2.2.1 q) hij hj hw hi70 (by omega) hDz57 hEz58 hFz59) (by omega)
                      refine zw_n 1 rfl ?_
                      refine zw_ne0N (a := mp) rfl rfl (by have := hi70.mp_le; omega) (fun c100 => ?_) (fun c100 => ?_)
                      · -- 100 to 116
                        refine zw_n 2 rfl ?_
                        refine zw_top (x' := nI (if mp ≠ 0 ∨ fR (gE al_ it tg pt bd sg co) (w3 W7) (x - 1) i j ≠ w3 W7 (x - 1) i j then 1 else 0)) (show nI 1 = nI (if mp ≠ 0 ∨ fR (gE al_ it tg pt bd sg co) (w3 W7) (x - 1) i j ≠ w3 W7 (x - 1) i j then 1 else 0) by rw [if_pos (by first | exact Or.inl (by omega) | exact Or.inr c113)]) ?_
                        exact j99
                      · -- 100 to 103
                        refine zw_n 2 rfl ?_
                        refine zw_get (v := .ref (k + 1)) rfl (Sm.at hSz56 (by simp <;> omega) (Sm.at s_70 (by simp <;> omega) (hC.get 0 rfl))) rfl ?_
                        refine zw_n 1 rfl ?_
                        refine zw_lald (f := al W7) (j := (((((x - 1) * 21) + i) * 21) + j)) rfl (Sm.at hSz56 (by simp <;> omega) f70_0) rfl (by decide) (by omega) ?_
                        refine zw_n 1 rfl ?_
                        refine zw_leqN (a := fR (gE al_ it tg pt bd sg co) (w3 W7) (x - 1) i j) (b := W7 (((((x - 1) * 21) + i) * 21) + j)) rfl rfl rfl (by first | exact Nat.lt_trans fR_lt (by decide) | exact Nat.lt_trans (hi70.sw _) (by decide)) (by first | exact Nat.lt_trans fR_lt (by decide) | exact Nat.lt_trans (hi70.sw _) (by decide)) (fun c113 => ?_) (fun c113 => ?_)
                        · -- 113 to 120
                          refine zw_n 1 rfl ?_
                          refine zw_top (x' := nI (if mp ≠ 0 ∨ fR (gE al_ it tg pt bd sg co) (w3 W7) (x - 1) i j ≠ w3 W7 (x - 1) i j then 1 else 0)) (show nI 0 = nI (if mp ≠ 0 ∨ fR (gE al_ it tg pt bd sg co) (w3 W7) (x - 1) i j ≠ w3 W7 (x - 1) i j then 1 else 0) by rw [if_neg (by rintro (q | q) <;> first | exact q c100 | exact q c113)]) ?_
                          exact j99
                        · -- 113 to 116
                          refine zw_n 2 rfl ?_
                          refine zw_top (x' := nI (if mp ≠ 0 ∨ fR (gE al_ it tg pt bd sg co) (w3 W7) (x - 1) i j ≠ w3 W7 (x - 1) i j then 1 else 0)) (show nI 1 = nI (if mp ≠ 0 ∨ fR (gE al_ it tg pt bd sg co) (w3 W7) (x - 1) i j ≠ w3 W7 (x - 1) i j then 1 else 0) by rw [if_pos (by first | exact Or.inl (by omega) | exact Or.inr c113)]) ?_
                          exact j99
                exact lp70 _ 0 n W6 R6 M_41 s_41 f41_0 f41_1 (hi41.go) (Nat.lt_succ_self _)
        exact lp41 _ 1 0 W5 R M_2 s_2 f2_0 f2_1 (SpP.start hA hj hi2.2.1 hQ hi2.2.2.1 (fun t (ht : t < n) => hi2.2.2.2 t (by omega)) hP) (Nat.lt_succ_self _)
      · -- 10 to 13
        refine zw_n 1 rfl ?_
        refine zw_get (v := .ref (k + 1)) rfl (Sm.at s_2 (by simp <;> omega) (hC.get 0 rfl)) rfl ?_
        refine zw_n 3 rfl ?_
        refine zw_top (nm (a := x) (b := 21) rfl rfl) ?_
        refine zw_n 2 rfl ?_
        refine zw_top (na (a := x * 21) (b := i) rfl rfl) ?_
        refine zw_n 2 rfl ?_
        refine zw_top (nm (a := (x * 21) + i) (b := 21) rfl rfl) ?_
        refine zw_n 2 rfl ?_
        refine zw_top (na (a := ((x * 21) + i) * 21) (b := j) rfl rfl) ?_
        refine zw_n 1 rfl ?_
        refine zw_lastN (g := W5) (j := ((((x * 21) + i) * 21) + j)) (v := 0) rfl f2_0 rfl (by decide) (by omega) (rfl) ?_
        generalize ez66 : List.set M_2 (k + 1) _ = Mz65
        refine zw_inc rfl (x' := (nI (x + 1))) (ls' := [some (.ref k), some (.int (nI i)), some (.int (nI j)), some (.int (nI (x + 1))), none, none, none, none, none]) rfl (na (a := x) (b := 1) rfl rfl) rfl ?_
        refine zw_n 1 rfl ?_
        exact ih2 (x + 1) (up W5 ((((x * 21) + i) * 21) + j) 0) Mz65 (Sm.tset s_2 ez66 (by simp)) (zat_self ez66 f2_0) (zat_set ez66 (by omega) f2_1) (⟨by omega, safe_up hi2.2.1 (by decide), hi2.2.2.1.put _ _ (by omega) hj, fun t ht => by rw [w3_up (by omega) hj]; split <;> first | rfl | exact hi2.2.2.2 t (by omega)⟩) (by omega)
  exact lp2 _ 0 W Mq Sm.rf (hC.get 1 rfl) (hC.get 2 rfl) (⟨Nat.zero_le _, hW, fun _ _ _ _ _ _ => rfl, fun t ht => by omega⟩) (Nat.lt_succ_self _)

set_option maxHeartbeats 4000000 in
set_option maxRecDepth 100000 in
theorem c_readOnce (Mq : zM) (k kr kt s : Nat) (W R : Nat → Nat) (n em : Nat) (gn al_ it pt tg bd fr af fb : Nat → Nat) (c : Nat) (sg li co : Nat → Nat) (hC : Seg Mq k (chtL k kr kt s W R)) (hR : Seg Mq kr (rulL kr (n, gn, al_, it, pt, tg, bd, em, fr, af, fb))) (hT : Seg Mq kt (tokL kt (c, sg, li, co))) (hG : SafeG n gn al_ it pt tg bd) (hS : SafeT c sg li co) (hW : SafeM W) (hQ : SafeM R) (hk : (k + 2 < kr ∨ kr + 9 < k) ∧ (k + 2 < kt ∨ kt + 3 < k)) (emp : Nat → Prop) (rk : Nat → Nat) (hA : Acyc (gE al_ it tg pt bd sg co) n emp rk) (h1 : s ≤ 1) (hs : s ≠ 0 → ChS (gE al_ it tg pt bd sg co) n c W) : Zm 4 zm_Chart_readOnce [.ref k] Mq (fun r9 M1 => r9 = some (.int (nI (if 0 < n ∧ wh (gE al_ it tg pt bd sg co) n 0 0 c ≠ 0 then 1 else 0))) ∧ ∃ W9 R9, Seg M1 k (chtL k kr kt 1 W9 R9) ∧ Sm Mq M1 [k, k + 1, k + 2] ∧ SafeM W9 ∧ SafeM R9 ∧ ChS (gE al_ it tg pt bd sg co) n c W9) := by
  show Zw 4 zm_Chart_readOnce 0 [some (.ref k), none, none] [] Mq _
  have hn8 := hG.1
  have hc20 := hS.1
  refine zw_n 1 rfl ?_
  refine zw_get (v := .ref kt) rfl (hC.get 0 rfl) rfl ?_
  refine zw_get (v := .int (nI c)) rfl (hT.get 0 rfl) rfl ?_
  refine zw_n 1 (ls' := [some (.ref k), some (.int (nI c)), none]) rfl ?_
  have lp8 : ∀ (n8 : Nat) (x : Nat) (W8 : Nat → Nat) (R8 : Nat → Nat) (M_8 : zM), Sm Mq M_8 [k, k + 1, k + 2] → M_8[k + 1]? = some (.inl (1, 3528, .inr (.inl (al W8)))) → M_8[k + 2]? = some (.inl (1, 3360, .inr (.inl (al R8)))) → M_8[k]? = some (.inr (0, [.ref kr, .ref kt, .int (nI s), .ref (k + 1), .ref (k + 2)])) → (x ≤ c + 1 ∧ SafeM W8 ∧ SafeM R8 ∧ (s ≠ 0 → ChS (gE al_ it tg pt bd sg co) n c W8) ∧ (s = 0 → (0 < x → ChI (gE al_ it tg pt bd sg co) n c (x - 1) (x - 1) W8 R8) ∧ (x = 0 → ChS (gE al_ it tg pt bd sg co) n c W8))) → x < n8 → Zw 4 zm_Chart_readOnce 8 [some (.ref k), some (.int (nI x - 1)), none] [] M_8 (fun r9 M1 => r9 = some (.int (nI (if 0 < n ∧ wh (gE al_ it tg pt bd sg co) n 0 0 c ≠ 0 then 1 else 0))) ∧ ∃ W9 R9, Seg M1 k (chtL k kr kt 1 W9 R9) ∧ Sm Mq M1 [k, k + 1, k + 2] ∧ SafeM W9 ∧ SafeM R9 ∧ ChS (gE al_ it tg pt bd sg co) n c W9) := by
    intro n8
    induction n8 with
    | zero => intro x W8 R8 M_8 _ _ _ _ _ h; exact absurd h (Nat.not_lt_zero _)
    | succ n8 ih8 =>
      intro x W8 R8 M_8 s_8 f8_0 f8_1 f8_2 hi8 hm8
      refine zw_n 1 rfl ?_
      refine zw_lt0Z (a := ((x : Nat) : Int) - 1) rfl (nP_toInt (by omega)) (fun c9 => ?_) (fun c9 => ?_)
      · -- 9 to 50
        have hall : ChS (gE al_ it tg pt bd sg co) n c W8 := by
          rcases Nat.eq_zero_or_pos s with e | e
          · exact (hi8.2.2.2.2 e).2 (by omega)
          · exact hi8.2.2.2.1 (by omega)
        refine zw_n 2 rfl ?_
        refine zw_put rfl f8_2 (rfl) (Nat.le_of_ble_eq_true rfl) ?_
        generalize ez68 : List.set M_8 k _ = Mz67
        refine zw_n 1 rfl ?_
        refine zw_get (v := .ref kr) rfl (zat_self ez68 f8_2) rfl ?_
        refine zw_get (v := .int (nI n)) rfl (zat_set ez68 (by omega) (Sm.at s_8 (by simp <;> omega) (hR.get 0 rfl))) rfl ?_
        refine zw_le0N (a := n) rfl rfl (by omega) (fun c62 => ?_) (fun c62 => ?_)
        · -- 62 to 87
          refine zw_n 1 rfl ?_
          exact zw_zret rfl rfl (Or.inl rfl) (⟨by rw [if_neg (fun hq => by first | omega | (have h9 := hall 0 0 c hq.1 (Nat.zero_le _) (Nat.le_refl _); rw [c80] at h9; exact hq.2 h9.symm))]; rfl, W8, R8, seg3 (zat_self ez68 f8_2) (zat_set ez68 (by omega) f8_0) (zat_set ez68 (by omega) f8_1), Sm.tset s_8 ez68 (by simp), hi8.2.1, hi8.2.2.1, hall⟩)
        · -- 62 to 65
          refine zw_n 4 rfl ?_
          refine zw_get (v := .ref kt) rfl (zat_self ez68 f8_2) rfl ?_
          refine zw_get (v := .int (nI c)) rfl (zat_set ez68 (by omega) (Sm.at s_8 (by simp <;> omega) (hT.get 0 rfl))) rfl ?_
          refine zw_callV (as := [.int 0, .int 0, .int (nI c)]) (rest := []) rfl rfl rfl (zat_self ez68 f8_2) rfl rfl rfl (by decide) (c_columnsOver Mz67 k kr kt 1 W8 R8 n em gn al_ it pt tg bd fr af fb c sg li co (seg3 (zat_self ez68 f8_2) (zat_set ez68 (by omega) f8_0) (zat_set ez68 (by omega) f8_1)) (seg10 (zat_set ez68 (by omega) (Sm.at s_8 (by simp <;> omega) (hR.get 0 rfl))) (zat_set ez68 (by omega) (Sm.at s_8 (by simp <;> omega) (hR.get 1 rfl))) (zat_set ez68 (by omega) (Sm.at s_8 (by simp <;> omega) (hR.get 2 rfl))) (zat_set ez68 (by omega) (Sm.at s_8 (by simp <;> omega) (hR.get 3 rfl))) (zat_set ez68 (by omega) (Sm.at s_8 (by simp <;> omega) (hR.get 4 rfl))) (zat_set ez68 (by omega) (Sm.at s_8 (by simp <;> omega) (hR.get 5 rfl))) (zat_set ez68 (by omega) (Sm.at s_8 (by simp <;> omega) (hR.get 6 rfl))) (zat_set ez68 (by omega) (Sm.at s_8 (by simp <;> omega) (hR.get 7 rfl))) (zat_set ez68 (by omega) (Sm.at s_8 (by simp <;> omega) (hR.get 8 rfl))) (zat_set ez68 (by omega) (Sm.at s_8 (by simp <;> omega) (hR.get 9 rfl)))) (seg4 (zat_set ez68 (by omega) (Sm.at s_8 (by simp <;> omega) (hT.get 0 rfl))) (zat_set ez68 (by omega) (Sm.at s_8 (by simp <;> omega) (hT.get 1 rfl))) (zat_set ez68 (by omega) (Sm.at s_8 (by simp <;> omega) (hT.get 2 rfl))) (zat_set ez68 (by omega) (Sm.at s_8 (by simp <;> omega) (hT.get 3 rfl)))) hG hS hi8.2.1 hi8.2.2.1 0 0 c (by omega) (by omega) (by omega)) (fun rz69 Mz70 hz71 => ?_)
          rw [hz71.1, hz71.2]
          show Zw 4 zm_Chart_readOnce 78 [some (.ref k), some (.int (nI x - 1)), none] [.long (lN (w3 W8 0 0 c))] Mz67 _
          refine zw_n 2 rfl ?_
          refine zw_leqN (a := w3 W8 0 0 c) (b := 0) rfl rfl rfl (by first | exact Nat.lt_trans (hi8.2.1 _) (by decide) | decide) (by first | exact Nat.lt_trans (hi8.2.1 _) (by decide) | decide) (fun c80 => ?_) (fun c80 => ?_)
          · -- 80 to 87
            refine zw_n 1 rfl ?_
            exact zw_zret rfl rfl (Or.inl rfl) (⟨by rw [if_neg (fun hq => by first | omega | (have h9 := hall 0 0 c hq.1 (Nat.zero_le _) (Nat.le_refl _); rw [c80] at h9; exact hq.2 h9.symm))]; rfl, W8, R8, seg3 (zat_self ez68 f8_2) (zat_set ez68 (by omega) f8_0) (zat_set ez68 (by omega) f8_1), Sm.tset s_8 ez68 (by simp), hi8.2.1, hi8.2.2.1, hall⟩)
          · -- 80 to 83
            refine zw_n 2 rfl ?_
            exact zw_zret rfl rfl (Or.inr rfl) (⟨by rw [if_pos ⟨c62, by rw [← hall 0 0 c c62 (Nat.zero_le _) (Nat.le_refl _)]; exact c80⟩]; rfl, W8, R8, seg3 (zat_self ez68 f8_2) (zat_set ez68 (by omega) f8_0) (zat_set ez68 (by omega) f8_1), Sm.tset s_8 ez68 (by simp), hi8.2.1, hi8.2.2.1, hall⟩)
      · -- 9 to 12
        rw [nP (show 0 < x by omega)]
        refine zw_n 1 rfl ?_
        refine zw_get (v := .int (nI s)) rfl f8_2 rfl ?_
        refine zw_ne0N (a := s) rfl rfl (by omega) (fun c16 => ?_) (fun c16 => ?_)
        · -- 16 to 50
          have hall : ChS (gE al_ it tg pt bd sg co) n c W8 := by
            rcases Nat.eq_zero_or_pos s with e | e
            · exact (hi8.2.2.2.2 e).2 (by omega)
            · exact hi8.2.2.2.1 (by omega)
          refine zw_n 2 rfl ?_
          refine zw_put rfl f8_2 (rfl) (Nat.le_of_ble_eq_true rfl) ?_
          generalize ez73 : List.set M_8 k _ = Mz72
          refine zw_n 1 rfl ?_
          refine zw_get (v := .ref kr) rfl (zat_self ez73 f8_2) rfl ?_
          refine zw_get (v := .int (nI n)) rfl (zat_set ez73 (by omega) (Sm.at s_8 (by simp <;> omega) (hR.get 0 rfl))) rfl ?_
          refine zw_le0N (a := n) rfl rfl (by omega) (fun c62 => ?_) (fun c62 => ?_)
          · -- 62 to 87
            refine zw_n 1 rfl ?_
            exact zw_zret rfl rfl (Or.inl rfl) (⟨by rw [if_neg (fun hq => by first | omega | (have h9 := hall 0 0 c hq.1 (Nat.zero_le _) (Nat.le_refl _); rw [c80] at h9; exact hq.2 h9.symm))]; rfl, W8, R8, seg3 (zat_self ez73 f8_2) (zat_set ez73 (by omega) f8_0) (zat_set ez73 (by omega) f8_1), Sm.tset s_8 ez73 (by simp), hi8.2.1, hi8.2.2.1, hall⟩)
          · -- 62 to 65
            refine zw_n 4 rfl ?_
            refine zw_get (v := .ref kt) rfl (zat_self ez73 f8_2) rfl ?_
            refine zw_get (v := .int (nI c)) rfl (zat_set ez73 (by omega) (Sm.at s_8 (by simp <;> omega) (hT.get 0 rfl))) rfl ?_
            refine zw_callV (as := [.int 0, .int 0, .int (nI c)]) (rest := []) rfl rfl rfl (zat_self ez73 f8_2) rfl rfl rfl (by decide) (c_columnsOver Mz72 k kr kt 1 W8 R8 n em gn al_ it pt tg bd fr af fb c sg li co (seg3 (zat_self ez73 f8_2) (zat_set ez73 (by omega) f8_0) (zat_set ez73 (by omega) f8_1)) (seg10 (zat_set ez73 (by omega) (Sm.at s_8 (by simp <;> omega) (hR.get 0 rfl))) (zat_set ez73 (by omega) (Sm.at s_8 (by simp <;> omega) (hR.get 1 rfl))) (zat_set ez73 (by omega) (Sm.at s_8 (by simp <;> omega) (hR.get 2 rfl))) (zat_set ez73 (by omega) (Sm.at s_8 (by simp <;> omega) (hR.get 3 rfl))) (zat_set ez73 (by omega) (Sm.at s_8 (by simp <;> omega) (hR.get 4 rfl))) (zat_set ez73 (by omega) (Sm.at s_8 (by simp <;> omega) (hR.get 5 rfl))) (zat_set ez73 (by omega) (Sm.at s_8 (by simp <;> omega) (hR.get 6 rfl))) (zat_set ez73 (by omega) (Sm.at s_8 (by simp <;> omega) (hR.get 7 rfl))) (zat_set ez73 (by omega) (Sm.at s_8 (by simp <;> omega) (hR.get 8 rfl))) (zat_set ez73 (by omega) (Sm.at s_8 (by simp <;> omega) (hR.get 9 rfl)))) (seg4 (zat_set ez73 (by omega) (Sm.at s_8 (by simp <;> omega) (hT.get 0 rfl))) (zat_set ez73 (by omega) (Sm.at s_8 (by simp <;> omega) (hT.get 1 rfl))) (zat_set ez73 (by omega) (Sm.at s_8 (by simp <;> omega) (hT.get 2 rfl))) (zat_set ez73 (by omega) (Sm.at s_8 (by simp <;> omega) (hT.get 3 rfl)))) hG hS hi8.2.1 hi8.2.2.1 0 0 c (by omega) (by omega) (by omega)) (fun rz74 Mz75 hz76 => ?_)
            rw [hz76.1, hz76.2]
            show Zw 4 zm_Chart_readOnce 78 [some (.ref k), some (.int (nI (x - 1))), none] [.long (lN (w3 W8 0 0 c))] Mz72 _
            refine zw_n 2 rfl ?_
            refine zw_leqN (a := w3 W8 0 0 c) (b := 0) rfl rfl rfl (by first | exact Nat.lt_trans (hi8.2.1 _) (by decide) | decide) (by first | exact Nat.lt_trans (hi8.2.1 _) (by decide) | decide) (fun c80 => ?_) (fun c80 => ?_)
            · -- 80 to 87
              refine zw_n 1 rfl ?_
              exact zw_zret rfl rfl (Or.inl rfl) (⟨by rw [if_neg (fun hq => by first | omega | (have h9 := hall 0 0 c hq.1 (Nat.zero_le _) (Nat.le_refl _); rw [c80] at h9; exact hq.2 h9.symm))]; rfl, W8, R8, seg3 (zat_self ez73 f8_2) (zat_set ez73 (by omega) f8_0) (zat_set ez73 (by omega) f8_1), Sm.tset s_8 ez73 (by simp), hi8.2.1, hi8.2.2.1, hall⟩)
            · -- 80 to 83
              refine zw_n 2 rfl ?_
              exact zw_zret rfl rfl (Or.inr rfl) (⟨by rw [if_pos ⟨c62, by rw [← hall 0 0 c c62 (Nat.zero_le _) (Nat.le_refl _)]; exact c80⟩]; rfl, W8, R8, seg3 (zat_self ez73 f8_2) (zat_set ez73 (by omega) f8_0) (zat_set ez73 (by omega) f8_1), Sm.tset s_8 ez73 (by simp), hi8.2.1, hi8.2.2.1, hall⟩)
        · -- 16 to 19
          refine zw_n 2 (ls' := [some (.ref k), some (.int (nI (x - 1))), some (.int (nI (x - 1)))]) rfl ?_
          have lp21 : ∀ (n21 : Nat) (jj : Nat) (W9 : Nat → Nat) (R9 : Nat → Nat) (M_21 : zM), Sm Mq M_21 [k, k + 1, k + 2] → M_21[k + 1]? = some (.inl (1, 3528, .inr (.inl (al W9)))) → M_21[k + 2]? = some (.inl (1, 3360, .inr (.inl (al R9)))) → M_21[k]? = some (.inr (0, [.ref kr, .ref kt, .int (nI s), .ref (k + 1), .ref (k + 2)])) → (x - 1 ≤ jj ∧ jj ≤ c + 1 ∧ ChI (gE al_ it tg pt bd sg co) n c (x - 1) jj W9 R9) → c + 1 - jj < n21 → Zw 4 zm_Chart_readOnce 21 [some (.ref k), some (.int (nI (x - 1))), some (.int (nI jj))] [] M_21 (fun r9 M1 => r9 = some (.int (nI (if 0 < n ∧ wh (gE al_ it tg pt bd sg co) n 0 0 c ≠ 0 then 1 else 0))) ∧ ∃ W9 R9, Seg M1 k (chtL k kr kt 1 W9 R9) ∧ Sm Mq M1 [k, k + 1, k + 2] ∧ SafeM W9 ∧ SafeM R9 ∧ ChS (gE al_ it tg pt bd sg co) n c W9) := by
            intro n21
            induction n21 with
            | zero => intro jj W9 R9 M_21 _ _ _ _ _ h; exact absurd h (Nat.not_lt_zero _)
            | succ n21 ih21 =>
              intro jj W9 R9 M_21 s_21 f21_0 f21_1 f21_2 hi21 hm21
              refine zw_n 2 rfl ?_
              refine zw_get (v := .ref kt) rfl f21_2 rfl ?_
              refine zw_get (v := .int (nI c)) rfl (Sm.at s_21 (by simp <;> omega) (hT.get 0 rfl)) rfl ?_
              refine zw_igtN (a := jj) (b := c) rfl rfl rfl (by omega) (by omega) (fun c29 => ?_) (fun c29 => ?_)
              · -- 29 to 44
                refine zw_inc rfl (x' := (nI (x - 1) - 1)) (ls' := [some (.ref k), some (.int (nI (x - 1) - 1)), some (.int (nI jj))]) rfl (nPd) rfl ?_
                refine zw_n 1 rfl ?_
                refine zw_ls (ls' := [some (.ref k), some (.int (nI (x - 1) - 1)), none]) ⟨Or.inr rfl, Or.inr rfl, Or.inl rfl, trivial⟩ ?_
                exact ih8 (x - 1) W9 R9 M_21 s_21 f21_0 f21_1 f21_2 (⟨by omega, hi21.2.2.sw, hi21.2.2.sr, fun e => by omega, fun _ => ⟨fun e => ((show jj = c + 1 by omega) ▸ hi21.2.2).down e, fun e => (show ChI _ n c 0 (c + 1) W9 R9 from (show jj = c + 1 by omega) ▸ e ▸ hi21.2.2).all⟩⟩) (by omega)
              · -- 29 to 32
                refine zw_n 3 rfl ?_
                refine zw_callV (as := [.int (nI (x - 1)), .int (nI jj)]) (rest := []) rfl rfl rfl f21_2 rfl rfl rfl (by decide) (c_readSpan M_21 k kr kt s W9 R9 n em gn al_ it pt tg bd fr af fb c sg li co (seg3 f21_2 f21_0 f21_1) (seg10 (Sm.at s_21 (by simp <;> omega) (hR.get 0 rfl)) (Sm.at s_21 (by simp <;> omega) (hR.get 1 rfl)) (Sm.at s_21 (by simp <;> omega) (hR.get 2 rfl)) (Sm.at s_21 (by simp <;> omega) (hR.get 3 rfl)) (Sm.at s_21 (by simp <;> omega) (hR.get 4 rfl)) (Sm.at s_21 (by simp <;> omega) (hR.get 5 rfl)) (Sm.at s_21 (by simp <;> omega) (hR.get 6 rfl)) (Sm.at s_21 (by simp <;> omega) (hR.get 7 rfl)) (Sm.at s_21 (by simp <;> omega) (hR.get 8 rfl)) (Sm.at s_21 (by simp <;> omega) (hR.get 9 rfl))) (seg4 (Sm.at s_21 (by simp <;> omega) (hT.get 0 rfl)) (Sm.at s_21 (by simp <;> omega) (hT.get 1 rfl)) (Sm.at s_21 (by simp <;> omega) (hT.get 2 rfl)) (Sm.at s_21 (by simp <;> omega) (hT.get 3 rfl))) hG hS hi21.2.2.sw hi21.2.2.sr hk emp rk hA (x - 1) jj (by omega) (by omega) (hi21.2.2.sp (by omega)) (hi21.2.2.rows)) (fun rz85 Mz86 hz87 => ?_)
                obtain ⟨hAz80, psz77, Wz78, Rz79, hBz81, hCz82, hSz83, hDz84⟩ := hz87
                rw [hAz80]
                show Zw 4 zm_Chart_readOnce 38 [some (.ref k), some (.int (nI (x - 1))), some (.int (nI jj))] [] Mz86 _
                refine zw_inc rfl (x' := (nI (jj + 1))) (ls' := [some (.ref k), some (.int (nI (x - 1))), some (.int (nI (jj + 1)))]) rfl (na (a := jj) (b := 1) rfl rfl) rfl ?_
                refine zw_n 1 rfl ?_
                exact ih21 (jj + 1) Wz78 Rz79 Mz86 (Sm.tw s_21 hSz83 (by simp)) hBz81 hCz82 (Sm.at hSz83 (by simp <;> omega) f21_2) (⟨by omega, by omega, hi21.2.2.step (by omega) (by omega) (by omega) hDz84 rfl⟩) (by omega)
          exact lp21 _ (x - 1) W8 R8 M_8 s_8 f8_0 f8_1 f8_2 (⟨Nat.le_refl _, by omega, (hi8.2.2.2.2 (by omega)).1 (by omega)⟩) (Nat.lt_succ_self _)
  refine zw_lse (ls' := [some (.ref k), some (.int (nI (c + 1) - 1)), none]) (by rw [show nI c = nI (c + 1) - 1 from nPs]) ?_
  exact lp8 _ (c + 1) W R Mq Sm.rf (hC.get 1 rfl) (hC.get 2 rfl) (hC.get 0 rfl) (⟨Nat.le_refl _, hW, hQ, hs, fun _ => ⟨fun _ => ChI.first hW hQ, fun e => by omega⟩⟩) (Nat.lt_succ_self _)

set_option maxHeartbeats 4000000 in
set_option maxRecDepth 100000 in
theorem c_turnTo (Mq : zM) (k kr kt s : Nat) (W R : Nat → Nat) (hC : Seg Mq k (chtL k kr kt s W R)) (kr1 kt1 : Nat) : Zm 0 zm_Chart_turnTo [.ref k, .ref kr1, .ref kt1] Mq (fun r9 M1 => r9 = none ∧ Seg M1 k (chtL k kr1 kt1 0 W R) ∧ Sm Mq M1 [k]) := by
  show Zw 0 zm_Chart_turnTo 0 [some (.ref k), some (.ref kr1), some (.ref kt1)] [] Mq _
  refine zw_n 2 rfl ?_
  refine zw_put rfl (hC.get 0 rfl) (rfl) (Nat.le_of_ble_eq_true rfl) ?_
  generalize ez89 : List.set Mq k _ = Mz88
  refine zw_n 2 rfl ?_
  refine zw_put rfl (zat_self ez89 (hC.get 0 rfl)) (rfl) (Nat.le_of_ble_eq_true rfl) ?_
  generalize ez91 : List.set Mz88 k _ = Mz90
  refine zw_n 2 rfl ?_
  refine zw_put rfl (zat_self ez91 (zat_self ez89 (hC.get 0 rfl))) (rfl) (Nat.le_of_ble_eq_true rfl) ?_
  generalize ez93 : List.set Mz90 k _ = Mz92
  exact zw_vret rfl rfl (⟨rfl, seg3 (zat_self ez93 (zat_self ez91 (zat_self ez89 (hC.get 0 rfl)))) (zat_set ez93 (by omega) (zat_set ez91 (by omega) (zat_set ez89 (by omega) (hC.get 1 rfl)))) (zat_set ez93 (by omega) (zat_set ez91 (by omega) (zat_set ez89 (by omega) (hC.get 2 rfl)))), Sm.tset (Sm.tset (Sm.tset Sm.rf ez89 (by simp)) ez91 (by simp)) ez93 (by simp)⟩)
