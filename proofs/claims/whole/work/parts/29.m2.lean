set_option maxHeartbeats 4000000 in
set_option maxRecDepth 100000 in
theorem c_wholesOf (Mq : zM) (b m : Nat) (hb : b < 2147483648) (hm : m < 1099511627776) : Zm 0 zm_CG_wholesOf [.int (nI b), .long (lN m)] Mq (fun r M1 => r = some (.long (lN (letsN b m))) ∧ M1 = Mq) := by
  show Zw 0 zm_CG_wholesOf 0 [some (.int (nI b)), some (.long (lN m)), none, none, none] [] Mq _
  refine zw_n 3 rfl ?_
  refine zw_leqN (a := m) (b := 0) rfl rfl rfl (by omega) (by omega) (fun c3 => ?_) (fun c3 => ?_)
  · -- 3 to 12
    refine zw_n 1 rfl ?_
    exact zw_lret rfl rfl (⟨by unfold letsN; simp_all, rfl⟩)
  · -- 3 to 6
    refine zw_n 2 rfl ?_
    refine zw_ineN (a := b) (b := 61) rfl rfl rfl (by omega) (by omega) (fun c9 => ?_) (fun c9 => ?_)
    · -- 9 to 14
      refine zw_n 2 rfl ?_
      refine zw_ineN (a := b) (b := 42) rfl rfl rfl (by omega) (by omega) (fun c17 => ?_) (fun c17 => ?_)
      · -- 17 to 24
        refine zw_n 4 rfl ?_
        refine zw_topl (x' := (lN (m / 2 ^ 1))) (lsr (k := 1) rfl rfl (by omega) (by decide)) ?_
        refine zw_n 1 rfl ?_
        refine zw_topl (lo (a := m) (b := m / 2 ^ 1) rfl rfl) ?_
        refine zw_topl (x' := (lN (smr 1 m))) (rfl) ?_
        refine zw_n 5 (ls' := [some (.int (nI b)), some (.long (lN m)), none, some (.long (lN (smr 1 m))), none]) rfl ?_
        refine zw_topl (x' := (lN (smr 1 m / 2 ^ 2))) (lsr (k := 2) rfl rfl (by have := @smr_lt 1 m hm; omega) (by decide)) ?_
        refine zw_n 1 rfl ?_
        refine zw_topl (lo (a := smr 1 m) (b := smr 1 m / 2 ^ 2) rfl rfl) ?_
        refine zw_topl (x' := (lN (smr 2 (smr 1 m)))) (rfl) ?_
        refine zw_n 5 (ls' := [some (.int (nI b)), some (.long (lN m)), none, some (.long (lN (smr 2 (smr 1 m)))), none]) rfl ?_
        refine zw_topl (x' := (lN (smr 2 (smr 1 m) / 2 ^ 4))) (lsr (k := 4) rfl rfl (by have := @smr_lt 2 _ (@smr_lt 1 m hm); omega) (by decide)) ?_
        refine zw_n 1 rfl ?_
        refine zw_topl (lo (a := smr 2 (smr 1 m)) (b := smr 2 (smr 1 m) / 2 ^ 4) rfl rfl) ?_
        refine zw_topl (x' := (lN (smr 4 (smr 2 (smr 1 m))))) (rfl) ?_
        refine zw_n 5 (ls' := [some (.int (nI b)), some (.long (lN m)), none, some (.long (lN (smr 4 (smr 2 (smr 1 m))))), none]) rfl ?_
        refine zw_topl (x' := (lN (smr 4 (smr 2 (smr 1 m)) / 2 ^ 8))) (lsr (k := 8) rfl rfl (by have := @smr_lt 4 _ (@smr_lt 2 _ (@smr_lt 1 m hm)); omega) (by decide)) ?_
        refine zw_n 1 rfl ?_
        refine zw_topl (lo (a := smr 4 (smr 2 (smr 1 m))) (b := smr 4 (smr 2 (smr 1 m)) / 2 ^ 8) rfl rfl) ?_
        refine zw_topl (x' := (lN (smr 8 (smr 4 (smr 2 (smr 1 m)))))) (rfl) ?_
        refine zw_n 5 (ls' := [some (.int (nI b)), some (.long (lN m)), none, some (.long (lN (smr 8 (smr 4 (smr 2 (smr 1 m)))))), none]) rfl ?_
        refine zw_topl (x' := (lN (smr 8 (smr 4 (smr 2 (smr 1 m))) / 2 ^ 16))) (lsr (k := 16) rfl rfl (by have := @smr_lt 8 _ (@smr_lt 4 _ (@smr_lt 2 _ (@smr_lt 1 m hm))); omega) (by decide)) ?_
        refine zw_n 1 rfl ?_
        refine zw_topl (lo (a := smr 8 (smr 4 (smr 2 (smr 1 m)))) (b := smr 8 (smr 4 (smr 2 (smr 1 m))) / 2 ^ 16) rfl rfl) ?_
        refine zw_topl (x' := (lN (smr 16 (smr 8 (smr 4 (smr 2 (smr 1 m))))))) (rfl) ?_
        refine zw_n 5 (ls' := [some (.int (nI b)), some (.long (lN m)), none, some (.long (lN (smr 16 (smr 8 (smr 4 (smr 2 (smr 1 m))))))), none]) rfl ?_
        refine zw_topl (x' := (lN (smr 16 (smr 8 (smr 4 (smr 2 (smr 1 m)))) / 2 ^ 32))) (lsr (k := 32) rfl rfl (by have := @smr_lt 16 _ (@smr_lt 8 _ (@smr_lt 4 _ (@smr_lt 2 _ (@smr_lt 1 m hm)))); omega) (by decide)) ?_
        refine zw_n 1 rfl ?_
        refine zw_topl (lo (a := smr 16 (smr 8 (smr 4 (smr 2 (smr 1 m))))) (b := smr 16 (smr 8 (smr 4 (smr 2 (smr 1 m)))) / 2 ^ 32) rfl rfl) ?_
        refine zw_topl (x' := (lN (2 ^ (Nat.log2 m + 1) - 1))) (congrArg lN (smr_log c3 hm)) ?_
        refine zw_n 3 (ls' := [some (.int (nI b)), some (.long (lN m)), none, some (.long (lN (2 ^ (Nat.log2 m + 1) - 1))), none]) rfl ?_
        refine zw_ineN (a := b) (b := 62) rfl rfl rfl (by omega) (by omega) (fun c66 => ?_) (fun c66 => ?_)
        · -- 66 to 75
          refine zw_n 1 rfl ?_
          exact zw_lret rfl rfl (⟨by unfold letsN; simp_all, rfl⟩)
        · -- 66 to 69
          refine zw_n 3 rfl ?_
          refine zw_topl (x' := (lN (2 ^ Nat.log2 m - 1))) ((lsr (m := 2 ^ (Nat.log2 m + 1) - 1) (k := 1) rfl rfl (by rw [← smr_log c3 hm]; have := @smr_lt 32 _ (@smr_lt 16 _ (@smr_lt 8 _ (@smr_lt 4 _ (@smr_lt 2 _ (@smr_lt 1 m hm))))); omega) (by decide)).trans (congrArg lN p2log)) ?_
          refine zw_n 1 rfl ?_
          exact zw_lret rfl rfl (⟨by unfold letsN; simp_all, rfl⟩)
      · -- 17 to 20
        refine zw_n 1 rfl ?_
        refine zw_topl (x' := lN 1099511627775) (by decide) ?_
        exact zw_lret rfl rfl (⟨by unfold letsN; simp_all, rfl⟩)
    · -- 9 to 12
      refine zw_n 1 rfl ?_
      exact zw_lret rfl rfl (⟨by unfold letsN; simp_all, rfl⟩)

set_option maxHeartbeats 4000000 in
set_option maxRecDepth 100000 in
theorem c_columnsOver (Mq : zM) (k kr kt s : Nat) (W R : Nat → Nat) (n em : Nat) (gn al_ it pt tg bd fr af fb : Nat → Nat) (c : Nat) (sg li co : Nat → Nat) (hC : Seg Mq k (chtL k kr kt s W R)) (hR : Seg Mq kr (rulL kr (n, gn, al_, it, pt, tg, bd, em, fr, af, fb))) (hT : Seg Mq kt (tokL kt (c, sg, li, co))) (hG : SafeG n gn al_ it pt tg bd) (hS : SafeT c sg li co) (hW : SafeM W) (hQ : SafeM R) (r i j : Nat) (hr : r < 8) (hi : i < 21) (hj : j < 21) : Zm 0 zm_Chart_columnsOver [.ref k, .int (nI r), .int (nI i), .int (nI j)] Mq (fun r9 M1 => r9 = some (.long (lN (w3 W r i j))) ∧ M1 = Mq) := by
  show Zw 0 zm_Chart_columnsOver 0 [some (.ref k), some (.int (nI r)), some (.int (nI i)), some (.int (nI j))] [] Mq _
  refine zw_n 1 rfl ?_
  refine zw_get (v := .ref (k + 1)) rfl (hC.get 0 rfl) rfl ?_
  refine zw_n 3 rfl ?_
  refine zw_top (nm (a := r) (b := 21) rfl rfl) ?_
  refine zw_n 2 rfl ?_
  refine zw_top (na (a := r * 21) (b := i) rfl rfl) ?_
  refine zw_n 2 rfl ?_
  refine zw_top (nm (a := (r * 21) + i) (b := 21) rfl rfl) ?_
  refine zw_n 2 rfl ?_
  refine zw_top (na (a := ((r * 21) + i) * 21) (b := j) rfl rfl) ?_
  refine zw_lald (f := al W) (j := ((((r * 21) + i) * 21) + j)) rfl (hC.get 1 rfl) rfl (by decide) (by omega) ?_
  exact zw_lret rfl rfl (⟨rfl, rfl⟩)

set_option maxHeartbeats 4000000 in
set_option maxRecDepth 100000 in
theorem c_aheadOf (Mq : zM) (k kr kt s : Nat) (W R : Nat → Nat) (n em : Nat) (gn al_ it pt tg bd fr af fb : Nat → Nat) (c : Nat) (sg li co : Nat → Nat) (hC : Seg Mq k (chtL k kr kt s W R)) (hR : Seg Mq kr (rulL kr (n, gn, al_, it, pt, tg, bd, em, fr, af, fb))) (hT : Seg Mq kt (tokL kt (c, sg, li, co))) (hG : SafeG n gn al_ it pt tg bd) (hS : SafeT c sg li co) (hW : SafeM W) (hQ : SafeM R) (x i p : Nat) (hx : x < 160) (hi : i < 21) (hp : p < 21) : Zm 0 zm_Chart_aheadOf [.ref k, .int (nI x), .int (nI i), .int (nI p)] Mq (fun r9 M1 => r9 = some (.long (lN (ahd R x i p))) ∧ M1 = Mq) := by
  show Zw 0 zm_Chart_aheadOf 0 [some (.ref k), some (.int (nI x)), some (.int (nI i)), some (.int (nI p))] [] Mq _
  refine zw_n 3 rfl ?_
  refine zw_top (x' := (nI (x % 5))) (nrem (a := x) (b := 5) rfl rfl (by omega) (by decide) (by decide)) ?_
  refine zw_ne0N (a := x % 5) rfl rfl (by omega) (fun c3 => ?_) (fun c3 => ?_)
  · -- 3 to 19
    refine zw_n 1 rfl ?_
    refine zw_get (v := .ref (k + 2)) rfl (hC.get 0 rfl) rfl ?_
    refine zw_n 3 rfl ?_
    refine zw_top (ns (a := x) (b := 1) rfl rfl (by omega)) ?_
    refine zw_n 2 rfl ?_
    refine zw_top (nm (a := x - 1) (b := 21) rfl rfl) ?_
    refine zw_n 2 rfl ?_
    refine zw_top (na (a := (x - 1) * 21) (b := p) rfl rfl) ?_
    refine zw_lald (f := al R) (j := (((x - 1) * 21) + p)) rfl (hC.get 2 rfl) rfl (by decide) (by omega) ?_
    exact zw_lret rfl rfl (⟨by unfold ahd; simp_all, rfl⟩)
  · -- 3 to 6
    refine zw_n 2 rfl ?_
    refine zw_ineN (a := p) (b := i) rfl rfl rfl (by omega) (by omega) (fun c8 => ?_) (fun c8 => ?_)
    · -- 8 to 17
      refine zw_n 1 rfl ?_
      refine zw_topl (x' := lN 0) (by decide) ?_
      exact zw_lret rfl rfl (⟨by unfold ahd; simp_all, rfl⟩)
    · -- 8 to 11
      refine zw_n 2 rfl ?_
      refine zw_topl (x' := lN 1099511627775) (by decide) ?_
      exact zw_lret rfl rfl (⟨by unfold ahd; simp_all, rfl⟩)

set_option maxHeartbeats 4000000 in
set_option maxRecDepth 100000 in
theorem c_columnsOfItem (Mq : zM) (k kr kt s : Nat) (W R : Nat → Nat) (n em : Nat) (gn al_ it pt tg bd fr af fb : Nat → Nat) (c : Nat) (sg li co : Nat → Nat) (hC : Seg Mq k (chtL k kr kt s W R)) (hR : Seg Mq kr (rulL kr (n, gn, al_, it, pt, tg, bd, em, fr, af, fb))) (hT : Seg Mq kt (tokL kt (c, sg, li, co))) (hG : SafeG n gn al_ it pt tg bd) (hS : SafeT c sg li co) (hW : SafeM W) (hQ : SafeM R) (x p q : Nat) (hx : x < 160) (hp : p < 21) (hq : q < 21) : Zm 0 zm_Chart_columnsOfItem [.ref k, .int (nI x), .int (nI p), .int (nI q)] Mq (fun r9 M1 => r9 = some (.long (lN (itm (gE al_ it tg pt bd sg co) (w3 W) x p q))) ∧ M1 = Mq) := by
  show Zw 0 zm_Chart_columnsOfItem 0 [some (.ref k), some (.int (nI x)), some (.int (nI p)), some (.int (nI q)), none] [] Mq _
  refine zw_n 1 rfl ?_
  refine zw_get (v := .ref kr) rfl (hC.get 0 rfl) rfl ?_
  refine zw_get (v := .ref (kr + 5)) rfl (hR.get 0 rfl) rfl ?_
  refine zw_n 1 rfl ?_
  refine zw_iald (f := ai tg) (j := x) rfl (hR.get 5 rfl) rfl (by decide) (by omega) ?_
  have bz11 := hG.2.2.2.2.2.1 x
  refine zw_n 3 (ls' := [some (.ref k), some (.int (nI x)), some (.int (nI p)), some (.int (nI q)), some (.int (nI (tg x)))]) rfl ?_
  refine zw_ieqM (a := tg x) rfl rfl (by omega) (fun c14 => ?_) (fun c14 => ?_)
  · -- 14 to 35
    refine zw_n 4 rfl ?_
    refine zw_top (na (a := p) (b := 1) rfl rfl) ?_
    refine zw_ineN (a := q) (b := p + 1) rfl rfl rfl (by omega) (by omega) (fun c39 => ?_) (fun c39 => ?_)
    · -- 39 to 77
      refine zw_n 1 rfl ?_
      refine zw_topl (x' := lN 0) (by decide) ?_
      exact zw_lret rfl rfl (⟨by unfold itm; rw [if_pos (show (gE al_ it tg pt bd sg co) 2 x = NO from c14)]; rw [if_neg (show ¬ (q = p + 1 ∧ (gE al_ it tg pt bd sg co) 5 p = (gE al_ it tg pt bd sg co) 3 x) from fun hq => by have h8 := hq.1; have h9 : sg p = pt x := hq.2; omega)], rfl⟩)
    · -- 39 to 42
      refine zw_n 1 rfl ?_
      refine zw_get (v := .ref kt) rfl (hC.get 0 rfl) rfl ?_
      refine zw_get (v := .ref (kt + 1)) rfl (hT.get 0 rfl) rfl ?_
      refine zw_n 1 rfl ?_
      refine zw_iald (f := ai sg) (j := p) rfl (hT.get 1 rfl) rfl (by decide) (by omega) ?_
      have bz12 := hS.2.1 p
      refine zw_n 1 rfl ?_
      refine zw_get (v := .ref kr) rfl (hC.get 0 rfl) rfl ?_
      refine zw_get (v := .ref (kr + 4)) rfl (hR.get 0 rfl) rfl ?_
      refine zw_n 1 rfl ?_
      refine zw_iald (f := ai pt) (j := x) rfl (hR.get 4 rfl) rfl (by decide) (by omega) ?_
      have bz13 := hG.2.2.2.2.1 x
      refine zw_ineN (a := sg p) (b := pt x) rfl rfl rfl (by omega) (by omega) (fun c60 => ?_) (fun c60 => ?_)
      · -- 60 to 77
        refine zw_n 1 rfl ?_
        refine zw_topl (x' := lN 0) (by decide) ?_
        exact zw_lret rfl rfl (⟨by unfold itm; rw [if_pos (show (gE al_ it tg pt bd sg co) 2 x = NO from c14)]; rw [if_neg (show ¬ (q = p + 1 ∧ (gE al_ it tg pt bd sg co) 5 p = (gE al_ it tg pt bd sg co) 3 x) from fun hq => by have h8 := hq.1; have h9 : sg p = pt x := hq.2; omega)], rfl⟩)
      · -- 60 to 63
        refine zw_n 2 rfl ?_
        refine zw_get (v := .ref kt) rfl (hC.get 0 rfl) rfl ?_
        refine zw_get (v := .ref (kt + 3)) rfl (hT.get 0 rfl) rfl ?_
        refine zw_n 1 rfl ?_
        refine zw_iald (f := ai co) (j := p) rfl (hT.get 3 rfl) rfl (by decide) (by omega) ?_
        have bz14 := hS.2.2.2 p
        refine zw_n 1 rfl ?_
        refine zw_topl (x' := (lN (2 ^ co p))) ((lsl (m := 1) (k := co p) rfl rfl (by omega)).trans (by rw [Nat.one_mul])) ?_
        refine zw_n 1 rfl ?_
        exact zw_lret rfl rfl (⟨by unfold itm; rw [if_pos (show (gE al_ it tg pt bd sg co) 2 x = NO from c14)]; rw [if_pos (show q = p + 1 ∧ (gE al_ it tg pt bd sg co) 5 p = (gE al_ it tg pt bd sg co) 3 x from ⟨c39, c60⟩)]; rfl, rfl⟩)
  · -- 14 to 17
    refine zw_n 1 rfl ?_
    refine zw_get (v := .ref (k + 1)) rfl (hC.get 0 rfl) rfl ?_
    refine zw_n 3 rfl ?_
    refine zw_top (nm (a := tg x) (b := 21) rfl rfl) ?_
    refine zw_n 2 rfl ?_
    refine zw_top (na (a := (tg x) * 21) (b := p) rfl rfl) ?_
    refine zw_n 2 rfl ?_
    refine zw_top (nm (a := ((tg x) * 21) + p) (b := 21) rfl rfl) ?_
    refine zw_n 2 rfl ?_
    refine zw_top (na (a := (((tg x) * 21) + p) * 21) (b := q) rfl rfl) ?_
    refine zw_lald (f := al W) (j := (((((tg x) * 21) + p) * 21) + q)) rfl (hC.get 1 rfl) rfl (by decide) (by omega) ?_
    have bz15 := hW (((((tg x) * 21) + p) * 21) + q)
    exact zw_lret rfl rfl (⟨by unfold itm; rw [if_neg (show ¬ (gE al_ it tg pt bd sg co) 2 x = NO from c14)]; rfl, rfl⟩)
