set_option maxHeartbeats 4000000 in
set_option maxRecDepth 100000 in
theorem c_canBeEmpty (Mq : zM) (k : Nat) (n em : Nat) (gn al_ it pt tg bd fr af fb : Nat → Nat) (hR : Seg Mq k (rulL k (n, gn, al_, it, pt, tg, bd, em, fr, af, fb))) (he : em < 256) (x : Nat) (hx : x < 8 ∨ x = NO) : Zm 0 zm_Rules_canBeEmpty [.ref k, .int (nI x)] Mq (fun r9 M1 => r9 = some (.int (nI (if x ≠ NO ∧ em.testBit x = true then 1 else 0))) ∧ M1 = Mq) := by
  show Zw 0 zm_Rules_canBeEmpty 0 [some (.ref k), some (.int (nI x))] [] Mq _
  unfold NO at hx
  refine zw_n 2 rfl ?_
  refine zw_ieqM (a := x) rfl rfl (by omega) (fun c2 => ?_) (fun c2 => ?_)
  · -- 2 to 20
    have hq9 : x = 4294967295 ∨ em / 2 ^ x % 2 = 0 := by first | exact Or.inl c2 | exact Or.inr c13
    refine zw_n 1 rfl ?_
    exact zw_zret rfl rfl (Or.inl rfl) (⟨by rw [if_neg (fun q => cbe_no (by assumption) q)]; try rfl, rfl⟩)
  · -- 2 to 5
    refine zw_n 1 rfl ?_
    refine zw_get (v := .int (nI em)) rfl (hR.get 0 rfl) rfl ?_
    refine zw_n 4 rfl ?_
    refine zw_top (x' := (nI (em / 2 ^ x % 2))) (isr (by omega) (by omega)) ?_
    refine zw_eq0N (a := em / 2 ^ x % 2) rfl rfl (by omega) (fun c13 => ?_) (fun c13 => ?_)
    · -- 13 to 20
      have hq9 : x = 4294967295 ∨ em / 2 ^ x % 2 = 0 := by first | exact Or.inl c2 | exact Or.inr c13
      refine zw_n 1 rfl ?_
      exact zw_zret rfl rfl (Or.inl rfl) (⟨by rw [if_neg (fun q => cbe_no (by assumption) q)]; try rfl, rfl⟩)
    · -- 13 to 16
      refine zw_n 2 rfl ?_
      exact zw_zret rfl rfl (Or.inr rfl) (⟨by rw [if_pos ⟨c2, by rw [tb2] at c13; exact ite_ne c13⟩]; try rfl, rfl⟩)

set_option maxHeartbeats 4000000 in
set_option maxRecDepth 100000 in
theorem c_ruleOk (Mq : zM) (f : Nat → Nat → Nat) (L : Nat) (hC : CC Mq f) (hI : CInv L f) (r : Nat) (w : Int32) (hr : r < f 16 0) : Zm 1 zm_CG_rule [.ref 0, .int (nI r), .int w] Mq (fun r9 M1 => r9 = some (.int (if w = nI 0 then nI (f 17 r) else if w = nI 1 then nI (f 18 r) else if w = nI 2 then nI (if (f 16 7).testBit r = true then 1 else 0) else -1)) ∧ M1 = Mq) := by
  show Zw 1 zm_CG_rule 0 [some (.ref 0), some (.int (nI r)), some (.int w)] [] Mq _
  have hG : SafeG (f 16 0) (f 17) (f 18) (f 19) (f 20) (f 21) (f 22) := hI.gram.safe
  have hS : SafeT (f 26 0) (f 27) (f 28) (f 29) := hI.tok.safe
  have hn8 := hG.1
  have hc20 := hS.1
  refine zw_n 2 rfl ?_
  refine zw_callV (as := [.int (nI r)]) (rest := []) rfl rfl rfl (hC.1 0 (by decide) (by decide) (by decide)) rfl rfl rfl (by decide) (c_isRule Mq f hC (by omega) (nI r)) (fun rz977 Mz978 hz979 => ?_)
  rw [hz979.1, hz979.2]
  show Zw 1 zm_CG_rule 5 [some (.ref 0), some (.int (nI r)), some (.int w)] [.int (nI (if 0 ≤ (nI r).toInt ∧ (nI r).toInt < f 16 0 then 1 else 0))] Mq _
  refine zw_ne0N (a := if 0 ≤ (nI r).toInt ∧ (nI r).toInt < f 16 0 then 1 else 0) rfl rfl (ite_b) (fun c5 => ?_) (fun c5 => ?_)
  · -- 5 to 16
    refine zw_n 1 rfl ?_
    refine zw_sw rfl (fun k17 hk17 c17 => ?_) (fun c17 => ?_)
    · rcases (show k17 = 0 ∨ k17 = 1 ∨ k17 = 2 by simp at hk17; omega) with rfl | rfl | rfl
      · show Zw 1 zm_CG_rule 44 [some (.ref 0), some (.int (nI r)), some (.int w)] [] Mq _
        refine zw_n 1 rfl ?_
        refine zw_get (v := .ref 16) rfl (hC.1 0 (by decide) (by decide) (by decide)) rfl ?_
        refine zw_get (v := .ref 17) rfl (hC.1 16 (by decide) (by decide) (by decide)) rfl ?_
        refine zw_n 1 rfl ?_
        refine zw_iald (f := ai (f 17)) (j := r) rfl (hC.1 17 (by decide) (by decide) (by decide)) rfl (by decide) (by omega) ?_
        have bz980 := hG.2.1 r
        exact zw_iret rfl rfl (⟨by rw [if_pos c17]; try rfl, rfl⟩)
      · show Zw 1 zm_CG_rule 54 [some (.ref 0), some (.int (nI r)), some (.int w)] [] Mq _
        refine zw_n 1 rfl ?_
        refine zw_get (v := .ref 16) rfl (hC.1 0 (by decide) (by decide) (by decide)) rfl ?_
        refine zw_get (v := .ref 18) rfl (hC.1 16 (by decide) (by decide) (by decide)) rfl ?_
        refine zw_n 1 rfl ?_
        refine zw_iald (f := ai (f 18)) (j := r) rfl (hC.1 18 (by decide) (by decide) (by decide)) rfl (by decide) (by omega) ?_
        have bz981 := hG.2.2.1 r
        exact zw_iret rfl rfl (⟨by rw [if_neg (by rw [c17]; decide), if_pos c17]; try rfl, rfl⟩)
      · show Zw 1 zm_CG_rule 64 [some (.ref 0), some (.int (nI r)), some (.int w)] [] Mq _
        refine zw_n 1 rfl ?_
        refine zw_get (v := .ref 16) rfl (hC.1 0 (by decide) (by decide) (by decide)) rfl ?_
        refine zw_n 1 rfl ?_
        refine zw_callV (as := [.int (nI r)]) (rest := []) rfl rfl rfl (hC.1 16 (by decide) (by decide) (by decide)) rfl rfl rfl (by decide) (c_canBeEmpty Mq 16 (f 16 0) (f 16 7) (f 17) (f 18) (f 19) (f 20) (f 21) (f 22) (f 23) (f 24) (f 25) (seg10 (hC.1 16 (by decide) (by decide) (by decide)) (hC.1 17 (by decide) (by decide) (by decide)) (hC.1 18 (by decide) (by decide) (by decide)) (hC.1 19 (by decide) (by decide) (by decide)) (hC.1 20 (by decide) (by decide) (by decide)) (hC.1 21 (by decide) (by decide) (by decide)) (hC.1 22 (by decide) (by decide) (by decide)) (hC.1 23 (by decide) (by decide) (by decide)) (hC.1 24 (by decide) (by decide) (by decide)) (hC.1 25 (by decide) (by decide) (by decide))) hI.gram.sem r (by unfold NO; omega)) (fun rz982 Mz983 hz984 => ?_)
        rw [hz984.1, hz984.2]
        show Zw 1 zm_CG_rule 72 [some (.ref 0), some (.int (nI r)), some (.int w)] [.int (nI (if r ≠ NO ∧ (f 16 7).testBit r = true then 1 else 0))] Mq _
        refine zw_eq0N (a := if r ≠ NO ∧ (f 16 7).testBit r = true then 1 else 0) rfl rfl (ite_b) (fun c72 => ?_) (fun c72 => ?_)
        · -- 72 to 79
          refine zw_n 1 rfl ?_
          refine zw_top (x' := nI 0) (by decide) ?_
          exact zw_iret rfl rfl (⟨by rw [if_neg (by rw [c17]; decide), if_neg (by rw [c17]; decide), if_pos c17, if_neg (fun q => ite_eq0 c72 ⟨by unfold NO; omega, q⟩)]; try rfl, rfl⟩)
        · -- 72 to 75
          refine zw_n 2 rfl ?_
          refine zw_top (x' := nI 1) (by decide) ?_
          exact zw_iret rfl rfl (⟨by rw [if_neg (by rw [c17]; decide), if_neg (by rw [c17]; decide), if_pos c17, if_pos (ite_ne c72).2]; try rfl, rfl⟩)
    · 
      show Zw 1 zm_CG_rule 81 [some (.ref 0), some (.int (nI r)), some (.int w)] [] Mq _
      refine zw_n 1 rfl ?_
      exact zw_iret rfl rfl (⟨by rw [if_neg (c17 0 (by decide)), if_neg (c17 1 (by decide)), if_neg (c17 2 (by decide))], rfl⟩)
  · -- 5 to 8
    exfalso
    exact ite_eq0 c5 (by rw [nI_toInt (by omega)]; omega)

set_option maxHeartbeats 4000000 in
set_option maxRecDepth 100000 in
theorem c_itemNo (Mq : zM) (f : Nat → Nat → Nat) (L : Nat) (hC : CC Mq f) (hI : CInv L f) (x y z w : Int32) (hx : ¬ (0 ≤ x.toInt ∧ x.toInt < f 16 0 ∧ 0 ≤ y.toInt ∧ y.toInt < f 18 x.toInt.toNat)) : Zm 1 zm_CG_item [.ref 0, .int x, .int y, .int z, .int w] Mq (fun r9 M1 => r9 = some (.int (-1)) ∧ M1 = Mq) := by
  show Zw 1 zm_CG_item 0 [some (.ref 0), some (.int x), some (.int y), some (.int z), some (.int w), none, none] [] Mq _
  have hG : SafeG (f 16 0) (f 17) (f 18) (f 19) (f 20) (f 21) (f 22) := hI.gram.safe
  have hS : SafeT (f 26 0) (f 27) (f 28) (f 29) := hI.tok.safe
  have hn8 := hG.1
  have hc20 := hS.1
  refine zw_n 2 rfl ?_
  refine zw_callV (as := [.int x]) (rest := []) rfl rfl rfl (hC.1 0 (by decide) (by decide) (by decide)) rfl rfl rfl (by decide) (c_isRule Mq f hC (by omega) x) (fun rz985 Mz986 hz987 => ?_)
  rw [hz987.1, hz987.2]
  show Zw 1 zm_CG_item 5 [some (.ref 0), some (.int x), some (.int y), some (.int z), some (.int w), none, none] [.int (nI (if 0 ≤ x.toInt ∧ x.toInt < f 16 0 then 1 else 0))] Mq _
  refine zw_eq0N (a := if 0 ≤ x.toInt ∧ x.toInt < f 16 0 then 1 else 0) rfl rfl (ite_b) (fun c5 => ?_) (fun c5 => ?_)
  · -- 5 to 25
    refine zw_n 1 rfl ?_
    exact zw_iret rfl rfl (⟨rfl, rfl⟩)
  · -- 5 to 8
    have hx5 := ite_ne c5
    refine zw_n 1 rfl ?_
    refine zw_lt0Z (a := y.toInt) rfl (rfl) (fun c9 => ?_) (fun c9 => ?_)
    · -- 9 to 25
      refine zw_n 1 rfl ?_
      exact zw_iret rfl rfl (⟨rfl, rfl⟩)
    · -- 9 to 12
      refine zw_n 2 rfl ?_
      refine zw_get (v := .ref 16) rfl (hC.1 0 (by decide) (by decide) (by decide)) rfl ?_
      refine zw_get (v := .ref 18) rfl (hC.1 16 (by decide) (by decide) (by decide)) rfl ?_
      refine zw_n 1 rfl ?_
      refine zw_iald (f := ai (f 18)) (j := x.toInt.toNat) rfl (hC.1 18 (by decide) (by decide) (by decide)) (i32_nat (by omega)) (by decide) (by omega) ?_
      have bz988 := hG.2.2.1 x.toInt.toNat
      refine zw_iltZ (a := y.toInt) (b := (((f 18) x.toInt.toNat : Nat) : Int)) rfl (rfl) (nI_toInt (by omega)) (fun c22 => ?_) (fun c22 => ?_)
      · -- 22 to 27
        exfalso
        omega
      · -- 22 to 25
        refine zw_n 1 rfl ?_
        exact zw_iret rfl rfl (⟨rfl, rfl⟩)

set_option maxHeartbeats 4000000 in
set_option maxRecDepth 100000 in
theorem c_itemM (Mq : zM) (f : Nat → Nat → Nat) (L : Nat) (hC : CC Mq f) (hI : CInv L f) (r a : Nat) (hr : r < f 16 0) (ha : a < f 18 r) (w : Int32) : Zm 1 zm_CG_item [.ref 0, .int (nI r), .int (nI a), .int (-1), .int w] Mq (fun r9 M1 => r9 = some (.int (if w = nI 0 then nI (f 19 (r * 4 + a)) else -1)) ∧ M1 = Mq) := by
  show Zw 1 zm_CG_item 0 [some (.ref 0), some (.int (nI r)), some (.int (nI a)), some (.int (-1)), some (.int w), none, none] [] Mq _
  have hG : SafeG (f 16 0) (f 17) (f 18) (f 19) (f 20) (f 21) (f 22) := hI.gram.safe
  have hS : SafeT (f 26 0) (f 27) (f 28) (f 29) := hI.tok.safe
  have hn8 := hG.1
  have hc20 := hS.1
  have ha4 := hG.2.2.1 r
  refine zw_n 2 rfl ?_
  refine zw_callV (as := [.int (nI r)]) (rest := []) rfl rfl rfl (hC.1 0 (by decide) (by decide) (by decide)) rfl rfl rfl (by decide) (c_isRule Mq f hC (by omega) (nI r)) (fun rz989 Mz990 hz991 => ?_)
  rw [hz991.1, hz991.2]
  show Zw 1 zm_CG_item 5 [some (.ref 0), some (.int (nI r)), some (.int (nI a)), some (.int (-1)), some (.int w), none, none] [.int (nI (if 0 ≤ (nI r).toInt ∧ (nI r).toInt < f 16 0 then 1 else 0))] Mq _
  refine zw_eq0N (a := if 0 ≤ (nI r).toInt ∧ (nI r).toInt < f 16 0 then 1 else 0) rfl rfl (ite_b) (fun c5 => ?_) (fun c5 => ?_)
  · -- 5 to 25
    exfalso
    first | exact ite_eq0 c5 (by rw [nI_toInt (by omega)]; omega) | omega
  · -- 5 to 8
    refine zw_n 1 rfl ?_
    refine zw_lt0N (a := a) rfl rfl (by omega) ?_
    refine zw_n 2 rfl ?_
    refine zw_get (v := .ref 16) rfl (hC.1 0 (by decide) (by decide) (by decide)) rfl ?_
    refine zw_get (v := .ref 18) rfl (hC.1 16 (by decide) (by decide) (by decide)) rfl ?_
    refine zw_n 1 rfl ?_
    refine zw_iald (f := ai (f 18)) (j := r) rfl (hC.1 18 (by decide) (by decide) (by decide)) rfl (by decide) (by omega) ?_
    have bz992 := hG.2.2.1 r
    refine zw_iltN (a := a) (b := (f 18) r) rfl rfl rfl (by omega) (by omega) (fun c22 => ?_) (fun c22 => ?_)
    · -- 22 to 27
      refine zw_n 1 rfl ?_
      refine zw_get (v := .ref 16) rfl (hC.1 0 (by decide) (by decide) (by decide)) rfl ?_
      refine zw_get (v := .ref 19) rfl (hC.1 16 (by decide) (by decide) (by decide)) rfl ?_
      refine zw_n 3 rfl ?_
      refine zw_top (nm (a := r) (b := 4) rfl rfl) ?_
      refine zw_n 2 rfl ?_
      refine zw_top (na (a := r * 4) (b := a) rfl rfl) ?_
      refine zw_iald (f := ai (f 19)) (j := ((r * 4) + a)) rfl (hC.1 19 (by decide) (by decide) (by decide)) rfl (by decide) (by omega) ?_
      have bz993 := hG.2.2.2.1 ((r * 4) + a)
      refine zw_n 3 (ls' := [some (.ref 0), some (.int (nI r)), some (.int (nI a)), some (.int (-1)), some (.int w), some (.int (nI ((f 19) ((r * 4) + a)))), none]) rfl ?_
      refine zw_ic rfl ?_
      show Zw 1 zm_CG_item 47 [some (.ref 0), some (.int (nI r)), some (.int (nI a)), some (.int (-1)), some (.int w), some (.int (nI ((f 19) ((r * 4) + a)))), none] [] Mq _
      refine zw_n 1 rfl ?_
      refine zw_ne0 rfl (fun c49 => ?_) (fun c49 => ?_)
      · -- 49 to 57
        refine zw_n 1 rfl ?_
        exact zw_iret rfl rfl (⟨by rw [if_neg (show ¬ w = nI 0 from c49)], rfl⟩)
      · -- 49 to 52
        refine zw_n 2 rfl ?_
        exact zw_iret rfl rfl (⟨by rw [if_pos (show w = nI 0 from c49)]; try rfl, rfl⟩)
    · -- 22 to 25
      exfalso
      first | exact ite_eq0 c5 (by rw [nI_toInt (by omega)]; omega) | omega

set_option maxHeartbeats 4000000 in
set_option maxRecDepth 100000 in
theorem c_itemK (Mq : zM) (f : Nat → Nat → Nat) (L : Nat) (hC : CC Mq f) (hI : CInv L f) (r a : Nat) (hr : r < f 16 0) (ha : a < f 18 r) (z w : Int32) (hz : z ≠ -1) (hz2 : ¬ (0 ≤ z.toInt ∧ z.toInt < f 19 (r * 4 + a))) : Zm 1 zm_CG_item [.ref 0, .int (nI r), .int (nI a), .int z, .int w] Mq (fun r9 M1 => r9 = some (.int (-1)) ∧ M1 = Mq) := by
  show Zw 1 zm_CG_item 0 [some (.ref 0), some (.int (nI r)), some (.int (nI a)), some (.int z), some (.int w), none, none] [] Mq _
  have hG : SafeG (f 16 0) (f 17) (f 18) (f 19) (f 20) (f 21) (f 22) := hI.gram.safe
  have hS : SafeT (f 26 0) (f 27) (f 28) (f 29) := hI.tok.safe
  have hn8 := hG.1
  have hc20 := hS.1
  have ha4 := hG.2.2.1 r
  refine zw_n 2 rfl ?_
  refine zw_callV (as := [.int (nI r)]) (rest := []) rfl rfl rfl (hC.1 0 (by decide) (by decide) (by decide)) rfl rfl rfl (by decide) (c_isRule Mq f hC (by omega) (nI r)) (fun rz994 Mz995 hz996 => ?_)
  rw [hz996.1, hz996.2]
  show Zw 1 zm_CG_item 5 [some (.ref 0), some (.int (nI r)), some (.int (nI a)), some (.int z), some (.int w), none, none] [.int (nI (if 0 ≤ (nI r).toInt ∧ (nI r).toInt < f 16 0 then 1 else 0))] Mq _
  refine zw_eq0N (a := if 0 ≤ (nI r).toInt ∧ (nI r).toInt < f 16 0 then 1 else 0) rfl rfl (ite_b) (fun c5 => ?_) (fun c5 => ?_)
  · -- 5 to 25
    exfalso
    first | exact ite_eq0 c5 (by rw [nI_toInt (by omega)]; omega) | omega
  · -- 5 to 8
    refine zw_n 1 rfl ?_
    refine zw_lt0N (a := a) rfl rfl (by omega) ?_
    refine zw_n 2 rfl ?_
    refine zw_get (v := .ref 16) rfl (hC.1 0 (by decide) (by decide) (by decide)) rfl ?_
    refine zw_get (v := .ref 18) rfl (hC.1 16 (by decide) (by decide) (by decide)) rfl ?_
    refine zw_n 1 rfl ?_
    refine zw_iald (f := ai (f 18)) (j := r) rfl (hC.1 18 (by decide) (by decide) (by decide)) rfl (by decide) (by omega) ?_
    have bz997 := hG.2.2.1 r
    refine zw_iltN (a := a) (b := (f 18) r) rfl rfl rfl (by omega) (by omega) (fun c22 => ?_) (fun c22 => ?_)
    · -- 22 to 27
      refine zw_n 1 rfl ?_
      refine zw_get (v := .ref 16) rfl (hC.1 0 (by decide) (by decide) (by decide)) rfl ?_
      refine zw_get (v := .ref 19) rfl (hC.1 16 (by decide) (by decide) (by decide)) rfl ?_
      refine zw_n 3 rfl ?_
      refine zw_top (nm (a := r) (b := 4) rfl rfl) ?_
      refine zw_n 2 rfl ?_
      refine zw_top (na (a := r * 4) (b := a) rfl rfl) ?_
      refine zw_iald (f := ai (f 19)) (j := ((r * 4) + a)) rfl (hC.1 19 (by decide) (by decide) (by decide)) rfl (by decide) (by omega) ?_
      have bz998 := hG.2.2.2.1 ((r * 4) + a)
      refine zw_n 3 (ls' := [some (.ref 0), some (.int (nI r)), some (.int (nI a)), some (.int z), some (.int w), some (.int (nI ((f 19) ((r * 4) + a)))), none]) rfl ?_
      refine zw_ine rfl (fun c44 => ?_) (fun c44 => ?_)
      · -- 44 to 59
        refine zw_n 1 rfl ?_
        refine zw_lt0Z (a := z.toInt) rfl (rfl) (fun c60 => ?_) (fun c60 => ?_)
        · -- 60 to 69
          refine zw_n 1 rfl ?_
          exact zw_iret rfl rfl (⟨rfl, rfl⟩)
        · -- 60 to 63
          refine zw_n 2 rfl ?_
          refine zw_iltZ (a := z.toInt) (b := (((f 19) ((r * 4) + a) : Nat) : Int)) rfl (rfl) (nI_toInt (by omega)) (fun c66 => ?_) (fun c66 => ?_)
          · -- 66 to 71
            exfalso
            omega
          · -- 66 to 69
            refine zw_n 1 rfl ?_
            exact zw_iret rfl rfl (⟨rfl, rfl⟩)
      · -- 44 to 47
        exfalso
        exact hz c44
    · -- 22 to 25
      exfalso
      first | exact ite_eq0 c5 (by rw [nI_toInt (by omega)]; omega) | omega

set_option maxHeartbeats 4000000 in
set_option maxRecDepth 100000 in
theorem c_itemOk (Mq : zM) (f : Nat → Nat → Nat) (L : Nat) (hC : CC Mq f) (hI : CInv L f) (r a : Nat) (hr : r < f 16 0) (ha : a < f 18 r) (k : Nat) (w : Int32) (hk : k < f 19 (r * 4 + a)) : Zm 1 zm_CG_item [.ref 0, .int (nI r), .int (nI a), .int (nI k), .int w] Mq (fun r9 M1 => r9 = some (.int (if w = nI 0 then nI (f 20 ((r * 4 + a) * 5 + k)) else if w = nI 1 then nI (if f 21 ((r * 4 + a) * 5 + k) = NO then 0 else 1) else if w = nI 2 then nI (f 22 ((r * 4 + a) * 5 + k)) else -1)) ∧ M1 = Mq) := by
  show Zw 1 zm_CG_item 0 [some (.ref 0), some (.int (nI r)), some (.int (nI a)), some (.int (nI k)), some (.int w), none, none] [] Mq _
  have hG : SafeG (f 16 0) (f 17) (f 18) (f 19) (f 20) (f 21) (f 22) := hI.gram.safe
  have hS : SafeT (f 26 0) (f 27) (f 28) (f 29) := hI.tok.safe
  have hn8 := hG.1
  have hc20 := hS.1
  have ha4 := hG.2.2.1 r
  have hi5 := hG.2.2.2.1 (r * 4 + a)
  refine zw_n 2 rfl ?_
  refine zw_callV (as := [.int (nI r)]) (rest := []) rfl rfl rfl (hC.1 0 (by decide) (by decide) (by decide)) rfl rfl rfl (by decide) (c_isRule Mq f hC (by omega) (nI r)) (fun rz999 Mz1000 hz1001 => ?_)
  rw [hz1001.1, hz1001.2]
  show Zw 1 zm_CG_item 5 [some (.ref 0), some (.int (nI r)), some (.int (nI a)), some (.int (nI k)), some (.int w), none, none] [.int (nI (if 0 ≤ (nI r).toInt ∧ (nI r).toInt < f 16 0 then 1 else 0))] Mq _
  refine zw_eq0N (a := if 0 ≤ (nI r).toInt ∧ (nI r).toInt < f 16 0 then 1 else 0) rfl rfl (ite_b) (fun c5 => ?_) (fun c5 => ?_)
  · -- 5 to 25
    exfalso
    first | exact ite_eq0 c5 (by rw [nI_toInt (by omega)]; omega) | omega
  · -- 5 to 8
    refine zw_n 1 rfl ?_
    refine zw_lt0N (a := a) rfl rfl (by omega) ?_
    refine zw_n 2 rfl ?_
    refine zw_get (v := .ref 16) rfl (hC.1 0 (by decide) (by decide) (by decide)) rfl ?_
    refine zw_get (v := .ref 18) rfl (hC.1 16 (by decide) (by decide) (by decide)) rfl ?_
    refine zw_n 1 rfl ?_
    refine zw_iald (f := ai (f 18)) (j := r) rfl (hC.1 18 (by decide) (by decide) (by decide)) rfl (by decide) (by omega) ?_
    have bz1002 := hG.2.2.1 r
    refine zw_iltN (a := a) (b := (f 18) r) rfl rfl rfl (by omega) (by omega) (fun c22 => ?_) (fun c22 => ?_)
    · -- 22 to 27
      refine zw_n 1 rfl ?_
      refine zw_get (v := .ref 16) rfl (hC.1 0 (by decide) (by decide) (by decide)) rfl ?_
      refine zw_get (v := .ref 19) rfl (hC.1 16 (by decide) (by decide) (by decide)) rfl ?_
      refine zw_n 3 rfl ?_
      refine zw_top (nm (a := r) (b := 4) rfl rfl) ?_
      refine zw_n 2 rfl ?_
      refine zw_top (na (a := r * 4) (b := a) rfl rfl) ?_
      refine zw_iald (f := ai (f 19)) (j := ((r * 4) + a)) rfl (hC.1 19 (by decide) (by decide) (by decide)) rfl (by decide) (by omega) ?_
      have bz1003 := hG.2.2.2.1 ((r * 4) + a)
      refine zw_n 3 (ls' := [some (.ref 0), some (.int (nI r)), some (.int (nI a)), some (.int (nI k)), some (.int w), some (.int (nI ((f 19) ((r * 4) + a)))), none]) rfl ?_
      refine zw_ineM (a := k) rfl rfl (by omega) (fun c44 => ?_) (fun c44 => ?_)
      · -- 44 to 59
        refine zw_n 1 rfl ?_
        refine zw_lt0N (a := k) rfl rfl (by omega) ?_
        refine zw_n 2 rfl ?_
        refine zw_iltN (a := k) (b := (f 19) ((r * 4) + a)) rfl rfl rfl (by omega) (by omega) (fun c66 => ?_) (fun c66 => ?_)
        · -- 66 to 71
          refine zw_n 3 rfl ?_
          refine zw_top (nm (a := r) (b := 4) rfl rfl) ?_
          refine zw_n 2 rfl ?_
          refine zw_top (na (a := r * 4) (b := a) rfl rfl) ?_
          refine zw_n 2 rfl ?_
          refine zw_top (nm (a := (r * 4) + a) (b := 5) rfl rfl) ?_
          refine zw_n 2 rfl ?_
          refine zw_top (na (a := ((r * 4) + a) * 5) (b := k) rfl rfl) ?_
          refine zw_n 2 (ls' := [some (.ref 0), some (.int (nI r)), some (.int (nI a)), some (.int (nI k)), some (.int w), some (.int (nI ((f 19) ((r * 4) + a)))), some (.int (nI ((((r * 4) + a) * 5) + k)))]) rfl ?_
          refine zw_sw rfl (fun k84 hk84 c84 => ?_) (fun c84 => ?_)
          · rcases (show k84 = 0 ∨ k84 = 1 ∨ k84 = 2 by simp at hk84; omega) with rfl | rfl | rfl
            · show Zw 1 zm_CG_item 112 [some (.ref 0), some (.int (nI r)), some (.int (nI a)), some (.int (nI k)), some (.int w), some (.int (nI ((f 19) ((r * 4) + a)))), some (.int (nI ((((r * 4) + a) * 5) + k)))] [] Mq _
              refine zw_n 1 rfl ?_
              refine zw_get (v := .ref 16) rfl (hC.1 0 (by decide) (by decide) (by decide)) rfl ?_
              refine zw_get (v := .ref 20) rfl (hC.1 16 (by decide) (by decide) (by decide)) rfl ?_
              refine zw_n 1 rfl ?_
              refine zw_iald (f := ai (f 20)) (j := ((((r * 4) + a) * 5) + k)) rfl (hC.1 20 (by decide) (by decide) (by decide)) rfl (by decide) (by omega) ?_
              have bz1004 := hG.2.2.2.2.1 ((((r * 4) + a) * 5) + k)
              exact zw_iret rfl rfl (⟨by rw [if_pos c84]; try rfl, rfl⟩)
            · show Zw 1 zm_CG_item 123 [some (.ref 0), some (.int (nI r)), some (.int (nI a)), some (.int (nI k)), some (.int w), some (.int (nI ((f 19) ((r * 4) + a)))), some (.int (nI ((((r * 4) + a) * 5) + k)))] [] Mq _
              refine zw_n 1 rfl ?_
              refine zw_get (v := .ref 16) rfl (hC.1 0 (by decide) (by decide) (by decide)) rfl ?_
              refine zw_get (v := .ref 21) rfl (hC.1 16 (by decide) (by decide) (by decide)) rfl ?_
              refine zw_n 1 rfl ?_
              refine zw_iald (f := ai (f 21)) (j := ((((r * 4) + a) * 5) + k)) rfl (hC.1 21 (by decide) (by decide) (by decide)) rfl (by decide) (by omega) ?_
              have bz1005 := hG.2.2.2.2.2.1 ((((r * 4) + a) * 5) + k)
              refine zw_n 1 rfl ?_
              refine zw_ineM (a := (f 21) ((((r * 4) + a) * 5) + k)) rfl rfl (by omega) (fun c134 => ?_) (fun c134 => ?_)
              · -- 134 to 141
                refine zw_n 1 rfl ?_
                refine zw_top (x' := nI 1) (by decide) ?_
                exact zw_iret rfl rfl (⟨by rw [if_neg (by rw [c84]; decide), if_pos c84, if_neg c134]; try rfl, rfl⟩)
              · -- 134 to 137
                refine zw_n 2 rfl ?_
                refine zw_top (x' := nI 0) (by decide) ?_
                exact zw_iret rfl rfl (⟨by rw [if_neg (by rw [c84]; decide), if_pos c84, if_pos c134]; try rfl, rfl⟩)
            · show Zw 1 zm_CG_item 143 [some (.ref 0), some (.int (nI r)), some (.int (nI a)), some (.int (nI k)), some (.int w), some (.int (nI ((f 19) ((r * 4) + a)))), some (.int (nI ((((r * 4) + a) * 5) + k)))] [] Mq _
              refine zw_n 1 rfl ?_
              refine zw_get (v := .ref 16) rfl (hC.1 0 (by decide) (by decide) (by decide)) rfl ?_
              refine zw_get (v := .ref 22) rfl (hC.1 16 (by decide) (by decide) (by decide)) rfl ?_
              refine zw_n 1 rfl ?_
              refine zw_iald (f := ai (f 22)) (j := ((((r * 4) + a) * 5) + k)) rfl (hC.1 22 (by decide) (by decide) (by decide)) rfl (by decide) (by omega) ?_
              have bz1006 := hG.2.2.2.2.2.2 ((((r * 4) + a) * 5) + k)
              exact zw_iret rfl rfl (⟨by rw [if_neg (by rw [c84]; decide), if_neg (by rw [c84]; decide), if_pos c84]; try rfl, rfl⟩)
          · 
            show Zw 1 zm_CG_item 154 [some (.ref 0), some (.int (nI r)), some (.int (nI a)), some (.int (nI k)), some (.int w), some (.int (nI ((f 19) ((r * 4) + a)))), some (.int (nI ((((r * 4) + a) * 5) + k)))] [] Mq _
            refine zw_n 1 rfl ?_
            exact zw_iret rfl rfl (⟨by rw [if_neg (c84 0 (by decide)), if_neg (c84 1 (by decide)), if_neg (c84 2 (by decide))], rfl⟩)
        · -- 66 to 69
          exfalso
          omega
      · -- 44 to 47
        exfalso
        omega
    · -- 22 to 25
      exfalso
      first | exact ite_eq0 c5 (by rw [nI_toInt (by omega)]; omega) | omega

set_option maxHeartbeats 4000000 in
set_option maxRecDepth 100000 in
theorem c_count (Mq : zM) (f : Nat → Nat → Nat) (L : Nat) (hC : CC Mq f) (hI : CInv L f) (w : Int32) : Zm 2 zm_CG_count [.ref 0, .int w] Mq (fun r9 M1 => r9 = some (.int (if w = nI 0 then nI (f 16 0) else if w = nI 1 then nI (f 26 0) else if w = nI 2 then nI (cnt (fun i => decide (i = 0 ∨ f 28 (i - 1) ≠ f 28 i)) (f 26 0)) else if w = nI 3 then nI (f 0 1) else if w = nI 4 then nI (f 92 0) else if w = nI 5 then nI (f 50 0) else if w = nI 6 then nI (mxc (f 29) 0 (f 26 0)) else if w = nI 7 then nI (mnc (f 29) 0 (f 26 0)) else -1)) ∧ M1 = Mq) := by
  show Zw 2 zm_CG_count 0 [some (.ref 0), some (.int w)] [] Mq _
  have hG : SafeG (f 16 0) (f 17) (f 18) (f 19) (f 20) (f 21) (f 22) := hI.gram.safe
  have hS : SafeT (f 26 0) (f 27) (f 28) (f 29) := hI.tok.safe
  have hn8 := hG.1
  have hc20 := hS.1
  refine zw_n 1 rfl ?_
  refine zw_sw rfl (fun k1 hk1 c1 => ?_) (fun c1 => ?_)
  · rcases (show k1 = 0 ∨ k1 = 1 ∨ k1 = 2 ∨ k1 = 3 ∨ k1 = 4 ∨ k1 = 5 ∨ k1 = 6 ∨ k1 = 7 by simp at hk1; omega) with rfl | rfl | rfl | rfl | rfl | rfl | rfl | rfl
    · show Zw 2 zm_CG_count 48 [some (.ref 0), some (.int w)] [] Mq _
      refine zw_n 1 rfl ?_
      refine zw_get (v := .ref 16) rfl (hC.1 0 (by decide) (by decide) (by decide)) rfl ?_
      refine zw_get (v := .int (nI (f 16 0))) rfl (hC.1 16 (by decide) (by decide) (by decide)) rfl ?_
      exact zw_iret rfl rfl (⟨by rw [if_pos c1]; try rfl, rfl⟩)
    · show Zw 2 zm_CG_count 56 [some (.ref 0), some (.int w)] [] Mq _
      refine zw_n 1 rfl ?_
      refine zw_get (v := .ref 26) rfl (hC.1 0 (by decide) (by decide) (by decide)) rfl ?_
      refine zw_get (v := .int (nI (f 26 0))) rfl (hC.1 26 (by decide) (by decide) (by decide)) rfl ?_
      exact zw_iret rfl rfl (⟨by rw [if_neg (by rw [c1]; decide), if_pos c1]; try rfl, rfl⟩)
    · show Zw 2 zm_CG_count 64 [some (.ref 0), some (.int w)] [] Mq _
      refine zw_n 1 rfl ?_
      refine zw_get (v := .ref 26) rfl (hC.1 0 (by decide) (by decide) (by decide)) rfl ?_
      refine zw_callV (as := []) (rest := []) rfl rfl rfl (hC.1 26 (by decide) (by decide) (by decide)) rfl rfl rfl (by decide) (c_howManyLines Mq 26 (f 26 0) (f 27) (f 28) (f 29) (seg4 (hC.1 26 (by decide) (by decide) (by decide)) (hC.1 27 (by decide) (by decide) (by decide)) (hC.1 28 (by decide) (by decide) (by decide)) (hC.1 29 (by decide) (by decide) (by decide))) (by omega) (fun q => Nat.lt_trans (hS.2.2.1 q) (by decide))) (fun rz1007 Mz1008 hz1009 => ?_)
      rw [hz1009.1, hz1009.2]
      show Zw 2 zm_CG_count 71 [some (.ref 0), some (.int w)] [.int (nI (cnt (fun i => decide (i = 0 ∨ f 28 (i - 1) ≠ f 28 i)) (f 26 0)))] Mq _
      exact zw_iret rfl rfl (⟨by rw [if_neg (by rw [c1]; decide), if_neg (by rw [c1]; decide), if_pos c1]; try rfl, rfl⟩)
    · show Zw 2 zm_CG_count 72 [some (.ref 0), some (.int w)] [] Mq _
      refine zw_n 1 rfl ?_
      refine zw_get (v := .int (nI (f 0 1))) rfl (hC.1 0 (by decide) (by decide) (by decide)) rfl ?_
      exact zw_iret rfl rfl (⟨by rw [if_neg (by rw [c1]; decide), if_neg (by rw [c1]; decide), if_neg (by rw [c1]; decide), if_pos c1]; try rfl, rfl⟩)
    · show Zw 2 zm_CG_count 77 [some (.ref 0), some (.int w)] [] Mq _
      refine zw_n 1 rfl ?_
      refine zw_get (v := .ref 92) rfl (hC.1 0 (by decide) (by decide) (by decide)) rfl ?_
      refine zw_get (v := .int (nI (f 92 0))) rfl (hC.1 92 (by decide) (by decide) (by decide)) rfl ?_
      exact zw_iret rfl rfl (⟨by rw [if_neg (by rw [c1]; decide), if_neg (by rw [c1]; decide), if_neg (by rw [c1]; decide), if_neg (by rw [c1]; decide), if_pos c1]; try rfl, rfl⟩)
    · show Zw 2 zm_CG_count 85 [some (.ref 0), some (.int w)] [] Mq _
      refine zw_n 1 rfl ?_
      refine zw_get (v := .ref 50) rfl (hC.1 0 (by decide) (by decide) (by decide)) rfl ?_
      refine zw_get (v := .int (nI (f 50 0))) rfl (hC.1 50 (by decide) (by decide) (by decide)) rfl ?_
      exact zw_iret rfl rfl (⟨by rw [if_neg (by rw [c1]; decide), if_neg (by rw [c1]; decide), if_neg (by rw [c1]; decide), if_neg (by rw [c1]; decide), if_neg (by rw [c1]; decide), if_pos c1]; try rfl, rfl⟩)
    · show Zw 2 zm_CG_count 93 [some (.ref 0), some (.int w)] [] Mq _
      refine zw_n 1 rfl ?_
      refine zw_get (v := .ref 26) rfl (hC.1 0 (by decide) (by decide) (by decide)) rfl ?_
      refine zw_n 2 rfl ?_
      refine zw_get (v := .ref 26) rfl (hC.1 0 (by decide) (by decide) (by decide)) rfl ?_
      refine zw_get (v := .int (nI (f 26 0))) rfl (hC.1 26 (by decide) (by decide) (by decide)) rfl ?_
      refine zw_callV (as := [.int 0, .int (nI (f 26 0))]) (rest := []) rfl rfl rfl (hC.1 26 (by decide) (by decide) (by decide)) rfl rfl rfl (by decide) (c_greatestColumn Mq 26 (f 26 0) (f 27) (f 28) (f 29) (seg4 (hC.1 26 (by decide) (by decide) (by decide)) (hC.1 27 (by decide) (by decide) (by decide)) (hC.1 28 (by decide) (by decide) (by decide)) (hC.1 29 (by decide) (by decide) (by decide))) 0 (f 26 0) (by omega) (by omega) hS.2.2.2) (fun rz1010 Mz1011 hz1012 => ?_)
      rw [hz1012.1, hz1012.2]
      show Zw 2 zm_CG_count 108 [some (.ref 0), some (.int w)] [.int (nI (mxc (f 29) 0 (f 26 0)))] Mq _
      exact zw_iret rfl rfl (⟨by rw [if_neg (by rw [c1]; decide), if_neg (by rw [c1]; decide), if_neg (by rw [c1]; decide), if_neg (by rw [c1]; decide), if_neg (by rw [c1]; decide), if_neg (by rw [c1]; decide), if_pos c1]; try rfl, rfl⟩)
    · show Zw 2 zm_CG_count 109 [some (.ref 0), some (.int w)] [] Mq _
      refine zw_n 1 rfl ?_
      refine zw_get (v := .ref 26) rfl (hC.1 0 (by decide) (by decide) (by decide)) rfl ?_
      refine zw_n 2 rfl ?_
      refine zw_get (v := .ref 26) rfl (hC.1 0 (by decide) (by decide) (by decide)) rfl ?_
      refine zw_get (v := .int (nI (f 26 0))) rfl (hC.1 26 (by decide) (by decide) (by decide)) rfl ?_
      refine zw_callV (as := [.int 0, .int (nI (f 26 0))]) (rest := []) rfl rfl rfl (hC.1 26 (by decide) (by decide) (by decide)) rfl rfl rfl (by decide) (c_leastColumn Mq 26 (f 26 0) (f 27) (f 28) (f 29) (seg4 (hC.1 26 (by decide) (by decide) (by decide)) (hC.1 27 (by decide) (by decide) (by decide)) (hC.1 28 (by decide) (by decide) (by decide)) (hC.1 29 (by decide) (by decide) (by decide))) 0 (f 26 0) (by omega) (by omega) hS.2.2.2) (fun rz1013 Mz1014 hz1015 => ?_)
      rw [hz1015.1, hz1015.2]
      show Zw 2 zm_CG_count 124 [some (.ref 0), some (.int w)] [.int (nI (mnc (f 29) 0 (f 26 0)))] Mq _
      exact zw_iret rfl rfl (⟨by rw [if_neg (by rw [c1]; decide), if_neg (by rw [c1]; decide), if_neg (by rw [c1]; decide), if_neg (by rw [c1]; decide), if_neg (by rw [c1]; decide), if_neg (by rw [c1]; decide), if_neg (by rw [c1]; decide), if_pos c1]; try rfl, rfl⟩)
  · 
    show Zw 2 zm_CG_count 125 [some (.ref 0), some (.int w)] [] Mq _
    refine zw_n 1 rfl ?_
    exact zw_iret rfl rfl (⟨by rw [if_neg (c1 0 (by decide)), if_neg (c1 1 (by decide)), if_neg (c1 2 (by decide)), if_neg (c1 3 (by decide)), if_neg (c1 4 (by decide)), if_neg (c1 5 (by decide)), if_neg (c1 6 (by decide)), if_neg (c1 7 (by decide))], rfl⟩)

set_option maxHeartbeats 4000000 in
set_option maxRecDepth 100000 in
theorem c_whereNo (Mq : zM) (f : Nat → Nat → Nat) (L : Nat) (hC : CC Mq f) (hI : CInv L f) (x y z : Int32) (hx : ¬ (0 ≤ x.toInt ∧ x.toInt < f 16 0 ∧ 0 ≤ y.toInt ∧ y.toInt ≤ z.toInt ∧ z.toInt ≤ f 26 0)) : Zm 5 zm_CG_where [.ref 0, .int x, .int y, .int z] Mq (fun r9 M1 => r9 = some (.long (lN 0)) ∧ M1 = Mq) := by
  show Zw 5 zm_CG_where 0 [some (.ref 0), some (.int x), some (.int y), some (.int z)] [] Mq _
  have hG : SafeG (f 16 0) (f 17) (f 18) (f 19) (f 20) (f 21) (f 22) := hI.gram.safe
  have hS : SafeT (f 26 0) (f 27) (f 28) (f 29) := hI.tok.safe
  have hn8 := hG.1
  have hc20 := hS.1
  refine zw_n 2 rfl ?_
  refine zw_callV (as := [.int x]) (rest := []) rfl rfl rfl (hC.1 0 (by decide) (by decide) (by decide)) rfl rfl rfl (by decide) (c_isRule Mq f hC (by omega) x) (fun rz1016 Mz1017 hz1018 => ?_)
  rw [hz1018.1, hz1018.2]
  show Zw 5 zm_CG_where 5 [some (.ref 0), some (.int x), some (.int y), some (.int z)] [.int (nI (if 0 ≤ x.toInt ∧ x.toInt < f 16 0 then 1 else 0))] Mq _
  refine zw_eq0N (a := if 0 ≤ x.toInt ∧ x.toInt < f 16 0 then 1 else 0) rfl rfl (ite_b) (fun c5 => ?_) (fun c5 => ?_)
  · -- 5 to 28
    refine zw_n 1 rfl ?_
    refine zw_topl (x' := lN 0) (by decide) ?_
    exact zw_lret rfl rfl (⟨rfl, rfl⟩)
  · -- 5 to 8
    have hx5 := ite_ne c5
    refine zw_n 1 rfl ?_
    refine zw_lt0Z (a := y.toInt) rfl (rfl) (fun c9 => ?_) (fun c9 => ?_)
    · -- 9 to 28
      refine zw_n 1 rfl ?_
      refine zw_topl (x' := lN 0) (by decide) ?_
      exact zw_lret rfl rfl (⟨rfl, rfl⟩)
    · -- 9 to 12
      refine zw_n 2 rfl ?_
      refine zw_igtZ (a := y.toInt) (b := z.toInt) rfl (rfl) (rfl) (fun c14 => ?_) (fun c14 => ?_)
      · -- 14 to 28
        refine zw_n 1 rfl ?_
        refine zw_topl (x' := lN 0) (by decide) ?_
        exact zw_lret rfl rfl (⟨rfl, rfl⟩)
      · -- 14 to 17
        refine zw_n 2 rfl ?_
        refine zw_get (v := .ref 26) rfl (hC.1 0 (by decide) (by decide) (by decide)) rfl ?_
        refine zw_get (v := .int (nI (f 26 0))) rfl (hC.1 26 (by decide) (by decide) (by decide)) rfl ?_
        refine zw_ileZ (a := z.toInt) (b := ((f 26 0 : Nat) : Int)) rfl (rfl) (nI_toInt (by omega)) (fun c25 => ?_) (fun c25 => ?_)
        · -- 25 to 30
          exfalso
          omega
        · -- 25 to 28
          refine zw_n 1 rfl ?_
          refine zw_topl (x' := lN 0) (by decide) ?_
          exact zw_lret rfl rfl (⟨rfl, rfl⟩)

set_option maxHeartbeats 4000000 in
set_option maxRecDepth 100000 in
theorem c_whereOk (Mq : zM) (f : Nat → Nat → Nat) (L : Nat) (hC : CC Mq f) (hI : CInv L f) (r i j : Nat) (hr : r < f 16 0) (hi : i ≤ j) (hj : j ≤ f 26 0) : Zm 5 zm_CG_where [.ref 0, .int (nI r), .int (nI i), .int (nI j)] Mq (fun r9 M1 => r9 = some (.long (lN (wh (eAt f 16 26) (f 16 0) r i j))) ∧ ∃ f9, CC M1 f9 ∧ CInv L f9 ∧ Smc Mq M1 ∧ Asame f f9) := by
  show Zw 5 zm_CG_where 0 [some (.ref 0), some (.int (nI r)), some (.int (nI i)), some (.int (nI j))] [] Mq _
  have hG : SafeG (f 16 0) (f 17) (f 18) (f 19) (f 20) (f 21) (f 22) := hI.gram.safe
  have hS : SafeT (f 26 0) (f 27) (f 28) (f 29) := hI.tok.safe
  have hn8 := hG.1
  have hc20 := hS.1
  obtain ⟨emp, rk, hA⟩ := hI.gram.acy
  refine zw_n 2 rfl ?_
  refine zw_callV (as := [.int (nI r)]) (rest := []) rfl rfl rfl (hC.1 0 (by decide) (by decide) (by decide)) rfl rfl rfl (by decide) (c_isRule Mq f hC (by omega) (nI r)) (fun rz1019 Mz1020 hz1021 => ?_)
  rw [hz1021.1, hz1021.2]
  show Zw 5 zm_CG_where 5 [some (.ref 0), some (.int (nI r)), some (.int (nI i)), some (.int (nI j))] [.int (nI (if 0 ≤ (nI r).toInt ∧ (nI r).toInt < f 16 0 then 1 else 0))] Mq _
  refine zw_eq0N (a := if 0 ≤ (nI r).toInt ∧ (nI r).toInt < f 16 0 then 1 else 0) rfl rfl (ite_b) (fun c5 => ?_) (fun c5 => ?_)
  · -- 5 to 28
    exfalso
    first | exact ite_eq0 c5 (by rw [nI_toInt (by omega)]; omega) | omega
  · -- 5 to 8
    refine zw_n 1 rfl ?_
    refine zw_lt0N (a := i) rfl rfl (by omega) ?_
    refine zw_n 2 rfl ?_
    refine zw_igtN (a := i) (b := j) rfl rfl rfl (by omega) (by omega) (fun c14 => ?_) (fun c14 => ?_)
    · -- 14 to 28
      exfalso
      first | exact ite_eq0 c5 (by rw [nI_toInt (by omega)]; omega) | omega
    · -- 14 to 17
      refine zw_n 2 rfl ?_
      refine zw_get (v := .ref 26) rfl (hC.1 0 (by decide) (by decide) (by decide)) rfl ?_
      refine zw_get (v := .int (nI (f 26 0))) rfl (hC.1 26 (by decide) (by decide) (by decide)) rfl ?_
      refine zw_ileN (a := j) (b := f 26 0) rfl rfl rfl (by omega) (by omega) (fun c25 => ?_) (fun c25 => ?_)
      · -- 25 to 30
        refine zw_n 1 rfl ?_
        refine zw_get (v := .ref 34) rfl (hC.1 0 (by decide) (by decide) (by decide)) rfl ?_
        refine zw_callV (as := []) (rest := []) rfl rfl rfl (hC.1 34 (by decide) (by decide) (by decide)) rfl rfl rfl (by decide) (c_readOnce Mq 34 16 26 (f 34 2) (f 35) (f 36) (f 16 0) (f 16 7) (f 17) (f 18) (f 19) (f 20) (f 21) (f 22) (f 23) (f 24) (f 25) (f 26 0) (f 27) (f 28) (f 29) (seg3 (hC.1 34 (by decide) (by decide) (by decide)) (hC.1 35 (by decide) (by decide) (by decide)) (hC.1 36 (by decide) (by decide) (by decide))) (seg10 (hC.1 16 (by decide) (by decide) (by decide)) (hC.1 17 (by decide) (by decide) (by decide)) (hC.1 18 (by decide) (by decide) (by decide)) (hC.1 19 (by decide) (by decide) (by decide)) (hC.1 20 (by decide) (by decide) (by decide)) (hC.1 21 (by decide) (by decide) (by decide)) (hC.1 22 (by decide) (by decide) (by decide)) (hC.1 23 (by decide) (by decide) (by decide)) (hC.1 24 (by decide) (by decide) (by decide)) (hC.1 25 (by decide) (by decide) (by decide))) (seg4 (hC.1 26 (by decide) (by decide) (by decide)) (hC.1 27 (by decide) (by decide) (by decide)) (hC.1 28 (by decide) (by decide) (by decide)) (hC.1 29 (by decide) (by decide) (by decide))) hG hS hI.csw hI.csr (by omega) emp rk hA hI.cst hI.cok) (fun rz1030 Mz1031 hz1032 => ?_)
        obtain ⟨hAz1022, Wz1023, Rz1024, hBz1025, hSz1026, hDz1027, hEz1028, hFz1029⟩ := hz1032
        rw [hAz1022]
        show Zw 5 zm_CG_where 37 [some (.ref 0), some (.int (nI r)), some (.int (nI i)), some (.int (nI j))] [.int (nI (if 0 < (f 16 0) ∧ wh (gE (f 18) (f 19) (f 21) (f 20) (f 22) (f 27) (f 29)) (f 16 0) 0 0 (f 26 0) ≠ 0 then 1 else 0))] Mz1031 _
        refine zw_n 2 rfl ?_
        refine zw_get (v := .ref 34) rfl (Sm.at hSz1026 (by decide) (hC.1 0 (by decide) (by decide) (by decide))) rfl ?_
        refine zw_n 3 rfl ?_
        refine zw_callV (as := [.int (nI r), .int (nI i), .int (nI j)]) (rest := []) rfl rfl rfl (hBz1025.get 0 rfl) rfl rfl rfl (by decide) (c_columnsOver Mz1031 34 16 26 1 Wz1023 Rz1024 (f 16 0) (f 16 7) (f 17) (f 18) (f 19) (f 20) (f 21) (f 22) (f 23) (f 24) (f 25) (f 26 0) (f 27) (f 28) (f 29) (seg3 (hBz1025.get 0 rfl) (hBz1025.get 1 rfl) (hBz1025.get 2 rfl)) (seg10 (Sm.at hSz1026 (by decide) (hC.1 16 (by decide) (by decide) (by decide))) (Sm.at hSz1026 (by decide) (hC.1 17 (by decide) (by decide) (by decide))) (Sm.at hSz1026 (by decide) (hC.1 18 (by decide) (by decide) (by decide))) (Sm.at hSz1026 (by decide) (hC.1 19 (by decide) (by decide) (by decide))) (Sm.at hSz1026 (by decide) (hC.1 20 (by decide) (by decide) (by decide))) (Sm.at hSz1026 (by decide) (hC.1 21 (by decide) (by decide) (by decide))) (Sm.at hSz1026 (by decide) (hC.1 22 (by decide) (by decide) (by decide))) (Sm.at hSz1026 (by decide) (hC.1 23 (by decide) (by decide) (by decide))) (Sm.at hSz1026 (by decide) (hC.1 24 (by decide) (by decide) (by decide))) (Sm.at hSz1026 (by decide) (hC.1 25 (by decide) (by decide) (by decide)))) (seg4 (Sm.at hSz1026 (by decide) (hC.1 26 (by decide) (by decide) (by decide))) (Sm.at hSz1026 (by decide) (hC.1 27 (by decide) (by decide) (by decide))) (Sm.at hSz1026 (by decide) (hC.1 28 (by decide) (by decide) (by decide))) (Sm.at hSz1026 (by decide) (hC.1 29 (by decide) (by decide) (by decide)))) hG hS (by assumption) (by assumption) r i j (by omega) (by omega) (by omega)) (fun rz1033 Mz1034 hz1035 => ?_)
        rw [hz1035.1, hz1035.2]
        show Zw 5 zm_CG_where 48 [some (.ref 0), some (.int (nI r)), some (.int (nI i)), some (.int (nI j))] [.long (lN (w3 Wz1023 r i j))] Mz1031 _
        exact zw_lret rfl rfl (⟨by rw [hFz1029 r i j hr hi hj], fset (fset (fset f 36 Rz1024) 35 Wz1023) 34 (up (f 34) 2 1), (CC.of (f' := fset (fset (fset f 36 Rz1024) 35 Wz1023) 34 (up (f 34) 2 1)) hC (Sm.trans Sm.rf hSz1026) ⟨by decide, by decide⟩ (d1_cons (hBz1025.get 0 rfl) (d1_cons (hBz1025.get 1 rfl) (d1_cons (hBz1025.get 2 rfl) d1_nil))) (fs_c (fs_c (fs_c fs_n)))), ⟨⟨hI.tl, hI.tx, hI.gram, hI.tok, hI.bef, hI.grn, hI.mvd, hI.hsz, hI.hen, hI.past, hI.lln, hI.kh, hI.kg, hI.kt, Nat.le_refl _, hDz1027, hEz1028, hI.ost, hI.osw, hI.osr, hI.tst, hI.rkn, hI.fnd, hI.ofs⟩, (fun _ => hFz1029), hI.blm, hI.tre, hI.rep⟩, (Smc.of (S := [34, 35, 36]) (Sm.trans Sm.rf hSz1026) (by decide)), Asame.of (fs_c (fs_c (fs_c fs_n))) rfl (by decide)⟩)
      · -- 25 to 28
        exfalso
        first | exact ite_eq0 c5 (by rw [nI_toInt (by omega)]; omega) | omega
