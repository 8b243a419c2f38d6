set_option maxHeartbeats 4000000 in
set_option maxRecDepth 100000 in
theorem c_partsOf (Mq : zM) (b m : Nat) (hb : b < 2147483648) (hm : m < 1099511627776) : Zm 0 zm_CG_partsOf [.int (nI b), .long (lN m)] Mq (fun r M1 => r = some (.long (lN (prtN b m))) ∧ M1 = Mq) := by
  show Zw 0 zm_CG_partsOf 0 [some (.int (nI b)), some (.long (lN m)), none, none, none] [] Mq _
  refine zw_n 3 rfl ?_
  refine zw_leqN (a := m) (b := 0) rfl rfl rfl (by omega) (by omega) (fun c3 => ?_) (fun c3 => ?_)
  · -- 3 to 12
    refine zw_n 1 rfl ?_
    exact zw_lret rfl rfl (⟨by unfold prtN; by_cases q : m = 0; (rw [if_pos q, q]); rw [if_neg q]; first | rw [if_pos c9] | exact absurd c3 q, rfl⟩)
  · -- 3 to 6
    refine zw_n 2 rfl ?_
    refine zw_ineN (a := b) (b := 61) rfl rfl rfl (by omega) (by omega) (fun c9 => ?_) (fun c9 => ?_)
    · -- 9 to 14
      refine zw_n 2 rfl ?_
      refine zw_ineN (a := b) (b := 42) rfl rfl rfl (by omega) (by omega) (fun c17 => ?_) (fun c17 => ?_)
      · -- 17 to 24
        obtain ⟨hl1, -, -⟩ := lsb_sp c3 hm
        refine zw_n 3 rfl ?_
        refine zw_topl (x' := (lN (18446744073709551616 - m))) (lneg (by omega)) ?_
        refine zw_n 1 rfl ?_
        refine zw_topl (lan (a := m) (b := 18446744073709551616 - m) rfl rfl) ?_
        refine zw_topl (x' := (lN (2 ^ lsb m))) (congrArg lN (low_and c3 hm)) ?_
        refine zw_n 4 (ls' := [some (.int (nI b)), some (.long (lN m)), none, some (.long (lN (2 ^ lsb m))), none]) rfl ?_
        refine zw_ineN (a := b) (b := 62) rfl rfl rfl (by omega) (by omega) (fun c35 => ?_) (fun c35 => ?_)
        · -- 35 to 45
          refine zw_n 2 rfl ?_
          refine zw_topl (x' := (lN (18446744073709551616 - 2 ^ lsb m))) (lneg (Nat.lt_of_lt_of_le (Nat.pow_lt_pow_right (by decide) (show lsb m < 41 by omega)) (by decide))) ?_
          refine zw_n 1 rfl ?_
          refine zw_topl (lan (a := 1099511627775) (b := 18446744073709551616 - 2 ^ lsb m) rfl rfl) ?_
          refine zw_topl (x' := (lN (prtN b m))) (congrArg lN ((hi_and (by omega)).trans (by unfold prtN; rw [if_neg c3, if_neg c9, if_neg c17]; first | rw [if_pos c35] | rw [if_neg c35]))) ?_
          exact zw_lret rfl rfl (⟨rfl, rfl⟩)
        · -- 35 to 38
          refine zw_n 3 rfl ?_
          refine zw_topl (x' := (lN (2 ^ (lsb m + 1)))) ((ladd2).trans (congrArg lN (by rw [← Nat.two_mul, Nat.pow_succ, Nat.mul_comm]))) ?_
          refine zw_n 1 rfl ?_
          refine zw_topl (x' := (lN (18446744073709551616 - 2 ^ (lsb m + 1)))) (lneg (Nat.lt_of_lt_of_le (Nat.pow_lt_pow_right (by decide) (show lsb m + 1 < 41 by omega)) (by decide))) ?_
          refine zw_n 2 rfl ?_
          refine zw_topl (lan (a := 1099511627775) (b := 18446744073709551616 - 2 ^ (lsb m + 1)) rfl rfl) ?_
          refine zw_topl (x' := (lN (prtN b m))) (congrArg lN ((hi_and (by omega)).trans (by unfold prtN; rw [if_neg c3, if_neg c9, if_neg c17]; first | rw [if_pos c35] | rw [if_neg c35]))) ?_
          exact zw_lret rfl rfl (⟨rfl, rfl⟩)
      · -- 17 to 20
        refine zw_n 1 rfl ?_
        refine zw_topl (x' := lN 1099511627775) (by decide) ?_
        exact zw_lret rfl rfl (⟨by unfold prtN; rw [if_neg c3, if_neg c9, if_pos c17]; try rfl, rfl⟩)
    · -- 9 to 12
      refine zw_n 1 rfl ?_
      exact zw_lret rfl rfl (⟨by unfold prtN; by_cases q : m = 0; (rw [if_pos q, q]); rw [if_neg q]; first | rw [if_pos c9] | exact absurd c3 q, rfl⟩)

set_option maxHeartbeats 4000000 in
set_option maxRecDepth 100000 in
theorem c_hasColumn (Mq : zM) (m c : Nat) (hm : m < 1099511627776) (hc : c < 64) : Zm 0 zm_CG_hasColumn [.long (lN m), .int (nI c)] Mq (fun r M1 => r = some (.int (nI (if m.testBit c = true then 1 else 0))) ∧ M1 = Mq) := by
  show Zw 0 zm_CG_hasColumn 0 [some (.long (lN m)), none, some (.int (nI c))] [] Mq _
  refine zw_n 3 rfl ?_
  refine zw_topl (x' := (lN (m / 2 ^ c))) (lsr rfl rfl (by omega) hc) ?_
  refine zw_n 2 rfl ?_
  refine zw_topl (lan (a := m / 2 ^ c) (b := 1) rfl rfl) ?_
  refine zw_topl (x' := (lN (m / 2 ^ c % 2))) (congrArg lN (Nat.and_one_is_mod _)) ?_
  refine zw_n 2 rfl ?_
  refine zw_leqN (a := m / 2 ^ c % 2) (b := 0) rfl rfl rfl (by omega) (by omega) (fun c7 => ?_) (fun c7 => ?_)
  · -- 7 to 14
    refine zw_n 1 rfl ?_
    exact zw_zret rfl rfl (Or.inl rfl) (⟨by rw [bit_and1] at c7; rw [if_neg (ite_eq0 c7)]; rfl, rfl⟩)
  · -- 7 to 10
    refine zw_n 2 rfl ?_
    exact zw_zret rfl rfl (Or.inr rfl) (⟨by rw [bit_and1] at c7; rw [if_pos (ite_ne c7)]; rfl, rfl⟩)

set_option maxHeartbeats 4000000 in
set_option maxRecDepth 100000 in
theorem c_bitCount (Mq : zM) (m : Nat) (hm : m < 1099511627776) : Zm 0 zm_Long_bitCount [.long (lN m)] Mq (fun r M1 => r = some (.int (nI (bc m))) ∧ M1 = Mq) := by
  show Zw 0 zm_Long_bitCount 0 [some (.long (lN m)), none] [] Mq _
  obtain ⟨hw1, hw2, hw3, hw4, hw5⟩ := bc_count (m := m) (y := btS m + btS m / 2 ^ 8) (z := (btS m + btS m / 2 ^ 8) + (btS m + btS m / 2 ^ 8) / 2 ^ 16) (w := ((btS m + btS m / 2 ^ 8) + (btS m + btS m / 2 ^ 8) / 2 ^ 16) + ((btS m + btS m / 2 ^ 8) + (btS m + btS m / 2 ^ 8) / 2 ^ 16) / 2 ^ 32) hm rfl rfl rfl
  have hb1 : bs1 6148914691236517205 m ≤ m := Nat.sub_le _ _
  have hb2 : bs2 3689348814741910323 (bs1 6148914691236517205 m) < 18446744073709551616 := Nat.lt_of_le_of_lt (Nat.add_le_add Nat.and_le_right Nat.and_le_right) (by decide)
  have hb4 := bc_lt m
  refine zw_n 4 rfl ?_
  refine zw_topl (x' := (lN (m / 2 ^ 1))) (lsr (k := 1) rfl rfl (by omega) (by decide)) ?_
  refine zw_n 2 rfl ?_
  refine zw_topl (lan (a := m / 2 ^ 1) (b := 6148914691236517205) rfl rfl) ?_
  refine zw_topl (x' := (lN ((m / 2) &&& 6148914691236517205))) (rfl) ?_
  refine zw_n 1 rfl ?_
  refine zw_topl (x' := (lN (bs1 6148914691236517205 m))) (lsub2 (Nat.le_trans Nat.and_le_left (Nat.div_le_self _ _))) ?_
  refine zw_n 4 (ls' := [some (.long (lN (bs1 6148914691236517205 m))), none]) rfl ?_
  refine zw_topl (lan (a := bs1 6148914691236517205 m) (b := 3689348814741910323) rfl rfl) ?_
  refine zw_topl (x' := (lN ((bs1 6148914691236517205 m) &&& 3689348814741910323))) (rfl) ?_
  refine zw_n 3 rfl ?_
  refine zw_topl (x' := (lN ((bs1 6148914691236517205 m) / 2 ^ 2))) (lsr (k := 2) rfl rfl (by omega) (by decide)) ?_
  refine zw_n 2 rfl ?_
  refine zw_topl (lan (a := (bs1 6148914691236517205 m) / 2 ^ 2) (b := 3689348814741910323) rfl rfl) ?_
  refine zw_topl (x' := (lN (((bs1 6148914691236517205 m) / 4) &&& 3689348814741910323))) (rfl) ?_
  refine zw_n 1 rfl ?_
  refine zw_topl (x' := (lN (bs2 3689348814741910323 (bs1 6148914691236517205 m)))) (ladd2) ?_
  refine zw_n 5 (ls' := [some (.long (lN (bs2 3689348814741910323 (bs1 6148914691236517205 m)))), none]) rfl ?_
  refine zw_topl (x' := (lN ((bs2 3689348814741910323 (bs1 6148914691236517205 m)) / 2 ^ 4))) (lsr (k := 4) rfl rfl (by omega) (by decide)) ?_
  refine zw_n 1 rfl ?_
  refine zw_topl (x' := (lN (bs2 3689348814741910323 (bs1 6148914691236517205 m) + (bs2 3689348814741910323 (bs1 6148914691236517205 m)) / 16))) (ladd2) ?_
  refine zw_n 2 rfl ?_
  refine zw_topl (lan (a := bs2 3689348814741910323 (bs1 6148914691236517205 m) + (bs2 3689348814741910323 (bs1 6148914691236517205 m)) / 16) (b := 1085102592571150095) rfl rfl) ?_
  refine zw_topl (x' := (lN (btS m))) (rfl) ?_
  refine zw_n 5 (ls' := [some (.long (lN (btS m))), none]) rfl ?_
  refine zw_topl (x' := (lN (btS m / 2 ^ 8))) (lsr (k := 8) rfl rfl (by omega) (by decide)) ?_
  refine zw_n 1 rfl ?_
  refine zw_topl (x' := (lN (btS m + btS m / 2 ^ 8))) (ladd2) ?_
  refine zw_n 5 (ls' := [some (.long (lN (btS m + btS m / 2 ^ 8))), none]) rfl ?_
  refine zw_topl (x' := (lN ((btS m + btS m / 2 ^ 8) / 2 ^ 16))) (lsr (k := 16) rfl rfl (by omega) (by decide)) ?_
  refine zw_n 1 rfl ?_
  refine zw_topl (x' := (lN ((btS m + btS m / 2 ^ 8) + (btS m + btS m / 2 ^ 8) / 2 ^ 16))) (ladd2) ?_
  refine zw_n 5 (ls' := [some (.long (lN ((btS m + btS m / 2 ^ 8) + (btS m + btS m / 2 ^ 8) / 2 ^ 16))), none]) rfl ?_
  refine zw_topl (x' := (lN (((btS m + btS m / 2 ^ 8) + (btS m + btS m / 2 ^ 8) / 2 ^ 16) / 2 ^ 32))) (lsr (k := 32) rfl rfl (by omega) (by decide)) ?_
  refine zw_n 1 rfl ?_
  refine zw_topl (x' := (lN (((btS m + btS m / 2 ^ 8) + (btS m + btS m / 2 ^ 8) / 2 ^ 16) + ((btS m + btS m / 2 ^ 8) + (btS m + btS m / 2 ^ 8) / 2 ^ 16) / 2 ^ 32))) (ladd2) ?_
  refine zw_n 3 (ls' := [some (.long (lN (((btS m + btS m / 2 ^ 8) + (btS m + btS m / 2 ^ 8) / 2 ^ 16) + ((btS m + btS m / 2 ^ 8) + (btS m + btS m / 2 ^ 8) / 2 ^ 16) / 2 ^ 32))), none]) rfl ?_
  refine zw_top (x' := (nI ((((btS m + btS m / 2 ^ 8) + (btS m + btS m / 2 ^ 8) / 2 ^ 16) + ((btS m + btS m / 2 ^ 8) + (btS m + btS m / 2 ^ 8) / 2 ^ 16) / 2 ^ 32) % 4294967296))) (l2iN _) ?_
  refine zw_n 2 rfl ?_
  refine zw_top (x' := (nI (bc m))) ((iand127 _).trans (congrArg nI (by rw [← hw1]; omega))) ?_
  exact zw_iret rfl rfl (⟨rfl, rfl⟩)

set_option maxHeartbeats 4000000 in
set_option maxRecDepth 100000 in
theorem c_leastOf (Mq : zM) (m : Nat) (h0 : m ≠ 0) (hm : m < 1099511627776) : Zm 1 zm_CG_leastOf [.long (lN m)] Mq (fun r M1 => r = some (.int (nI (lsb m))) ∧ M1 = Mq) := by
  show Zw 1 zm_CG_leastOf 0 [some (.long (lN m)), none] [] Mq _
  obtain ⟨hl1, -, -⟩ := lsb_sp h0 hm
  have hpw : 2 ^ lsb m ≤ 2 ^ 40 := Nat.pow_le_pow_right (by decide) (by omega)
  have hpp : 0 < 2 ^ lsb m := Nat.two_pow_pos _
  refine zw_n 3 rfl ?_
  refine zw_topl (x' := (lN (18446744073709551616 - m))) (lneg (by omega)) ?_
  refine zw_n 1 rfl ?_
  refine zw_topl (lan (a := m) (b := 18446744073709551616 - m) rfl rfl) ?_
  refine zw_topl (x' := (lN (2 ^ lsb m))) (congrArg lN (low_and h0 hm)) ?_
  refine zw_n 2 rfl ?_
  refine zw_topl (x' := (lN (2 ^ lsb m - 1))) (lsub2 (a := 2 ^ lsb m) (b := 1) (by omega)) ?_
  refine zw_callS (as := [.long (lN (2 ^ lsb m - 1))]) (rest := []) rfl rfl rfl rfl rfl rfl (by decide) (c_bitCount _ _ (Nat.lt_of_lt_of_le (Nat.sub_lt hpp (by decide)) hpw)) (fun rz3760 Mz3761 hz3762 => ?_)
  rw [hz3762.1, hz3762.2]
  show Zw 1 zm_CG_leastOf 9 [some (.long (lN m)), none] [.int (nI (bc (2 ^ lsb m - 1)))] Mq _
  exact zw_iret rfl rfl (⟨by rw [bc_low (by omega)], rfl⟩)

set_option maxHeartbeats 4000000 in
set_option maxRecDepth 100000 in
theorem c_openN (Mq : zM) (s : Nat) (W R : Nat → Nat) (n em : Nat) (gn al_ it pt tg bd fr af fb : Nat → Nat) (c : Nat) (sg li co : Nat → Nat) (hC : Seg Mq 34 (chtL 34 16 26 s W R)) (hR : Seg Mq 16 (rulL 16 (n, gn, al_, it, pt, tg, bd, em, fr, af, fb))) (hT : Seg Mq 26 (tokL 26 (c, sg, li, co))) (hG : SafeG n gn al_ it pt tg bd) (hS : SafeT c sg li co) (hW : SafeM W) (hQ : SafeM R) (m9 s9 F : Nat) (O : Nat → Nat) (h43 : Mq[43]? = some (.inr (6, [.ref 34, .ref 44, .int (nI m9), .int (nI s9), .long (lN F)]))) (h44 : Mq[44]? = some (.inl (1, 168, .inr (.inl (al O))))) (x p pp : Nat) (hx : x < 160) (hp : p < 21) (hpp : pp < 1099511627776) (hO : SafeM O) (hne : tg x ≠ NO) : Zm 1 zm_Outlook_openItem [.ref 43, .int (nI x), .int (nI p), .long (lN pp)] Mq (fun r9 M1 => ∃ b, r9 = some (.int (nI b)) ∧ b ≤ 1 ∧ (b = 0 → bitsub pp (O (tg x * 21 + p))) ∧ M1[44]? = some (.inl (1, 168, .inr (.inl (al (up O (tg x * 21 + p) (O (tg x * 21 + p) ||| pp)))))) ∧ Sm Mq M1 [44]) := by
  show Zw 1 zm_Outlook_openItem 0 [some (.ref 43), some (.int (nI x)), some (.int (nI p)), some (.long (lN pp)), none, none, none, none] [] Mq _
  have ht8 : tg x < 8 := (hG.2.2.2.2.2.1 x).resolve_left hne
  refine zw_n 1 rfl ?_
  refine zw_get (v := .ref 34) rfl h43 rfl ?_
  refine zw_get (v := .ref 16) rfl (hC.get 0 rfl) rfl ?_
  refine zw_get (v := .ref 21) rfl (hR.get 0 rfl) rfl ?_
  refine zw_n 1 rfl ?_
  refine zw_iald (f := ai tg) (j := x) rfl (hR.get 5 rfl) rfl (by decide) (by omega) ?_
  have bz3763 := hG.2.2.2.2.2.1 x
  refine zw_n 3 (ls' := [some (.ref 43), some (.int (nI x)), some (.int (nI p)), some (.long (lN pp)), none, some (.int (nI (tg x))), none, none]) rfl ?_
  refine zw_ineM (a := tg x) rfl rfl (by omega) (fun c17 => ?_) (fun c17 => ?_)
  · -- 17 to 82
    refine zw_n 1 rfl ?_
    refine zw_get (v := .ref 44) rfl h43 rfl ?_
    refine zw_n 3 rfl ?_
    refine zw_top (nm (a := tg x) (b := 21) rfl rfl) ?_
    refine zw_n 2 rfl ?_
    refine zw_top (na (a := (tg x) * 21) (b := p) rfl rfl) ?_
    refine zw_lald (f := al O) (j := (((tg x) * 21) + p)) rfl h44 rfl (by decide) (by omega) ?_
    have bz3764 := hO (((tg x) * 21) + p)
    refine zw_n 2 (ls' := [some (.ref 43), some (.int (nI x)), some (.int (nI p)), some (.long (lN pp)), none, some (.int (nI (tg x))), some (.long (lN (O (((tg x) * 21) + p)))), none]) rfl ?_
    refine zw_get (v := .ref 44) rfl h43 rfl ?_
    refine zw_n 3 rfl ?_
    refine zw_top (nm (a := tg x) (b := 21) rfl rfl) ?_
    refine zw_n 2 rfl ?_
    refine zw_top (na (a := (tg x) * 21) (b := p) rfl rfl) ?_
    refine zw_n 3 rfl ?_
    refine zw_topl (lo (a := O (((tg x) * 21) + p)) (b := pp) rfl rfl) ?_
    refine zw_lastN (g := O) (j := (((tg x) * 21) + p)) (v := ((O (((tg x) * 21) + p)) ||| pp)) rfl h44 rfl (by decide) (by omega) (rfl) ?_
    generalize ez3766 : List.set Mq 44 _ = Mz3765
    refine zw_n 7 rfl ?_
    refine zw_leq rfl (fun c122 => ?_) (fun c122 => ?_)
    · -- 122 to 129
      refine zw_n 1 rfl ?_
      exact zw_zret rfl rfl (Or.inl rfl) (⟨0, rfl, by decide, fun _ => nand0 hpp (hO _) c122, zat_self ez3766 h44, Sm.tset Sm.rf ez3766 (by decide)⟩)
    · -- 122 to 125
      refine zw_n 2 rfl ?_
      exact zw_zret rfl rfl (Or.inr rfl) (⟨1, rfl, by decide, fun q => by omega, zat_self ez3766 h44, Sm.tset Sm.rf ez3766 (by decide)⟩)
  · -- 17 to 20
    exfalso
    exact hne c17

set_option maxHeartbeats 4000000 in
set_option maxRecDepth 100000 in
theorem c_openS (Mq : zM) (s : Nat) (W R : Nat → Nat) (n em : Nat) (gn al_ it pt tg bd fr af fb : Nat → Nat) (c : Nat) (sg li co : Nat → Nat) (hC : Seg Mq 34 (chtL 34 16 26 s W R)) (hR : Seg Mq 16 (rulL 16 (n, gn, al_, it, pt, tg, bd, em, fr, af, fb))) (hT : Seg Mq 26 (tokL 26 (c, sg, li, co))) (hG : SafeG n gn al_ it pt tg bd) (hS : SafeT c sg li co) (hW : SafeM W) (hQ : SafeM R) (m9 s9 F : Nat) (O : Nat → Nat) (h43 : Mq[43]? = some (.inr (6, [.ref 34, .ref 44, .int (nI m9), .int (nI s9), .long (lN F)]))) (h44 : Mq[44]? = some (.inl (1, 168, .inr (.inl (al O))))) (x p pp : Nat) (hx : x < 160) (hp : p < 21) (hm9 : m9 < 21) (hs9 : s9 < 128) (hne : tg x = NO) : Zm 1 zm_Outlook_openItem [.ref 43, .int (nI x), .int (nI p), .long (lN pp)] Mq (fun r9 M1 => r9 = some (.int 0) ∧ M1[43]? = some (.inr (6, [.ref 34, .ref 44, .int (nI m9), .int (nI s9), .long (lN (F ||| if p = m9 ∧ (s9 = 0 ∨ pt x = s9) then pp else 0))])) ∧ Sm Mq M1 [43]) := by
  show Zw 1 zm_Outlook_openItem 0 [some (.ref 43), some (.int (nI x)), some (.int (nI p)), some (.long (lN pp)), none, none, none, none] [] Mq _
  refine zw_n 1 rfl ?_
  refine zw_get (v := .ref 34) rfl h43 rfl ?_
  refine zw_get (v := .ref 16) rfl (hC.get 0 rfl) rfl ?_
  refine zw_get (v := .ref 21) rfl (hR.get 0 rfl) rfl ?_
  refine zw_n 1 rfl ?_
  refine zw_iald (f := ai tg) (j := x) rfl (hR.get 5 rfl) rfl (by decide) (by omega) ?_
  have bz3767 := hG.2.2.2.2.2.1 x
  refine zw_n 3 (ls' := [some (.ref 43), some (.int (nI x)), some (.int (nI p)), some (.long (lN pp)), none, some (.int (nI (tg x))), none, none]) rfl ?_
  refine zw_ineM (a := tg x) rfl rfl (by rw [hne]; decide) (fun c17 => ?_) (fun c17 => ?_)
  · -- 17 to 82
    exfalso
    exact c17 hne
  · -- 17 to 20
    have j20 : Zw 1 zm_Outlook_openItem 51 [some (.ref 43), some (.int (nI x)), some (.int (nI p)), some (.long (lN pp)), none, some (.int (nI (tg x))), none, none] [.int (nI (if s9 = 0 ∨ pt x = s9 then 1 else 0))] Mq (fun r9 M1 => r9 = some (.int 0) ∧ M1[43]? = some (.inr (6, [.ref 34, .ref 44, .int (nI m9), .int (nI s9), .long (lN (F ||| if p = m9 ∧ (s9 = 0 ∨ pt x = s9) then pp else 0))])) ∧ Sm Mq M1 [43]) := by
      refine zw_n 3 (ls' := [some (.ref 43), some (.int (nI x)), some (.int (nI p)), some (.long (lN pp)), none, some (.int (nI (tg x))), some (.int (nI (if s9 = 0 ∨ pt x = s9 then 1 else 0))), none]) rfl ?_
      refine zw_get (v := .long (lN F)) rfl h43 rfl ?_
      have j58 : Zw 1 zm_Outlook_openItem 76 [some (.ref 43), some (.int (nI x)), some (.int (nI p)), some (.long (lN pp)), none, some (.int (nI (tg x))), some (.int (nI (if s9 = 0 ∨ pt x = s9 then 1 else 0))), none] [.long (lN (if p = m9 ∧ (s9 = 0 ∨ pt x = s9) then pp else 0)), .long (lN F), .ref 43] Mq (fun r9 M1 => r9 = some (.int 0) ∧ M1[43]? = some (.inr (6, [.ref 34, .ref 44, .int (nI m9), .int (nI s9), .long (lN (F ||| if p = m9 ∧ (s9 = 0 ∨ pt x = s9) then pp else 0))])) ∧ Sm Mq M1 [43]) := by
        refine zw_n 1 rfl ?_
        refine zw_topl (lo (a := F) (b := if p = m9 ∧ (s9 = 0 ∨ pt x = s9) then pp else 0) rfl rfl) ?_
        refine zw_put rfl h43 (rfl) (Nat.le_of_ble_eq_true rfl) ?_
        generalize ez3769 : List.set Mq 43 _ = Mz3768
        refine zw_n 1 rfl ?_
        exact zw_zret rfl rfl (Or.inl rfl) (⟨rfl, zat_self ez3769 h43, Sm.tset Sm.rf ez3769 (by decide)⟩)
      refine zw_n 2 rfl ?_
      refine zw_get (v := .int (nI m9)) rfl h43 rfl ?_
      refine zw_ineN (a := p) (b := m9) rfl rfl rfl (by omega) (by omega) (fun c63 => ?_) (fun c63 => ?_)
      · -- 63 to 75
        refine zw_n 1 rfl ?_
        refine zw_topl (x' := lN (if p = m9 ∧ (s9 = 0 ∨ pt x = s9) then pp else 0)) (show lN 0 = lN (if p = m9 ∧ (s9 = 0 ∨ pt x = s9) then pp else 0) by rw [if_neg (fun q9 => by first | exact c63 q9.1 | exact ite_eq0 c68 q9.2)]) ?_
        exact j58
      · -- 63 to 66
        refine zw_n 1 rfl ?_
        refine zw_eq0N (a := if s9 = 0 ∨ pt x = s9 then 1 else 0) rfl rfl (ite_b) (fun c68 => ?_) (fun c68 => ?_)
        · -- 68 to 75
          refine zw_n 1 rfl ?_
          refine zw_topl (x' := lN (if p = m9 ∧ (s9 = 0 ∨ pt x = s9) then pp else 0)) (show lN 0 = lN (if p = m9 ∧ (s9 = 0 ∨ pt x = s9) then pp else 0) by rw [if_neg (fun q9 => by first | exact c63 q9.1 | exact ite_eq0 c68 q9.2)]) ?_
          exact j58
        · -- 68 to 71
          refine zw_n 2 rfl ?_
          refine zw_topl (x' := lN (if p = m9 ∧ (s9 = 0 ∨ pt x = s9) then pp else 0)) (show lN pp = lN (if p = m9 ∧ (s9 = 0 ∨ pt x = s9) then pp else 0) by rw [if_pos (⟨c63, ite_ne c68⟩)]) ?_
          exact j58
    refine zw_n 1 rfl ?_
    refine zw_get (v := .int (nI s9)) rfl h43 rfl ?_
    refine zw_eq0N (a := s9) rfl rfl (by omega) (fun c24 => ?_) (fun c24 => ?_)
    · -- 24 to 46
      refine zw_n 2 rfl ?_
      refine zw_top (x' := nI (if s9 = 0 ∨ pt x = s9 then 1 else 0)) (show nI 1 = nI (if s9 = 0 ∨ pt x = s9 then 1 else 0) by rw [if_pos (by omega)]) ?_
      exact j20
    · -- 24 to 27
      refine zw_n 1 rfl ?_
      refine zw_get (v := .int (nI s9)) rfl h43 rfl ?_
      refine zw_n 1 rfl ?_
      refine zw_get (v := .ref 34) rfl h43 rfl ?_
      refine zw_get (v := .ref 16) rfl (hC.get 0 rfl) rfl ?_
      refine zw_get (v := .ref 20) rfl (hR.get 0 rfl) rfl ?_
      refine zw_n 1 rfl ?_
      refine zw_iald (f := ai pt) (j := x) rfl (hR.get 4 rfl) rfl (by decide) (by omega) ?_
      have bz3770 := hG.2.2.2.2.1 x
      refine zw_ineN (a := s9) (b := pt x) rfl rfl rfl (by omega) (by omega) (fun c43 => ?_) (fun c43 => ?_)
      · -- 43 to 50
        refine zw_n 1 rfl ?_
        refine zw_top (x' := nI (if s9 = 0 ∨ pt x = s9 then 1 else 0)) (show nI 0 = nI (if s9 = 0 ∨ pt x = s9 then 1 else 0) by rw [if_neg (by omega)]) ?_
        exact j20
      · -- 43 to 46
        refine zw_n 2 rfl ?_
        refine zw_top (x' := nI (if s9 = 0 ∨ pt x = s9 then 1 else 0)) (show nI 1 = nI (if s9 = 0 ∨ pt x = s9 then 1 else 0) by rw [if_pos (by omega)]) ?_
        exact j20

set_option maxHeartbeats 4000000 in
set_option maxRecDepth 100000 in
theorem c_openItems (Mq : zM) (s : Nat) (W R : Nat → Nat) (n em : Nat) (gn al_ it pt tg bd fr af fb : Nat → Nat) (c : Nat) (sg li co : Nat → Nat) (hC : Seg Mq 34 (chtL 34 16 26 s W R)) (hR : Seg Mq 16 (rulL 16 (n, gn, al_, it, pt, tg, bd, em, fr, af, fb))) (hT : Seg Mq 26 (tokL 26 (c, sg, li, co))) (hG : SafeG n gn al_ it pt tg bd) (hS : SafeT c sg li co) (hW : SafeM W) (hQ : SafeM R) (m9 s9 F : Nat) (O : Nat → Nat) (h43 : Mq[43]? = some (.inr (6, [.ref 34, .ref 44, .int (nI m9), .int (nI s9), .long (lN F)]))) (h44 : Mq[44]? = some (.inl (1, 168, .inr (.inl (al O))))) (hm9 : m9 < 21) (hs9 : s9 < 128) (i r r0 : Nat) (h_r : r < n) (him : i ≤ m9) (hsfb : SafeM fb) (hfb : ∀ a k, a < al_ r → k < it (r * 4 + a) → fb ((r * 4 + a) * 5 + k) = rst (gE al_ it tg pt bd sg co) fr (r * 4 + a) k) (hrow : ∀ a k p, a < al_ r → k < it (r * 4 + a) → i ≤ p → p ≤ m9 → ahd R ((r * 4 + a) * 5 + k) i p = rch (gE al_ it tg pt bd sg co) (wh (gE al_ it tg pt bd sg co) n) i (r * 4 + a) k p) (htn9 : ∀ a k, a < al_ r → k < it (r * 4 + a) → tg ((r * 4 + a) * 5 + k) ≠ NO → tg ((r * 4 + a) * 5 + k) < n) (hops : OpS (gE al_ it tg pt bd sg co) n fr m9 s9 r0 i O F) : Zm 2 zm_Outlook_openItems [.ref 43, .int (nI r), .int (nI i)] Mq (fun r9 M1 => ∃ mo9 O9 F9, r9 = some (.int (nI mo9)) ∧ M1[43]? = some (.inr (6, [.ref 34, .ref 44, .int (nI m9), .int (nI s9), .long (lN F9)])) ∧ M1[44]? = some (.inl (1, 168, .inr (.inl (al O9)))) ∧ Sm Mq M1 [43, 44] ∧ OiI (gE al_ it tg pt bd sg co) n fr m9 s9 r0 i r O F (al_ r) 0 i mo9 O9 F9) := by
  show Zw 2 zm_Outlook_openItems 0 [some (.ref 43), some (.int (nI r)), some (.int (nI i)), none, none, none, none, none, none, none, none, none, none] [] Mq _
  have hn8 := hG.1
  have hal4 := hG.2.2.1 r
  refine zw_n 1 rfl ?_
  refine zw_get (v := .ref 34) rfl h43 rfl ?_
  refine zw_get (v := .ref 16) rfl (hC.get 0 rfl) rfl ?_
  refine zw_n 6 (ls' := [some (.ref 43), some (.int (nI r)), some (.int (nI i)), some (.ref 16), some (.int 0), none, none, none, none, none, none, none, none]) rfl ?_
  refine zw_top (nm (a := r) (b := 4) rfl rfl) ?_
  refine zw_n 1 (ls' := [some (.ref 43), some (.int (nI r)), some (.int (nI i)), some (.ref 16), some (.int 0), some (.int (nI (r * 4))), none, none, none, none, none, none, none]) rfl ?_
  have lp16 : ∀ (n16 : Nat) (mo : Nat) (a : Nat) (O1 : Nat → Nat) (F1 : Nat) (M_16 : zM), Sm Mq M_16 [43, 44] → M_16[43]? = some (.inr (6, [.ref 34, .ref 44, .int (nI m9), .int (nI s9), .long (lN F1)])) → M_16[44]? = some (.inl (1, 168, .inr (.inl (al O1)))) → (a ≤ al_ r ∧ OiI (gE al_ it tg pt bd sg co) n fr m9 s9 r0 i r O F a 0 i mo O1 F1) → al_ r - a < n16 → Zw 2 zm_Outlook_openItems 16 [some (.ref 43), some (.int (nI r)), some (.int (nI i)), some (.ref 16), some (.int (nI mo)), some (.int (nI (r * 4 + a))), none, none, none, none, none, none, none] [] M_16 (fun r9 M1 => ∃ mo9 O9 F9, r9 = some (.int (nI mo9)) ∧ M1[43]? = some (.inr (6, [.ref 34, .ref 44, .int (nI m9), .int (nI s9), .long (lN F9)])) ∧ M1[44]? = some (.inl (1, 168, .inr (.inl (al O9)))) ∧ Sm Mq M1 [43, 44] ∧ OiI (gE al_ it tg pt bd sg co) n fr m9 s9 r0 i r O F (al_ r) 0 i mo9 O9 F9) := by
    intro n16
    induction n16 with
    | zero => intro mo a O1 F1 M_16 _ _ _ _ h; exact absurd h (Nat.not_lt_zero _)
    | succ n16 ih16 =>
      intro mo a O1 F1 M_16 s_16 f16_0 f16_1 hi16 hm16
      have hm1 := hi16.2.mo1
      refine zw_n 4 rfl ?_
      refine zw_top (nm (a := r) (b := 4) rfl rfl) ?_
      refine zw_n 1 rfl ?_
      refine zw_get (v := .ref 18) rfl (Sm.at s_16 (by decide) (hR.get 0 rfl)) rfl ?_
      refine zw_n 1 rfl ?_
      refine zw_iald (f := ai al_) (j := r) rfl (Sm.at s_16 (by decide) (hR.get 2 rfl)) rfl (by decide) (by omega) ?_
      have bz3771 := hG.2.2.1 r
      refine zw_n 1 rfl ?_
      refine zw_top (na (a := r * 4) (b := al_ r) rfl rfl) ?_
      refine zw_igeN (a := r * 4 + a) (b := (r * 4) + (al_ r)) rfl rfl rfl (by omega) (by omega) (fun c28 => ?_) (fun c28 => ?_)
      · -- 28 to 156
        refine zw_n 1 rfl ?_
        exact zw_zret rfl rfl (b01 hi16.2.mo1) (⟨mo, O1, F1, rfl, f16_0, f16_1, s_16, (show a = al_ r by omega) ▸ hi16.2⟩)
      · -- 28 to 31
        refine zw_n 2 (ls' := [some (.ref 43), some (.int (nI r)), some (.int (nI i)), some (.ref 16), some (.int (nI mo)), some (.int (nI (r * 4 + a))), some (.int 0), none, none, none, none, none, none]) rfl ?_
        have lp34 : ∀ (n34 : Nat) (mo2 : Nat) (k : Nat) (O2 : Nat → Nat) (F2 : Nat) (M_34 : zM), Sm Mq M_34 [43, 44] → M_34[43]? = some (.inr (6, [.ref 34, .ref 44, .int (nI m9), .int (nI s9), .long (lN F2)])) → M_34[44]? = some (.inl (1, 168, .inr (.inl (al O2)))) → (k ≤ it (r * 4 + a) ∧ OiI (gE al_ it tg pt bd sg co) n fr m9 s9 r0 i r O F a k i mo2 O2 F2) → it (r * 4 + a) - k < n34 → Zw 2 zm_Outlook_openItems 34 [some (.ref 43), some (.int (nI r)), some (.int (nI i)), some (.ref 16), some (.int (nI mo2)), some (.int (nI (r * 4 + a))), some (.int (nI k)), none, none, none, none, none, none] [] M_34 (fun r9 M1 => ∃ mo9 O9 F9, r9 = some (.int (nI mo9)) ∧ M1[43]? = some (.inr (6, [.ref 34, .ref 44, .int (nI m9), .int (nI s9), .long (lN F9)])) ∧ M1[44]? = some (.inl (1, 168, .inr (.inl (al O9)))) ∧ Sm Mq M1 [43, 44] ∧ OiI (gE al_ it tg pt bd sg co) n fr m9 s9 r0 i r O F (al_ r) 0 i mo9 O9 F9) := by
          intro n34
          induction n34 with
          | zero => intro mo2 k O2 F2 M_34 _ _ _ _ h; exact absurd h (Nat.not_lt_zero _)
          | succ n34 ih34 =>
            intro mo2 k O2 F2 M_34 s_34 f34_0 f34_1 hi34 hm34
            have hm2 := hi34.2.mo1
            have hi5 := hG.2.2.2.1 (r * 4 + a)
            refine zw_n 2 rfl ?_
            refine zw_get (v := .ref 19) rfl (Sm.at s_34 (by decide) (hR.get 0 rfl)) rfl ?_
            refine zw_n 1 rfl ?_
            refine zw_iald (f := ai it) (j := (r * 4 + a)) rfl (Sm.at s_34 (by decide) (hR.get 3 rfl)) rfl (by decide) (by omega) ?_
            have bz3772 := hG.2.2.2.1 (r * 4 + a)
            refine zw_igeN (a := k) (b := it (r * 4 + a)) rfl rfl rfl (by omega) (by omega) (fun c43 => ?_) (fun c43 => ?_)
            · -- 43 to 150
              refine zw_inc rfl (x' := (nI (r * 4 + a + 1))) (ls' := [some (.ref 43), some (.int (nI r)), some (.int (nI i)), some (.ref 16), some (.int (nI mo2)), some (.int (nI (r * 4 + a + 1))), some (.int (nI k)), none, none, none, none, none, none]) rfl (na (a := (r * 4 + a)) (b := 1) rfl rfl) rfl ?_
              refine zw_n 1 rfl ?_
              refine zw_ls (ls' := [some (.ref 43), some (.int (nI r)), some (.int (nI i)), some (.ref 16), some (.int (nI mo2)), some (.int (nI (r * 4 + a + 1))), none, none, none, none, none, none, none]) ⟨Or.inr rfl, Or.inr rfl, Or.inr rfl, Or.inr rfl, Or.inr rfl, Or.inr rfl, Or.inl rfl, Or.inl rfl, Or.inl rfl, Or.inl rfl, Or.inl rfl, Or.inl rfl, Or.inl rfl, trivial⟩ ?_
              exact ih16 mo2 (a + 1) O2 F2 M_34 s_34 f34_0 f34_1 (⟨by omega, hi34.2.nexta (show it (r * 4 + a) ≤ k by omega)⟩) (by omega)
            · -- 43 to 46
              refine zw_n 3 rfl ?_
              refine zw_top (nm (a := r * 4 + a) (b := 5) rfl rfl) ?_
              refine zw_n 2 rfl ?_
              refine zw_top (na (a := (r * 4 + a) * 5) (b := k) rfl rfl) ?_
              refine zw_n 2 (ls' := [some (.ref 43), some (.int (nI r)), some (.int (nI i)), some (.ref 16), some (.int (nI mo2)), some (.int (nI (r * 4 + a))), some (.int (nI k)), some (.int (nI (((r * 4 + a) * 5) + k))), none, none, none, none, none]) rfl ?_
              refine zw_get (v := .ref 44) rfl f34_0 rfl ?_
              refine zw_n 3 rfl ?_
              refine zw_top (nm (a := r) (b := 21) rfl rfl) ?_
              refine zw_n 2 rfl ?_
              refine zw_top (na (a := r * 21) (b := i) rfl rfl) ?_
              refine zw_lald (f := al O2) (j := ((r * 21) + i)) rfl f34_1 rfl (by decide) (by omega) ?_
              refine zw_n 1 rfl ?_
              refine zw_get (v := .ref 25) rfl (Sm.at s_34 (by decide) (hR.get 0 rfl)) rfl ?_
              refine zw_n 1 rfl ?_
              refine zw_lald (f := al fb) (j := (((r * 4 + a) * 5) + k)) rfl (Sm.at s_34 (by decide) (hR.get 9 rfl)) rfl (by decide) (by omega) ?_
              have bz3773 := hsfb (((r * 4 + a) * 5) + k)
              refine zw_n 1 rfl ?_
              refine zw_topl (lan (a := O2 ((r * 21) + i)) (b := fb (((r * 4 + a) * 5) + k)) rfl rfl) ?_
              refine zw_n 3 (ls' := [some (.ref 43), some (.int (nI r)), some (.int (nI i)), some (.ref 16), some (.int (nI mo2)), some (.int (nI (r * 4 + a))), some (.int (nI k)), some (.int (nI (((r * 4 + a) * 5) + k))), some (.long (lN ((O2 ((r * 21) + i)) &&& (fb (((r * 4 + a) * 5) + k))))), none, some (.int (nI i)), none, none]) rfl ?_
              have lp79 : ∀ (n79 : Nat) (mo3 : Nat) (p : Nat) (O3 : Nat → Nat) (F3 : Nat) (M_79 : zM), Sm Mq M_79 [43, 44] → M_79[43]? = some (.inr (6, [.ref 34, .ref 44, .int (nI m9), .int (nI s9), .long (lN F3)])) → M_79[44]? = some (.inl (1, 168, .inr (.inl (al O3)))) → (i ≤ p ∧ p ≤ m9 + 1 ∧ OiI (gE al_ it tg pt bd sg co) n fr m9 s9 r0 i r O F a k p mo3 O3 F3 ∧ bitsub (O2 (r * 21 + i)) (O3 (r * 21 + i))) → m9 + 1 - p < n79 → Zw 2 zm_Outlook_openItems 79 [some (.ref 43), some (.int (nI r)), some (.int (nI i)), some (.ref 16), some (.int (nI mo3)), some (.int (nI (r * 4 + a))), some (.int (nI k)), some (.int (nI (((r * 4 + a) * 5) + k))), some (.long (lN ((O2 ((r * 21) + i)) &&& (fb (((r * 4 + a) * 5) + k))))), none, some (.int (nI p)), none, none] [] M_79 (fun r9 M1 => ∃ mo9 O9 F9, r9 = some (.int (nI mo9)) ∧ M1[43]? = some (.inr (6, [.ref 34, .ref 44, .int (nI m9), .int (nI s9), .long (lN F9)])) ∧ M1[44]? = some (.inl (1, 168, .inr (.inl (al O9)))) ∧ Sm Mq M1 [43, 44] ∧ OiI (gE al_ it tg pt bd sg co) n fr m9 s9 r0 i r O F (al_ r) 0 i mo9 O9 F9) := by
                intro n79
                induction n79 with
                | zero => intro mo3 p O3 F3 M_79 _ _ _ _ h; exact absurd h (Nat.not_lt_zero _)
                | succ n79 ih79 =>
                  intro mo3 p O3 F3 M_79 s_79 f79_0 f79_1 hi79 hm79
                  have hm3 := hi79.2.2.1.mo1
                  have hbd9 := hG.2.2.2.2.2.2 ((r * 4 + a) * 5 + k)
                  refine zw_n 2 rfl ?_
                  refine zw_get (v := .int (nI m9)) rfl f79_0 rfl ?_
                  refine zw_igtN (a := p) (b := m9) rfl rfl rfl (by omega) (by omega) (fun c85 => ?_) (fun c85 => ?_)
                  · -- 85 to 144
                    refine zw_inc rfl (x' := (nI (k + 1))) (ls' := [some (.ref 43), some (.int (nI r)), some (.int (nI i)), some (.ref 16), some (.int (nI mo3)), some (.int (nI (r * 4 + a))), some (.int (nI (k + 1))), some (.int (nI (((r * 4 + a) * 5) + k))), some (.long (lN ((O2 ((r * 21) + i)) &&& (fb (((r * 4 + a) * 5) + k))))), none, some (.int (nI p)), none, none]) rfl (na (a := k) (b := 1) rfl rfl) rfl ?_
                    refine zw_n 1 rfl ?_
                    refine zw_ls (ls' := [some (.ref 43), some (.int (nI r)), some (.int (nI i)), some (.ref 16), some (.int (nI mo3)), some (.int (nI (r * 4 + a))), some (.int (nI (k + 1))), none, none, none, none, none, none]) ⟨Or.inr rfl, Or.inr rfl, Or.inr rfl, Or.inr rfl, Or.inr rfl, Or.inr rfl, Or.inr rfl, Or.inl rfl, Or.inl rfl, Or.inl rfl, Or.inl rfl, Or.inl rfl, Or.inl rfl, trivial⟩ ?_
                    exact ih34 mo3 (k + 1) O3 F3 M_79 s_79 f79_0 f79_1 (⟨by omega, hi79.2.2.1.nextk (hi34.2.gro _) (by first | exact Or.inl (by omega) | exact Or.inr (by rw [← hfb a k (by omega) (by omega)]; exact c92))⟩) (by omega)
                  · -- 85 to 88
                    refine zw_n 3 rfl ?_
                    refine zw_leqN (a := (O2 ((r * 21) + i)) &&& (fb (((r * 4 + a) * 5) + k))) (b := 0) rfl rfl rfl (by first | exact Nat.lt_trans (and_lt40 (hi34.2.ops.sfo _)) (by decide) | decide) (by first | exact Nat.lt_trans (and_lt40 (hi34.2.ops.sfo _)) (by decide) | decide) (fun c92 => ?_) (fun c92 => ?_)
                    · -- 92 to 144
                      refine zw_inc rfl (x' := (nI (k + 1))) (ls' := [some (.ref 43), some (.int (nI r)), some (.int (nI i)), some (.ref 16), some (.int (nI mo3)), some (.int (nI (r * 4 + a))), some (.int (nI (k + 1))), some (.int (nI (((r * 4 + a) * 5) + k))), some (.long (lN ((O2 ((r * 21) + i)) &&& (fb (((r * 4 + a) * 5) + k))))), none, some (.int (nI p)), none, none]) rfl (na (a := k) (b := 1) rfl rfl) rfl ?_
                      refine zw_n 1 rfl ?_
                      refine zw_ls (ls' := [some (.ref 43), some (.int (nI r)), some (.int (nI i)), some (.ref 16), some (.int (nI mo3)), some (.int (nI (r * 4 + a))), some (.int (nI (k + 1))), none, none, none, none, none, none]) ⟨Or.inr rfl, Or.inr rfl, Or.inr rfl, Or.inr rfl, Or.inr rfl, Or.inr rfl, Or.inr rfl, Or.inl rfl, Or.inl rfl, Or.inl rfl, Or.inl rfl, Or.inl rfl, Or.inl rfl, trivial⟩ ?_
                      exact ih34 mo3 (k + 1) O3 F3 M_79 s_79 f79_0 f79_1 (⟨by omega, hi79.2.2.1.nextk (hi34.2.gro _) (by first | exact Or.inl (by omega) | exact Or.inr (by rw [← hfb a k (by omega) (by omega)]; exact c92))⟩) (by omega)
                    · -- 92 to 95
                      refine zw_n 1 rfl ?_
                      refine zw_get (v := .ref 22) rfl (Sm.at s_79 (by decide) (hR.get 0 rfl)) rfl ?_
                      refine zw_n 1 rfl ?_
                      refine zw_iald (f := ai bd) (j := (((r * 4 + a) * 5) + k)) rfl (Sm.at s_79 (by decide) (hR.get 6 rfl)) rfl (by decide) (by omega) ?_
                      have bz3774 := hG.2.2.2.2.2.2 (((r * 4 + a) * 5) + k)
                      refine zw_n 2 rfl ?_
                      refine zw_get (v := .ref 34) rfl f79_0 rfl ?_
                      refine zw_n 3 rfl ?_
                      refine zw_callV (as := [.int (nI (((r * 4 + a) * 5) + k)), .int (nI i), .int (nI p)]) (rest := [.long (lN ((O2 ((r * 21) + i)) &&& (fb (((r * 4 + a) * 5) + k)))), .int (nI (bd (((r * 4 + a) * 5) + k)))]) rfl rfl rfl (Sm.at s_79 (by decide) (hC.get 0 rfl)) rfl rfl rfl (by decide) (c_aheadOf M_79 34 16 26 s W R n em gn al_ it pt tg bd fr af fb c sg li co (seg3 (Sm.at s_79 (by decide) (hC.get 0 rfl)) (Sm.at s_79 (by decide) (hC.get 1 rfl)) (Sm.at s_79 (by decide) (hC.get 2 rfl))) (seg10 (Sm.at s_79 (by decide) (hR.get 0 rfl)) (Sm.at s_79 (by decide) (hR.get 1 rfl)) (Sm.at s_79 (by decide) (hR.get 2 rfl)) (Sm.at s_79 (by decide) (hR.get 3 rfl)) (Sm.at s_79 (by decide) (hR.get 4 rfl)) (Sm.at s_79 (by decide) (hR.get 5 rfl)) (Sm.at s_79 (by decide) (hR.get 6 rfl)) (Sm.at s_79 (by decide) (hR.get 7 rfl)) (Sm.at s_79 (by decide) (hR.get 8 rfl)) (Sm.at s_79 (by decide) (hR.get 9 rfl))) (seg4 (Sm.at s_79 (by decide) (hT.get 0 rfl)) (Sm.at s_79 (by decide) (hT.get 1 rfl)) (Sm.at s_79 (by decide) (hT.get 2 rfl)) (Sm.at s_79 (by decide) (hT.get 3 rfl))) hG hS (by assumption) (by assumption) (((r * 4 + a) * 5) + k) i p (by omega) (by omega) (by omega)) (fun rz3775 Mz3776 hz3777 => ?_)
                      rw [hz3777.1, hz3777.2]
                      show Zw 2 zm_Outlook_openItems 116 [some (.ref 43), some (.int (nI r)), some (.int (nI i)), some (.ref 16), some (.int (nI mo3)), some (.int (nI (r * 4 + a))), some (.int (nI k)), some (.int (nI (((r * 4 + a) * 5) + k))), some (.long (lN ((O2 ((r * 21) + i)) &&& (fb (((r * 4 + a) * 5) + k))))), none, some (.int (nI p)), none, none] [.long (lN (ahd R (((r * 4 + a) * 5) + k) i p)), .long (lN ((O2 ((r * 21) + i)) &&& (fb (((r * 4 + a) * 5) + k)))), .int (nI (bd (((r * 4 + a) * 5) + k)))] M_79 _
                      refine zw_n 1 rfl ?_
                      refine zw_topl (lan (a := (O2 ((r * 21) + i)) &&& (fb (((r * 4 + a) * 5) + k))) (b := ahd R (((r * 4 + a) * 5) + k) i p) rfl rfl) ?_
                      refine zw_callS (as := [.int (nI (bd (((r * 4 + a) * 5) + k))), .long (lN (((O2 ((r * 21) + i)) &&& (fb (((r * 4 + a) * 5) + k))) &&& (ahd R (((r * 4 + a) * 5) + k) i p)))]) (rest := []) rfl rfl rfl rfl rfl rfl (by decide) (c_partsOf _ _ _ (by omega) (and_lt40 (and_lt40 (hi34.2.ops.sfo _)))) (fun rz3778 Mz3779 hz3780 => ?_)
                      rw [hz3780.1, hz3780.2]
                      show Zw 2 zm_Outlook_openItems 120 [some (.ref 43), some (.int (nI r)), some (.int (nI i)), some (.ref 16), some (.int (nI mo3)), some (.int (nI (r * 4 + a))), some (.int (nI k)), some (.int (nI (((r * 4 + a) * 5) + k))), some (.long (lN ((O2 ((r * 21) + i)) &&& (fb (((r * 4 + a) * 5) + k))))), none, some (.int (nI p)), none, none] [.long (lN (prtN (bd (((r * 4 + a) * 5) + k)) (((O2 ((r * 21) + i)) &&& (fb (((r * 4 + a) * 5) + k))) &&& (ahd R (((r * 4 + a) * 5) + k) i p))))] M_79 _
                      refine zw_topl (x' := lN (oPt (gE al_ it tg pt bd sg co) n fr r i a k p (O2 (r * 21 + i)))) (congrArg lN (by unfold oPt; rw [hfb a k (by omega) (by omega), hrow a k p (by omega) (by omega) (by omega) (by omega)]; rfl)) ?_
                      refine zw_n 1 (ls' := [some (.ref 43), some (.int (nI r)), some (.int (nI i)), some (.ref 16), some (.int (nI mo3)), some (.int (nI (r * 4 + a))), some (.int (nI k)), some (.int (nI (((r * 4 + a) * 5) + k))), some (.long (lN ((O2 ((r * 21) + i)) &&& (fb (((r * 4 + a) * 5) + k))))), none, some (.int (nI p)), some (.long (lN (oPt (gE al_ it tg pt bd sg co) n fr r i a k p (O2 (r * 21 + i))))), none]) rfl ?_
                      by_cases sp122 : tg ((r * 4 + a) * 5 + k) = NO
                      · skip
                        refine zw_n 4 rfl ?_
                        refine zw_callV (as := [.int (nI (((r * 4 + a) * 5) + k)), .int (nI p), .long (lN (oPt (gE al_ it tg pt bd sg co) n fr r i a k p (O2 (r * 21 + i))))]) (rest := []) rfl rfl rfl f79_0 rfl rfl rfl (by decide) (c_openS M_79 s W R n em gn al_ it pt tg bd fr af fb c sg li co (seg3 (Sm.at s_79 (by decide) (hC.get 0 rfl)) (Sm.at s_79 (by decide) (hC.get 1 rfl)) (Sm.at s_79 (by decide) (hC.get 2 rfl))) (seg10 (Sm.at s_79 (by decide) (hR.get 0 rfl)) (Sm.at s_79 (by decide) (hR.get 1 rfl)) (Sm.at s_79 (by decide) (hR.get 2 rfl)) (Sm.at s_79 (by decide) (hR.get 3 rfl)) (Sm.at s_79 (by decide) (hR.get 4 rfl)) (Sm.at s_79 (by decide) (hR.get 5 rfl)) (Sm.at s_79 (by decide) (hR.get 6 rfl)) (Sm.at s_79 (by decide) (hR.get 7 rfl)) (Sm.at s_79 (by decide) (hR.get 8 rfl)) (Sm.at s_79 (by decide) (hR.get 9 rfl))) (seg4 (Sm.at s_79 (by decide) (hT.get 0 rfl)) (Sm.at s_79 (by decide) (hT.get 1 rfl)) (Sm.at s_79 (by decide) (hT.get 2 rfl)) (Sm.at s_79 (by decide) (hT.get 3 rfl))) hG hS (by assumption) (by assumption) m9 s9 F3 O3 f79_0 f79_1 (((r * 4 + a) * 5) + k) p (oPt (gE al_ it tg pt bd sg co) n fr r i a k p (O2 (r * 21 + i))) (by omega) (by omega) hm9 hs9 sp122) (fun rz3784 Mz3785 hz3786 => ?_)
                        obtain ⟨hAz3781, hBz3782, hSz3783⟩ := hz3786
                        rw [hAz3781]
                        show Zw 2 zm_Outlook_openItems 132 [some (.ref 43), some (.int (nI r)), some (.int (nI i)), some (.ref 16), some (.int (nI mo3)), some (.int (nI (r * 4 + a))), some (.int (nI k)), some (.int (nI (((r * 4 + a) * 5) + k))), some (.long (lN ((O2 ((r * 21) + i)) &&& (fb (((r * 4 + a) * 5) + k))))), none, some (.int (nI p)), some (.long (lN (oPt (gE al_ it tg pt bd sg co) n fr r i a k p (O2 (r * 21 + i))))), none] [.int 0] Mz3785 _
                        refine zw_if rfl ?_
                        show Zw 2 zm_Outlook_openItems 138 [some (.ref 43), some (.int (nI r)), some (.int (nI i)), some (.ref 16), some (.int (nI mo3)), some (.int (nI (r * 4 + a))), some (.int (nI k)), some (.int (nI (((r * 4 + a) * 5) + k))), some (.long (lN ((O2 ((r * 21) + i)) &&& (fb (((r * 4 + a) * 5) + k))))), none, some (.int (nI p)), some (.long (lN (oPt (gE al_ it tg pt bd sg co) n fr r i a k p (O2 (r * 21 + i))))), none] [] Mz3785 _
                        refine zw_inc rfl (x' := (nI (p + 1))) (ls' := [some (.ref 43), some (.int (nI r)), some (.int (nI i)), some (.ref 16), some (.int (nI mo3)), some (.int (nI (r * 4 + a))), some (.int (nI k)), some (.int (nI (((r * 4 + a) * 5) + k))), some (.long (lN ((O2 ((r * 21) + i)) &&& (fb (((r * 4 + a) * 5) + k))))), none, some (.int (nI (p + 1))), some (.long (lN (oPt (gE al_ it tg pt bd sg co) n fr r i a k p (O2 (r * 21 + i))))), none]) rfl (na (a := p) (b := 1) rfl rfl) rfl ?_
                        refine zw_n 1 rfl ?_
                        refine zw_ls (ls' := [some (.ref 43), some (.int (nI r)), some (.int (nI i)), some (.ref 16), some (.int (nI mo3)), some (.int (nI (r * 4 + a))), some (.int (nI k)), some (.int (nI (((r * 4 + a) * 5) + k))), some (.long (lN ((O2 ((r * 21) + i)) &&& (fb (((r * 4 + a) * 5) + k))))), none, some (.int (nI (p + 1))), none, none]) ⟨Or.inr rfl, Or.inr rfl, Or.inr rfl, Or.inr rfl, Or.inr rfl, Or.inr rfl, Or.inr rfl, Or.inr rfl, Or.inr rfl, Or.inl rfl, Or.inr rfl, Or.inl rfl, Or.inl rfl, trivial⟩ ?_
                        exact ih79 mo3 (p + 1) O3 (F3 ||| if p = m9 ∧ (s9 = 0 ∨ pt (((r * 4 + a) * 5) + k) = s9) then (oPt (gE al_ it tg pt bd sg co) n fr r i a k p (O2 (r * 21 + i))) else 0) Mz3785 (Sm.tw s_79 hSz3783 (by decide)) hBz3782 (Sm.at hSz3783 (by decide) f79_1) (⟨by omega, by omega, hi79.2.2.1.sgn h_r (show a < al_ r by omega) (show k < it (r * 4 + a) by omega) (by omega) (by omega) (show tg ((r * 4 + a) * 5 + k) = NO from sp122) (hi34.2.gro _) hi79.2.2.2, hi79.2.2.2⟩) (by omega)
                      · skip
                        refine zw_n 4 rfl ?_
                        refine zw_callV (as := [.int (nI (((r * 4 + a) * 5) + k)), .int (nI p), .long (lN (oPt (gE al_ it tg pt bd sg co) n fr r i a k p (O2 (r * 21 + i))))]) (rest := []) rfl rfl rfl f79_0 rfl rfl rfl (by decide) (c_openN M_79 s W R n em gn al_ it pt tg bd fr af fb c sg li co (seg3 (Sm.at s_79 (by decide) (hC.get 0 rfl)) (Sm.at s_79 (by decide) (hC.get 1 rfl)) (Sm.at s_79 (by decide) (hC.get 2 rfl))) (seg10 (Sm.at s_79 (by decide) (hR.get 0 rfl)) (Sm.at s_79 (by decide) (hR.get 1 rfl)) (Sm.at s_79 (by decide) (hR.get 2 rfl)) (Sm.at s_79 (by decide) (hR.get 3 rfl)) (Sm.at s_79 (by decide) (hR.get 4 rfl)) (Sm.at s_79 (by decide) (hR.get 5 rfl)) (Sm.at s_79 (by decide) (hR.get 6 rfl)) (Sm.at s_79 (by decide) (hR.get 7 rfl)) (Sm.at s_79 (by decide) (hR.get 8 rfl)) (Sm.at s_79 (by decide) (hR.get 9 rfl))) (seg4 (Sm.at s_79 (by decide) (hT.get 0 rfl)) (Sm.at s_79 (by decide) (hT.get 1 rfl)) (Sm.at s_79 (by decide) (hT.get 2 rfl)) (Sm.at s_79 (by decide) (hT.get 3 rfl))) hG hS (by assumption) (by assumption) m9 s9 F3 O3 f79_0 f79_1 (((r * 4 + a) * 5) + k) p (oPt (gE al_ it tg pt bd sg co) n fr r i a k p (O2 (r * 21 + i))) (by omega) (by omega) oPt_lt hi79.2.2.1.ops.sfo sp122) (fun rz3793 Mz3794 hz3795 => ?_)
                        obtain ⟨bz3787, hAz3788, hbz3789, hb0z3790, hBz3791, hSz3792⟩ := hz3795
                        rw [hAz3788]
                        show Zw 2 zm_Outlook_openItems 132 [some (.ref 43), some (.int (nI r)), some (.int (nI i)), some (.ref 16), some (.int (nI mo3)), some (.int (nI (r * 4 + a))), some (.int (nI k)), some (.int (nI (((r * 4 + a) * 5) + k))), some (.long (lN ((O2 ((r * 21) + i)) &&& (fb (((r * 4 + a) * 5) + k))))), none, some (.int (nI p)), some (.long (lN (oPt (gE al_ it tg pt bd sg co) n fr r i a k p (O2 (r * 21 + i))))), none] [.int (nI bz3787)] Mz3794 _
                        refine zw_eq0N (a := bz3787) rfl rfl (by omega) (fun c132 => ?_) (fun c132 => ?_)
                        · -- 132 to 138
                          refine zw_inc rfl (x' := (nI (p + 1))) (ls' := [some (.ref 43), some (.int (nI r)), some (.int (nI i)), some (.ref 16), some (.int (nI mo3)), some (.int (nI (r * 4 + a))), some (.int (nI k)), some (.int (nI (((r * 4 + a) * 5) + k))), some (.long (lN ((O2 ((r * 21) + i)) &&& (fb (((r * 4 + a) * 5) + k))))), none, some (.int (nI (p + 1))), some (.long (lN (oPt (gE al_ it tg pt bd sg co) n fr r i a k p (O2 (r * 21 + i))))), none]) rfl (na (a := p) (b := 1) rfl rfl) rfl ?_
                          refine zw_n 1 rfl ?_
                          refine zw_ls (ls' := [some (.ref 43), some (.int (nI r)), some (.int (nI i)), some (.ref 16), some (.int (nI mo3)), some (.int (nI (r * 4 + a))), some (.int (nI k)), some (.int (nI (((r * 4 + a) * 5) + k))), some (.long (lN ((O2 ((r * 21) + i)) &&& (fb (((r * 4 + a) * 5) + k))))), none, some (.int (nI (p + 1))), none, none]) ⟨Or.inr rfl, Or.inr rfl, Or.inr rfl, Or.inr rfl, Or.inr rfl, Or.inr rfl, Or.inr rfl, Or.inr rfl, Or.inr rfl, Or.inl rfl, Or.inr rfl, Or.inl rfl, Or.inl rfl, trivial⟩ ?_
                          exact ih79 mo3 (p + 1) (up O3 (tg (((r * 4 + a) * 5) + k) * 21 + p) (O3 (tg (((r * 4 + a) * 5) + k) * 21 + p) ||| (oPt (gE al_ it tg pt bd sg co) n fr r i a k p (O2 (r * 21 + i))))) F3 Mz3794 (Sm.tw s_79 hSz3792 (by decide)) (Sm.at hSz3792 (by decide) f79_0) hBz3791 (⟨by omega, by omega, hi79.2.2.1.name (t := tg ((r * 4 + a) * 5 + k)) (mo9 := mo3) h_r (show a < al_ r by omega) (show k < it (r * 4 + a) by omega) (by omega) (by omega) hm9 rfl (htn9 a k (by omega) (by omega) sp122) sp122 (hi34.2.gro _) hi79.2.2.2 (by omega) (fun q9 => ⟨q9, hb0z3790 (by omega)⟩), bs_tr hi79.2.2.2 (up_gr _ _ _)⟩) (by omega)
                        · -- 132 to 135
                          refine zw_n 2 (ls' := [some (.ref 43), some (.int (nI r)), some (.int (nI i)), some (.ref 16), some (.int 1), some (.int (nI (r * 4 + a))), some (.int (nI k)), some (.int (nI (((r * 4 + a) * 5) + k))), some (.long (lN ((O2 ((r * 21) + i)) &&& (fb (((r * 4 + a) * 5) + k))))), none, some (.int (nI p)), some (.long (lN (oPt (gE al_ it tg pt bd sg co) n fr r i a k p (O2 (r * 21 + i))))), none]) rfl ?_
                          refine zw_inc rfl (x' := (nI (p + 1))) (ls' := [some (.ref 43), some (.int (nI r)), some (.int (nI i)), some (.ref 16), some (.int 1), some (.int (nI (r * 4 + a))), some (.int (nI k)), some (.int (nI (((r * 4 + a) * 5) + k))), some (.long (lN ((O2 ((r * 21) + i)) &&& (fb (((r * 4 + a) * 5) + k))))), none, some (.int (nI (p + 1))), some (.long (lN (oPt (gE al_ it tg pt bd sg co) n fr r i a k p (O2 (r * 21 + i))))), none]) rfl (na (a := p) (b := 1) rfl rfl) rfl ?_
                          refine zw_n 1 rfl ?_
                          refine zw_ls (ls' := [some (.ref 43), some (.int (nI r)), some (.int (nI i)), some (.ref 16), some (.int 1), some (.int (nI (r * 4 + a))), some (.int (nI k)), some (.int (nI (((r * 4 + a) * 5) + k))), some (.long (lN ((O2 ((r * 21) + i)) &&& (fb (((r * 4 + a) * 5) + k))))), none, some (.int (nI (p + 1))), none, none]) ⟨Or.inr rfl, Or.inr rfl, Or.inr rfl, Or.inr rfl, Or.inr rfl, Or.inr rfl, Or.inr rfl, Or.inr rfl, Or.inr rfl, Or.inl rfl, Or.inr rfl, Or.inl rfl, Or.inl rfl, trivial⟩ ?_
                          exact ih79 1 (p + 1) (up O3 (tg (((r * 4 + a) * 5) + k) * 21 + p) (O3 (tg (((r * 4 + a) * 5) + k) * 21 + p) ||| (oPt (gE al_ it tg pt bd sg co) n fr r i a k p (O2 (r * 21 + i))))) F3 Mz3794 (Sm.tw s_79 hSz3792 (by decide)) (Sm.at hSz3792 (by decide) f79_0) hBz3791 (⟨by omega, by omega, hi79.2.2.1.name (t := tg ((r * 4 + a) * 5 + k)) (mo9 := 1) h_r (show a < al_ r by omega) (show k < it (r * 4 + a) by omega) (by omega) (by omega) hm9 rfl (htn9 a k (by omega) (by omega) sp122) sp122 (hi34.2.gro _) hi79.2.2.2 (by omega) (fun q9 => by omega), bs_tr hi79.2.2.2 (up_gr _ _ _)⟩) (by omega)
              exact lp79 _ mo2 i O2 F2 M_34 s_34 f34_0 f34_1 (⟨Nat.le_refl _, by omega, hi34.2, bs_rf _⟩) (Nat.lt_succ_self _)
        exact lp34 _ mo 0 O1 F1 M_16 s_16 f16_0 f16_1 (⟨Nat.zero_le _, hi16.2⟩) (Nat.lt_succ_self _)
  exact lp16 _ 0 0 O F Mq Sm.rf h43 h44 (⟨Nat.zero_le _, OiI.start hops⟩) (Nat.lt_succ_self _)

set_option maxHeartbeats 4000000 in
set_option maxRecDepth 100000 in
theorem c_openAt (Mq : zM) (s : Nat) (W R : Nat → Nat) (n em : Nat) (gn al_ it pt tg bd fr af fb : Nat → Nat) (c : Nat) (sg li co : Nat → Nat) (hC : Seg Mq 34 (chtL 34 16 26 s W R)) (hR : Seg Mq 16 (rulL 16 (n, gn, al_, it, pt, tg, bd, em, fr, af, fb))) (hT : Seg Mq 26 (tokL 26 (c, sg, li, co))) (hG : SafeG n gn al_ it pt tg bd) (hS : SafeT c sg li co) (hW : SafeM W) (hQ : SafeM R) (m9 s9 F : Nat) (O : Nat → Nat) (h43 : Mq[43]? = some (.inr (6, [.ref 34, .ref 44, .int (nI m9), .int (nI s9), .long (lN F)]))) (h44 : Mq[44]? = some (.inl (1, 168, .inr (.inl (al O))))) (hm9 : m9 < 21) (hs9 : s9 < 128) (r0 : Nat) (hsfb : SafeM fb) (hfb : ∀ r a k, r < n → a < al_ r → k < it (r * 4 + a) → fb ((r * 4 + a) * 5 + k) = rst (gE al_ it tg pt bd sg co) fr (r * 4 + a) k) (htn9 : ∀ r a k, r < n → a < al_ r → k < it (r * 4 + a) → tg ((r * 4 + a) * 5 + k) ≠ NO → tg ((r * 4 + a) * 5 + k) < n) (i : Nat) (him : i ≤ m9) (hrow : ∀ r a k p, r < n → a < al_ r → k < it (r * 4 + a) → i ≤ p → p ≤ m9 → ahd R ((r * 4 + a) * 5 + k) i p = rch (gE al_ it tg pt bd sg co) (wh (gE al_ it tg pt bd sg co) n) i (r * 4 + a) k p) (hops : OpS (gE al_ it tg pt bd sg co) n fr m9 s9 r0 i O F) : Zm 3 zm_Outlook_openAt [.ref 43, .int (nI i)] Mq (fun r9 M1 => r9 = none ∧ ∃ O9 F9, M1[43]? = some (.inr (6, [.ref 34, .ref 44, .int (nI m9), .int (nI s9), .long (lN F9)])) ∧ M1[44]? = some (.inl (1, 168, .inr (.inl (al O9)))) ∧ Sm Mq M1 [43, 44] ∧ OpS (gE al_ it tg pt bd sg co) n fr m9 s9 r0 (i + 1) O9 F9) := by
  show Zw 3 zm_Outlook_openAt 0 [some (.ref 43), some (.int (nI i)), none, none, none] [] Mq _
  have hn8 := hG.1
  refine zw_n 4 (ls' := [some (.ref 43), some (.int (nI i)), some (.int 1), some (.int 0), none]) rfl ?_
  have lp4 : ∀ (n4 : Nat) (mo : Nat) (ps : Nat) (O1 : Nat → Nat) (F1 : Nat) (M_4 : zM), Sm Mq M_4 [43, 44] → M_4[43]? = some (.inr (6, [.ref 34, .ref 44, .int (nI m9), .int (nI s9), .long (lN F1)])) → M_4[44]? = some (.inl (1, 168, .inr (.inl (al O1)))) → (OpP (gE al_ it tg pt bd sg co) n fr m9 s9 r0 i ps mo O1 F1 ∧ ps ≤ 321) → 322 - ps < n4 → Zw 3 zm_Outlook_openAt 4 [some (.ref 43), some (.int (nI i)), some (.int (nI mo)), some (.int (nI ps)), none] [] M_4 (fun r9 M1 => r9 = none ∧ ∃ O9 F9, M1[43]? = some (.inr (6, [.ref 34, .ref 44, .int (nI m9), .int (nI s9), .long (lN F9)])) ∧ M1[44]? = some (.inl (1, 168, .inr (.inl (al O9)))) ∧ Sm Mq M1 [43, 44] ∧ OpS (gE al_ it tg pt bd sg co) n fr m9 s9 r0 (i + 1) O9 F9) := by
    intro n4
    induction n4 with
    | zero => intro mo ps O1 F1 M_4 _ _ _ _ h; exact absurd h (Nat.not_lt_zero _)
    | succ n4 ih4 =>
      intro mo ps O1 F1 M_4 s_4 f4_0 f4_1 hi4 hm4
      have hmo := hi4.1.mo1
      refine zw_n 1 rfl ?_
      refine zw_eq0N (a := mo) rfl rfl (by omega) (fun c5 => ?_) (fun c5 => ?_)
      · -- 5 to 76
        exact zw_vret rfl rfl (⟨rfl, O1, F1, f4_0, f4_1, s_4, hi4.1.fin hn8 (by first | exact Or.inl c5 | exact Or.inr (by omega))⟩)
      · -- 5 to 8
        refine zw_n 2 rfl ?_
        refine zw_igeN (a := ps) (b := 321) rfl rfl rfl (by omega) (by omega) (fun c12 => ?_) (fun c12 => ?_)
        · -- 12 to 76
          exact zw_vret rfl rfl (⟨rfl, O1, F1, f4_0, f4_1, s_4, hi4.1.fin hn8 (by first | exact Or.inl c5 | exact Or.inr (by omega))⟩)
        · -- 12 to 15
          refine zw_n 4 (ls' := [some (.ref 43), some (.int (nI i)), some (.int 0), some (.int (nI ps)), some (.int 0)]) rfl ?_
          have lp20 : ∀ (n20 : Nat) (mo2 : Nat) (y : Nat) (O2 : Nat → Nat) (F2 : Nat) (M_20 : zM), Sm Mq M_20 [43, 44] → M_20[43]? = some (.inr (6, [.ref 34, .ref 44, .int (nI m9), .int (nI s9), .long (lN F2)])) → M_20[44]? = some (.inl (1, 168, .inr (.inl (al O2)))) → (OpI (gE al_ it tg pt bd sg co) n fr m9 s9 r0 i O1 F1 y mo2 O2 F2) → n - y < n20 → Zw 3 zm_Outlook_openAt 20 [some (.ref 43), some (.int (nI i)), some (.int (nI mo2)), some (.int (nI ps)), some (.int (nI y))] [] M_20 (fun r9 M1 => r9 = none ∧ ∃ O9 F9, M1[43]? = some (.inr (6, [.ref 34, .ref 44, .int (nI m9), .int (nI s9), .long (lN F9)])) ∧ M1[44]? = some (.inl (1, 168, .inr (.inl (al O9)))) ∧ Sm Mq M1 [43, 44] ∧ OpS (gE al_ it tg pt bd sg co) n fr m9 s9 r0 (i + 1) O9 F9) := by
            intro n20
            induction n20 with
            | zero => intro mo2 y O2 F2 M_20 _ _ _ _ h; exact absurd h (Nat.not_lt_zero _)
            | succ n20 ih20 =>
              intro mo2 y O2 F2 M_20 s_20 f20_0 f20_1 hi20 hm20
              have hyn := hi20.yle
              have hm2 := hi20.mo1
              refine zw_n 2 rfl ?_
              refine zw_get (v := .ref 34) rfl f20_0 rfl ?_
              refine zw_get (v := .ref 16) rfl (Sm.at s_20 (by decide) (hC.get 0 rfl)) rfl ?_
              refine zw_get (v := .int (nI n)) rfl (Sm.at s_20 (by decide) (hR.get 0 rfl)) rfl ?_
              refine zw_igeN (a := y) (b := n) rfl rfl rfl (by omega) (by omega) (fun c32 => ?_) (fun c32 => ?_)
              · -- 32 to 70
                refine zw_inc rfl (x' := (nI (ps + 1))) (ls' := [some (.ref 43), some (.int (nI i)), some (.int (nI mo2)), some (.int (nI (ps + 1))), some (.int (nI y))]) rfl (na (a := ps) (b := 1) rfl rfl) rfl ?_
                refine zw_n 1 rfl ?_
                refine zw_ls (ls' := [some (.ref 43), some (.int (nI i)), some (.int (nI mo2)), some (.int (nI (ps + 1))), none]) ⟨Or.inr rfl, Or.inr rfl, Or.inr rfl, Or.inr rfl, Or.inl rfl, trivial⟩ ?_
                exact ih4 mo2 (ps + 1) O2 F2 M_20 s_20 f20_0 f20_1 (⟨OpI.fin hi4.1 ((show y = n by omega) ▸ hi20), by omega⟩) (by omega)
              · -- 32 to 35
                refine zw_n 1 rfl ?_
                refine zw_get (v := .ref 44) rfl f20_0 rfl ?_
                refine zw_n 3 rfl ?_
                refine zw_top (nm (a := y) (b := 21) rfl rfl) ?_
                refine zw_n 2 rfl ?_
                refine zw_top (na (a := y * 21) (b := i) rfl rfl) ?_
                refine zw_lald (f := al O2) (j := ((y * 21) + i)) rfl f20_1 rfl (by decide) (by omega) ?_
                refine zw_n 2 rfl ?_
                refine zw_leqN (a := O2 ((y * 21) + i)) (b := 0) rfl rfl rfl (by first | exact Nat.lt_trans (hi20.ops.sfo _) (by decide) | decide) (by first | exact Nat.lt_trans (hi20.ops.sfo _) (by decide) | decide) (fun c49 => ?_) (fun c49 => ?_)
                · -- 49 to 64
                  refine zw_inc rfl (x' := (nI (y + 1))) (ls' := [some (.ref 43), some (.int (nI i)), some (.int (nI mo2)), some (.int (nI ps)), some (.int (nI (y + 1)))]) rfl (na (a := y) (b := 1) rfl rfl) rfl ?_
                  refine zw_n 1 rfl ?_
                  exact ih20 mo2 (y + 1) O2 F2 M_20 s_20 f20_0 f20_1 (hi20.skip (by omega) c49) (by omega)
                · -- 49 to 52
                  refine zw_n 3 rfl ?_
                  refine zw_callV (as := [.int (nI y), .int (nI i)]) (rest := []) rfl rfl rfl f20_0 rfl rfl rfl (by decide) (c_openItems M_20 s W R n em gn al_ it pt tg bd fr af fb c sg li co (seg3 (Sm.at s_20 (by decide) (hC.get 0 rfl)) (Sm.at s_20 (by decide) (hC.get 1 rfl)) (Sm.at s_20 (by decide) (hC.get 2 rfl))) (seg10 (Sm.at s_20 (by decide) (hR.get 0 rfl)) (Sm.at s_20 (by decide) (hR.get 1 rfl)) (Sm.at s_20 (by decide) (hR.get 2 rfl)) (Sm.at s_20 (by decide) (hR.get 3 rfl)) (Sm.at s_20 (by decide) (hR.get 4 rfl)) (Sm.at s_20 (by decide) (hR.get 5 rfl)) (Sm.at s_20 (by decide) (hR.get 6 rfl)) (Sm.at s_20 (by decide) (hR.get 7 rfl)) (Sm.at s_20 (by decide) (hR.get 8 rfl)) (Sm.at s_20 (by decide) (hR.get 9 rfl))) (seg4 (Sm.at s_20 (by decide) (hT.get 0 rfl)) (Sm.at s_20 (by decide) (hT.get 1 rfl)) (Sm.at s_20 (by decide) (hT.get 2 rfl)) (Sm.at s_20 (by decide) (hT.get 3 rfl))) hG hS (by assumption) (by assumption) m9 s9 F2 O2 f20_0 f20_1 hm9 hs9 i y r0 (by omega) him hsfb (fun a k h1 h2 => hfb y a k (by omega) h1 h2) (fun a k p h1 h2 h3 h4 => hrow y a k p (by omega) h1 h2 h3 h4) (fun a k h1 h2 h3 => htn9 y a k (by omega) h1 h2 h3) hi20.ops) (fun rz3804 Mz3805 hz3806 => ?_)
                  obtain ⟨moz3796, Oz3797, Fz3798, hAz3799, h3z3800, h4z3801, hSz3802, hOz3803⟩ := hz3806
                  rw [hAz3799]
                  have hm9x := hOz3803.mo1
                  show Zw 3 zm_Outlook_openAt 59 [some (.ref 43), some (.int (nI i)), some (.int (nI mo2)), some (.int (nI ps)), some (.int (nI y))] [.int (nI moz3796)] Mz3805 _
                  refine zw_eq0N (a := moz3796) rfl rfl (by omega) (fun c59 => ?_) (fun c59 => ?_)
                  · -- 59 to 64
                    refine zw_inc rfl (x' := (nI (y + 1))) (ls' := [some (.ref 43), some (.int (nI i)), some (.int (nI mo2)), some (.int (nI ps)), some (.int (nI (y + 1)))]) rfl (na (a := y) (b := 1) rfl rfl) rfl ?_
                    refine zw_n 1 rfl ?_
                    exact ih20 mo2 (y + 1) Oz3797 Fz3798 Mz3805 (Sm.trans s_20 hSz3802) h3z3800 h4z3801 (hi20.step (mo2 := mo2) (by omega) hOz3803 (Nat.le_refl _) (by omega) (fun q9 => ⟨q9, c59⟩)) (by omega)
                  · -- 59 to 62
                    refine zw_n 2 (ls' := [some (.ref 43), some (.int (nI i)), some (.int 1), some (.int (nI ps)), some (.int (nI y))]) rfl ?_
                    refine zw_inc rfl (x' := (nI (y + 1))) (ls' := [some (.ref 43), some (.int (nI i)), some (.int 1), some (.int (nI ps)), some (.int (nI (y + 1)))]) rfl (na (a := y) (b := 1) rfl rfl) rfl ?_
                    refine zw_n 1 rfl ?_
                    exact ih20 1 (y + 1) Oz3797 Fz3798 Mz3805 (Sm.trans s_20 hSz3802) h3z3800 h4z3801 (hi20.step (mo2 := 1) (by omega) hOz3803 (Nat.le_refl _) (by omega) (fun q9 => by omega)) (by omega)
          exact lp20 _ 0 0 O1 F1 M_4 s_4 f4_0 f4_1 (hi4.1.go) (Nat.lt_succ_self _)
  exact lp4 _ 1 0 O F Mq Sm.rf h43 h44 (⟨OpP.start hops, Nat.zero_le _⟩) (Nat.lt_succ_self _)

set_option maxHeartbeats 4000000 in
set_option maxRecDepth 100000 in
theorem c_behind (Mq : zM) (s : Nat) (W R : Nat → Nat) (n em : Nat) (gn al_ it pt tg bd fr af fb : Nat → Nat) (c : Nat) (sg li co : Nat → Nat) (hC : Seg Mq 34 (chtL 34 16 26 s W R)) (hR : Seg Mq 16 (rulL 16 (n, gn, al_, it, pt, tg, bd, em, fr, af, fb))) (hT : Seg Mq 26 (tokL 26 (c, sg, li, co))) (hG : SafeG n gn al_ it pt tg bd) (hS : SafeT c sg li co) (hW : SafeM W) (hQ : SafeM R) (m8 s8 F : Nat) (O : Nat → Nat) (h43 : Mq[43]? = some (.inr (6, [.ref 34, .ref 44, .int (nI m8), .int (nI s8), .long (lN F)]))) (h44 : Mq[44]? = some (.inl (1, 168, .inr (.inl (al O))))) (m s9 r0 : Nat) (hmc : m ≤ c) (hs9 : s9 < 128) (hr0 : r0 < 8) (hO : SafeM O) (hsfb : SafeM fb) (hfb : ∀ r a k, r < n → a < al_ r → k < it (r * 4 + a) → fb ((r * 4 + a) * 5 + k) = rst (gE al_ it tg pt bd sg co) fr (r * 4 + a) k) (htn9 : ∀ r a k, r < n → a < al_ r → k < it (r * 4 + a) → tg ((r * 4 + a) * 5 + k) ≠ NO → tg ((r * 4 + a) * 5 + k) < n) (hCl : Clo (gE al_ it tg pt bd sg co) n) (hChS : ChS (gE al_ it tg pt bd sg co) n c W) : Zm 4 zm_Outlook_columnsBehind [.ref 43, .int (nI m), .int (nI s9), .int (nI r0)] Mq (fun r9 M1 => ∃ F9 R9 O9, r9 = some (.long (lN F9)) ∧ F9 < 1099511627776 ∧ (∀ d, F9.testBit d = true ↔ Fnd (gE al_ it tg pt bd sg co) n fr m s9 r0 d) ∧ M1[43]? = some (.inr (6, [.ref 34, .ref 44, .int (nI m), .int (nI s9), .long (lN F9)])) ∧ M1[44]? = some (.inl (1, 168, .inr (.inl (al O9)))) ∧ M1[36]? = some (.inl (1, 3360, .inr (.inl (al R9)))) ∧ SafeM R9 ∧ SafeM O9 ∧ Sm Mq M1 [36, 43, 44]) := by
  show Zw 4 zm_Outlook_columnsBehind 0 [some (.ref 43), some (.int (nI m)), some (.int (nI s9)), some (.int (nI r0)), none] [] Mq _
  have hn8 := hG.1
  have hc20 := hS.1
  refine zw_n 2 rfl ?_
  refine zw_put rfl h43 (rfl) (Nat.le_of_ble_eq_true rfl) ?_
  generalize ez3808 : List.set Mq 43 _ = Mz3807
  refine zw_n 2 rfl ?_
  refine zw_put rfl (zat_self ez3808 h43) (rfl) (Nat.le_of_ble_eq_true rfl) ?_
  generalize ez3810 : List.set Mz3807 43 _ = Mz3809
  refine zw_n 2 rfl ?_
  refine zw_put rfl (zat_self ez3810 (zat_self ez3808 h43)) (rfl) (Nat.le_of_ble_eq_true rfl) ?_
  generalize ez3812 : List.set Mz3809 43 _ = Mz3811
  refine zw_n 1 rfl ?_
  refine zw_get (v := .ref 44) rfl (zat_self ez3812 (zat_self ez3810 (zat_self ez3808 h43))) rfl ?_
  refine zw_n 1 rfl ?_
  refine zw_callS (as := [.ref 44, .long 0]) (rest := []) rfl rfl rfl rfl rfl rfl (by decide) (z_fill168 Mz3811 44 O (zat_set ez3812 (by decide) (zat_set ez3810 (by decide) (zat_set ez3808 (by decide) h44)))) (fun rz3818 Mz3819 hz3820 => ?_)
  obtain ⟨hAz3813, gz3814, h1z3815, hSz3816, hzz3817⟩ := hz3820
  rw [hAz3813]
  show Zw 4 zm_Outlook_columnsBehind 23 [some (.ref 43), some (.int (nI m)), some (.int (nI s9)), some (.int (nI r0)), none] [] Mz3819 _
  refine zw_n 1 rfl ?_
  refine zw_get (v := .ref 44) rfl (Sm.at hSz3816 (by decide) (zat_self ez3812 (zat_self ez3810 (zat_self ez3808 h43)))) rfl ?_
  refine zw_n 3 rfl ?_
  refine zw_top (nm (a := r0) (b := 21) rfl rfl) ?_
  refine zw_n 1 rfl ?_
  refine zw_lastN (g := gz3814) (j := (r0 * 21)) (v := 1099511627775) rfl h1z3815 rfl (by decide) (by omega) (rfl) ?_
  generalize ez3822 : List.set Mz3819 44 _ = Mz3821
  refine zw_n 2 (ls' := [some (.ref 43), some (.int (nI m)), some (.int (nI s9)), some (.int (nI r0)), some (.int 0)]) rfl ?_
  have mz3823 : Mz3821[34]? = some (.inr (0, [.ref 16, .ref 26, .int (nI s), .ref 35, .ref 36])) := zat_set ez3822 (by decide) (Sm.at hSz3816 (by decide) (zat_set ez3812 (by decide) (zat_set ez3810 (by decide) (zat_set ez3808 (by decide) (hC.get 0 rfl)))))
  have mz3824 : Mz3821[35]? = some (.inl (1, 3528, .inr (.inl (al W)))) := zat_set ez3822 (by decide) (Sm.at hSz3816 (by decide) (zat_set ez3812 (by decide) (zat_set ez3810 (by decide) (zat_set ez3808 (by decide) (hC.get 1 rfl)))))
  have mz3825 : Mz3821[36]? = some (.inl (1, 3360, .inr (.inl (al R)))) := zat_set ez3822 (by decide) (Sm.at hSz3816 (by decide) (zat_set ez3812 (by decide) (zat_set ez3810 (by decide) (zat_set ez3808 (by decide) (hC.get 2 rfl)))))
  have mz3826 : Mz3821[16]? = some (.inr (8, [.int (nI n), .ref 17, .ref 18, .ref 19, .ref 20, .ref 21, .ref 22, .int (nI em), .ref 23, .ref 24, .ref 25])) := zat_set ez3822 (by decide) (Sm.at hSz3816 (by decide) (zat_set ez3812 (by decide) (zat_set ez3810 (by decide) (zat_set ez3808 (by decide) (hR.get 0 rfl)))))
  have mz3827 : Mz3821[17]? = some (.inl (0, 8, .inl (ai gn))) := zat_set ez3822 (by decide) (Sm.at hSz3816 (by decide) (zat_set ez3812 (by decide) (zat_set ez3810 (by decide) (zat_set ez3808 (by decide) (hR.get 1 rfl)))))
  have mz3828 : Mz3821[18]? = some (.inl (0, 8, .inl (ai al_))) := zat_set ez3822 (by decide) (Sm.at hSz3816 (by decide) (zat_set ez3812 (by decide) (zat_set ez3810 (by decide) (zat_set ez3808 (by decide) (hR.get 2 rfl)))))
  have mz3829 : Mz3821[19]? = some (.inl (0, 32, .inl (ai it))) := zat_set ez3822 (by decide) (Sm.at hSz3816 (by decide) (zat_set ez3812 (by decide) (zat_set ez3810 (by decide) (zat_set ez3808 (by decide) (hR.get 3 rfl)))))
  have mz3830 : Mz3821[20]? = some (.inl (0, 160, .inl (ai pt))) := zat_set ez3822 (by decide) (Sm.at hSz3816 (by decide) (zat_set ez3812 (by decide) (zat_set ez3810 (by decide) (zat_set ez3808 (by decide) (hR.get 4 rfl)))))
  have mz3831 : Mz3821[21]? = some (.inl (0, 160, .inl (ai tg))) := zat_set ez3822 (by decide) (Sm.at hSz3816 (by decide) (zat_set ez3812 (by decide) (zat_set ez3810 (by decide) (zat_set ez3808 (by decide) (hR.get 5 rfl)))))
  have mz3832 : Mz3821[22]? = some (.inl (0, 160, .inl (ai bd))) := zat_set ez3822 (by decide) (Sm.at hSz3816 (by decide) (zat_set ez3812 (by decide) (zat_set ez3810 (by decide) (zat_set ez3808 (by decide) (hR.get 6 rfl)))))
  have mz3833 : Mz3821[23]? = some (.inl (1, 8, .inr (.inl (al fr)))) := zat_set ez3822 (by decide) (Sm.at hSz3816 (by decide) (zat_set ez3812 (by decide) (zat_set ez3810 (by decide) (zat_set ez3808 (by decide) (hR.get 7 rfl)))))
  have mz3834 : Mz3821[24]? = some (.inl (1, 32, .inr (.inl (al af)))) := zat_set ez3822 (by decide) (Sm.at hSz3816 (by decide) (zat_set ez3812 (by decide) (zat_set ez3810 (by decide) (zat_set ez3808 (by decide) (hR.get 8 rfl)))))
  have mz3835 : Mz3821[25]? = some (.inl (1, 160, .inr (.inl (al fb)))) := zat_set ez3822 (by decide) (Sm.at hSz3816 (by decide) (zat_set ez3812 (by decide) (zat_set ez3810 (by decide) (zat_set ez3808 (by decide) (hR.get 9 rfl)))))
  have mz3836 : Mz3821[26]? = some (.inr (9, [.int (nI c), .ref 27, .ref 28, .ref 29])) := zat_set ez3822 (by decide) (Sm.at hSz3816 (by decide) (zat_set ez3812 (by decide) (zat_set ez3810 (by decide) (zat_set ez3808 (by decide) (hT.get 0 rfl)))))
  have mz3837 : Mz3821[27]? = some (.inl (0, 20, .inl (ai sg))) := zat_set ez3822 (by decide) (Sm.at hSz3816 (by decide) (zat_set ez3812 (by decide) (zat_set ez3810 (by decide) (zat_set ez3808 (by decide) (hT.get 1 rfl)))))
  have mz3838 : Mz3821[28]? = some (.inl (0, 20, .inl (ai li))) := zat_set ez3822 (by decide) (Sm.at hSz3816 (by decide) (zat_set ez3812 (by decide) (zat_set ez3810 (by decide) (zat_set ez3808 (by decide) (hT.get 2 rfl)))))
  have mz3839 : Mz3821[29]? = some (.inl (0, 20, .inl (ai co))) := zat_set ez3822 (by decide) (Sm.at hSz3816 (by decide) (zat_set ez3812 (by decide) (zat_set ez3810 (by decide) (zat_set ez3808 (by decide) (hT.get 3 rfl)))))
  have mz3840 : Mz3821[43]? = some (.inr (6, [.ref 34, .ref 44, .int (nI m), .int (nI s9), .long 0])) := zat_set ez3822 (by decide) (Sm.at hSz3816 (by decide) (zat_self ez3812 (zat_self ez3810 (zat_self ez3808 h43))))
  have sz3841 : Sm Mq Mz3821 [36, 43, 44] := Sm.tset (Sm.tw (Sm.tset (Sm.tset (Sm.tset Sm.rf ez3808 (by decide)) ez3810 (by decide)) ez3812 (by decide)) hSz3816 (by decide)) ez3822 (by decide)
  have lp38 : ∀ (n38 : Nat) (i : Nat) (R1 : Nat → Nat) (O1 : Nat → Nat) (F1 : Nat) (M_38 : zM), Sm Mq M_38 [36, 43, 44] → M_38[36]? = some (.inl (1, 3360, .inr (.inl (al R1)))) → M_38[43]? = some (.inr (6, [.ref 34, .ref 44, .int (nI m), .int (nI s9), .long (lN F1)])) → M_38[44]? = some (.inl (1, 168, .inr (.inl (al O1)))) → (i ≤ m + 1 ∧ SafeM R1 ∧ OpS (gE al_ it tg pt bd sg co) n fr m s9 r0 i O1 F1) → m + 1 - i < n38 → Zw 4 zm_Outlook_columnsBehind 38 [some (.ref 43), some (.int (nI m)), some (.int (nI s9)), some (.int (nI r0)), some (.int (nI i))] [] M_38 (fun r9 M1 => ∃ F9 R9 O9, r9 = some (.long (lN F9)) ∧ F9 < 1099511627776 ∧ (∀ d, F9.testBit d = true ↔ Fnd (gE al_ it tg pt bd sg co) n fr m s9 r0 d) ∧ M1[43]? = some (.inr (6, [.ref 34, .ref 44, .int (nI m), .int (nI s9), .long (lN F9)])) ∧ M1[44]? = some (.inl (1, 168, .inr (.inl (al O9)))) ∧ M1[36]? = some (.inl (1, 3360, .inr (.inl (al R9)))) ∧ SafeM R9 ∧ SafeM O9 ∧ Sm Mq M1 [36, 43, 44]) := by
    intro n38
    induction n38 with
    | zero => intro i R1 O1 F1 M_38 _ _ _ _ _ h; exact absurd h (Nat.not_lt_zero _)
    | succ n38 ih38 =>
      intro i R1 O1 F1 M_38 s_38 f38_0 f38_1 f38_2 hi38 hm38
      refine zw_n 2 rfl ?_
      refine zw_igtN (a := i) (b := m) rfl rfl rfl (by omega) (by omega) (fun c41 => ?_) (fun c41 => ?_)
      · -- 41 to 66
        refine zw_n 1 rfl ?_
        refine zw_get (v := .long (lN F1)) rfl f38_1 rfl ?_
        exact zw_lret rfl rfl (⟨F1, R1, O1, rfl, hi38.2.2.sff, OpS.fnd ((show i = m + 1 by omega) ▸ hi38.2.2), f38_1, f38_2, f38_0, hi38.2.1, hi38.2.2.sfo, s_38⟩)
      · -- 41 to 44
        refine zw_n 1 rfl ?_
        refine zw_get (v := .ref 34) rfl f38_1 rfl ?_
        refine zw_n 2 rfl ?_
        refine zw_callV (as := [.int (nI i), .int (nI m)]) (rest := []) rfl rfl rfl (Sm.at s_38 (by decide) (hC.get 0 rfl)) rfl rfl rfl (by decide) (c_fillRows M_38 34 16 26 s W R1 n em gn al_ it pt tg bd fr af fb c sg li co (seg3 (Sm.at s_38 (by decide) (hC.get 0 rfl)) (Sm.at s_38 (by decide) (hC.get 1 rfl)) f38_0) (seg10 (Sm.at s_38 (by decide) (hR.get 0 rfl)) (Sm.at s_38 (by decide) (hR.get 1 rfl)) (Sm.at s_38 (by decide) (hR.get 2 rfl)) (Sm.at s_38 (by decide) (hR.get 3 rfl)) (Sm.at s_38 (by decide) (hR.get 4 rfl)) (Sm.at s_38 (by decide) (hR.get 5 rfl)) (Sm.at s_38 (by decide) (hR.get 6 rfl)) (Sm.at s_38 (by decide) (hR.get 7 rfl)) (Sm.at s_38 (by decide) (hR.get 8 rfl)) (Sm.at s_38 (by decide) (hR.get 9 rfl))) (seg4 (Sm.at s_38 (by decide) (hT.get 0 rfl)) (Sm.at s_38 (by decide) (hT.get 1 rfl)) (Sm.at s_38 (by decide) (hT.get 2 rfl)) (Sm.at s_38 (by decide) (hT.get 3 rfl))) hG hS (by assumption) hi38.2.1 (by decide) i m (by omega) (by omega)) (fun rz3848 Mz3849 hz3850 => ?_)
        obtain ⟨hAz3843, Rz3842, hBz3844, hSz3845, hDz3846, hEz3847⟩ := hz3850
        rw [hAz3843]
        have hrw9 := rows_wh hEz3847 hCl (by omega) hChS (fun q => hG.2.2.2.1 q)
        show Zw 4 zm_Outlook_columnsBehind 54 [some (.ref 43), some (.int (nI m)), some (.int (nI s9)), some (.int (nI r0)), some (.int (nI i))] [] Mz3849 _
        refine zw_n 2 rfl ?_
        refine zw_callV (as := [.int (nI i)]) (rest := []) rfl rfl rfl (Sm.at hSz3845 (by decide) f38_1) rfl rfl rfl (by decide) (c_openAt Mz3849 s W Rz3842 n em gn al_ it pt tg bd fr af fb c sg li co (seg3 (Sm.at hSz3845 (by decide) (Sm.at s_38 (by decide) (hC.get 0 rfl))) (Sm.at hSz3845 (by decide) (Sm.at s_38 (by decide) (hC.get 1 rfl))) hBz3844) (seg10 (Sm.at hSz3845 (by decide) (Sm.at s_38 (by decide) (hR.get 0 rfl))) (Sm.at hSz3845 (by decide) (Sm.at s_38 (by decide) (hR.get 1 rfl))) (Sm.at hSz3845 (by decide) (Sm.at s_38 (by decide) (hR.get 2 rfl))) (Sm.at hSz3845 (by decide) (Sm.at s_38 (by decide) (hR.get 3 rfl))) (Sm.at hSz3845 (by decide) (Sm.at s_38 (by decide) (hR.get 4 rfl))) (Sm.at hSz3845 (by decide) (Sm.at s_38 (by decide) (hR.get 5 rfl))) (Sm.at hSz3845 (by decide) (Sm.at s_38 (by decide) (hR.get 6 rfl))) (Sm.at hSz3845 (by decide) (Sm.at s_38 (by decide) (hR.get 7 rfl))) (Sm.at hSz3845 (by decide) (Sm.at s_38 (by decide) (hR.get 8 rfl))) (Sm.at hSz3845 (by decide) (Sm.at s_38 (by decide) (hR.get 9 rfl)))) (seg4 (Sm.at hSz3845 (by decide) (Sm.at s_38 (by decide) (hT.get 0 rfl))) (Sm.at hSz3845 (by decide) (Sm.at s_38 (by decide) (hT.get 1 rfl))) (Sm.at hSz3845 (by decide) (Sm.at s_38 (by decide) (hT.get 2 rfl))) (Sm.at hSz3845 (by decide) (Sm.at s_38 (by decide) (hT.get 3 rfl)))) hG hS (by assumption) hDz3846 m s9 F1 O1 (Sm.at hSz3845 (by decide) f38_1) (Sm.at hSz3845 (by decide) f38_2) (by omega) hs9 r0 hsfb hfb htn9 i (by omega) hrw9 hi38.2.2) (fun rz3858 Mz3859 hz3860 => ?_)
        obtain ⟨hAz3851, Oz3852, Fz3853, h3z3854, h4z3855, hSz3856, hOz3857⟩ := hz3860
        rw [hAz3851]
        show Zw 4 zm_Outlook_columnsBehind 60 [some (.ref 43), some (.int (nI m)), some (.int (nI s9)), some (.int (nI r0)), some (.int (nI i))] [] Mz3859 _
        refine zw_inc rfl (x' := (nI (i + 1))) (ls' := [some (.ref 43), some (.int (nI m)), some (.int (nI s9)), some (.int (nI r0)), some (.int (nI (i + 1)))]) rfl (na (a := i) (b := 1) rfl rfl) rfl ?_
        refine zw_n 1 rfl ?_
        exact ih38 (i + 1) Rz3842 Oz3852 Fz3853 Mz3859 (Sm.tw (Sm.tw s_38 hSz3845 (by decide)) hSz3856 (by decide)) (Sm.at hSz3856 (by decide) hBz3844) h3z3854 h4z3855 (⟨by omega, hDz3846, hOz3857⟩) (by omega)
  exact lp38 _ 0 R (up gz3814 (r0 * 21) 1099511627775) 0 Mz3821 sz3841 mz3825 mz3840 (zat_self ez3822 h1z3815) (⟨Nat.zero_le _, hQ, OpS.first hr0 (fun q q1 q2 => by rw [up_n q1, hzz3817 q, if_pos q2]) (up_s ..) (safe_up (fun q => by rw [hzz3817 q]; split <;> first | decide | exact hO q) (by decide)) hn8 (by omega)⟩) (Nat.lt_succ_self _)
