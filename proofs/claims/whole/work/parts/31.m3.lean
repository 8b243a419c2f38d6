set_option maxHeartbeats 4000000 in
set_option maxRecDepth 100000 in
theorem m_altAt (Mq : zM) (r a : Nat) : Zm 0 zm_MO_altAt [.int (nI r), .int (nI a)] Mq (fun r9 M1 => r9 = some (.int (nI (r * 4 + a))) ∧ M1 = Mq) := by
  show Zw 0 zm_MO_altAt 0 [some (.int (nI r)), some (.int (nI a))] [] Mq _
  refine zw_n 3 rfl ?_
  refine zw_top (nm (a := 4) (b := r) rfl rfl) ?_
  refine zw_n 2 rfl ?_
  refine zw_top (na (a := 4 * r) (b := a) rfl rfl) ?_
  exact zw_iret rfl rfl (⟨by rw [Nat.mul_comm 4 r], rfl⟩)

set_option maxHeartbeats 4000000 in
set_option maxRecDepth 100000 in
theorem m_itemAt (Mq : zM) (r a k : Nat) : Zm 1 zm_MO_itemAt [.int (nI r), .int (nI a), .int (nI k)] Mq (fun r9 M1 => r9 = some (.int (nI (49 + 3 * ((r * 4 + a) * 5 + k)))) ∧ M1 = Mq) := by
  show Zw 1 zm_MO_itemAt 0 [some (.int (nI r)), some (.int (nI a)), some (.int (nI k))] [] Mq _
  refine zw_n 5 rfl ?_
  refine zw_callS (as := [.int (nI r), .int (nI a)]) (rest := [.int 5, .int 3, .int 49]) rfl rfl rfl rfl rfl rfl (by decide) (m_altAt _ r a) (fun rz94 Mz95 hz96 => ?_)
  rw [hz96.1, hz96.2]
  show Zw 1 zm_MO_itemAt 9 [some (.int (nI r)), some (.int (nI a)), some (.int (nI k))] [.int (nI (r * 4 + a)), .int 5, .int 3, .int 49] Mq _
  refine zw_n 1 rfl ?_
  refine zw_top (nm (a := 5) (b := r * 4 + a) rfl rfl) ?_
  refine zw_n 2 rfl ?_
  refine zw_top (na (a := 5 * (r * 4 + a)) (b := k) rfl rfl) ?_
  refine zw_n 1 rfl ?_
  refine zw_top (nm (a := 3) (b := (5 * (r * 4 + a)) + k) rfl rfl) ?_
  refine zw_n 1 rfl ?_
  refine zw_top (na (a := 49) (b := 3 * ((5 * (r * 4 + a)) + k)) rfl rfl) ?_
  exact zw_iret rfl rfl (⟨by rw [Nat.mul_comm 5 (r * 4 + a)], rfl⟩)

set_option maxHeartbeats 4000000 in
set_option maxRecDepth 100000 in
theorem m_at (Mq : zM) (r a k : Nat) : Zm 0 zm_MO_at [.int (nI r), .int (nI a), .int (nI k)] Mq (fun r9 M1 => r9 = some (.int (nI (22 * (22 * r + a) + k))) ∧ M1 = Mq) := by
  show Zw 0 zm_MO_at 0 [some (.int (nI r)), some (.int (nI a)), some (.int (nI k))] [] Mq _
  refine zw_n 4 rfl ?_
  refine zw_top (nm (a := 22) (b := r) rfl rfl) ?_
  refine zw_n 2 rfl ?_
  refine zw_top (na (a := 22 * r) (b := a) rfl rfl) ?_
  refine zw_n 1 rfl ?_
  refine zw_top (nm (a := 22) (b := (22 * r) + a) rfl rfl) ?_
  refine zw_n 2 rfl ?_
  refine zw_top (na (a := 22 * ((22 * r) + a)) (b := k) rfl rfl) ?_
  exact zw_iret rfl rfl (⟨rfl, rfl⟩)

set_option maxHeartbeats 4000000 in
set_option maxRecDepth 100000 in
theorem m_items (Mq : zM) (o : Nat → Nat) (f : Nat → Nat → Nat) (hM : MM Mq o f)(n : Nat) (gn al_ it pt tg bd : Nat → Nat) (hg : RelG f n gn al_ it pt tg bd) (hG : SafeG n gn al_ it pt tg bd) (hF : SafeF f) (r a : Nat) (hr : r < n) (ha : a < al_ r) : Zm 1 zm_MO_items [.ref 139, .int (nI r), .int (nI a)] Mq (fun r9 M1 => r9 = some (.int (nI (it (r * 4 + a)))) ∧ M1 = Mq) := by
  show Zw 1 zm_MO_items 0 [some (.ref 139), some (.int (nI r)), some (.int (nI a))] [] Mq _
  have hn8 := hG.1
  have ha4 := hG.2.2.1 r
  refine zw_n 1 rfl ?_
  refine zw_get (v := .ref 140) rfl hM.1 rfl ?_
  refine zw_n 3 rfl ?_
  refine zw_callS (as := [.int (nI r), .int (nI a)]) (rest := [.int 17, .ref 140]) rfl rfl rfl rfl rfl rfl (by decide) (m_altAt _ r a) (fun rz97 Mz98 hz99 => ?_)
  rw [hz99.1, hz99.2]
  show Zw 1 zm_MO_items 11 [some (.ref 139), some (.int (nI r)), some (.int (nI a))] [.int (nI (r * 4 + a)), .int 17, .ref 140] Mq _
  refine zw_n 1 rfl ?_
  refine zw_top (na (a := 17) (b := r * 4 + a) rfl rfl) ?_
  refine zw_iald (f := ai (f 140)) (j := (17 + (r * 4 + a))) rfl (hM.2 140 (by decide) (by decide)) rfl (by decide) (by omega) ?_
  refine zw_top (congrArg nI (hg.2.2.2.1 r a hr ha)) ?_
  exact zw_iret rfl rfl (⟨rfl, rfl⟩)

set_option maxHeartbeats 4000000 in
set_option maxRecDepth 100000 in
theorem m_partOf (Mq : zM) (o : Nat → Nat) (f : Nat → Nat → Nat) (hM : MM Mq o f)(n : Nat) (gn al_ it pt tg bd : Nat → Nat) (hg : RelG f n gn al_ it pt tg bd) (hG : SafeG n gn al_ it pt tg bd) (hF : SafeF f) (x : Nat) (hx : Slt n al_ it x) (hx1 : x < 160) : Zm 0 zm_MO_partOf [.ref 139, .int (nI (49 + 3 * x))] Mq (fun r9 M1 => r9 = some (.int (nI (tg x))) ∧ M1 = Mq) := by
  show Zw 0 zm_MO_partOf 0 [some (.ref 139), some (.int (nI (49 + 3 * x)))] [] Mq _
  refine zw_n 1 rfl ?_
  refine zw_get (v := .ref 153) rfl hM.1 rfl ?_
  refine zw_n 3 rfl ?_
  refine zw_top (ns (a := 49 + 3 * x) (b := 49) rfl rfl (by omega)) ?_
  refine zw_n 2 rfl ?_
  refine zw_top (x' := (nI x)) ((ndiv (a := 49 + 3 * x - 49) (b := 3) rfl rfl (by omega) (by decide) (by decide)).trans (congrArg nI (by omega))) ?_
  refine zw_iald (f := ai (f 153)) (j := x) rfl (hM.2 153 (by decide) (by decide)) rfl (by decide) (by omega) ?_
  refine zw_top (congrArg nI (hg.2.2.2.2 x hx).2.2.2) ?_
  exact zw_iret rfl rfl (⟨rfl, rfl⟩)

set_option maxHeartbeats 4000000 in
set_option maxRecDepth 100000 in
theorem m_tokens (Mq : zM) (o : Nat → Nat) (f : Nat → Nat → Nat) (hM : MM Mq o f) (c : Nat) (sg li co : Nat → Nat) (ht : RelT f c sg li co) : Zm 0 zm_MO_tokens [.ref 139] Mq (fun r9 M1 => r9 = some (.int (nI c)) ∧ M1 = Mq) := by
  show Zw 0 zm_MO_tokens 0 [some (.ref 139)] [] Mq _
  refine zw_n 1 rfl ?_
  refine zw_get (v := .ref 140) rfl hM.1 rfl ?_
  refine zw_n 1 rfl ?_
  refine zw_iald (f := ai (f 140)) (j := 529) rfl (hM.2 140 (by decide) (by decide)) rfl (by decide) (by omega) ?_
  refine zw_top (congrArg nI ht.1) ?_
  exact zw_iret rfl rfl (⟨rfl, rfl⟩)

set_option maxHeartbeats 4000000 in
set_option maxRecDepth 100000 in
theorem m_in (Mq : zM) (x y z : Int64) (V L H : Int) (hx : x.toInt = V) (hy : y.toInt = L) (hz : z.toInt = H) : Zm 0 zm_MO_in [.long x, .long y, .long z] Mq (fun r9 M1 => r9 = some (.int (nI (if L ≤ V ∧ V ≤ H then 1 else 0))) ∧ M1 = Mq) := by
  show Zw 0 zm_MO_in 0 [some (.long x), none, some (.long y), none, some (.long z), none] [] Mq _
  refine zw_n 3 rfl ?_
  refine zw_llt rfl (fun c3 => ?_) (fun c3 => ?_)
  · -- 3 to 17
    first | (rw [Int64.lt_iff_toInt_lt, hx, hz] at c10) | (rw [Int64.lt_iff_toInt_lt, hx, hy] at c3)
    refine zw_n 1 rfl ?_
    exact zw_zret rfl rfl (Or.inl rfl) (⟨by rw [if_neg (by omega)]; rfl, rfl⟩)
  · -- 3 to 6
    rw [Int64.lt_iff_toInt_lt, hx, hy] at c3
    refine zw_n 3 rfl ?_
    refine zw_lgt rfl (fun c10 => ?_) (fun c10 => ?_)
    · -- 10 to 17
      first | (rw [Int64.lt_iff_toInt_lt, hx, hz] at c10) | (rw [Int64.lt_iff_toInt_lt, hx, hy] at c3)
      refine zw_n 1 rfl ?_
      exact zw_zret rfl rfl (Or.inl rfl) (⟨by rw [if_neg (by omega)]; rfl, rfl⟩)
    · -- 10 to 13
      rw [Int64.lt_iff_toInt_lt, hx, hz] at c10
      refine zw_n 2 rfl ?_
      exact zw_zret rfl rfl (Or.inr rfl) (⟨by rw [if_pos (by omega)]; rfl, rfl⟩)

set_option maxHeartbeats 4000000 in
set_option maxRecDepth 100000 in
theorem m_isGrammar (Mq : zM) (o : Nat → Nat) (f : Nat → Nat → Nat) (hM : MM Mq o f)(n : Nat) (gn al_ it pt tg bd : Nat → Nat) (hg : RelG f n gn al_ it pt tg bd) (hG : SafeG n gn al_ it pt tg bd) (hF : SafeF f) : Zm 0 zm_MO_isGrammar [.ref 139] Mq (fun r9 M1 => r9 = some (.int (nI (if 0 < n then 1 else 0))) ∧ M1 = Mq) := by
  show Zw 0 zm_MO_isGrammar 0 [some (.ref 139)] [] Mq _
  have hn8 := hG.1
  refine zw_n 1 rfl ?_
  refine zw_get (v := .ref 140) rfl hM.1 rfl ?_
  refine zw_n 1 rfl ?_
  refine zw_iald (f := ai (f 140)) (j := 0) rfl (hM.2 140 (by decide) (by decide)) rfl (by decide) (by omega) ?_
  refine zw_top (congrArg nI hg.1) ?_
  refine zw_le0N (a := n) rfl rfl (by omega) (fun c6 => ?_) (fun c6 => ?_)
  · -- 6 to 13
    refine zw_n 1 rfl ?_
    exact zw_zret rfl rfl (Or.inl rfl) (⟨by rw [if_neg (by omega)]; rfl, rfl⟩)
  · -- 6 to 9
    refine zw_n 2 rfl ?_
    exact zw_zret rfl rfl (Or.inr rfl) (⟨by rw [if_pos (by omega)]; rfl, rfl⟩)

set_option maxHeartbeats 4000000 in
set_option maxRecDepth 100000 in
theorem m_lets (Mq : zM) (b m : Nat) (hb : b < 2147483648) (hm : m < 1099511627776) : Zm 0 zm_MO_lets [.int (nI b), .long (lN m)] Mq (fun r9 M1 => r9 = some (.long (lN (letsN b m))) ∧ M1 = Mq) := by
  show Zw 0 zm_MO_lets 0 [some (.int (nI b)), some (.long (lN m)), none, none, none, none, none] [] Mq _
  refine zw_n 3 rfl ?_
  refine zw_leqN (a := m) (b := 0) rfl rfl rfl (by omega) (by omega) (fun c3 => ?_) (fun c3 => ?_)
  · -- 3 to 12
    refine zw_n 3 rfl ?_
    refine zw_lneN (a := m) (b := 0) rfl rfl rfl (by omega) (by omega) (fun c15 => ?_) (fun c15 => ?_)
    · -- 15 to 22
      refine zw_n 1 rfl ?_
      refine zw_topl (x' := lN 1099511627775) (by decide) ?_
      exact zw_lret rfl rfl (⟨by unfold letsN; simp_all, rfl⟩)
    · -- 15 to 18
      refine zw_n 2 rfl ?_
      refine zw_topl (x' := lN 0) (by decide) ?_
      exact zw_lret rfl rfl (⟨by unfold letsN; simp_all, rfl⟩)
  · -- 3 to 6
    refine zw_n 2 rfl ?_
    refine zw_ineN (a := b) (b := 42) rfl rfl rfl (by omega) (by omega) (fun c9 => ?_) (fun c9 => ?_)
    · -- 9 to 26
      refine zw_n 2 rfl ?_
      refine zw_ineN (a := b) (b := 61) rfl rfl rfl (by omega) (by omega) (fun c29 => ?_) (fun c29 => ?_)
      · -- 29 to 34
        refine zw_n 4 (ls' := [some (.int (nI b)), some (.long (lN m)), none, some (.long 0), none, some (.int 0), none]) rfl ?_
        have lp39 : ∀ (n39 : Nat) (a : Nat) (e : Nat), (e ≤ 40 ∧ a = (if b = 62 then orR (fun c => if m / 2 ^ (c + 1) ≠ 0 then 2 ^ c else 0) 0 e else orR (fun c => if m / 2 ^ c ≠ 0 then 2 ^ c else 0) 0 e)) → 40 - e < n39 → Zw 0 zm_MO_lets 39 [some (.int (nI b)), some (.long (lN m)), none, some (.long (lN a)), none, some (.int (nI e)), none] [] Mq (fun r9 M1 => r9 = some (.long (lN (letsN b m))) ∧ M1 = Mq) := by
          intro n39
          induction n39 with
          | zero => intro a e _ h; exact absurd h (Nat.not_lt_zero _)
          | succ n39 ih39 =>
            intro a e hi39 hm39
            refine zw_n 2 rfl ?_
            refine zw_igtN (a := e) (b := 39) rfl rfl rfl (by omega) (by omega) (fun c43 => ?_) (fun c43 => ?_)
            · -- 43 to 109
              refine zw_n 1 rfl ?_
              exact zw_lret rfl rfl (⟨by have h9 := hi39.2; rw [show e = 40 by omega, lets_gt c3 hm, lets_ge c3 hm] at h9; rw [h9]; unfold letsN; rw [if_neg c3, if_neg c29, if_neg c9], rfl⟩)
            · -- 43 to 46
              have j46 : Zw 0 zm_MO_lets 85 [some (.int (nI b)), some (.long (lN m)), none, some (.long (lN a)), none, some (.int (nI e)), none] [.int (nI (if (if b = 62 then m / 2 ^ (e + 1) else m / 2 ^ e) ≠ 0 then 1 else 0))] Mq (fun r9 M1 => r9 = some (.long (lN (letsN b m))) ∧ M1 = Mq) := by
                refine zw_n 3 (ls' := [some (.int (nI b)), some (.long (lN m)), none, some (.long (lN a)), none, some (.int (nI e)), some (.int (nI (if (if b = 62 then m / 2 ^ (e + 1) else m / 2 ^ e) ≠ 0 then 1 else 0)))]) rfl ?_
                refine zw_eq0N (a := if (if b = 62 then m / 2 ^ (e + 1) else m / 2 ^ e) ≠ 0 then 1 else 0) rfl rfl (ite_b) (fun c90 => ?_) (fun c90 => ?_)
                · -- 90 to 100
                  refine zw_n 2 rfl ?_
                  refine zw_topl (lo (a := a) (b := 0) rfl rfl) ?_
                  refine zw_n 1 (ls' := [some (.int (nI b)), some (.long (lN m)), none, some (.long (lN (a ||| 0))), none, some (.int (nI e)), some (.int (nI (if (if b = 62 then m / 2 ^ (e + 1) else m / 2 ^ e) ≠ 0 then 1 else 0)))]) rfl ?_
                  refine zw_inc rfl (x' := (nI (e + 1))) (ls' := [some (.int (nI b)), some (.long (lN m)), none, some (.long (lN (a ||| 0))), none, some (.int (nI (e + 1))), some (.int (nI (if (if b = 62 then m / 2 ^ (e + 1) else m / 2 ^ e) ≠ 0 then 1 else 0)))]) rfl (na (a := e) (b := 1) rfl rfl) rfl ?_
                  refine zw_n 1 rfl ?_
                  refine zw_ls (ls' := [some (.int (nI b)), some (.long (lN m)), none, some (.long (lN (a ||| 0))), none, some (.int (nI (e + 1))), none]) ⟨Or.inr rfl, Or.inr rfl, Or.inl rfl, Or.inr rfl, Or.inl rfl, Or.inr rfl, Or.inl rfl, trivial⟩ ?_
                  exact ih39 (a ||| 0) (e + 1) (⟨by omega, by
                      rw [hi39.2]
                      by_cases q : b = 62
                      · rw [if_pos q, if_pos q, orR, Nat.zero_add]; simp_all
                      · rw [if_neg q, if_neg q, orR, Nat.zero_add]; simp_all⟩) (by omega)
                · -- 90 to 93
                  refine zw_n 3 rfl ?_
                  refine zw_topl (x' := (lN (2 ^ e))) ((lsl (m := 1) (k := e) rfl rfl (by omega)).trans (by rw [Nat.one_mul])) ?_
                  refine zw_n 2 rfl ?_
                  refine zw_topl (lo (a := a) (b := 2 ^ e) rfl rfl) ?_
                  refine zw_n 1 (ls' := [some (.int (nI b)), some (.long (lN m)), none, some (.long (lN (a ||| (2 ^ e)))), none, some (.int (nI e)), some (.int (nI (if (if b = 62 then m / 2 ^ (e + 1) else m / 2 ^ e) ≠ 0 then 1 else 0)))]) rfl ?_
                  refine zw_inc rfl (x' := (nI (e + 1))) (ls' := [some (.int (nI b)), some (.long (lN m)), none, some (.long (lN (a ||| (2 ^ e)))), none, some (.int (nI (e + 1))), some (.int (nI (if (if b = 62 then m / 2 ^ (e + 1) else m / 2 ^ e) ≠ 0 then 1 else 0)))]) rfl (na (a := e) (b := 1) rfl rfl) rfl ?_
                  refine zw_n 1 rfl ?_
                  refine zw_ls (ls' := [some (.int (nI b)), some (.long (lN m)), none, some (.long (lN (a ||| (2 ^ e)))), none, some (.int (nI (e + 1))), none]) ⟨Or.inr rfl, Or.inr rfl, Or.inl rfl, Or.inr rfl, Or.inl rfl, Or.inr rfl, Or.inl rfl, trivial⟩ ?_
                  exact ih39 (a ||| (2 ^ e)) (e + 1) (⟨by omega, by
                      rw [hi39.2]
                      by_cases q : b = 62
                      · rw [if_pos q, if_pos q, orR, Nat.zero_add]; simp_all
                      · rw [if_neg q, if_neg q, orR, Nat.zero_add]; simp_all⟩) (by omega)
              refine zw_n 2 rfl ?_
              refine zw_ineN (a := b) (b := 62) rfl rfl rfl (by omega) (by omega) (fun c49 => ?_) (fun c49 => ?_)
              · -- 49 to 71
                refine zw_n 3 rfl ?_
                refine zw_topl (x' := (lN (m / 2 ^ e))) (lsr (k := e) rfl rfl (by omega) (by omega)) ?_
                refine zw_n 2 rfl ?_
                refine zw_leqN (a := m / 2 ^ e) (b := 0) rfl rfl rfl (by first | exact Nat.lt_of_le_of_lt (Nat.div_le_self _ _) (by omega) | decide) (by first | exact Nat.lt_of_le_of_lt (Nat.div_le_self _ _) (by omega) | decide) (fun c77 => ?_) (fun c77 => ?_)
                · -- 77 to 84
                  refine zw_n 1 rfl ?_
                  refine zw_top (x' := nI (if (if b = 62 then m / 2 ^ (e + 1) else m / 2 ^ e) ≠ 0 then 1 else 0)) (show nI 0 = nI (if (if b = 62 then m / 2 ^ (e + 1) else m / 2 ^ e) ≠ 0 then 1 else 0) by rw [if_neg (by simp_all)]) ?_
                  exact j46
                · -- 77 to 80
                  refine zw_n 2 rfl ?_
                  refine zw_top (x' := nI (if (if b = 62 then m / 2 ^ (e + 1) else m / 2 ^ e) ≠ 0 then 1 else 0)) (show nI 1 = nI (if (if b = 62 then m / 2 ^ (e + 1) else m / 2 ^ e) ≠ 0 then 1 else 0) by rw [if_pos (by simp_all)]) ?_
                  exact j46
              · -- 49 to 52
                refine zw_n 4 rfl ?_
                refine zw_top (na (a := e) (b := 1) rfl rfl) ?_
                refine zw_n 1 rfl ?_
                refine zw_topl (x' := (lN (m / 2 ^ (e + 1)))) (lsr (k := e + 1) rfl rfl (by omega) (by omega)) ?_
                refine zw_n 2 rfl ?_
                refine zw_leqN (a := m / 2 ^ (e + 1)) (b := 0) rfl rfl rfl (by first | exact Nat.lt_of_le_of_lt (Nat.div_le_self _ _) (by omega) | decide) (by first | exact Nat.lt_of_le_of_lt (Nat.div_le_self _ _) (by omega) | decide) (fun c60 => ?_) (fun c60 => ?_)
                · -- 60 to 67
                  refine zw_n 2 rfl ?_
                  refine zw_top (x' := nI (if (if b = 62 then m / 2 ^ (e + 1) else m / 2 ^ e) ≠ 0 then 1 else 0)) (show nI 0 = nI (if (if b = 62 then m / 2 ^ (e + 1) else m / 2 ^ e) ≠ 0 then 1 else 0) by rw [if_neg (by simp_all)]) ?_
                  exact j46
                · -- 60 to 63
                  refine zw_n 2 rfl ?_
                  refine zw_top (x' := nI (if (if b = 62 then m / 2 ^ (e + 1) else m / 2 ^ e) ≠ 0 then 1 else 0)) (show nI 1 = nI (if (if b = 62 then m / 2 ^ (e + 1) else m / 2 ^ e) ≠ 0 then 1 else 0) by rw [if_pos (by simp_all)]) ?_
                  exact j46
        exact lp39 _ 0 0 (⟨by omega, by split <;> rfl⟩) (Nat.lt_succ_self _)
      · -- 29 to 32
        refine zw_n 1 rfl ?_
        exact zw_lret rfl rfl (⟨by unfold letsN; simp_all, rfl⟩)
    · -- 9 to 12
      refine zw_n 3 rfl ?_
      refine zw_lneN (a := m) (b := 0) rfl rfl rfl (by omega) (by omega) (fun c15 => ?_) (fun c15 => ?_)
      · -- 15 to 22
        refine zw_n 1 rfl ?_
        refine zw_topl (x' := lN 1099511627775) (by decide) ?_
        exact zw_lret rfl rfl (⟨by unfold letsN; simp_all, rfl⟩)
      · -- 15 to 18
        refine zw_n 2 rfl ?_
        refine zw_topl (x' := lN 0) (by decide) ?_
        exact zw_lret rfl rfl (⟨by unfold letsN; simp_all, rfl⟩)

set_option maxHeartbeats 4000000 in
set_option maxRecDepth 100000 in
theorem m_whereItem (Mq : zM) (o : Nat → Nat) (f : Nat → Nat → Nat) (hM : MM Mq o f)(n : Nat) (gn al_ it pt tg bd : Nat → Nat) (hg : RelG f n gn al_ it pt tg bd) (hG : SafeG n gn al_ it pt tg bd) (hF : SafeF f) (x p q : Nat) (hx : Slt n al_ it x) (hx1 : x < 160) (hp : p < 22) (hq : q < 22) : Zm 1 zm_MO_whereItem [.ref 139, .int (nI (49 + 3 * x)), .int (nI p), .int (nI q)] Mq (fun r9 M1 => r9 = some (.long (lN (itm (gE al_ it tg pt bd (f 156) (f 157)) (v3 (f 158)) x p q))) ∧ M1 = Mq) := by
  show Zw 1 zm_MO_whereItem 0 [some (.ref 139), some (.int (nI (49 + 3 * x))), some (.int (nI p)), some (.int (nI q))] [] Mq _
  have htg := hG.2.2.2.2.2.1 x
  have hpt := hG.2.2.2.2.1 x
  refine zw_n 2 rfl ?_
  refine zw_callV (as := [.int (nI (49 + 3 * x))]) (rest := []) rfl rfl rfl hM.1 rfl rfl rfl (by decide) (m_partOf Mq o f hM n gn al_ it pt tg bd hg hG hF x hx hx1) (fun rz100 Mz101 hz102 => ?_)
  rw [hz102.1, hz102.2]
  show Zw 1 zm_MO_whereItem 5 [some (.ref 139), some (.int (nI (49 + 3 * x))), some (.int (nI p)), some (.int (nI q))] [.int (nI (tg x))] Mq _
  refine zw_n 1 rfl ?_
  refine zw_ieqM (a := tg x) rfl rfl (by omega) (fun c6 => ?_) (fun c6 => ?_)
  · -- 6 to 25
    refine zw_n 4 rfl ?_
    refine zw_top (na (a := p) (b := 1) rfl rfl) ?_
    refine zw_ineN (a := q) (b := p + 1) rfl rfl rfl (by omega) (by omega) (fun c29 => ?_) (fun c29 => ?_)
    · -- 29 to 68
      refine zw_n 1 rfl ?_
      refine zw_topl (x' := lN 0) (by decide) ?_
      exact zw_lret rfl rfl (⟨by unfold itm; rw [if_pos (show (gE al_ it tg pt bd (f 156) (f 157)) 2 x = NO from c6)]; rw [if_neg (show ¬ (q = p + 1 ∧ ((gE al_ it tg pt bd (f 156) (f 157)) 5 p = (gE al_ it tg pt bd (f 156) (f 157)) 3 x ∨ (gE al_ it tg pt bd (f 156) (f 157)) 5 p = 1)) from fun hq => by have h8 := hq.1; have h9 : f 156 p = pt x ∨ f 156 p = 1 := hq.2; omega)], rfl⟩)
    · -- 29 to 32
      refine zw_n 1 rfl ?_
      refine zw_get (v := .ref 156) rfl hM.1 rfl ?_
      refine zw_n 1 rfl ?_
      refine zw_iald (f := ai (f 156)) (j := p) rfl (hM.2 156 (by decide) (by decide)) rfl (by decide) (by omega) ?_
      have bz103 := hF.2.1 p
      refine zw_n 1 rfl ?_
      refine zw_get (v := .ref 140) rfl hM.1 rfl ?_
      refine zw_n 1 rfl ?_
      refine zw_iald (f := ai (f 140)) (j := (49 + 3 * x)) rfl (hM.2 140 (by decide) (by decide)) rfl (by decide) (by omega) ?_
      refine zw_top (congrArg nI (hg.2.2.2.2 x hx).1) ?_
      refine zw_ieqN (a := (f 156) p) (b := pt x) rfl rfl rfl (by omega) (by omega) (fun c44 => ?_) (fun c44 => ?_)
      · -- 44 to 57
        refine zw_n 2 rfl ?_
        refine zw_get (v := .ref 157) rfl hM.1 rfl ?_
        refine zw_n 1 rfl ?_
        refine zw_iald (f := ai (f 157)) (j := p) rfl (hM.2 157 (by decide) (by decide)) rfl (by decide) (by omega) ?_
        have bz104 := hF.2.2.1 p
        refine zw_n 1 rfl ?_
        refine zw_topl (x' := (lN (2 ^ f 157 p))) ((lsl (m := 1) (k := f 157 p) rfl rfl (by omega)).trans (by rw [Nat.one_mul])) ?_
        refine zw_n 1 rfl ?_
        exact zw_lret rfl rfl (⟨by unfold itm; rw [if_pos (show (gE al_ it tg pt bd (f 156) (f 157)) 2 x = NO from c6)]; rw [if_pos (show q = p + 1 ∧ ((gE al_ it tg pt bd (f 156) (f 157)) 5 p = (gE al_ it tg pt bd (f 156) (f 157)) 3 x ∨ (gE al_ it tg pt bd (f 156) (f 157)) 5 p = 1) from ⟨c29, by first | exact Or.inl c44 | exact Or.inr c54⟩)]; rfl, rfl⟩)
      · -- 44 to 47
        refine zw_n 1 rfl ?_
        refine zw_get (v := .ref 156) rfl hM.1 rfl ?_
        refine zw_n 1 rfl ?_
        refine zw_iald (f := ai (f 156)) (j := p) rfl (hM.2 156 (by decide) (by decide)) rfl (by decide) (by omega) ?_
        have bz105 := hF.2.1 p
        refine zw_n 1 rfl ?_
        refine zw_ineN (a := (f 156) p) (b := 1) rfl rfl rfl (by omega) (by omega) (fun c54 => ?_) (fun c54 => ?_)
        · -- 54 to 68
          refine zw_n 1 rfl ?_
          refine zw_topl (x' := lN 0) (by decide) ?_
          exact zw_lret rfl rfl (⟨by unfold itm; rw [if_pos (show (gE al_ it tg pt bd (f 156) (f 157)) 2 x = NO from c6)]; rw [if_neg (show ¬ (q = p + 1 ∧ ((gE al_ it tg pt bd (f 156) (f 157)) 5 p = (gE al_ it tg pt bd (f 156) (f 157)) 3 x ∨ (gE al_ it tg pt bd (f 156) (f 157)) 5 p = 1)) from fun hq => by have h8 := hq.1; have h9 : f 156 p = pt x ∨ f 156 p = 1 := hq.2; omega)], rfl⟩)
        · -- 54 to 57
          refine zw_n 2 rfl ?_
          refine zw_get (v := .ref 157) rfl hM.1 rfl ?_
          refine zw_n 1 rfl ?_
          refine zw_iald (f := ai (f 157)) (j := p) rfl (hM.2 157 (by decide) (by decide)) rfl (by decide) (by omega) ?_
          have bz106 := hF.2.2.1 p
          refine zw_n 1 rfl ?_
          refine zw_topl (x' := (lN (2 ^ f 157 p))) ((lsl (m := 1) (k := f 157 p) rfl rfl (by omega)).trans (by rw [Nat.one_mul])) ?_
          refine zw_n 1 rfl ?_
          exact zw_lret rfl rfl (⟨by unfold itm; rw [if_pos (show (gE al_ it tg pt bd (f 156) (f 157)) 2 x = NO from c6)]; rw [if_pos (show q = p + 1 ∧ ((gE al_ it tg pt bd (f 156) (f 157)) 5 p = (gE al_ it tg pt bd (f 156) (f 157)) 3 x ∨ (gE al_ it tg pt bd (f 156) (f 157)) 5 p = 1) from ⟨c29, by first | exact Or.inl c44 | exact Or.inr c54⟩)]; rfl, rfl⟩)
  · -- 6 to 9
    refine zw_n 1 rfl ?_
    refine zw_get (v := .ref 158) rfl hM.1 rfl ?_
    refine zw_n 2 rfl ?_
    refine zw_callV (as := [.int (nI (49 + 3 * x))]) (rest := [.ref 158]) rfl rfl rfl hM.1 rfl rfl rfl (by decide) (m_partOf Mq o f hM n gn al_ it pt tg bd hg hG hF x hx hx1) (fun rz107 Mz108 hz109 => ?_)
    rw [hz109.1, hz109.2]
    show Zw 1 zm_MO_whereItem 18 [some (.ref 139), some (.int (nI (49 + 3 * x))), some (.int (nI p)), some (.int (nI q))] [.int (nI (tg x)), .ref 158] Mq _
    refine zw_n 2 rfl ?_
    refine zw_callS (as := [.int (nI (tg x)), .int (nI p), .int (nI q)]) (rest := [.ref 158]) rfl rfl rfl rfl rfl rfl (by decide) (m_at _ (tg x) p q) (fun rz110 Mz111 hz112 => ?_)
    rw [hz112.1, hz112.2]
    show Zw 1 zm_MO_whereItem 23 [some (.ref 139), some (.int (nI (49 + 3 * x))), some (.int (nI p)), some (.int (nI q))] [.int (nI (22 * (22 * (tg x) + p) + q)), .ref 158] Mq _
    refine zw_lald (f := al (f 158)) (j := (22 * (22 * (tg x) + p) + q)) rfl (hM.2 158 (by decide) (by decide)) rfl (by decide) (by omega) ?_
    have bz113 := hF.2.2.2.1 (22 * (22 * (tg x) + p) + q)
    exact zw_lret rfl rfl (⟨by unfold itm; rw [if_neg (show ¬ (gE al_ it tg pt bd (f 156) (f 157)) 2 x = NO from c6)]; rfl, rfl⟩)

set_option maxHeartbeats 4000000 in
set_option maxRecDepth 100000 in
theorem m_startReach (Mq : zM) (o : Nat → Nat) (f : Nat → Nat → Nat) (hM : MM Mq o f) (i j : Nat) (hij : i ≤ j) (hj : j < 22) (hA : SafeM (f 159)) : Zm 0 zm_MO_startReach [.ref 139, .int (nI i), .int (nI j)] Mq (fun r9 M1 => r9 = none ∧ ∃ A, MM M1 o (fset f 159 A) ∧ Sm Mq M1 [159] ∧ SafeM A ∧ ∀ q, i ≤ q → q ≤ j → A q = (if q = i then A40 else 0)) := by
  show Zw 0 zm_MO_startReach 0 [some (.ref 139), some (.int (nI i)), some (.int (nI j)), none] [] Mq _
  refine zw_n 2 (ls' := [some (.ref 139), some (.int (nI i)), some (.int (nI j)), some (.int (nI i))]) rfl ?_
  have lp2 : ∀ (n2 : Nat) (q : Nat) (A : Nat → Nat) (M_2 : zM), Sm Mq M_2 [159] → M_2[159]? = some (.inl (1, 22, .inr (.inl (al A)))) → (i ≤ q ∧ q ≤ j + 1 ∧ SafeM A ∧ ∀ p, i ≤ p → p < q → A p = (if p = i then A40 else 0)) → j + 1 - q < n2 → Zw 0 zm_MO_startReach 2 [some (.ref 139), some (.int (nI i)), some (.int (nI j)), some (.int (nI q))] [] M_2 (fun r9 M1 => r9 = none ∧ ∃ A, MM M1 o (fset f 159 A) ∧ Sm Mq M1 [159] ∧ SafeM A ∧ ∀ q, i ≤ q → q ≤ j → A q = (if q = i then A40 else 0)) := by
    intro n2
    induction n2 with
    | zero => intro q A M_2 _ _ _ h; exact absurd h (Nat.not_lt_zero _)
    | succ n2 ih2 =>
      intro q A M_2 s_2 f2_0 hi2 hm2
      refine zw_n 2 rfl ?_
      refine zw_igtN (a := q) (b := j) rfl rfl rfl (by omega) (by omega) (fun c4 => ?_) (fun c4 => ?_)
      · -- 4 to 31
        exact zw_vret rfl rfl (⟨rfl, A, (MM.of (o' := o) (f' := fset f 159 A) hM s_2 (Sm.at s_2 (by decide) hM.1) (c1_cons f2_0 c1_nil) (fs_c fs_n)), s_2, hi2.2.2.1, fun p p1 p2 => hi2.2.2.2 p p1 (by omega)⟩)
      · -- 4 to 7
        refine zw_n 1 rfl ?_
        refine zw_get (v := .ref 159) rfl (Sm.at s_2 (by decide) hM.1) rfl ?_
        refine zw_n 1 rfl ?_
        have j12 : Zw 0 zm_MO_startReach 24 [some (.ref 139), some (.int (nI i)), some (.int (nI j)), some (.int (nI q))] [.long (lN (if q = i then 1099511627775 else 0)), .int (nI q), .ref 159] M_2 (fun r9 M1 => r9 = none ∧ ∃ A, MM M1 o (fset f 159 A) ∧ Sm Mq M1 [159] ∧ SafeM A ∧ ∀ q, i ≤ q → q ≤ j → A q = (if q = i then A40 else 0)) := by
          refine zw_lastN (g := A) (j := q) (v := (if q = i then 1099511627775 else 0)) rfl f2_0 rfl (by decide) (by omega) (rfl) ?_
          generalize ez115 : List.set M_2 159 _ = Mz114
          refine zw_inc rfl (x' := (nI (q + 1))) (ls' := [some (.ref 139), some (.int (nI i)), some (.int (nI j)), some (.int (nI (q + 1)))]) rfl (na (a := q) (b := 1) rfl rfl) rfl ?_
          refine zw_n 1 rfl ?_
          exact ih2 (q + 1) (up A q (if q = i then 1099511627775 else 0)) Mz114 (Sm.tset s_2 ez115 (by decide)) (zat_self ez115 f2_0) (⟨by omega, by omega, safe_up hi2.2.2.1 (by split <;> decide), fun p p1 p2 => by unfold up; split <;> first | (rename_i e; rw [e]) | exact hi2.2.2.2 p p1 (by omega)⟩) (by omega)
        refine zw_n 2 rfl ?_
        refine zw_ineN (a := q) (b := i) rfl rfl rfl (by omega) (by omega) (fun c14 => ?_) (fun c14 => ?_)
        · -- 14 to 23
          refine zw_n 1 rfl ?_
          refine zw_topl (x' := lN (if q = i then 1099511627775 else 0)) (show lN 0 = lN (if q = i then 1099511627775 else 0) by rw [if_neg (by omega)]) ?_
          exact j12
        · -- 14 to 17
          refine zw_n 2 rfl ?_
          refine zw_topl (x' := lN (if q = i then 1099511627775 else 0)) (show lN 1099511627775 = lN (if q = i then 1099511627775 else 0) by rw [if_pos (by omega)]) ?_
          exact j12
  exact lp2 _ i (f 159) Mq Sm.rf (hM.2 159 (by decide) (by decide)) (⟨Nat.le_refl _, by omega, hA, fun p p1 p2 => by omega⟩) (Nat.lt_succ_self _)

set_option maxHeartbeats 4000000 in
set_option maxRecDepth 100000 in
theorem m_step (Mq : zM) (o : Nat → Nat) (f : Nat → Nat → Nat) (hM : MM Mq o f)(n : Nat) (gn al_ it pt tg bd : Nat → Nat) (hg : RelG f n gn al_ it pt tg bd) (hG : SafeG n gn al_ it pt tg bd) (hF : SafeF f) (x i j : Nat) (hx : Slt n al_ it x) (hx1 : x < 160) (hij : i ≤ j) (hj : j < 22) : Zm 2 zm_MO_step [.ref 139, .int (nI (49 + 3 * x)), .int (nI i), .int (nI j)] Mq (fun r9 M1 => r9 = none ∧ ∃ A B, MM M1 o (fset (fset f 160 B) 159 A) ∧ Sm Mq M1 [159, 160] ∧ SafeM A ∧ SafeM B ∧ ∀ q, i ≤ q → q ≤ j → A q = orR (fun p => f 159 p &&& letsN (bd x) (itm (gE al_ it tg pt bd (f 156) (f 157)) (v3 (f 158)) x p q)) i (q + 1 - i)) := by
  show Zw 2 zm_MO_step 0 [some (.ref 139), some (.int (nI (49 + 3 * x))), some (.int (nI i)), some (.int (nI j)), none, none] [] Mq _
  have hbd := hG.2.2.2.2.2.2 x
  refine zw_n 2 (ls' := [some (.ref 139), some (.int (nI (49 + 3 * x))), some (.int (nI i)), some (.int (nI j)), some (.int (nI i)), none]) rfl ?_
  have lp3 : ∀ (n3 : Nat) (q : Nat) (B : Nat → Nat) (M_3 : zM), Sm Mq M_3 [159, 160] → M_3[160]? = some (.inl (1, 22, .inr (.inl (al B)))) → M_3[159]? = some (.inl (1, 22, .inr (.inl (al (f 159))))) → (i ≤ q ∧ q ≤ j + 1 ∧ SafeM B ∧ ∀ q9, i ≤ q9 → q9 < q → B q9 = orR (fun p => f 159 p &&& letsN (bd x) (itm (gE al_ it tg pt bd (f 156) (f 157)) (v3 (f 158)) x p q9)) i (q9 + 1 - i)) → j + 1 - q < n3 → Zw 2 zm_MO_step 3 [some (.ref 139), some (.int (nI (49 + 3 * x))), some (.int (nI i)), some (.int (nI j)), some (.int (nI q)), none] [] M_3 (fun r9 M1 => r9 = none ∧ ∃ A B, MM M1 o (fset (fset f 160 B) 159 A) ∧ Sm Mq M1 [159, 160] ∧ SafeM A ∧ SafeM B ∧ ∀ q, i ≤ q → q ≤ j → A q = orR (fun p => f 159 p &&& letsN (bd x) (itm (gE al_ it tg pt bd (f 156) (f 157)) (v3 (f 158)) x p q)) i (q + 1 - i)) := by
    intro n3
    induction n3 with
    | zero => intro q B M_3 _ _ _ _ h; exact absurd h (Nat.not_lt_zero _)
    | succ n3 ih3 =>
      intro q B M_3 s_3 f3_0 f3_1 hi3 hm3
      refine zw_n 2 rfl ?_
      refine zw_igtN (a := q) (b := j) rfl rfl rfl (by omega) (by omega) (fun c6 => ?_) (fun c6 => ?_)
      · -- 6 to 93
        refine zw_n 2 (ls' := [some (.ref 139), some (.int (nI (49 + 3 * x))), some (.int (nI i)), some (.int (nI j)), some (.int (nI i)), none]) rfl ?_
        have lp96 : ∀ (n96 : Nat) (q2 : Nat) (A : Nat → Nat) (M_96 : zM), Sm Mq M_96 [159, 160] → M_96[159]? = some (.inl (1, 22, .inr (.inl (al A)))) → M_96[160]? = some (.inl (1, 22, .inr (.inl (al B)))) → (i ≤ q2 ∧ q2 ≤ j + 1 ∧ SafeM A ∧ ∀ q9, i ≤ q9 → q9 < q2 → A q9 = B q9) → j + 1 - q2 < n96 → Zw 2 zm_MO_step 96 [some (.ref 139), some (.int (nI (49 + 3 * x))), some (.int (nI i)), some (.int (nI j)), some (.int (nI q2)), none] [] M_96 (fun r9 M1 => r9 = none ∧ ∃ A B, MM M1 o (fset (fset f 160 B) 159 A) ∧ Sm Mq M1 [159, 160] ∧ SafeM A ∧ SafeM B ∧ ∀ q, i ≤ q → q ≤ j → A q = orR (fun p => f 159 p &&& letsN (bd x) (itm (gE al_ it tg pt bd (f 156) (f 157)) (v3 (f 158)) x p q)) i (q + 1 - i)) := by
          intro n96
          induction n96 with
          | zero => intro q2 A M_96 _ _ _ _ h; exact absurd h (Nat.not_lt_zero _)
          | succ n96 ih96 =>
            intro q2 A M_96 s_96 f96_0 f96_1 hi96 hm96
            refine zw_n 2 rfl ?_
            refine zw_igtN (a := q2) (b := j) rfl rfl rfl (by omega) (by omega) (fun c99 => ?_) (fun c99 => ?_)
            · -- 99 to 122
              exact zw_vret rfl rfl (⟨rfl, A, B, (MM.of (o' := o) (f' := fset (fset f 160 B) 159 A) hM s_96 (Sm.at s_96 (by decide) hM.1) (c1_cons f96_0 (c1_cons f96_1 c1_nil)) (fs_c (fs_c fs_n))), s_96, hi96.2.2.1, hi3.2.2.1, fun q9 p1 p2 => by rw [hi96.2.2.2 q9 p1 (by omega)]; exact hi3.2.2.2 q9 p1 (by omega)⟩)
            · -- 99 to 102
              refine zw_n 1 rfl ?_
              refine zw_get (v := .ref 159) rfl (Sm.at s_96 (by decide) hM.1) rfl ?_
              refine zw_n 2 rfl ?_
              refine zw_get (v := .ref 160) rfl (Sm.at s_96 (by decide) hM.1) rfl ?_
              refine zw_n 1 rfl ?_
              refine zw_lald (f := al B) (j := q2) rfl f96_1 rfl (by decide) (by omega) ?_
              refine zw_lastN (g := A) (j := q2) (v := (B q2)) rfl f96_0 rfl (by decide) (by omega) (rfl) ?_
              generalize ez117 : List.set M_96 159 _ = Mz116
              refine zw_inc rfl (x' := (nI (q2 + 1))) (ls' := [some (.ref 139), some (.int (nI (49 + 3 * x))), some (.int (nI i)), some (.int (nI j)), some (.int (nI (q2 + 1))), none]) rfl (na (a := q2) (b := 1) rfl rfl) rfl ?_
              refine zw_n 1 rfl ?_
              exact ih96 (q2 + 1) (up A q2 (B q2)) Mz116 (Sm.tset s_96 ez117 (by decide)) (zat_self ez117 f96_0) (zat_set ez117 (by decide) f96_1) (⟨by omega, by omega, safe_up hi96.2.2.1 (hi3.2.2.1 _), fun q9 p1 p2 => by unfold up; split <;> first | (rename_i e; rw [e]) | exact hi96.2.2.2 q9 p1 (by omega)⟩) (by omega)
        exact lp96 _ i (f 159) M_3 s_3 f3_1 f3_0 (⟨Nat.le_refl _, by omega, hF.2.2.2.2.1, fun q9 p1 p2 => by omega⟩) (Nat.lt_succ_self _)
      · -- 6 to 9
        refine zw_n 1 rfl ?_
        refine zw_get (v := .ref 160) rfl (Sm.at s_3 (by decide) hM.1) rfl ?_
        refine zw_n 2 rfl ?_
        refine zw_lastN (g := B) (j := q) (v := 0) rfl f3_0 rfl (by decide) (by omega) (rfl) ?_
        generalize ez119 : List.set M_3 160 _ = Mz118
        refine zw_n 2 (ls' := [some (.ref 139), some (.int (nI (49 + 3 * x))), some (.int (nI i)), some (.int (nI j)), some (.int (nI q)), some (.int (nI i))]) rfl ?_
        have mz120 : Mz118[140]? = some (.inl (0, 590, .inl (ai (f 140)))) := zat_set ez119 (by decide) (Sm.at s_3 (by decide) (hM.2 140 (by decide) (by decide)))
        have lp20 : ∀ (n20 : Nat) (p : Nat) (B2 : Nat → Nat) (M_20 : zM), Sm Mq M_20 [159, 160] → M_20[160]? = some (.inl (1, 22, .inr (.inl (al B2)))) → M_20[159]? = some (.inl (1, 22, .inr (.inl (al (f 159))))) → (i ≤ p ∧ p ≤ q + 1 ∧ SafeM B2 ∧ (∀ q9, i ≤ q9 → q9 < q → B2 q9 = orR (fun p => f 159 p &&& letsN (bd x) (itm (gE al_ it tg pt bd (f 156) (f 157)) (v3 (f 158)) x p q9)) i (q9 + 1 - i)) ∧ B2 q = orR (fun p => f 159 p &&& letsN (bd x) (itm (gE al_ it tg pt bd (f 156) (f 157)) (v3 (f 158)) x p q)) i (p - i)) → q + 1 - p < n20 → Zw 2 zm_MO_step 20 [some (.ref 139), some (.int (nI (49 + 3 * x))), some (.int (nI i)), some (.int (nI j)), some (.int (nI q)), some (.int (nI p))] [] M_20 (fun r9 M1 => r9 = none ∧ ∃ A B, MM M1 o (fset (fset f 160 B) 159 A) ∧ Sm Mq M1 [159, 160] ∧ SafeM A ∧ SafeM B ∧ ∀ q, i ≤ q → q ≤ j → A q = orR (fun p => f 159 p &&& letsN (bd x) (itm (gE al_ it tg pt bd (f 156) (f 157)) (v3 (f 158)) x p q)) i (q + 1 - i)) := by
          intro n20
          induction n20 with
          | zero => intro p B2 M_20 _ _ _ _ h; exact absurd h (Nat.not_lt_zero _)
          | succ n20 ih20 =>
            intro p B2 M_20 s_20 f20_0 f20_1 hi20 hm20
            refine zw_n 2 rfl ?_
            refine zw_igtN (a := p) (b := q) rfl rfl rfl (by omega) (by omega) (fun c24 => ?_) (fun c24 => ?_)
            · -- 24 to 87
              refine zw_inc rfl (x' := (nI (q + 1))) (ls' := [some (.ref 139), some (.int (nI (49 + 3 * x))), some (.int (nI i)), some (.int (nI j)), some (.int (nI (q + 1))), some (.int (nI p))]) rfl (na (a := q) (b := 1) rfl rfl) rfl ?_
              refine zw_n 1 rfl ?_
              refine zw_ls (ls' := [some (.ref 139), some (.int (nI (49 + 3 * x))), some (.int (nI i)), some (.int (nI j)), some (.int (nI (q + 1))), none]) ⟨Or.inr rfl, Or.inr rfl, Or.inr rfl, Or.inr rfl, Or.inr rfl, Or.inl rfl, trivial⟩ ?_
              exact ih3 (q + 1) B2 M_20 s_20 f20_0 f20_1 (⟨by omega, by omega, hi20.2.2.1, fun q9 p1 p2 => if e : q9 = q then by rw [e, hi20.2.2.2.2, show p = q + 1 by omega] else hi20.2.2.2.1 q9 p1 (by omega)⟩) (by omega)
            · -- 24 to 27
              refine zw_n 1 rfl ?_
              refine zw_get (v := .ref 160) rfl (Sm.at s_20 (by decide) hM.1) rfl ?_
              refine zw_n 2 rfl ?_
              refine zw_lald (f := al B2) (j := q) rfl f20_0 rfl (by decide) (by omega) ?_
              refine zw_n 1 rfl ?_
              refine zw_get (v := .ref 159) rfl (Sm.at s_20 (by decide) hM.1) rfl ?_
              refine zw_n 1 rfl ?_
              refine zw_lald (f := al (f 159)) (j := p) rfl f20_1 rfl (by decide) (by omega) ?_
              have bz121 := hF.2.2.2.2.1 p
              refine zw_n 2 rfl ?_
              refine zw_lneN (a := (f 159) p) (b := 0) rfl rfl rfl (by omega) (by omega) (fun c44 => ?_) (fun c44 => ?_)
              · -- 44 to 51
                refine zw_n 1 rfl ?_
                refine zw_get (v := .ref 159) rfl (Sm.at s_20 (by decide) hM.1) rfl ?_
                refine zw_n 1 rfl ?_
                refine zw_lald (f := al (f 159)) (j := p) rfl f20_1 rfl (by decide) (by omega) ?_
                have bz122 := hF.2.2.2.2.1 p
                refine zw_n 1 rfl ?_
                refine zw_get (v := .ref 140) rfl (Sm.at s_20 (by decide) hM.1) rfl ?_
                refine zw_n 3 rfl ?_
                refine zw_top (na (a := 49 + 3 * x) (b := 2) rfl rfl) ?_
                refine zw_iald (f := ai (f 140)) (j := ((49 + 3 * x) + 2)) rfl (Sm.at s_20 (by decide) (hM.2 140 (by decide) (by decide))) rfl (by decide) (by omega) ?_
                refine zw_top (congrArg nI (hg.2.2.2.2 x hx).2.2.1) ?_
                refine zw_n 4 rfl ?_
                refine zw_callV (as := [.int (nI (49 + 3 * x)), .int (nI p), .int (nI q)]) (rest := [.int (nI (bd x)), .long (lN ((f 159) p)), .long (lN (B2 q)), .int (nI q), .ref 160]) rfl rfl rfl (Sm.at s_20 (by decide) hM.1) rfl rfl rfl (by decide) (m_whereItem M_20 o (fset f 160 B2) (MM.of (o' := o) (f' := fset f 160 B2) hM s_20 (Sm.at s_20 (by decide) hM.1) (c1_cons f20_1 (c1_cons f20_0 c1_nil)) (fs_k (fs_c fs_n))) n gn al_ it pt tg bd hg hG (⟨hF.1, hF.2.1, hF.2.2.1, hF.2.2.2.1, hF.2.2.2.2.1, hi20.2.2.1⟩) x p q hx hx1 (by omega) (by omega)) (fun rz123 Mz124 hz125 => ?_)
                rw [hz125.1, hz125.2]
                show Zw 2 zm_MO_step 75 [some (.ref 139), some (.int (nI (49 + 3 * x))), some (.int (nI i)), some (.int (nI j)), some (.int (nI q)), some (.int (nI p))] [.long (lN (itm (gE al_ it tg pt bd (f 156) (f 157)) (v3 (f 158)) x p q)), .int (nI (bd x)), .long (lN ((f 159) p)), .long (lN (B2 q)), .int (nI q), .ref 160] M_20 _
                refine zw_callS (as := [.int (nI (bd x)), .long (lN (itm (gE al_ it tg pt bd (f 156) (f 157)) (v3 (f 158)) x p q))]) (rest := [.long (lN ((f 159) p)), .long (lN (B2 q)), .int (nI q), .ref 160]) rfl rfl rfl rfl rfl rfl (by decide) (m_lets _ _ _ (by omega) (itm_lt (fun _ _ _ => hF.2.2.2.1 _) (fun q => hF.2.2.1 q))) (fun rz126 Mz127 hz128 => ?_)
                rw [hz128.1, hz128.2]
                show Zw 2 zm_MO_step 78 [some (.ref 139), some (.int (nI (49 + 3 * x))), some (.int (nI i)), some (.int (nI j)), some (.int (nI q)), some (.int (nI p))] [.long (lN (letsN (bd x) (itm (gE al_ it tg pt bd (f 156) (f 157)) (v3 (f 158)) x p q))), .long (lN ((f 159) p)), .long (lN (B2 q)), .int (nI q), .ref 160] M_20 _
                refine zw_n 1 rfl ?_
                refine zw_topl (lan (a := (f 159) p) (b := letsN (bd x) (itm (gE al_ it tg pt bd (f 156) (f 157)) (v3 (f 158)) x p q)) rfl rfl) ?_
                refine zw_n 1 rfl ?_
                refine zw_topl (lo (a := B2 q) (b := ((f 159) p) &&& (letsN (bd x) (itm (gE al_ it tg pt bd (f 156) (f 157)) (v3 (f 158)) x p q))) rfl rfl) ?_
                refine zw_lastN (g := B2) (j := q) (v := ((B2 q) ||| (((f 159) p) &&& (letsN (bd x) (itm (gE al_ it tg pt bd (f 156) (f 157)) (v3 (f 158)) x p q))))) rfl f20_0 rfl (by decide) (by omega) (rfl) ?_
                generalize ez130 : List.set M_20 160 _ = Mz129
                refine zw_inc rfl (x' := (nI (p + 1))) (ls' := [some (.ref 139), some (.int (nI (49 + 3 * x))), some (.int (nI i)), some (.int (nI j)), some (.int (nI q)), some (.int (nI (p + 1)))]) rfl (na (a := p) (b := 1) rfl rfl) rfl ?_
                refine zw_n 1 rfl ?_
                exact ih20 (p + 1) (up B2 q ((B2 q) ||| (((f 159) p) &&& (letsN (bd x) (itm (gE al_ it tg pt bd (f 156) (f 157)) (v3 (f 158)) x p q))))) Mz129 (Sm.tset s_20 ez130 (by decide)) (zat_self ez130 f20_0) (zat_set ez130 (by decide) f20_1) (⟨by omega, by omega, safe_up hi20.2.2.1 (or_lt40 (hi20.2.2.1 q) (by first | exact and_lt40 (hF.2.2.2.2.1 p) | decide)), fun q9 p1 p2 => by unfold up; rw [if_neg (by omega)]; exact hi20.2.2.2.1 q9 p1 p2, by rw [up_s]; first | exact orR_s hi20.2.2.2.2 hi20.1 rfl | exact orR_s hi20.2.2.2.2 hi20.1 (show f 159 p &&& _ = 0 by rw [c44, Nat.zero_and])⟩) (by omega)
              · -- 44 to 47
                refine zw_n 3 rfl ?_
                refine zw_topl (lo (a := B2 q) (b := 0) rfl rfl) ?_
                refine zw_lastN (g := B2) (j := q) (v := ((B2 q) ||| 0)) rfl f20_0 rfl (by decide) (by omega) (rfl) ?_
                generalize ez132 : List.set M_20 160 _ = Mz131
                refine zw_inc rfl (x' := (nI (p + 1))) (ls' := [some (.ref 139), some (.int (nI (49 + 3 * x))), some (.int (nI i)), some (.int (nI j)), some (.int (nI q)), some (.int (nI (p + 1)))]) rfl (na (a := p) (b := 1) rfl rfl) rfl ?_
                refine zw_n 1 rfl ?_
                exact ih20 (p + 1) (up B2 q ((B2 q) ||| 0)) Mz131 (Sm.tset s_20 ez132 (by decide)) (zat_self ez132 f20_0) (zat_set ez132 (by decide) f20_1) (⟨by omega, by omega, safe_up hi20.2.2.1 (or_lt40 (hi20.2.2.1 q) (by first | exact and_lt40 (hF.2.2.2.2.1 p) | decide)), fun q9 p1 p2 => by unfold up; rw [if_neg (by omega)]; exact hi20.2.2.2.1 q9 p1 p2, by rw [up_s]; first | exact orR_s hi20.2.2.2.2 hi20.1 rfl | exact orR_s hi20.2.2.2.2 hi20.1 (show f 159 p &&& _ = 0 by rw [c44, Nat.zero_and])⟩) (by omega)
        exact lp20 _ i (up B q 0) Mz118 (Sm.tset s_3 ez119 (by decide)) (zat_self ez119 f3_0) (zat_set ez119 (by decide) f3_1) (⟨Nat.le_refl _, by omega, safe_up hi3.2.2.1 (by decide), fun q9 p1 p2 => by unfold up; rw [if_neg (by omega)]; exact hi3.2.2.2 q9 p1 p2, by rw [up_s, Nat.sub_self]; rfl⟩) (Nat.lt_succ_self _)
  exact lp3 _ i (f 160) Mq Sm.rf (hM.2 160 (by decide) (by decide)) (hM.2 159 (by decide) (by decide)) (⟨Nat.le_refl _, by omega, hF.2.2.2.2.2, fun q9 p1 p2 => by omega⟩) (Nat.lt_succ_self _)

set_option maxHeartbeats 4000000 in
set_option maxRecDepth 100000 in
theorem m_overAlt (Mq : zM) (o : Nat → Nat) (f : Nat → Nat → Nat) (hM : MM Mq o f)(n : Nat) (gn al_ it pt tg bd : Nat → Nat) (hg : RelG f n gn al_ it pt tg bd) (hG : SafeG n gn al_ it pt tg bd) (hF : SafeF f) (r a i j : Nat) (hr : r < n) (ha : a < al_ r) (hij : i ≤ j) (hj : j < 22) : Zm 3 zm_MO_overAlt [.ref 139, .int (nI r), .int (nI a), .int (nI i), .int (nI j)] Mq (fun r9 M1 => r9 = some (.long (lN (rch (gE al_ it tg pt bd (f 156) (f 157)) (v3 (f 158)) i (r * 4 + a) (it (r * 4 + a)) j))) ∧ ∃ A B, MM M1 o (fset (fset f 160 B) 159 A) ∧ Sm Mq M1 [159, 160] ∧ SafeM A ∧ SafeM B) := by
  show Zw 3 zm_MO_overAlt 0 [some (.ref 139), some (.int (nI r)), some (.int (nI a)), some (.int (nI i)), some (.int (nI j)), none] [] Mq _
  have hn8 := hG.1
  have ha4 := hG.2.2.1 r
  have hi5 := hG.2.2.2.1 (r * 4 + a)
  refine zw_n 3 rfl ?_
  refine zw_callV (as := [.int (nI i), .int (nI j)]) (rest := []) rfl rfl rfl hM.1 rfl rfl rfl (by decide) (m_startReach Mq o f hM i j (by omega) (by omega) hF.2.2.2.2.1) (fun rz139 Mz140 hz141 => ?_)
  obtain ⟨hAz134, Az133, hMMz135, hSz136, hz137, hz138⟩ := hz141
  rw [hAz134]
  show Zw 3 zm_MO_overAlt 7 [some (.ref 139), some (.int (nI r)), some (.int (nI a)), some (.int (nI i)), some (.int (nI j)), none] [] Mz140 _
  refine zw_n 2 (ls' := [some (.ref 139), some (.int (nI r)), some (.int (nI a)), some (.int (nI i)), some (.int (nI j)), some (.int 0)]) rfl ?_
  have lp10 : ∀ (n10 : Nat) (k : Nat) (A1 : Nat → Nat) (B1 : Nat → Nat) (M_10 : zM), Sm Mq M_10 [159, 160] → M_10[159]? = some (.inl (1, 22, .inr (.inl (al A1)))) → M_10[160]? = some (.inl (1, 22, .inr (.inl (al B1)))) → (k ≤ it (r * 4 + a) ∧ SafeM A1 ∧ SafeM B1 ∧ ∀ q, i ≤ q → q ≤ j → A1 q = rch (gE al_ it tg pt bd (f 156) (f 157)) (v3 (f 158)) i (r * 4 + a) k q) → it (r * 4 + a) - k < n10 → Zw 3 zm_MO_overAlt 10 [some (.ref 139), some (.int (nI r)), some (.int (nI a)), some (.int (nI i)), some (.int (nI j)), some (.int (nI k))] [] M_10 (fun r9 M1 => r9 = some (.long (lN (rch (gE al_ it tg pt bd (f 156) (f 157)) (v3 (f 158)) i (r * 4 + a) (it (r * 4 + a)) j))) ∧ ∃ A B, MM M1 o (fset (fset f 160 B) 159 A) ∧ Sm Mq M1 [159, 160] ∧ SafeM A ∧ SafeM B) := by
    intro n10
    induction n10 with
    | zero => intro k A1 B1 M_10 _ _ _ _ h; exact absurd h (Nat.not_lt_zero _)
    | succ n10 ih10 =>
      intro k A1 B1 M_10 s_10 f10_0 f10_1 hi10 hm10
      refine zw_n 4 rfl ?_
      refine zw_callV (as := [.int (nI r), .int (nI a)]) (rest := [.int (nI k)]) rfl rfl rfl (Sm.at s_10 (by decide) hM.1) rfl rfl rfl (by decide) (m_items M_10 o (fset (fset f 160 B1) 159 A1) (MM.of (o' := o) (f' := fset (fset f 160 B1) 159 A1) hM s_10 (Sm.at s_10 (by decide) hM.1) (c1_cons f10_0 (c1_cons f10_1 c1_nil)) (fs_c (fs_c fs_n))) n gn al_ it pt tg bd hg hG (⟨hF.1, hF.2.1, hF.2.2.1, hF.2.2.2.1, hi10.2.1, hi10.2.2.1⟩) r a (by omega) (by omega)) (fun rz142 Mz143 hz144 => ?_)
      rw [hz144.1, hz144.2]
      show Zw 3 zm_MO_overAlt 18 [some (.ref 139), some (.int (nI r)), some (.int (nI a)), some (.int (nI i)), some (.int (nI j)), some (.int (nI k))] [.int (nI (it (r * 4 + a))), .int (nI k)] M_10 _
      refine zw_igeN (a := k) (b := it (r * 4 + a)) rfl rfl rfl (by omega) (by omega) (fun c18 => ?_) (fun c18 => ?_)
      · -- 18 to 41
        refine zw_n 1 rfl ?_
        refine zw_get (v := .ref 159) rfl (Sm.at s_10 (by decide) hM.1) rfl ?_
        refine zw_n 1 rfl ?_
        refine zw_lald (f := al A1) (j := j) rfl f10_0 rfl (by decide) (by omega) ?_
        exact zw_lret rfl rfl (⟨by rw [← show k = it (r * 4 + a) by omega, ← hi10.2.2.2 j hij (Nat.le_refl _)]; rfl, A1, B1, (MM.of (o' := o) (f' := fset (fset f 160 B1) 159 A1) hM s_10 (Sm.at s_10 (by decide) hM.1) (c1_cons f10_0 (c1_cons f10_1 c1_nil)) (fs_c (fs_c fs_n))), s_10, hi10.2.1, hi10.2.2.1⟩)
      · -- 18 to 21
        refine zw_n 4 rfl ?_
        refine zw_callS (as := [.int (nI r), .int (nI a), .int (nI k)]) (rest := [.ref 139]) rfl rfl rfl rfl rfl rfl (by decide) (m_itemAt _ r a k) (fun rz145 Mz146 hz147 => ?_)
        rw [hz147.1, hz147.2]
        show Zw 3 zm_MO_overAlt 29 [some (.ref 139), some (.int (nI r)), some (.int (nI a)), some (.int (nI i)), some (.int (nI j)), some (.int (nI k))] [.int (nI (49 + 3 * ((r * 4 + a) * 5 + k))), .ref 139] M_10 _
        refine zw_n 2 rfl ?_
        refine zw_callV (as := [.int (nI (49 + 3 * ((r * 4 + a) * 5 + k))), .int (nI i), .int (nI j)]) (rest := []) rfl rfl rfl (Sm.at s_10 (by decide) hM.1) rfl rfl rfl (by decide) (m_step M_10 o (fset (fset f 160 B1) 159 A1) (MM.of (o' := o) (f' := fset (fset f 160 B1) 159 A1) hM s_10 (Sm.at s_10 (by decide) hM.1) (c1_cons f10_0 (c1_cons f10_1 c1_nil)) (fs_c (fs_c fs_n))) n gn al_ it pt tg bd hg hG (⟨hF.1, hF.2.1, hF.2.2.1, hF.2.2.2.1, hi10.2.1, hi10.2.2.1⟩) ((r * 4 + a) * 5 + k) i j ⟨r, a, k, hr, ha, by omega, rfl⟩ (by omega) (by omega) (by omega)) (fun rz156 Mz157 hz158 => ?_)
        obtain ⟨hAz150, Az148, Az149, hMMz151, hSz152, hz153, hz154, hz155⟩ := hz158
        rw [hAz150]
        show Zw 3 zm_MO_overAlt 35 [some (.ref 139), some (.int (nI r)), some (.int (nI a)), some (.int (nI i)), some (.int (nI j)), some (.int (nI k))] [] Mz157 _
        refine zw_inc rfl (x' := (nI (k + 1))) (ls' := [some (.ref 139), some (.int (nI r)), some (.int (nI a)), some (.int (nI i)), some (.int (nI j)), some (.int (nI (k + 1)))]) rfl (na (a := k) (b := 1) rfl rfl) rfl ?_
        refine zw_n 1 rfl ?_
        exact ih10 (k + 1) Az148 Az149 Mz157 (Sm.trans s_10 hSz152) (hMMz151.2 159 (by decide) (by decide)) (hMMz151.2 160 (by decide) (by decide)) (⟨by omega, hz153, hz154, fun q p1 p2 => (hz155 q p1 p2).trans (stp_rch hi10.2.2.2 p2)⟩) (by omega)
  exact lp10 _ 0 Az133 (f 160) Mz140 (Sm.tw Sm.rf hSz136 (by decide)) (hMMz135.2 159 (by decide) (by decide)) (Sm.at hSz136 (by decide) (hM.2 160 (by decide) (by decide))) (⟨Nat.zero_le _, hz137, hF.2.2.2.2.2, fun q p1 p2 => hz138 q p1 p2⟩) (Nat.lt_succ_self _)

set_option maxHeartbeats 4000000 in
set_option maxRecDepth 100000 in
theorem m_layEnd (Mq : zM) (o : Nat → Nat) (f : Nat → Nat → Nat) (hM : MM Mq o f)(n : Nat) (gn al_ it pt tg bd : Nat → Nat) (hg : RelG f n gn al_ it pt tg bd) (hG : SafeG n gn al_ it pt tg bd) (hF : SafeF f) (emp : Nat → Prop) (rk : Nat → Nat) (hA : Acyc (gE al_ it tg pt bd (f 156) (f 157)) n emp rk) (j : Nat) (hj : j < 22) (hv : VAll (gE al_ it tg pt bd (f 156) (f 157)) n j (f 158)) : Zm 4 zm_MO_layEnd [.ref 139, .int (nI j)] Mq (fun r9 M1 => r9 = none ∧ ∃ V A B, MM M1 o (fset (fset (fset f 160 B) 159 A) 158 V) ∧ Sm Mq M1 [158, 159, 160] ∧ SafeM V ∧ SafeM A ∧ SafeM B ∧ VAll (gE al_ it tg pt bd (f 156) (f 157)) n (j + 1) V) := by
  show Zw 4 zm_MO_layEnd 0 [some (.ref 139), some (.int (nI j)), none, none, none, none, none, none, none, none] [] Mq _
  have hn8 := hG.1
  refine zw_n 2 (ls' := [some (.ref 139), some (.int (nI j)), some (.int (nI j)), none, none, none, none, none, none, none]) rfl ?_
  have lp2 : ∀ (n2 : Nat) (x : Nat) (V0 : Nat → Nat) (A0 : Nat → Nat) (B0 : Nat → Nat) (M_2 : zM), Sm Mq M_2 [158, 159, 160] → M_2[158]? = some (.inl (1, 3872, .inr (.inl (al V0)))) → M_2[159]? = some (.inl (1, 22, .inr (.inl (al A0)))) → M_2[160]? = some (.inl (1, 22, .inr (.inl (al B0)))) → (x ≤ j + 1 ∧ VOK (gE al_ it tg pt bd (f 156) (f 157)) n x j V0 ∧ SafeM A0 ∧ SafeM B0) → x < n2 → Zw 4 zm_MO_layEnd 2 [some (.ref 139), some (.int (nI j)), some (.int (nI x - 1)), none, none, none, none, none, none, none] [] M_2 (fun r9 M1 => r9 = none ∧ ∃ V A B, MM M1 o (fset (fset (fset f 160 B) 159 A) 158 V) ∧ Sm Mq M1 [158, 159, 160] ∧ SafeM V ∧ SafeM A ∧ SafeM B ∧ VAll (gE al_ it tg pt bd (f 156) (f 157)) n (j + 1) V) := by
    intro n2
    induction n2 with
    | zero => intro x V0 A0 B0 M_2 _ _ _ _ _ h; exact absurd h (Nat.not_lt_zero _)
    | succ n2 ih2 =>
      intro x V0 A0 B0 M_2 s_2 f2_0 f2_1 f2_2 hi2 hm2
      refine zw_n 1 rfl ?_
      refine zw_lt0Z (a := ((x : Nat) : Int) - 1) rfl (nP_toInt (by omega)) (fun c3 => ?_) (fun c3 => ?_)
      · -- 3 to 162
        exact zw_vret rfl rfl (⟨rfl, V0, A0, B0, (MM.of (o' := o) (f' := fset (fset (fset f 160 B0) 159 A0) 158 V0) hM s_2 (Sm.at s_2 (by decide) hM.1) (c1_cons f2_0 (c1_cons f2_1 (c1_cons f2_2 c1_nil))) (fs_c (fs_c (fs_c fs_n)))), s_2, hi2.2.1.1, hi2.2.2.1, hi2.2.2.2, hi2.2.1.all (by omega)⟩)
      · -- 3 to 6
        rw [nP (show 0 < x by omega)]
        refine zw_n 2 (ls' := [some (.ref 139), some (.int (nI j)), some (.int (nI (x - 1))), some (.int 0), none, none, none, none, none, none]) rfl ?_
        have lp8 : ∀ (n8 : Nat) (y : Nat) (V1 : Nat → Nat) (M_8 : zM), Sm Mq M_8 [158, 159, 160] → M_8[158]? = some (.inl (1, 3872, .inr (.inl (al V1)))) → M_8[159]? = some (.inl (1, 22, .inr (.inl (al A0)))) → M_8[160]? = some (.inl (1, 22, .inr (.inl (al B0)))) → (y ≤ n ∧ SafeM V1 ∧ VS V0 V1 (x - 1) j ∧ ∀ t, t < y → v3 V1 t (x - 1) j = 0) → n - y < n8 → Zw 4 zm_MO_layEnd 8 [some (.ref 139), some (.int (nI j)), some (.int (nI (x - 1))), some (.int (nI y)), none, none, none, none, none, none] [] M_8 (fun r9 M1 => r9 = none ∧ ∃ V A B, MM M1 o (fset (fset (fset f 160 B) 159 A) 158 V) ∧ Sm Mq M1 [158, 159, 160] ∧ SafeM V ∧ SafeM A ∧ SafeM B ∧ VAll (gE al_ it tg pt bd (f 156) (f 157)) n (j + 1) V) := by
          intro n8
          induction n8 with
          | zero => intro y V1 M_8 _ _ _ _ _ h; exact absurd h (Nat.not_lt_zero _)
          | succ n8 ih8 =>
            intro y V1 M_8 s_8 f8_0 f8_1 f8_2 hi8 hm8
            refine zw_n 2 rfl ?_
            refine zw_get (v := .ref 140) rfl (Sm.at s_8 (by decide) hM.1) rfl ?_
            refine zw_n 1 rfl ?_
            refine zw_iald (f := ai (f 140)) (j := 0) rfl (Sm.at s_8 (by decide) (hM.2 140 (by decide) (by decide))) rfl (by decide) (by omega) ?_
            refine zw_top (congrArg nI hg.1) ?_
            refine zw_igeN (a := y) (b := n) rfl rfl rfl (by omega) (by omega) (fun c15 => ?_) (fun c15 => ?_)
            · -- 15 to 36
              refine zw_n 2 (ls' := [some (.ref 139), some (.int (nI j)), some (.int (nI (x - 1))), some (.int 1), none, none, none, none, none, none]) rfl ?_
              have lp38 : ∀ (n38 : Nat) (mo : Nat) (ps : Nat) (V2 : Nat → Nat) (A2 : Nat → Nat) (B2 : Nat → Nat) (M_38 : zM), Sm Mq M_38 [158, 159, 160] → M_38[158]? = some (.inl (1, 3872, .inr (.inl (al V2)))) → M_38[159]? = some (.inl (1, 22, .inr (.inl (al A2)))) → M_38[160]? = some (.inl (1, 22, .inr (.inl (al B2)))) → (MpP (gE al_ it tg pt bd (f 156) (f 157)) n emp rk V0 (x - 1) j ps mo V2 ∧ SafeM A2 ∧ SafeM B2) → n + 1 - ps < n38 → Zw 4 zm_MO_layEnd 38 [some (.ref 139), some (.int (nI j)), some (.int (nI (x - 1))), some (.int (nI mo)), none, none, none, none, none, none] [] M_38 (fun r9 M1 => r9 = none ∧ ∃ V A B, MM M1 o (fset (fset (fset f 160 B) 159 A) 158 V) ∧ Sm Mq M1 [158, 159, 160] ∧ SafeM V ∧ SafeM A ∧ SafeM B ∧ VAll (gE al_ it tg pt bd (f 156) (f 157)) n (j + 1) V) := by
                intro n38
                induction n38 with
                | zero => intro mo ps V2 A2 B2 M_38 _ _ _ _ _ h; exact absurd h (Nat.not_lt_zero _)
                | succ n38 ih38 =>
                  intro mo ps V2 A2 B2 M_38 s_38 f38_0 f38_1 f38_2 hi38 hm38
                  have hps := hi38.1.ps_le
                  have hmo := hi38.1.mo_le
                  have hla := hi38.1.last
                  refine zw_n 1 rfl ?_
                  refine zw_eq0N (a := mo) rfl rfl (by omega) (fun c39 => ?_) (fun c39 => ?_)
                  · -- 39 to 156
                    refine zw_inc rfl (x' := (nI (x - 1) - 1)) (ls' := [some (.ref 139), some (.int (nI j)), some (.int (nI (x - 1) - 1)), some (.int (nI mo)), none, none, none, none, none, none]) rfl (nPd) rfl ?_
                    refine zw_n 1 rfl ?_
                    refine zw_ls (ls' := [some (.ref 139), some (.int (nI j)), some (.int (nI (x - 1) - 1)), none, none, none, none, none, none, none]) ⟨Or.inr rfl, Or.inr rfl, Or.inr rfl, Or.inl rfl, Or.inl rfl, Or.inl rfl, Or.inl rfl, Or.inl rfl, Or.inl rfl, Or.inl rfl, trivial⟩ ?_
                    exact ih2 (x - 1) V2 A2 B2 M_38 s_38 f38_0 f38_1 f38_2 (⟨by omega, hi2.2.1.down1 (by omega) (by omega) hj hi38.1 (by omega), hi38.2.1, hi38.2.2⟩) (by omega)
                  · -- 39 to 42
                    refine zw_n 4 (ls' := [some (.ref 139), some (.int (nI j)), some (.int (nI (x - 1))), some (.int 0), some (.int 0), none, none, none, none, none]) rfl ?_
                    have lp47 : ∀ (n47 : Nat) (mp : Nat) (y : Nat) (V3 : Nat → Nat) (A3 : Nat → Nat) (B3 : Nat → Nat) (M_47 : zM), Sm Mq M_47 [158, 159, 160] → M_47[158]? = some (.inl (1, 3872, .inr (.inl (al V3)))) → M_47[159]? = some (.inl (1, 22, .inr (.inl (al A3)))) → M_47[160]? = some (.inl (1, 22, .inr (.inl (al B3)))) → (MpI (gE al_ it tg pt bd (f 156) (f 157)) n emp rk V0 (x - 1) j ps y mp V3 ∧ SafeM A3 ∧ SafeM B3) → n - y < n47 → Zw 4 zm_MO_layEnd 47 [some (.ref 139), some (.int (nI j)), some (.int (nI (x - 1))), some (.int (nI mp)), some (.int (nI y)), none, none, none, none, none] [] M_47 (fun r9 M1 => r9 = none ∧ ∃ V A B, MM M1 o (fset (fset (fset f 160 B) 159 A) 158 V) ∧ Sm Mq M1 [158, 159, 160] ∧ SafeM V ∧ SafeM A ∧ SafeM B ∧ VAll (gE al_ it tg pt bd (f 156) (f 157)) n (j + 1) V) := by
                      intro n47
                      induction n47 with
                      | zero => intro mp y V3 A3 B3 M_47 _ _ _ _ _ h; exact absurd h (Nat.not_lt_zero _)
                      | succ n47 ih47 =>
                        intro mp y V3 A3 B3 M_47 s_47 f47_0 f47_1 f47_2 hi47 hm47
                        have hxn := hi47.1.x_le
                        have hmp := hi47.1.mp_le
                        refine zw_n 2 rfl ?_
                        refine zw_get (v := .ref 140) rfl (Sm.at s_47 (by decide) hM.1) rfl ?_
                        refine zw_n 1 rfl ?_
                        refine zw_iald (f := ai (f 140)) (j := 0) rfl (Sm.at s_47 (by decide) (hM.2 140 (by decide) (by decide))) rfl (by decide) (by omega) ?_
                        refine zw_top (congrArg nI hg.1) ?_
                        refine zw_igeN (a := y) (b := n) rfl rfl rfl (by omega) (by omega) (fun c55 => ?_) (fun c55 => ?_)
                        · -- 55 to 153
                          refine zw_n 1 rfl ?_
                          refine zw_ls (ls' := [some (.ref 139), some (.int (nI j)), some (.int (nI (x - 1))), some (.int (nI mp)), none, none, none, none, none, none]) ⟨Or.inr rfl, Or.inr rfl, Or.inr rfl, Or.inr rfl, Or.inl rfl, Or.inl rfl, Or.inl rfl, Or.inl rfl, Or.inl rfl, Or.inl rfl, trivial⟩ ?_
                          exact ih38 mp (ps + 1) V3 A3 B3 M_47 s_47 f47_0 f47_1 f47_2 (⟨MpI.fin hA (by omega) hj (hi2.2.1.sp1 (by omega)) hi47.1 (by omega) (by omega), hi47.2.1, hi47.2.2⟩) (by omega)
                        · -- 55 to 58
                          refine zw_n 1 rfl ?_
                          refine zw_get (v := .ref 158) rfl (Sm.at s_47 (by decide) hM.1) rfl ?_
                          refine zw_n 3 rfl ?_
                          refine zw_callS (as := [.int (nI y), .int (nI (x - 1)), .int (nI j)]) (rest := [.ref 158]) rfl rfl rfl rfl rfl rfl (by decide) (m_at _ y (x - 1) j) (fun rz159 Mz160 hz161 => ?_)
                          rw [hz161.1, hz161.2]
                          show Zw 4 zm_MO_layEnd 69 [some (.ref 139), some (.int (nI j)), some (.int (nI (x - 1))), some (.int (nI mp)), some (.int (nI y)), none, none, none, none, none] [.int (nI (22 * (22 * y + (x - 1)) + j)), .ref 158] M_47 _
                          refine zw_lald (f := al V3) (j := (22 * (22 * y + (x - 1)) + j)) rfl f47_0 rfl (by decide) (by omega) ?_
                          refine zw_topl (rfl) ?_
                          refine zw_n 5 (ls' := [some (.ref 139), some (.int (nI j)), some (.int (nI (x - 1))), some (.int (nI mp)), some (.int (nI y)), some (.long (lN (v3 V3 y (x - 1) j))), none, some (.long (lN (v3 V3 y (x - 1) j))), none, some (.int 0)]) rfl ?_
                          have lp79 : ∀ (n79 : Nat) (its : Nat) (a : Nat) (A4 : Nat → Nat) (B4 : Nat → Nat) (M_79 : zM), Sm Mq M_79 [158, 159, 160] → M_79[159]? = some (.inl (1, 22, .inr (.inl (al A4)))) → M_79[160]? = some (.inl (1, 22, .inr (.inl (al B4)))) → M_79[158]? = some (.inl (1, 3872, .inr (.inl (al V3)))) → (a ≤ al_ y ∧ its = v3 V3 y (x - 1) j ||| orR (fun a => rch (gE al_ it tg pt bd (f 156) (f 157)) (v3 V3) (x - 1) (y * 4 + a) (it (y * 4 + a)) j) 0 a ∧ SafeM A4 ∧ SafeM B4) → al_ y - a < n79 → Zw 4 zm_MO_layEnd 79 [some (.ref 139), some (.int (nI j)), some (.int (nI (x - 1))), some (.int (nI mp)), some (.int (nI y)), some (.long (lN (v3 V3 y (x - 1) j))), none, some (.long (lN its)), none, some (.int (nI a))] [] M_79 (fun r9 M1 => r9 = none ∧ ∃ V A B, MM M1 o (fset (fset (fset f 160 B) 159 A) 158 V) ∧ Sm Mq M1 [158, 159, 160] ∧ SafeM V ∧ SafeM A ∧ SafeM B ∧ VAll (gE al_ it tg pt bd (f 156) (f 157)) n (j + 1) V) := by
                            intro n79
                            induction n79 with
                            | zero => intro its a A4 B4 M_79 _ _ _ _ _ h; exact absurd h (Nat.not_lt_zero _)
                            | succ n79 ih79 =>
                              intro its a A4 B4 M_79 s_79 f79_0 f79_1 f79_2 hi79 hm79
                              have ha4 := hG.2.2.1 y
                              refine zw_n 2 rfl ?_
                              refine zw_get (v := .ref 140) rfl (Sm.at s_79 (by decide) hM.1) rfl ?_
                              refine zw_n 3 rfl ?_
                              refine zw_top (na (a := 9) (b := y) rfl rfl) ?_
                              refine zw_iald (f := ai (f 140)) (j := (9 + y)) rfl (Sm.at s_79 (by decide) (hM.2 140 (by decide) (by decide))) rfl (by decide) (by omega) ?_
                              refine zw_top (congrArg nI (hg.2.2.1 y (by omega))) ?_
                              refine zw_igeN (a := a) (b := al_ y) rfl rfl rfl (by omega) (by omega) (fun c91 => ?_) (fun c91 => ?_)
                              · -- 91 to 115
                                obtain rfl : its = v3 V3 y (x - 1) j ||| fR (gE al_ it tg pt bd (f 156) (f 157)) (v3 V3) y (x - 1) j := by rw [hi79.2.1, show a = al_ y by omega]; rfl
                                refine zw_n 1 rfl ?_
                                refine zw_get (v := .ref 158) rfl (Sm.at s_79 (by decide) hM.1) rfl ?_
                                refine zw_n 3 rfl ?_
                                refine zw_callS (as := [.int (nI y), .int (nI (x - 1)), .int (nI j)]) (rest := [.ref 158]) rfl rfl rfl rfl rfl rfl (by decide) (m_at _ y (x - 1) j) (fun rz162 Mz163 hz164 => ?_)
                                rw [hz164.1, hz164.2]
                                show Zw 4 zm_MO_layEnd 126 [some (.ref 139), some (.int (nI j)), some (.int (nI (x - 1))), some (.int (nI mp)), some (.int (nI y)), some (.long (lN (v3 V3 y (x - 1) j))), none, some (.long (lN (v3 V3 y (x - 1) j ||| fR (gE al_ it tg pt bd (f 156) (f 157)) (v3 V3) y (x - 1) j))), none, some (.int (nI a))] [.int (nI (22 * (22 * y + (x - 1)) + j)), .ref 158] M_79 _
                                refine zw_n 1 rfl ?_
                                refine zw_lastN (g := V3) (j := (22 * (22 * y + (x - 1)) + j)) (v := (v3 V3 y (x - 1) j ||| fR (gE al_ it tg pt bd (f 156) (f 157)) (v3 V3) y (x - 1) j)) rfl f79_2 rfl (by decide) (by omega) (rfl) ?_
                                generalize ez166 : List.set M_79 158 _ = Mz165
                                have j129 : Zw 4 zm_MO_layEnd 146 [some (.ref 139), some (.int (nI j)), some (.int (nI (x - 1))), some (.int (nI mp)), some (.int (nI y)), some (.long (lN (v3 V3 y (x - 1) j))), none, some (.long (lN (v3 V3 y (x - 1) j ||| fR (gE al_ it tg pt bd (f 156) (f 157)) (v3 V3) y (x - 1) j))), none, some (.int (nI a))] [.int (nI (if mp ≠ 0 ∨ v3 V3 y (x - 1) j ||| fR (gE al_ it tg pt bd (f 156) (f 157)) (v3 V3) y (x - 1) j ≠ v3 V3 y (x - 1) j then 1 else 0))] Mz165 (fun r9 M1 => r9 = none ∧ ∃ V A B, MM M1 o (fset (fset (fset f 160 B) 159 A) 158 V) ∧ Sm Mq M1 [158, 159, 160] ∧ SafeM V ∧ SafeM A ∧ SafeM B ∧ VAll (gE al_ it tg pt bd (f 156) (f 157)) n (j + 1) V) := by
                                  refine zw_n 1 (ls' := [some (.ref 139), some (.int (nI j)), some (.int (nI (x - 1))), some (.int (nI (if mp ≠ 0 ∨ v3 V3 y (x - 1) j ||| fR (gE al_ it tg pt bd (f 156) (f 157)) (v3 V3) y (x - 1) j ≠ v3 V3 y (x - 1) j then 1 else 0))), some (.int (nI y)), some (.long (lN (v3 V3 y (x - 1) j))), none, some (.long (lN (v3 V3 y (x - 1) j ||| fR (gE al_ it tg pt bd (f 156) (f 157)) (v3 V3) y (x - 1) j))), none, some (.int (nI a))]) rfl ?_
                                  refine zw_inc rfl (x' := (nI (y + 1))) (ls' := [some (.ref 139), some (.int (nI j)), some (.int (nI (x - 1))), some (.int (nI (if mp ≠ 0 ∨ v3 V3 y (x - 1) j ||| fR (gE al_ it tg pt bd (f 156) (f 157)) (v3 V3) y (x - 1) j ≠ v3 V3 y (x - 1) j then 1 else 0))), some (.int (nI (y + 1))), some (.long (lN (v3 V3 y (x - 1) j))), none, some (.long (lN (v3 V3 y (x - 1) j ||| fR (gE al_ it tg pt bd (f 156) (f 157)) (v3 V3) y (x - 1) j))), none, some (.int (nI a))]) rfl (na (a := y) (b := 1) rfl rfl) rfl ?_
                                  refine zw_n 1 rfl ?_
                                  refine zw_ls (ls' := [some (.ref 139), some (.int (nI j)), some (.int (nI (x - 1))), some (.int (nI (if mp ≠ 0 ∨ v3 V3 y (x - 1) j ||| fR (gE al_ it tg pt bd (f 156) (f 157)) (v3 V3) y (x - 1) j ≠ v3 V3 y (x - 1) j then 1 else 0))), some (.int (nI (y + 1))), none, none, none, none, none]) ⟨Or.inr rfl, Or.inr rfl, Or.inr rfl, Or.inr rfl, Or.inr rfl, Or.inl rfl, Or.inl rfl, Or.inl rfl, Or.inl rfl, Or.inl rfl, trivial⟩ ?_
                                  exact ih47 (if mp ≠ 0 ∨ v3 V3 y (x - 1) j ||| fR (gE al_ it tg pt bd (f 156) (f 157)) (v3 V3) y (x - 1) j ≠ v3 V3 y (x - 1) j then 1 else 0) (y + 1) (up V3 (22 * (22 * y + (x - 1)) + j) (v3 V3 y (x - 1) j ||| fR (gE al_ it tg pt bd (f 156) (f 157)) (v3 V3) y (x - 1) j)) A4 B4 Mz165 (Sm.tset s_79 ez166 (by decide)) (zat_self ez166 f79_2) (zat_set ez166 (by decide) f79_0) (zat_set ez166 (by decide) f79_1) (⟨MpI.step hA (fun q => hF.2.2.1 q) (by omega) hj (hi2.2.1.sp1 (by omega)) hi47.1 (by omega), hi79.2.2.1, hi79.2.2.2⟩) (by omega)
                                refine zw_n 1 rfl ?_
                                refine zw_ne0N (a := mp) rfl rfl (by omega) (fun c130 => ?_) (fun c130 => ?_)
                                · -- 130 to 141
                                  refine zw_n 2 rfl ?_
                                  refine zw_top (x' := nI (if mp ≠ 0 ∨ v3 V3 y (x - 1) j ||| fR (gE al_ it tg pt bd (f 156) (f 157)) (v3 V3) y (x - 1) j ≠ v3 V3 y (x - 1) j then 1 else 0)) (show nI 1 = nI (if mp ≠ 0 ∨ v3 V3 y (x - 1) j ||| fR (gE al_ it tg pt bd (f 156) (f 157)) (v3 V3) y (x - 1) j ≠ v3 V3 y (x - 1) j then 1 else 0) by rw [if_pos (by first | exact Or.inl (by omega) | exact Or.inr c138)]) ?_
                                  exact j129
                                · -- 130 to 133
                                  refine zw_n 3 rfl ?_
                                  refine zw_leqN (a := v3 V3 y (x - 1) j ||| fR (gE al_ it tg pt bd (f 156) (f 157)) (v3 V3) y (x - 1) j) (b := v3 V3 y (x - 1) j) rfl rfl rfl (by first | exact Nat.lt_trans (or_lt40 (hi47.1.sv _) fR_lt) (by decide) | exact Nat.lt_trans (hi47.1.sv _) (by decide)) (by first | exact Nat.lt_trans (or_lt40 (hi47.1.sv _) fR_lt) (by decide) | exact Nat.lt_trans (hi47.1.sv _) (by decide)) (fun c138 => ?_) (fun c138 => ?_)
                                  · -- 138 to 145
                                    refine zw_n 1 rfl ?_
                                    refine zw_top (x' := nI (if mp ≠ 0 ∨ v3 V3 y (x - 1) j ||| fR (gE al_ it tg pt bd (f 156) (f 157)) (v3 V3) y (x - 1) j ≠ v3 V3 y (x - 1) j then 1 else 0)) (show nI 0 = nI (if mp ≠ 0 ∨ v3 V3 y (x - 1) j ||| fR (gE al_ it tg pt bd (f 156) (f 157)) (v3 V3) y (x - 1) j ≠ v3 V3 y (x - 1) j then 1 else 0) by rw [if_neg (by rintro (q | q) <;> first | exact q c130 | exact q c138)]) ?_
                                    exact j129
                                  · -- 138 to 141
                                    refine zw_n 2 rfl ?_
                                    refine zw_top (x' := nI (if mp ≠ 0 ∨ v3 V3 y (x - 1) j ||| fR (gE al_ it tg pt bd (f 156) (f 157)) (v3 V3) y (x - 1) j ≠ v3 V3 y (x - 1) j then 1 else 0)) (show nI 1 = nI (if mp ≠ 0 ∨ v3 V3 y (x - 1) j ||| fR (gE al_ it tg pt bd (f 156) (f 157)) (v3 V3) y (x - 1) j ≠ v3 V3 y (x - 1) j then 1 else 0) by rw [if_pos (by first | exact Or.inl (by omega) | exact Or.inr c138)]) ?_
                                    exact j129
                              · -- 91 to 94
                                refine zw_n 6 rfl ?_
                                refine zw_callV (as := [.int (nI y), .int (nI a), .int (nI (x - 1)), .int (nI j)]) (rest := [.long (lN its)]) rfl rfl rfl (Sm.at s_79 (by decide) hM.1) rfl rfl rfl (by decide) (m_overAlt M_79 o (fset (fset (fset f 160 B4) 159 A4) 158 V3) (MM.of (o' := o) (f' := fset (fset (fset f 160 B4) 159 A4) 158 V3) hM s_79 (Sm.at s_79 (by decide) hM.1) (c1_cons f79_2 (c1_cons f79_0 (c1_cons f79_1 c1_nil))) (fs_c (fs_c (fs_c fs_n)))) n gn al_ it pt tg bd hg hG (⟨hF.1, hF.2.1, hF.2.2.1, hi47.1.sv, hi79.2.2.1, hi79.2.2.2⟩) y a (x - 1) j (by omega) (by omega) (by omega) (by omega)) (fun rz174 Mz175 hz176 => ?_)
                                obtain ⟨hAz169, Az167, Az168, hMMz170, hSz171, hz172, hz173⟩ := hz176
                                rw [hAz169]
                                show Zw 4 zm_MO_layEnd 106 [some (.ref 139), some (.int (nI j)), some (.int (nI (x - 1))), some (.int (nI mp)), some (.int (nI y)), some (.long (lN (v3 V3 y (x - 1) j))), none, some (.long (lN its)), none, some (.int (nI a))] [.long (lN (rch (gE al_ it tg pt bd (f 156) (f 157)) (v3 V3) (x - 1) (y * 4 + a) (it (y * 4 + a)) j)), .long (lN its)] Mz175 _
                                refine zw_n 1 rfl ?_
                                refine zw_topl (lo (a := its) (b := rch (gE al_ it tg pt bd (f 156) (f 157)) (v3 V3) (x - 1) (y * 4 + a) (it (y * 4 + a)) j) rfl rfl) ?_
                                refine zw_n 1 (ls' := [some (.ref 139), some (.int (nI j)), some (.int (nI (x - 1))), some (.int (nI mp)), some (.int (nI y)), some (.long (lN (v3 V3 y (x - 1) j))), none, some (.long (lN (its ||| (rch (gE al_ it tg pt bd (f 156) (f 157)) (v3 V3) (x - 1) (y * 4 + a) (it (y * 4 + a)) j)))), none, some (.int (nI a))]) rfl ?_
                                refine zw_inc rfl (x' := (nI (a + 1))) (ls' := [some (.ref 139), some (.int (nI j)), some (.int (nI (x - 1))), some (.int (nI mp)), some (.int (nI y)), some (.long (lN (v3 V3 y (x - 1) j))), none, some (.long (lN (its ||| (rch (gE al_ it tg pt bd (f 156) (f 157)) (v3 V3) (x - 1) (y * 4 + a) (it (y * 4 + a)) j)))), none, some (.int (nI (a + 1)))]) rfl (na (a := a) (b := 1) rfl rfl) rfl ?_
                                refine zw_n 1 rfl ?_
                                exact ih79 (its ||| (rch (gE al_ it tg pt bd (f 156) (f 157)) (v3 V3) (x - 1) (y * 4 + a) (it (y * 4 + a)) j)) (a + 1) Az167 Az168 Mz175 (Sm.tw s_79 hSz171 (by decide)) (hMMz170.2 159 (by decide) (by decide)) (hMMz170.2 160 (by decide) (by decide)) (Sm.at hSz171 (by decide) f79_2) (⟨by omega, by rw [orR, ← Nat.or_assoc, ← hi79.2.1, Nat.zero_add], hz172, hz173⟩) (by omega)
                          exact lp79 _ (v3 V3 y (x - 1) j) 0 A3 B3 M_47 s_47 f47_1 f47_2 f47_0 (⟨Nat.zero_le _, (Nat.or_zero _).symm, hi47.2.1, hi47.2.2⟩) (Nat.lt_succ_self _)
                    exact lp47 _ 0 0 V2 A2 B2 M_38 s_38 f38_0 f38_1 f38_2 (⟨hi38.1.go, hi38.2.1, hi38.2.2⟩) (Nat.lt_succ_self _)
              exact lp38 _ 1 0 V1 A0 B0 M_8 s_8 f8_0 f8_1 f8_2 (⟨MpP.start hi8.2.1 hi8.2.2.1 (fun t (ht : t < n) => hi8.2.2.2 t (by omega)), hi2.2.2.1, hi2.2.2.2⟩) (Nat.lt_succ_self _)
            · -- 15 to 18
              refine zw_n 1 rfl ?_
              refine zw_get (v := .ref 158) rfl (Sm.at s_8 (by decide) hM.1) rfl ?_
              refine zw_n 3 rfl ?_
              refine zw_callS (as := [.int (nI y), .int (nI (x - 1)), .int (nI j)]) (rest := [.ref 158]) rfl rfl rfl rfl rfl rfl (by decide) (m_at _ y (x - 1) j) (fun rz177 Mz178 hz179 => ?_)
              rw [hz179.1, hz179.2]
              show Zw 4 zm_MO_layEnd 28 [some (.ref 139), some (.int (nI j)), some (.int (nI (x - 1))), some (.int (nI y)), none, none, none, none, none, none] [.int (nI (22 * (22 * y + (x - 1)) + j)), .ref 158] M_8 _
              refine zw_n 1 rfl ?_
              refine zw_lastN (g := V1) (j := (22 * (22 * y + (x - 1)) + j)) (v := 0) rfl f8_0 rfl (by decide) (by omega) (rfl) ?_
              generalize ez181 : List.set M_8 158 _ = Mz180
              refine zw_inc rfl (x' := (nI (y + 1))) (ls' := [some (.ref 139), some (.int (nI j)), some (.int (nI (x - 1))), some (.int (nI (y + 1))), none, none, none, none, none, none]) rfl (na (a := y) (b := 1) rfl rfl) rfl ?_
              refine zw_n 1 rfl ?_
              exact ih8 (y + 1) (up V1 (22 * (22 * y + (x - 1)) + j) 0) Mz180 (Sm.tset s_8 ez181 (by decide)) (zat_self ez181 f8_0) (zat_set ez181 (by decide) f8_1) (zat_set ez181 (by decide) f8_2) (⟨by omega, safe_up hi8.2.1 (by decide), hi8.2.2.1.put _ _ (by omega) hj, fun t ht => by rw [v3_up (by omega) hj]; split <;> first | rfl | exact hi8.2.2.2 t (by omega)⟩) (by omega)
        exact lp8 _ 0 V0 M_2 s_2 f2_0 f2_1 f2_2 (⟨Nat.zero_le _, hi2.2.1.1, VS.rf, fun t ht => by omega⟩) (Nat.lt_succ_self _)
  refine zw_lse (ls' := [some (.ref 139), some (.int (nI j)), some (.int (nI (j + 1) - 1)), none, none, none, none, none, none, none]) (by rw [show nI j = nI (j + 1) - 1 from nPs]) ?_
  exact lp2 _ (j + 1) (f 158) (f 159) (f 160) Mq Sm.rf (hM.2 158 (by decide) (by decide)) (hM.2 159 (by decide) (by decide)) (hM.2 160 (by decide) (by decide)) (⟨Nat.le_refl _, hv.ok hF.2.2.2.1, hF.2.2.2.2.1, hF.2.2.2.2.2⟩) (Nat.lt_succ_self _)
