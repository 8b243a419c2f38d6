set_option maxHeartbeats 4000000 in
set_option maxRecDepth 100000 in
theorem m_altAt (Mq : zM) (r a : Nat) : Zm 0 zm_MO_altAt [.int (nI r), .int (nI a)] Mq (fun r9 M1 => r9 = some (.int (nI (r * 4 + a))) ∧ M1 = Mq) := by
  show Zw 0 zm_MO_altAt 0 [some (.int (nI r)), some (.int (nI a))] [] Mq _
  refine zw_n 3 rfl ?_
  refine zw_top (nm (a := 4) (b := r) rfl rfl) ?_
  refine zw_n 2 rfl ?_
  refine zw_top (na (a := 4 * r) (b := a) rfl rfl) ?_
  exact zw_iret rfl rfl (⟨by rw [Nat.mul_comm 4 r], rfl⟩)

set_option maxHeartbeats 4000000 in
set_option maxRecDepth 100000 in
theorem m_itemAt (Mq : zM) (r a k : Nat) : Zm 1 zm_MO_itemAt [.int (nI r), .int (nI a), .int (nI k)] Mq (fun r9 M1 => r9 = some (.int (nI (49 + 3 * ((r * 4 + a) * 5 + k)))) ∧ M1 = Mq) := by
  show Zw 1 zm_MO_itemAt 0 [some (.int (nI r)), some (.int (nI a)), some (.int (nI k))] [] Mq _
  refine zw_n 5 rfl ?_
  refine zw_callS (as := [.int (nI r), .int (nI a)]) (rest := [.int 5, .int 3, .int 49]) rfl rfl rfl rfl rfl rfl (by decide) (m_altAt _ r a) (fun rz94 Mz95 hz96 => ?_)
  rw [hz96.1, hz96.2]
  show Zw 1 zm_MO_itemAt 9 [some (.int (nI r)), some (.int (nI a)), some (.int (nI k))] [.int (nI (r * 4 + a)), .int 5, .int 3, .int 49] Mq _
  refine zw_n 1 rfl ?_
  refine zw_top (nm (a := 5) (b := r * 4 + a) rfl rfl) ?_
  refine zw_n 2 rfl ?_
  refine zw_top (na (a := 5 * (r * 4 + a)) (b := k) rfl rfl) ?_
  refine zw_n 1 rfl ?_
  refine zw_top (nm (a := 3) (b := (5 * (r * 4 + a)) + k) rfl rfl) ?_
  refine zw_n 1 rfl ?_
  refine zw_top (na (a := 49) (b := 3 * ((5 * (r * 4 + a)) + k)) rfl rfl) ?_
  exact zw_iret rfl rfl (⟨by rw [Nat.mul_comm 5 (r * 4 + a)], rfl⟩)

set_option maxHeartbeats 4000000 in
set_option maxRecDepth 100000 in
theorem m_at (Mq : zM) (r a k : Nat) : Zm 0 zm_MO_at [.int (nI r), .int (nI a), .int (nI k)] Mq (fun r9 M1 => r9 = some (.int (nI (22 * (22 * r + a) + k))) ∧ M1 = Mq) := by
  show Zw 0 zm_MO_at 0 [some (.int (nI r)), some (.int (nI a)), some (.int (nI k))] [] Mq _
  refine zw_n 4 rfl ?_
  refine zw_top (nm (a := 22) (b := r) rfl rfl) ?_
  refine zw_n 2 rfl ?_
  refine zw_top (na (a := 22 * r) (b := a) rfl rfl) ?_
  refine zw_n 1 rfl ?_
  refine zw_top (nm (a := 22) (b := (22 * r) + a) rfl rfl) ?_
  refine zw_n 2 rfl ?_
  refine zw_top (na (a := 22 * ((22 * r) + a)) (b := k) rfl rfl) ?_
  exact zw_iret rfl rfl (⟨rfl, rfl⟩)

set_option maxHeartbeats 4000000 in
set_option maxRecDepth 100000 in
theorem m_items (Mq : zM) (o : Nat → Nat) (f : Nat → Nat → Nat) (hM : MM Mq o f)(n : Nat) (gn al_ it pt tg bd : Nat → Nat) (hg : RelG f n gn al_ it pt tg bd) (hG : SafeG n gn al_ it pt tg bd) (hF : SafeF f) (r a : Nat) (hr : r < n) (ha : a < al_ r) : Zm 1 zm_MO_items [.ref 139, .int (nI r), .int (nI a)] Mq (fun r9 M1 => r9 = some (.int (nI (it (r * 4 + a)))) ∧ M1 = Mq) := by
  show Zw 1 zm_MO_items 0 [some (.ref 139), some (.int (nI r)), some (.int (nI a))] [] Mq _
  have hn8 := hG.1
  have ha4 := hG.2.2.1 r
  refine zw_n 1 rfl ?_
  refine zw_get (v := .ref 140) rfl hM.1 rfl ?_
  refine zw_n 3 rfl ?_
  refine zw_callS (as := [.int (nI r), .int (nI a)]) (rest := [.int 17, .ref 140]) rfl rfl rfl rfl rfl rfl (by decide) (m_altAt _ r a) (fun rz97 Mz98 hz99 => ?_)
  rw [hz99.1, hz99.2]
  show Zw 1 zm_MO_items 11 [some (.ref 139), some (.int (nI r)), some (.int (nI a))] [.int (nI (r * 4 + a)), .int 17, .ref 140] Mq _
  refine zw_n 1 rfl ?_
  refine zw_top (na (a := 17) (b := r * 4 + a) rfl rfl) ?_
  refine zw_iald (f := ai (f 140)) (j := (17 + (r * 4 + a))) rfl (hM.2 140 (by decide) (by decide)) rfl (by decide) (by omega) ?_
  refine zw_top (congrArg nI (hg.2.2.2.1 r a hr ha)) ?_
  exact zw_iret rfl rfl (⟨rfl, rfl⟩)

set_option maxHeartbeats 4000000 in
set_option maxRecDepth 100000 in
theorem m_partOf (Mq : zM) (o : Nat → Nat) (f : Nat → Nat → Nat) (hM : MM Mq o f)(n : Nat) (gn al_ it pt tg bd : Nat → Nat) (hg : RelG f n gn al_ it pt tg bd) (hG : SafeG n gn al_ it pt tg bd) (hF : SafeF f) (x : Nat) (hx : Slt n al_ it x) (hx1 : x < 160) : Zm 0 zm_MO_partOf [.ref 139, .int (nI (49 + 3 * x))] Mq (fun r9 M1 => r9 = some (.int (nI (tg x))) ∧ M1 = Mq) := by
  show Zw 0 zm_MO_partOf 0 [some (.ref 139), some (.int (nI (49 + 3 * x)))] [] Mq _
  refine zw_n 1 rfl ?_
  refine zw_get (v := .ref 153) rfl hM.1 rfl ?_
  refine zw_n 3 rfl ?_
  refine zw_top (ns (a := 49 + 3 * x) (b := 49) rfl rfl (by omega)) ?_
  refine zw_n 2 rfl ?_
  refine zw_top (x' := (nI x)) ((ndiv (a := 49 + 3 * x - 49) (b := 3) rfl rfl (by omega) (by decide) (by decide)).trans (congrArg nI (by omega))) ?_
  refine zw_iald (f := ai (f 153)) (j := x) rfl (hM.2 153 (by decide) (by decide)) rfl (by decide) (by omega) ?_
  refine zw_top (congrArg nI (hg.2.2.2.2 x hx).2.2.2) ?_
  exact zw_iret rfl rfl (⟨rfl, rfl⟩)

set_option maxHeartbeats 4000000 in
set_option maxRecDepth 100000 in
theorem m_tokens (Mq : zM) (o : Nat → Nat) (f : Nat → Nat → Nat) (hM : MM Mq o f) (c : Nat) (sg li co : Nat → Nat) (ht : RelT f c sg li co) : Zm 0 zm_MO_tokens [.ref 139] Mq (fun r9 M1 => r9 = some (.int (nI c)) ∧ M1 = Mq) := by
  show Zw 0 zm_MO_tokens 0 [some (.ref 139)] [] Mq _
  refine zw_n 1 rfl ?_
  refine zw_get (v := .ref 140) rfl hM.1 rfl ?_
  refine zw_n 1 rfl ?_
  refine zw_iald (f := ai (f 140)) (j := 529) rfl (hM.2 140 (by decide) (by decide)) rfl (by decide) (by omega) ?_
  refine zw_top (congrArg nI ht.1) ?_
  exact zw_iret rfl rfl (⟨rfl, rfl⟩)

set_option maxHeartbeats 4000000 in
set_option maxRecDepth 100000 in
theorem m_in (Mq : zM) (x y z : Int64) (V L H : Int) (hx : x.toInt = V) (hy : y.toInt = L) (hz : z.toInt = H) : Zm 0 zm_MO_in [.long x, .long y, .long z] Mq (fun r9 M1 => r9 = some (.int (nI (if L ≤ V ∧ V ≤ H then 1 else 0))) ∧ M1 = Mq) := by
  show Zw 0 zm_MO_in 0 [some (.long x), none, some (.long y), none, some (.long z), none] [] Mq _
  refine zw_n 3 rfl ?_
  refine zw_llt rfl (fun c3 => ?_) (fun c3 => ?_)
  · -- 3 to 17
    first | (rw [Int64.lt_iff_toInt_lt, hx, hz] at c10) | (rw [Int64.lt_iff_toInt_lt, hx, hy] at c3)
    refine zw_n 1 rfl ?_
    exact zw_zret rfl rfl (Or.inl rfl) (⟨by rw [if_neg (by omega)]; rfl, rfl⟩)
  · -- 3 to 6
    rw [Int64.lt_iff_toInt_lt, hx, hy] at c3
    refine zw_n 3 rfl ?_
    refine zw_lgt rfl (fun c10 => ?_) (fun c10 => ?_)
    · -- 10 to 17
      first | (rw [Int64.lt_iff_toInt_lt, hx, hz] at c10) | (rw [Int64.lt_iff_toInt_lt, hx, hy] at c3)
      refine zw_n 1 rfl ?_
      exact zw_zret rfl rfl (Or.inl rfl) (⟨by rw [if_neg (by omega)]; rfl, rfl⟩)
    · -- 10 to 13
      rw [Int64.lt_iff_toInt_lt, hx, hz] at c10
      refine zw_n 2 rfl ?_
      exact zw_zret rfl rfl (Or.inr rfl) (⟨by rw [if_pos (by omega)]; rfl, rfl⟩)

set_option maxHeartbeats 4000000 in
set_option maxRecDepth 100000 in
theorem m_isGrammar (Mq : zM) (o : Nat → Nat) (f : Nat → Nat → Nat) (hM : MM Mq o f)(n : Nat) (gn al_ it pt tg bd : Nat → Nat) (hg : RelG f n gn al_ it pt tg bd) (hG : SafeG n gn al_ it pt tg bd) (hF : SafeF f) : Zm 0 zm_MO_isGrammar [.ref 139] Mq (fun r9 M1 => r9 = some (.int (nI (if 0 < n then 1 else 0))) ∧ M1 = Mq) := by
  show Zw 0 zm_MO_isGrammar 0 [some (.ref 139)] [] Mq _
  have hn8 := hG.1
  refine zw_n 1 rfl ?_
  refine zw_get (v := .ref 140) rfl hM.1 rfl ?_
  refine zw_n 1 rfl ?_
  refine zw_iald (f := ai (f 140)) (j := 0) rfl (hM.2 140 (by decide) (by decide)) rfl (by decide) (by omega) ?_
  refine zw_top (congrArg nI hg.1) ?_
  refine zw_le0N (a := n) rfl rfl (by omega) (fun c6 => ?_) (fun c6 => ?_)
  · -- 6 to 13
    refine zw_n 1 rfl ?_
    exact zw_zret rfl rfl (Or.inl rfl) (⟨by rw [if_neg (by omega)]; rfl, rfl⟩)
  · -- 6 to 9
    refine zw_n 2 rfl ?_
    exact zw_zret rfl rfl (Or.inr rfl) (⟨by rw [if_pos (by omega)]; rfl, rfl⟩)

set_option maxHeartbeats 4000000 in
set_option maxRecDepth 100000 in
theorem m_lets (Mq : zM) (b m : Nat) (hb : b < 2147483648) (hm : m < 1099511627776) : Zm 0 zm_MO_lets [.int (nI b), .long (lN m)] Mq (fun r9 M1 => r9 = some (.long (lN (letsN b m))) ∧ M1 = Mq) := by
  show Zw 0 zm_MO_lets 0 [some (.int (nI b)), some (.long (lN m)), none, none, none, none, none] [] Mq _
  refine zw_n 3 rfl ?_
  refine zw_leqN (a := m) (b := 0) rfl rfl rfl (by omega) (by omega) (fun c3 => ?_) (fun c3 => ?_)
  · -- 3 to 12
    refine zw_n 3 rfl ?_
    refine zw_lneN (a := m) (b := 0) rfl rfl rfl (by omega) (by omega) (fun c15 => ?_) (fun c15 => ?_)
    · -- 15 to 22
      refine zw_n 1 rfl ?_
      refine zw_topl (x' := lN 1099511627775) (by decide) ?_
      exact zw_lret rfl rfl (⟨by unfold letsN; simp_all, rfl⟩)
    · -- 15 to 18
      refine zw_n 2 rfl ?_
      refine zw_topl (x' := lN 0) (by decide) ?_
      exact zw_lret rfl rfl (⟨by unfold letsN; simp_all, rfl⟩)
  · -- 3 to 6
    refine zw_n 2 rfl ?_
    refine zw_ineN (a := b) (b := 42) rfl rfl rfl (by omega) (by omega) (fun c9 => ?_) (fun c9 => ?_)
    · -- 9 to 26
      refine zw_n 2 rfl ?_
      refine zw_ineN (a := b) (b := 61) rfl rfl rfl (by omega) (by omega) (fun c29 => ?_) (fun c29 => ?_)
      · -- 29 to 34
        refine zw_n 4 (ls' := [some (.int (nI b)), some (.long (lN m)), none, some (.long 0), none, some (.int 0), none]) rfl ?_
        have lp39 : ∀ (n39 : Nat) (a : Nat) (e : Nat), (e ≤ 40 ∧ a = (if b = 62 then orR (fun c => if m / 2 ^ (c + 1) ≠ 0 then 2 ^ c else 0) 0 e else orR (fun c => if m / 2 ^ c ≠ 0 then 2 ^ c else 0) 0 e)) → 40 - e < n39 → Zw 0 zm_MO_lets 39 [some (.int (nI b)), some (.long (lN m)), none, some (.long (lN a)), none, some (.int (nI e)), none] [] Mq (fun r9 M1 => r9 = some (.long (lN (letsN b m))) ∧ M1 = Mq) := by
          intro n39
          induction n39 with
          | zero => intro a e _ h; exact absurd h (Nat.not_lt_zero _)
          | succ n39 ih39 =>
            intro a e hi39 hm39
            refine zw_n 2 rfl ?_
            refine zw_igtN (a := e) (b := 39) rfl rfl rfl (by omega) (by omega) (fun c43 => ?_) (fun c43 => ?_)
            · -- 43 to 109
              refine zw_n 1 rfl ?_
              exact zw_lret rfl rfl (⟨by have h9 := hi39.2; rw [show e = 40 by omega, lets_gt c3 hm, lets_ge c3 hm] at h9; rw [h9]; unfold letsN; rw [if_neg c3, if_neg c29, if_neg c9], rfl⟩)
            · -- 43 to 46
              have j46 : Zw 0 zm_MO_lets 85 [some (.int (nI b)), some (.long (lN m)), none, some (.long (lN a)), none, some (.int (nI e)), none] [.int (nI (if (if b = 62 then m / 2 ^ (e + 1) else m / 2 ^ e) ≠ 0 then 1 else 0))] Mq (fun r9 M1 => r9 = some (.long (lN (letsN b m))) ∧ M1 = Mq) := by
                refine zw_n 3 (ls' := [some (.int (nI b)), some (.long (lN m)), none, some (.long (lN a)), none, some (.int (nI e)), some (.int (nI (if (if b = 62 then m / 2 ^ (e + 1) else m / 2 ^ e) ≠ 0 then 1 else 0)))]) rfl ?_
                refine zw_eq0N (a := if (if b = 62 then m / 2 ^ (e + 1) else m / 2 ^ e) ≠ 0 then 1 else 0) rfl rfl (ite_b) (fun c90 => ?_) (fun c90 => ?_)
                · -- 90 to 100
                  refine zw_n 2 rfl ?_
                  refine zw_topl (lo (a := a) (b := 0) rfl rfl) ?_
                  refine zw_n 1 (ls' := [some (.int (nI b)), some (.long (lN m)), none, some (.long (lN (a ||| 0))), none, some (.int (nI e)), some (.int (nI (if (if b = 62 then m / 2 ^ (e + 1) else m / 2 ^ e) ≠ 0 then 1 else 0)))]) rfl ?_
                  refine zw_inc rfl (x' := (nI (e + 1))) (ls' := [some (.int (nI b)), some (.long (lN m)), none, some (.long (lN (a ||| 0))), none, some (.int (nI (e + 1))), some (.int (nI (if (if b = 62 then m / 2 ^ (e + 1) else m / 2 ^ e) ≠ 0 then 1 else 0)))]) rfl (na (a := e) (b := 1) rfl rfl) rfl ?_
                  refine zw_n 1 rfl ?_
                  refine zw_ls (ls' := [some (.int (nI b)), some (.long (lN m)), none, some (.long (lN (a ||| 0))), none, some (.int (nI (e + 1))), none]) ⟨Or.inr rfl, Or.inr rfl, Or.inl rfl, Or.inr rfl, Or.inl rfl, Or.inr rfl, Or.inl rfl, trivial⟩ ?_
                  exact ih39 (a ||| 0) (e + 1) (⟨by omega, by
                      rw [hi39.2]
                      by_cases q : b = 62
                      · rw [if_pos q, if_pos q, orR, Nat.zero_add]; simp_all
                      · rw [if_neg q, if_neg q, orR, Nat.zero_add]; simp_all⟩) (by omega)
                · -- 90 to 93
                  refine zw_n 3 rfl ?_
                  refine zw_topl (x' := (lN (2 ^ e))) ((lsl (m := 1) (k := e) rfl rfl (by omega)).trans (by rw [Nat.one_mul])) ?_
                  refine zw_n 2 rfl ?_
                  refine zw_topl (lo (a := a) (b := 2 ^ e) rfl rfl) ?_
                  refine zw_n 1 (ls' := [some (.int (nI b)), some (.long (lN m)), none, some (.long (lN (a ||| (2 ^ e)))), none, some (.int (nI e)), some (.int (nI (if (if b = 62 then m / 2 ^ (e + 1) else m / 2 ^ e) ≠ 0 then 1 else 0)))]) rfl ?_
                  refine zw_inc rfl (x' := (nI (e + 1))) (ls' := [some (.int (nI b)), some (.long (lN m)), none, some (.long (lN (a ||| (2 ^ e)))), none, some (.int (nI (e + 1))), some (.int (nI (if (if b = 62 then m / 2 ^ (e + 1) else m / 2 ^ e) ≠ 0 then 1 else 0)))]) rfl (na (a := e) (b := 1) rfl rfl) rfl ?_
                  refine zw_n 1 rfl ?_
                  refine zw_ls (ls' := [some (.int (nI b)), some (.long (lN m)), none, some (.long (lN (a ||| (2 ^ e)))), none, some (.int (nI (e + 1))), none]) ⟨Or.inr rfl, Or.inr rfl, Or.inl rfl, Or.inr rfl, Or.inl rfl, Or.inr rfl, Or.inl rfl, trivial⟩ ?_
                  exact ih39 (a ||| (2 ^ e)) (e + 1) (⟨by omega, by
                      rw [hi39.2]
                      by_cases q : b = 62
                      · rw [if_pos q, if_pos q, orR, Nat.zero_add]; simp_all
                      · rw [if_neg q, if_neg q, orR, Nat.zero_add]; simp_all⟩) (by omega)
              refine zw_n 2 rfl ?_
              refine zw_ineN (a := b) (b := 62) rfl rfl rfl (by omega) (by omega) (fun c49 => ?_) (fun c49 => ?_)
              · -- 49 to 71
                refine zw_n 3 rfl ?_
                refine zw_topl (x' := (lN (m / 2 ^ e))) (lsr (k := e) rfl rfl (by omega) (by omega)) ?_
                refine zw_n 2 rfl ?_
                refine zw_leqN (a := m / 2 ^ e) (b := 0) rfl rfl rfl (by first | exact Nat.lt_of_le_of_lt (Nat.div_le_self _ _) (by omega) | decide) (by first | exact Nat.lt_of_le_of_lt (Nat.div_le_self _ _) (by omega) | decide) (fun c77 => ?_) (fun c77 => ?_)
                · -- 77 to 84
                  refine zw_n 1 rfl ?_
                  rw [if_neg (by simp_all)] at j46
                  exact j46
                · -- 77 to 80
                  refine zw_n 2 rfl ?_
                  rw [if_pos (by simp_all)] at j46
                  exact j46
              · -- 49 to 52
                refine zw_n 4 rfl ?_
                refine zw_top (na (a := e) (b := 1) rfl rfl) ?_
                refine zw_n 1 rfl ?_
                refine zw_topl (x' := (lN (m / 2 ^ (e + 1)))) (lsr (k := e + 1) rfl rfl (by omega) (by omega)) ?_
                refine zw_n 2 rfl ?_
                refine zw_leqN (a := m / 2 ^ (e + 1)) (b := 0) rfl rfl rfl (by first | exact Nat.lt_of_le_of_lt (Nat.div_le_self _ _) (by omega) | decide) (by first | exact Nat.lt_of_le_of_lt (Nat.div_le_self _ _) (by omega) | decide) (fun c60 => ?_) (fun c60 => ?_)
                · -- 60 to 67
                  refine zw_n 2 rfl ?_
                  rw [if_neg (by simp_all)] at j46
                  exact j46
                · -- 60 to 63
                  refine zw_n 2 rfl ?_
                  rw [if_pos (by simp_all)] at j46
                  exact j46
        exact lp39 _ 0 0 (⟨by omega, by split <;> rfl⟩) (Nat.lt_succ_self _)
      · -- 29 to 32
        refine zw_n 1 rfl ?_
        exact zw_lret rfl rfl (⟨by unfold letsN; simp_all, rfl⟩)
    · -- 9 to 12
      refine zw_n 3 rfl ?_
      refine zw_lneN (a := m) (b := 0) rfl rfl rfl (by omega) (by omega) (fun c15 => ?_) (fun c15 => ?_)
      · -- 15 to 22
        refine zw_n 1 rfl ?_
        refine zw_topl (x' := lN 1099511627775) (by decide) ?_
        exact zw_lret rfl rfl (⟨by unfold letsN; simp_all, rfl⟩)
      · -- 15 to 18
        refine zw_n 2 rfl ?_
        refine zw_topl (x' := lN 0) (by decide) ?_
        exact zw_lret rfl rfl (⟨by unfold letsN; simp_all, rfl⟩)

set_option maxHeartbeats 4000000 in
set_option maxRecDepth 100000 in
theorem m_whereItem (Mq : zM) (o : Nat → Nat) (f : Nat → Nat → Nat) (hM : MM Mq o f)(n : Nat) (gn al_ it pt tg bd : Nat → Nat) (hg : RelG f n gn al_ it pt tg bd) (hG : SafeG n gn al_ it pt tg bd) (hF : SafeF f) (x p q : Nat) (hx : Slt n al_ it x) (hx1 : x < 160) (hp : p < 22) (hq : q < 22) : Zm 1 zm_MO_whereItem [.ref 139, .int (nI (49 + 3 * x)), .int (nI p), .int (nI q)] Mq (fun r9 M1 => r9 = some (.long (lN (itm (gE al_ it tg pt bd (f 156) (f 157)) (v3 (f 158)) x p q))) ∧ M1 = Mq) := by
  show Zw 1 zm_MO_whereItem 0 [some (.ref 139), some (.int (nI (49 + 3 * x))), some (.int (nI p)), some (.int (nI q))] [] Mq _
  have htg := hG.2.2.2.2.2.1 x
  have hpt := hG.2.2.2.2.1 x
  refine zw_n 2 rfl ?_
  refine zw_callV (as := [.int (nI (49 + 3 * x))]) (rest := []) rfl rfl rfl hM.1 rfl rfl rfl (by decide) (m_partOf Mq o f hM n gn al_ it pt tg bd hg hG hF x hx hx1) (fun rz100 Mz101 hz102 => ?_)
  rw [hz102.1, hz102.2]
  show Zw 1 zm_MO_whereItem 5 [some (.ref 139), some (.int (nI (49 + 3 * x))), some (.int (nI p)), some (.int (nI q))] [.int (nI (tg x))] Mq _
  refine zw_n 1 rfl ?_
  refine zw_ieqM (a := tg x) rfl rfl (by omega) (fun c6 => ?_) (fun c6 => ?_)
  · -- 6 to 25
    refine zw_n 4 rfl ?_
    refine zw_top (na (a := p) (b := 1) rfl rfl) ?_
    refine zw_ineN (a := q) (b := p + 1) rfl rfl rfl (by omega) (by omega) (fun c29 => ?_) (fun c29 => ?_)
    · -- 29 to 68
      refine zw_n 1 rfl ?_
      refine zw_topl (x' := lN 0) (by decide) ?_
      exact zw_lret rfl rfl (⟨by unfold itm; rw [if_pos (show (gE al_ it tg pt bd (f 156) (f 157)) 2 x = NO from c6)]; rw [if_neg (show ¬ (q = p + 1 ∧ ((gE al_ it tg pt bd (f 156) (f 157)) 5 p = (gE al_ it tg pt bd (f 156) (f 157)) 3 x ∨ (gE al_ it tg pt bd (f 156) (f 157)) 5 p = 1)) from fun hq => by have h8 := hq.1; have h9 : f 156 p = pt x ∨ f 156 p = 1 := hq.2; omega)], rfl⟩)
    · -- 29 to 32
      refine zw_n 1 rfl ?_
      refine zw_get (v := .ref 156) rfl hM.1 rfl ?_
      refine zw_n 1 rfl ?_
      refine zw_iald (f := ai (f 156)) (j := p) rfl (hM.2 156 (by decide) (by decide)) rfl (by decide) (by omega) ?_
      have bz103 := hF.2.1 p
      refine zw_n 1 rfl ?_
      refine zw_get (v := .ref 140) rfl hM.1 rfl ?_
      refine zw_n 1 rfl ?_
      refine zw_iald (f := ai (f 140)) (j := (49 + 3 * x)) rfl (hM.2 140 (by decide) (by decide)) rfl (by decide) (by omega) ?_
      refine zw_top (congrArg nI (hg.2.2.2.2 x hx).1) ?_
      refine zw_ieqN (a := (f 156) p) (b := pt x) rfl rfl rfl (by omega) (by omega) (fun c44 => ?_) (fun c44 => ?_)
      · -- 44 to 57
        refine zw_n 2 rfl ?_
        refine zw_get (v := .ref 157) rfl hM.1 rfl ?_
        refine zw_n 1 rfl ?_
        refine zw_iald (f := ai (f 157)) (j := p) rfl (hM.2 157 (by decide) (by decide)) rfl (by decide) (by omega) ?_
        have bz104 := hF.2.2.1 p
        refine zw_n 1 rfl ?_
        refine zw_topl (x' := (lN (2 ^ f 157 p))) ((lsl (m := 1) (k := f 157 p) rfl rfl (by omega)).trans (by rw [Nat.one_mul])) ?_
        refine zw_n 1 rfl ?_
        exact zw_lret rfl rfl (⟨by unfold itm; rw [if_pos (show (gE al_ it tg pt bd (f 156) (f 157)) 2 x = NO from c6)]; rw [if_pos (show q = p + 1 ∧ ((gE al_ it tg pt bd (f 156) (f 157)) 5 p = (gE al_ it tg pt bd (f 156) (f 157)) 3 x ∨ (gE al_ it tg pt bd (f 156) (f 157)) 5 p = 1) from ⟨c29, by first | exact Or.inl c44 | exact Or.inr c54⟩)]; rfl, rfl⟩)
      · -- 44 to 47
        refine zw_n 1 rfl ?_
        refine zw_get (v := .ref 156) rfl hM.1 rfl ?_
        refine zw_n 1 rfl ?_
        refine zw_iald (f := ai (f 156)) (j := p) rfl (hM.2 156 (by decide) (by decide)) rfl (by decide) (by omega) ?_
        have bz105 := hF.2.1 p
        refine zw_n 1 rfl ?_
        refine zw_ineN (a := (f 156) p) (b := 1) rfl rfl rfl (by omega) (by omega) (fun c54 => ?_) (fun c54 => ?_)
        · -- 54 to 68
          refine zw_n 1 rfl ?_
          refine zw_topl (x' := lN 0) (by decide) ?_
          exact zw_lret rfl rfl (⟨by unfold itm; rw [if_pos (show (gE al_ it tg pt bd (f 156) (f 157)) 2 x = NO from c6)]; rw [if_neg (show ¬ (q = p + 1 ∧ ((gE al_ it tg pt bd (f 156) (f 157)) 5 p = (gE al_ it tg pt bd (f 156) (f 157)) 3 x ∨ (gE al_ it tg pt bd (f 156) (f 157)) 5 p = 1)) from fun hq => by have h8 := hq.1; have h9 : f 156 p = pt x ∨ f 156 p = 1 := hq.2; omega)], rfl⟩)
        · -- 54 to 57
          refine zw_n 2 rfl ?_
          refine zw_get (v := .ref 157) rfl hM.1 rfl ?_
          refine zw_n 1 rfl ?_
          refine zw_iald (f := ai (f 157)) (j := p) rfl (hM.2 157 (by decide) (by decide)) rfl (by decide) (by omega) ?_
          have bz106 := hF.2.2.1 p
          refine zw_n 1 rfl ?_
          refine zw_topl (x' := (lN (2 ^ f 157 p))) ((lsl (m := 1) (k := f 157 p) rfl rfl (by omega)).trans (by rw [Nat.one_mul])) ?_
          refine zw_n 1 rfl ?_
          exact zw_lret rfl rfl (⟨by unfold itm; rw [if_pos (show (gE al_ it tg pt bd (f 156) (f 157)) 2 x = NO from c6)]; rw [if_pos (show q = p + 1 ∧ ((gE al_ it tg pt bd (f 156) (f 157)) 5 p = (gE al_ it tg pt bd (f 156) (f 157)) 3 x ∨ (gE al_ it tg pt bd (f 156) (f 157)) 5 p = 1) from ⟨c29, by first | exact Or.inl c44 | exact Or.inr c54⟩)]; rfl, rfl⟩)
  · -- 6 to 9
    refine zw_n 1 rfl ?_
    refine zw_get (v := .ref 158) rfl hM.1 rfl ?_
    refine zw_n 2 rfl ?_
    refine zw_callV (as := [.int (nI (49 + 3 * x))]) (rest := [.ref 158]) rfl rfl rfl hM.1 rfl rfl rfl (by decide) (m_partOf Mq o f hM n gn al_ it pt tg bd hg hG hF x hx hx1) (fun rz107 Mz108 hz109 => ?_)
    rw [hz109.1, hz109.2]
    show Zw 1 zm_MO_whereItem 18 [some (.ref 139), some (.int (nI (49 + 3 * x))), some (.int (nI p)), some (.int (nI q))] [.int (nI (tg x)), .ref 158] Mq _
    refine zw_n 2 rfl ?_
    refine zw_callS (as := [.int (nI (tg x)), .int (nI p), .int (nI q)]) (rest := [.ref 158]) rfl rfl rfl rfl rfl rfl (by decide) (m_at _ (tg x) p q) (fun rz110 Mz111 hz112 => ?_)
    rw [hz112.1, hz112.2]
    show Zw 1 zm_MO_whereItem 23 [some (.ref 139), some (.int (nI (49 + 3 * x))), some (.int (nI p)), some (.int (nI q))] [.int (nI (22 * (22 * (tg x) + p) + q)), .ref 158] Mq _
    refine zw_lald (f := al (f 158)) (j := (22 * (22 * (tg x) + p) + q)) rfl (hM.2 158 (by decide) (by decide)) rfl (by decide) (by omega) ?_
    have bz113 := hF.2.2.2.1 (22 * (22 * (tg x) + p) + q)
    exact zw_lret rfl rfl (⟨by unfold itm; rw [if_neg (show ¬ (gE al_ it tg pt bd (f 156) (f 157)) 2 x = NO from c6)]; rfl, rfl⟩)

set_option maxHeartbeats 4000000 in
set_option maxRecDepth 100000 in
theorem m_startReach (Mq : zM) (o : Nat → Nat) (f : Nat → Nat → Nat) (hM : MM Mq o f) (i j : Nat) (hij : i ≤ j) (hj : j < 22) (hA : SafeM (f 159)) : Zm 0 zm_MO_startReach [.ref 139, .int (nI i), .int (nI j)] Mq (fun r9 M1 => r9 = none ∧ ∃ A, MM M1 o (fset f 159 A) ∧ Sm Mq M1 [159] ∧ SafeM A ∧ ∀ q, i ≤ q → q ≤ j → A q = (if q = i then A40 else 0)) := by
  show Zw 0 zm_MO_startReach 0 [some (.ref 139), some (.int (nI i)), some (.int (nI j)), none] [] Mq _
  refine zw_n 2 (ls' := [some (.ref 139), some (.int (nI i)), some (.int (nI j)), some (.int (nI i))]) rfl ?_
  have lp2 : ∀ (n2 : Nat) (q : Nat) (A : Nat → Nat) (M_2 : zM), Sm Mq M_2 [159] → M_2[159]? = some (.inl (1, 22, .inr (.inl (al A)))) → (i ≤ q ∧ q ≤ j + 1 ∧ SafeM A ∧ ∀ p, i ≤ p → p < q → A p = (if p = i then A40 else 0)) → j + 1 - q < n2 → Zw 0 zm_MO_startReach 2 [some (.ref 139), some (.int (nI i)), some (.int (nI j)), some (.int (nI q))] [] M_2 (fun r9 M1 => r9 = none ∧ ∃ A, MM M1 o (fset f 159 A) ∧ Sm Mq M1 [159] ∧ SafeM A ∧ ∀ q, i ≤ q → q ≤ j → A q = (if q = i then A40 else 0)) := by
    intro n2
    induction n2 with
    | zero => intro q A M_2 _ _ _ h; exact absurd h (Nat.not_lt_zero _)
    | succ n2 ih2 =>
      intro q A M_2 s_2 f2_0 hi2 hm2
      refine zw_n 2 rfl ?_
      refine zw_igtN (a := q) (b := j) rfl rfl rfl (by omega) (by omega) (fun c4 => ?_) (fun c4 => ?_)
      · -- 4 to 31
        exact zw_vret rfl rfl (⟨rfl, A, (MM.of (o' := o) (f' := fset f 159 A) hM s_2 (Sm.at s_2 (by decide) hM.1) (c1_cons f2_0 c1_nil) (fs_c fs_n)), s_2, hi2.2.2.1, fun p p1 p2 => hi2.2.2.2 p p1 (by omega)⟩)
      · -- 4 to 7
        refine zw_n 1 rfl ?_
        refine zw_get (v := .ref 159) rfl (Sm.at s_2 (by decide) hM.1) rfl ?_
        refine zw_n 1 rfl ?_
        have j12 : Zw 0 zm_MO_startReach 24 [some (.ref 139), some (.int (nI i)), some (.int (nI j)), some (.int (nI q))] [.long (lN (if q = i then 1099511627775 else 0)), .int (nI q), .ref 159] M_2 (fun r9 M1 => r9 = none ∧ ∃ A, MM M1 o (fset f 159 A) ∧ Sm Mq M1 [159] ∧ SafeM A ∧ ∀ q, i ≤ q → q ≤ j → A q = (if q = i then A40 else 0)) := by
          refine zw_lastN (g := A) (j := q) (v := (if q = i then 1099511627775 else 0)) rfl f2_0 rfl (by decide) (by omega) (rfl) ?_
          generalize ez115 : List.set M_2 159 _ = Mz114
          refine zw_inc rfl (x' := (nI (q + 1))) (ls' := [some (.ref 139), some (.int (nI i)), some (.int (nI j)), some (.int (nI (q + 1)))]) rfl (na (a := q) (b := 1) rfl rfl) rfl ?_
          refine zw_n 1 rfl ?_
          exact ih2 (q + 1) (up A q (if q = i then 1099511627775 else 0)) Mz114 (Sm.tset s_2 ez115 (by decide)) (zat_self ez115 f2_0) (⟨by omega, by omega, safe_up hi2.2.2.1 (by split <;> decide), fun p p1 p2 => by unfold up; split <;> first | (rename_i e; rw [e]) | exact hi2.2.2.2 p p1 (by omega)⟩) (by omega)
        refine zw_n 2 rfl ?_
        refine zw_ineN (a := q) (b := i) rfl rfl rfl (by omega) (by omega) (fun c14 => ?_) (fun c14 => ?_)
        · -- 14 to 23
          refine zw_n 1 rfl ?_
          rw [if_neg (by omega)] at j12
          exact j12
        · -- 14 to 17
          refine zw_n 2 rfl ?_
          rw [if_pos (by omega)] at j12
          exact j12
  exact lp2 _ i (f 159) Mq Sm.rf (hM.2 159 (by decide) (by decide)) (⟨Nat.le_refl _, by omega, hA, fun p p1 p2 => by omega⟩) (Nat.lt_succ_self _)

set_option maxHeartbeats 4000000 in
set_option maxRecDepth 100000 in
theorem m_step (Mq : zM) (o : Nat → Nat) (f : Nat → Nat → Nat) (hM : MM Mq o f)(n : Nat) (gn al_ it pt tg bd : Nat → Nat) (hg : RelG f n gn al_ it pt tg bd) (hG : SafeG n gn al_ it pt tg bd) (hF : SafeF f) (x i j : Nat) (hx : Slt n al_ it x) (hx1 : x < 160) (hij : i ≤ j) (hj : j < 22) : Zm 2 zm_MO_step [.ref 139, .int (nI (49 + 3 * x)), .int (nI i), .int (nI j)] Mq (fun r9 M1 => r9 = none ∧ ∃ A B, MM M1 o (fset (fset f 160 B) 159 A) ∧ Sm Mq M1 [159, 160] ∧ SafeM A ∧ SafeM B ∧ ∀ q, i ≤ q → q ≤ j → A q = orR (fun p => f 159 p &&& letsN (bd x) (itm (gE al_ it tg pt bd (f 156) (f 157)) (v3 (f 158)) x p q)) i (q + 1 - i)) := by
  show Zw 2 zm_MO_step 0 [some (.ref 139), some (.int (nI (49 + 3 * x))), some (.int (nI i)), some (.int (nI j)), none, none] [] Mq _
  have hbd := hG.2.2.2.2.2.2 x
  refine zw_n 2 (ls' := [some (.ref 139), some (.int (nI (49 + 3 * x))), some (.int (nI i)), some (.int (nI j)), some (.int (nI i)), none]) rfl ?_
  have lp3 : ∀ (n3 : Nat) (q : Nat) (B : Nat → Nat) (M_3 : zM), Sm Mq M_3 [159, 160] → M_3[160]? = some (.inl (1, 22, .inr (.inl (al B)))) → M_3[159]? = some (.inl (1, 22, .inr (.inl (al (f 159))))) → (i ≤ q ∧ q ≤ j + 1 ∧ SafeM B ∧ ∀ q9, i ≤ q9 → q9 < q → B q9 = orR (fun p => f 159 p &&& letsN (bd x) (itm (gE al_ it tg pt bd (f 156) (f 157)) (v3 (f 158)) x p q9)) i (q9 + 1 - i)) → j + 1 - q < n3 → Zw 2 zm_MO_step 3 [some (.ref 139), some (.int (nI (49 + 3 * x))), some (.int (nI i)), some (.int (nI j)), some (.int (nI q)), none] [] M_3 (fun r9 M1 => r9 = none ∧ ∃ A B, MM M1 o (fset (fset f 160 B) 159 A) ∧ Sm Mq M1 [159, 160] ∧ SafeM A ∧ SafeM B ∧ ∀ q, i ≤ q → q ≤ j → A q = orR (fun p => f 159 p &&& letsN (bd x) (itm (gE al_ it tg pt bd (f 156) (f 157)) (v3 (f 158)) x p q)) i (q + 1 - i)) := by
    intro n3
    induction n3 with
    | zero => intro q B M_3 _ _ _ _ h; exact absurd h (Nat.not_lt_zero _)
    | succ n3 ih3 =>
      intro q B M_3 s_3 f3_0 f3_1 hi3 hm3
      refine zw_n 2 rfl ?_
      refine zw_igtN (a := q) (b := j) rfl rfl rfl (by omega) (by omega) (fun c6 => ?_) (fun c6 => ?_)
      · -- 6 to 93
        refine zw_n 2 (ls' := [some (.ref 139), some (.int (nI (49 + 3 * x))), some (.int (nI i)), some (.int (nI j)), some (.int (nI i)), none]) rfl ?_
        have lp96 : ∀ (n96 : Nat) (q2 : Nat) (A : Nat → Nat) (M_96 : zM), Sm Mq M_96 [159, 160] → M_96[159]? = some (.inl (1, 22, .inr (.inl (al A)))) → M_96[160]? = some (.inl (1, 22, .inr (.inl (al B)))) → (i ≤ q2 ∧ q2 ≤ j + 1 ∧ SafeM A ∧ ∀ q9, i ≤ q9 → q9 < q2 → A q9 = B q9) → j + 1 - q2 < n96 → Zw 2 zm_MO_step 96 [some (.ref 139), some (.int (nI (49 + 3 * x))), some (.int (nI i)), some (.int (nI j)), some (.int (nI q2)), none] [] M_96 (fun r9 M1 => r9 = none ∧ ∃ A B, MM M1 o (fset (fset f 160 B) 159 A) ∧ Sm Mq M1 [159, 160] ∧ SafeM A ∧ SafeM B ∧ ∀ q, i ≤ q → q ≤ j → A q = orR (fun p => f 159 p &&& letsN (bd x) (itm (gE al_ it tg pt bd (f 156) (f 157)) (v3 (f 158)) x p q)) i (q + 1 - i)) := by
          intro n96
          induction n96 with
          | zero => intro q2 A M_96 _ _ _ _ h; exact absurd h (Nat.not_lt_zero _)
          | succ n96 ih96 =>
            intro q2 A M_96 s_96 f96_0 f96_1 hi96 hm96
            refine zw_n 2 rfl ?_
            refine zw_igtN (a := q2) (b := j) rfl rfl rfl (by omega) (by omega) (fun c99 => ?_) (fun c99 => ?_)
            · -- 99 to 122
              exact zw_vret rfl rfl (⟨rfl, A, B, (MM.of (o' := o) (f' := fset (fset f 160 B) 159 A) hM s_96 (Sm.at s_96 (by decide) hM.1) (c1_cons f96_0 (c1_cons f96_1 c1_nil)) (fs_c (fs_c fs_n))), s_96, hi96.2.2.1, hi3.2.2.1, fun q9 p1 p2 => by rw [hi96.2.2.2 q9 p1 (by omega)]; exact hi3.2.2.2 q9 p1 (by omega)⟩)
            · -- 99 to 102
              refine zw_n 1 rfl ?_
              refine zw_get (v := .ref 159) rfl (Sm.at s_96 (by decide) hM.1) rfl ?_
              refine zw_n 2 rfl ?_
              refine zw_get (v := .ref 160) rfl (Sm.at s_96 (by decide) hM.1) rfl ?_
              refine zw_n 1 rfl ?_
              refine zw_lald (f := al B) (j := q2) rfl f96_1 rfl (by decide) (by omega) ?_
              refine zw_lastN (g := A) (j := q2) (v := (B q2)) rfl f96_0 rfl (by decide) (by omega) (rfl) ?_
              generalize ez117 : List.set M_96 159 _ = Mz116
              refine zw_inc rfl (x' := (nI (q2 + 1))) (ls' := [some (.ref 139), some (.int (nI (49 + 3 * x))), some (.int (nI i)), some (.int (nI j)), some (.int (nI (q2 + 1))), none]) rfl (na (a := q2) (b := 1) rfl rfl) rfl ?_
              refine zw_n 1 rfl ?_
              exact ih96 (q2 + 1) (up A q2 (B q2)) Mz116 (Sm.tset s_96 ez117 (by decide)) (zat_self ez117 f96_0) (zat_set ez117 (by decide) f96_1) (⟨by omega, by omega, safe_up hi96.2.2.1 (hi3.2.2.1 _), fun q9 p1 p2 => by unfold up; split <;> first | (rename_i e; rw [e]) | exact hi96.2.2.2 q9 p1 (by omega)⟩) (by omega)
        exact lp96 _ i (f 159) M_3 s_3 f3_1 f3_0 (⟨Nat.le_refl _, by omega, hF.2.2.2.2.1, fun q9 p1 p2 => by omega⟩) (Nat.lt_succ_self _)
      · -- 6 to 9
        refine zw_n 1 rfl ?_
        refine zw_get (v := .ref 160) rfl (Sm.at s_3 (by decide) hM.1) rfl ?_
        refine zw_n 2 rfl ?_
        refine zw_lastN (g := B) (j := q) (v := 0) rfl f3_0 rfl (by decide) (by omega) (rfl) ?_
        generalize ez119 : List.set M_3 160 _ = Mz118
        refine zw_n 2 (ls' := [some (.ref 139), some (.int (nI (49 + 3 * x))), some (.int (nI i)), some (.int (nI j)), some (.int (nI q)), some (.int (nI i))]) rfl ?_
        have mz120 : Mz118[140]? = some (.inl (0, 590, .inl (ai (f 140)))) := zat_set ez119 (by decide) (Sm.at s_3 (by decide) (hM.2 140 (by decide) (by decide)))
        have lp20 : ∀ (n20 : Nat) (p : Nat) (B2 : Nat → Nat) (M_20 : zM), Sm Mq M_20 [159, 160] → M_20[160]? = some (.inl (1, 22, .inr (.inl (al B2)))) → M_20[159]? = some (.inl (1, 22, .inr (.inl (al (f 159))))) → (i ≤ p ∧ p ≤ q + 1 ∧ SafeM B2 ∧ (∀ q9, i ≤ q9 → q9 < q → B2 q9 = orR (fun p => f 159 p &&& letsN (bd x) (itm (gE al_ it tg pt bd (f 156) (f 157)) (v3 (f 158)) x p q9)) i (q9 + 1 - i)) ∧ B2 q = orR (fun p => f 159 p &&& letsN (bd x) (itm (gE al_ it tg pt bd (f 156) (f 157)) (v3 (f 158)) x p q)) i (p - i)) → q + 1 - p < n20 → Zw 2 zm_MO_step 20 [some (.ref 139), some (.int (nI (49 + 3 * x))), some (.int (nI i)), some (.int (nI j)), some (.int (nI q)), some (.int (nI p))] [] M_20 (fun r9 M1 => r9 = none ∧ ∃ A B, MM M1 o (fset (fset f 160 B) 159 A) ∧ Sm Mq M1 [159, 160] ∧ SafeM A ∧ SafeM B ∧ ∀ q, i ≤ q → q ≤ j → A q = orR (fun p => f 159 p &&& letsN (bd x) (itm (gE al_ it tg pt bd (f 156) (f 157)) (v3 (f 158)) x p q)) i (q + 1 - i)) := by
          intro n20
          induction n20 with
          | zero => intro p B2 M_20 _ _ _ _ h; exact absurd h (Nat.not_lt_zero _)
          | succ n20 ih20 =>
            intro p B2 M_20 s_20 f20_0 f20_1 hi20 hm20
            refine zw_n 2 rfl ?_
            refine zw_igtN (a := p) (b := q) rfl rfl rfl (by omega) (by omega) (fun c24 => ?_) (fun c24 => ?_)
            · -- 24 to 87
              refine zw_inc rfl (x' := (nI (q + 1))) (ls' := [some (.ref 139), some (.int (nI (49 + 3 * x))), some (.int (nI i)), some (.int (nI j)), some (.int (nI (q + 1))), some (.int (nI p))]) rfl (na (a := q) (b := 1) rfl rfl) rfl ?_
              refine zw_n 1 rfl ?_
              refine zw_ls (ls' := [some (.ref 139), some (.int (nI (49 + 3 * x))), some (.int (nI i)), some (.int (nI j)), some (.int (nI (q + 1))), none]) ⟨Or.inr rfl, Or.inr rfl, Or.inr rfl, Or.inr rfl, Or.inr rfl, Or.inl rfl, trivial⟩ ?_
              exact ih3 (q + 1) B2 M_20 s_20 f20_0 f20_1 (⟨by omega, by omega, hi20.2.2.1, fun q9 p1 p2 => if e : q9 = q then by rw [e, hi20.2.2.2.2, show p = q + 1 by omega] else hi20.2.2.2.1 q9 p1 (by omega)⟩) (by omega)
            · -- 24 to 27
              refine zw_n 1 rfl ?_
              refine zw_get (v := .ref 160) rfl (Sm.at s_20 (by decide) hM.1) rfl ?_
              refine zw_n 2 rfl ?_
              refine zw_lald (f := al B2) (j := q) rfl f20_0 rfl (by decide) (by omega) ?_
              refine zw_n 1 rfl ?_
              refine zw_get (v := .ref 159) rfl (Sm.at s_20 (by decide) hM.1) rfl ?_
              refine zw_n 1 rfl ?_
              refine zw_lald (f := al (f 159)) (j := p) rfl f20_1 rfl (by decide) (by omega) ?_
              have bz121 := hF.2.2.2.2.1 p
              refine zw_n 2 rfl ?_
              refine zw_lneN (a := (f 159) p) (b := 0) rfl rfl rfl (by omega) (by omega) (fun c44 => ?_) (fun c44 => ?_)
              · -- 44 to 51
                refine zw_n 1 rfl ?_
                refine zw_get (v := .ref 159) rfl (Sm.at s_20 (by decide) hM.1) rfl ?_
                refine zw_n 1 rfl ?_
                refine zw_lald (f := al (f 159)) (j := p) rfl f20_1 rfl (by decide) (by omega) ?_
                have bz122 := hF.2.2.2.2.1 p
                refine zw_n 1 rfl ?_
                refine zw_get (v := .ref 140) rfl (Sm.at s_20 (by decide) hM.1) rfl ?_
                refine zw_n 3 rfl ?_
                refine zw_top (na (a := 49 + 3 * x) (b := 2) rfl rfl) ?_
                refine zw_iald (f := ai (f 140)) (j := ((49 + 3 * x) + 2)) rfl (Sm.at s_20 (by decide) (hM.2 140 (by decide) (by decide))) rfl (by decide) (by omega) ?_
                refine zw_top (congrArg nI (hg.2.2.2.2 x hx).2.2.1) ?_
                refine zw_n 4 rfl ?_
                refine zw_callV (as := [.int (nI (49 + 3 * x)), .int (nI p), .int (nI q)]) (rest := [.int (nI (bd x)), .long (lN ((f 159) p)), .long (lN (B2 q)), .int (nI q), .ref 160]) rfl rfl rfl (Sm.at s_20 (by decide) hM.1) rfl rfl rfl (by decide) (m_whereItem M_20 o (fset f 160 B2) (MM.of (o' := o) (f' := fset f 160 B2) hM s_20 (Sm.at s_20 (by decide) hM.1) (c1_cons f20_1 (c1_cons f20_0 c1_nil)) (fs_k (fs_c fs_n))) n gn al_ it pt tg bd hg hG (⟨hF.1, hF.2.1, hF.2.2.1, hF.2.2.2.1, hF.2.2.2.2.1, hi20.2.2.1⟩) x p q hx hx1 (by omega) (by omega)) (fun rz123 Mz124 hz125 => ?_)
                rw [hz125.1, hz125.2]
                show Zw 2 zm_MO_step 75 [some (.ref 139), some (.int (nI (49 + 3 * x))), some (.int (nI i)), some (.int (nI j)), some (.int (nI q)), some (.int (nI p))] [.long (lN (itm (gE al_ it tg pt bd (f 156) (f 157)) (v3 (f 158)) x p q)), .int (nI (bd x)), .long (lN ((f 159) p)), .long (lN (B2 q)), .int (nI q), .ref 160] M_20 _
                refine zw_callS (as := [.int (nI (bd x)), .long (lN (itm (gE al_ it tg pt bd (f 156) (f 157)) (v3 (f 158)) x p q))]) (rest := [.long (lN ((f 159) p)), .long (lN (B2 q)), .int (nI q), .ref 160]) rfl rfl rfl rfl rfl rfl (by decide) (m_lets _ _ _ (by omega) (itm_lt (fun _ _ _ => hF.2.2.2.1 _) (fun q => hF.2.2.1 q))) (fun rz126 Mz127 hz128 => ?_)
                rw [hz128.1, hz128.2]
                show Zw 2 zm_MO_step 78 [some (.ref 139), some (.int (nI (49 + 3 * x))), some (.int (nI i)), some (.int (nI j)), some (.int (nI q)), some (.int (nI p))] [.long (lN (letsN (bd x) (itm (gE al_ it tg pt bd (f 156) (f 157)) (v3 (f 158)) x p q))), .long (lN ((f 159) p)), .long (lN (B2 q)), .int (nI q), .ref 160] M_20 _
                refine zw_n 1 rfl ?_
                refine zw_topl (lan (a := (f 159) p) (b := letsN (bd x) (itm (gE al_ it tg pt bd (f 156) (f 157)) (v3 (f 158)) x p q)) rfl rfl) ?_
                refine zw_n 1 rfl ?_
                refine zw_topl (lo (a := B2 q) (b := ((f 159) p) &&& (letsN (bd x) (itm (gE al_ it tg pt bd (f 156) (f 157)) (v3 (f 158)) x p q))) rfl rfl) ?_
                refine zw_lastN (g := B2) (j := q) (v := ((B2 q) ||| (((f 159) p) &&& (letsN (bd x) (itm (gE al_ it tg pt bd (f 156) (f 157)) (v3 (f 158)) x p q))))) rfl f20_0 rfl (by decide) (by omega) (rfl) ?_
                generalize ez130 : List.set M_20 160 _ = Mz129
                refine zw_inc rfl (x' := (nI (p + 1))) (ls' := [some (.ref 139), some (.int (nI (49 + 3 * x))), some (.int (nI i)), some (.int (nI j)), some (.int (nI q)), some (.int (nI (p + 1)))]) rfl (na (a := p) (b := 1) rfl rfl) rfl ?_
                refine zw_n 1 rfl ?_
                exact ih20 (p + 1) (up B2 q ((B2 q) ||| (((f 159) p) &&& (letsN (bd x) (itm (gE al_ it tg pt bd (f 156) (f 157)) (v3 (f 158)) x p q))))) Mz129 (Sm.tset s_20 ez130 (by decide)) (zat_self ez130 f20_0) (zat_set ez130 (by decide) f20_1) (⟨by omega, by omega, safe_up hi20.2.2.1 (or_lt40 (hi20.2.2.1 q) (by first | exact and_lt40 (hF.2.2.2.2.1 p) | decide)), fun q9 p1 p2 => by unfold up; rw [if_neg (by omega)]; exact hi20.2.2.2.1 q9 p1 p2, by rw [up_s]; first | exact orR_s hi20.2.2.2.2 hi20.1 rfl | exact orR_s hi20.2.2.2.2 hi20.1 (show f 159 p &&& _ = 0 by rw [c44, Nat.zero_and])⟩) (by omega)
              · -- 44 to 47
                refine zw_n 3 rfl ?_
                refine zw_topl (lo (a := B2 q) (b := 0) rfl rfl) ?_
                refine zw_lastN (g := B2) (j := q) (v := ((B2 q) ||| 0)) rfl f20_0 rfl (by decide) (by omega) (rfl) ?_
                generalize ez132 : List.set M_20 160 _ = Mz131
                refine zw_inc rfl (x' := (nI (p + 1))) (ls' := [some (.ref 139), some (.int (nI (49 + 3 * x))), some (.int (nI i)), some (.int (nI j)), some (.int (nI q)), some (.int (nI (p + 1)))]) rfl (na (a := p) (b := 1) rfl rfl) rfl ?_
                refine zw_n 1 rfl ?_
                exact ih20 (p + 1) (up B2 q ((B2 q) ||| 0)) Mz131 (Sm.tset s_20 ez132 (by decide)) (zat_self ez132 f20_0) (zat_set ez132 (by decide) f20_1) (⟨by omega, by omega, safe_up hi20.2.2.1 (or_lt40 (hi20.2.2.1 q) (by first | exact and_lt40 (hF.2.2.2.2.1 p) | decide)), fun q9 p1 p2 => by unfold up; rw [if_neg (by omega)]; exact hi20.2.2.2.1 q9 p1 p2, by rw [up_s]; first | exact orR_s hi20.2.2.2.2 hi20.1 rfl | exact orR_s hi20.2.2.2.2 hi20.1 (show f 159 p &&& _ = 0 by rw [c44, Nat.zero_and])⟩) (by omega)
        exact lp20 _ i (up B q 0) Mz118 (Sm.tset s_3 ez119 (by decide)) (zat_self ez119 f3_0) (zat_set ez119 (by decide) f3_1) (⟨Nat.le_refl _, by omega, safe_up hi3.2.2.1 (by decide), fun q9 p1 p2 => by unfold up; rw [if_neg (by omega)]; exact hi3.2.2.2 q9 p1 p2, by rw [up_s, Nat.sub_self]; rfl⟩) (Nat.lt_succ_self _)
  exact lp3 _ i (f 160) Mq Sm.rf (hM.2 160 (by decide) (by decide)) (hM.2 159 (by decide) (by decide)) (⟨Nat.le_refl _, by omega, hF.2.2.2.2.2, fun q9 p1 p2 => by omega⟩) (Nat.lt_succ_self _)
