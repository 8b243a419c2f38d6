set_option maxHeartbeats 4000000 in
set_option maxRecDepth 100000 in
theorem c_isLike (Mq : zM) (sz wt : Nat) (T V Rc En Su : Nat → Nat) (hZ : Seg Mq 37 (treL 34 sz wt T V Rc En Su)) (sz2 wt2 : Nat) (T2 V2 Rc2 En2 Su2 : Nat → Nat) (hZ2 : Seg Mq 128 (treL 125 sz2 wt2 T2 V2 Rc2 En2 Su2)) (s kr2 kt2 s2 : Nat) (W R W2 R2 : Nat → Nat) (hC : Seg Mq 34 (chtL 34 16 26 s W R)) (hC2 : Seg Mq 125 (chtL 125 kr2 kt2 s2 W2 R2)) (n em : Nat) (gn al_ it pt tg bd fr af fb : Nat → Nat) (hR : Seg Mq 16 (rulL 16 (n, gn, al_, it, pt, tg, bd, em, fr, af, fb))) (n2 em2 : Nat) (gn2 al2 it2 pt2 tg2 bd2 fr2 af2 fb2 : Nat → Nat) (hR2 : Seg Mq kr2 (rulL kr2 (n2, gn2, al2, it2, pt2, tg2, bd2, em2, fr2, af2, fb2))) (E E2 : Nat → Nat → Nat) (c c2 : Nat) (hTr : TrR E n c sz T) (hTr2 : TrR E2 n2 c2 sz2 T2) (hn8 : n ≤ 8) (hn82 : n2 ≤ 8) (hc20 : c ≤ 20) (hc22 : c2 ≤ 20) (ha4 : ∀ q, E 0 q ≤ 4) (ha42 : ∀ q, E2 0 q ≤ 4) (hg : ∀ q, gn q < 128) (hg2 : ∀ q, gn2 q < 128) : Zm 1 zm_Tree_isLike [.ref 37, .ref 128] Mq (fun r9 M1 => ∃ b, r9 = some (.int (nI b)) ∧ b ≤ 1 ∧ (b = 1 ↔ likB gn gn2 sz sz2 T T2) ∧ M1 = Mq) := by
  show Zw 1 zm_Tree_isLike 0 [some (.ref 37), some (.ref 128), none, none, none, none] [] Mq _
  have hle := hTr.le
  have hle2 := hTr2.le
  refine zw_n 1 rfl ?_
  refine zw_get (v := .int (nI sz)) rfl (hZ.get 0 rfl) rfl ?_
  refine zw_n 1 rfl ?_
  refine zw_get (v := .int (nI sz2)) rfl (hZ2.get 0 rfl) rfl ?_
  refine zw_ieqN (a := sz) (b := sz2) rfl rfl rfl (by omega) (by omega) (fun c8 => ?_) (fun c8 => ?_)
  · -- 8 to 13
    refine zw_n 2 (ls' := [some (.ref 37), some (.ref 128), some (.int 0), none, none, none]) rfl ?_
    have lp15 : ∀ (n15 : Nat) (q : Nat), (sz = sz2 ∧ q ≤ sz ∧ ∀ k, k < q → likR gn gn2 T T2 k = true) → sz - q < n15 → Zw 1 zm_Tree_isLike 15 [some (.ref 37), some (.ref 128), some (.int (nI q)), none, none, none] [] Mq (fun r9 M1 => ∃ b, r9 = some (.int (nI b)) ∧ b ≤ 1 ∧ (b = 1 ↔ likB gn gn2 sz sz2 T T2) ∧ M1 = Mq) := by
      intro n15
      induction n15 with
      | zero => intro q _ h; exact absurd h (Nat.not_lt_zero _)
      | succ n15 ih15 =>
        intro q hi15 hm15
        refine zw_n 2 rfl ?_
        refine zw_get (v := .int (nI sz)) rfl (hZ.get 0 rfl) rfl ?_
        refine zw_igeN (a := q) (b := sz) rfl rfl rfl (by omega) (by omega) (fun c20 => ?_) (fun c20 => ?_)
        · -- 20 to 131
          refine zw_n 1 rfl ?_
          exact zw_zret rfl rfl (Or.inr rfl) (⟨1, rfl, by decide, ⟨fun _ => ⟨hi15.1, fun k hk => hi15.2.2 k (by omega)⟩, fun _ => rfl⟩, rfl⟩)
        · -- 20 to 23
          have p0 := hTr.f0 q (by omega)
          have p1 := hTr.f1 q (by omega)
          have p23 := hTr.f23 q (by omega)
          have p3 := hTr.f3 q (by omega)
          have q0 := hTr2.f0 q (by omega)
          have q1 := hTr2.f1 q (by omega)
          have q23 := hTr2.f23 q (by omega)
          have q3 := hTr2.f3 q (by omega)
          have p4 := ha4 (T (q * 8 + 0))
          have q4 := ha42 (T2 (q * 8 + 0))
          refine zw_n 1 rfl ?_
          refine zw_get (v := .ref 34) rfl (hZ.get 0 rfl) rfl ?_
          refine zw_get (v := .ref 16) rfl (hC.get 0 rfl) rfl ?_
          refine zw_get (v := .ref 17) rfl (hR.get 0 rfl) rfl ?_
          refine zw_n 3 rfl ?_
          refine zw_callV (as := [.int (nI q), .int 0]) (rest := [.ref 17]) rfl rfl rfl (hZ.get 0 rfl) rfl rfl rfl (by decide) (c_field Mq 34 sz wt T V Rc En Su (seg6 (hZ.get 0 rfl) (hZ.get 1 rfl) (hZ.get 2 rfl) (hZ.get 3 rfl) (hZ.get 4 rfl) (hZ.get 5 rfl)) q 0 (by omega) (by omega)) (fun rz5077 Mz5078 hz5079 => ?_)
          rw [hz5079.1, hz5079.2]
          show Zw 1 zm_Tree_isLike 39 [some (.ref 37), some (.ref 128), some (.int (nI q)), none, none, none] [.int (nI (T (q * 8 + 0))), .ref 17] Mq _
          refine zw_iald (f := ai gn) (j := (T (q * 8 + 0))) rfl (hR.get 1 rfl) rfl (by decide) (by omega) ?_
          have bz5080 := hg (T (q * 8 + 0))
          refine zw_n 2 (ls' := [some (.ref 37), some (.ref 128), some (.int (nI q)), some (.int (nI (gn (T (q * 8 + 0))))), none, none]) rfl ?_
          refine zw_get (v := .ref 125) rfl (hZ2.get 0 rfl) rfl ?_
          refine zw_get (v := .ref kr2) rfl (hC2.get 0 rfl) rfl ?_
          refine zw_get (v := .ref (kr2 + 1)) rfl (hR2.get 0 rfl) rfl ?_
          refine zw_n 3 rfl ?_
          refine zw_callV (as := [.int (nI q), .int 0]) (rest := [.ref (kr2 + 1)]) rfl rfl rfl (hZ2.get 0 rfl) rfl rfl rfl (by decide) (c_field Mq 125 sz2 wt2 T2 V2 Rc2 En2 Su2 (seg6 (hZ2.get 0 rfl) (hZ2.get 1 rfl) (hZ2.get 2 rfl) (hZ2.get 3 rfl) (hZ2.get 4 rfl) (hZ2.get 5 rfl)) q 0 (by omega) (by omega)) (fun rz5081 Mz5082 hz5083 => ?_)
          rw [hz5083.1, hz5083.2]
          show Zw 1 zm_Tree_isLike 57 [some (.ref 37), some (.ref 128), some (.int (nI q)), some (.int (nI (gn (T (q * 8 + 0))))), none, none] [.int (nI (T2 (q * 8 + 0))), .ref (kr2 + 1)] Mq _
          refine zw_iald (f := ai gn2) (j := (T2 (q * 8 + 0))) rfl (hR2.get 1 rfl) rfl (by decide) (by omega) ?_
          have bz5084 := hg2 (T2 (q * 8 + 0))
          refine zw_n 1 (ls' := [some (.ref 37), some (.ref 128), some (.int (nI q)), some (.int (nI (gn (T (q * 8 + 0))))), some (.int (nI (gn2 (T2 (q * 8 + 0))))), none]) rfl ?_
          have j60 : Zw 1 zm_Tree_isLike 116 [some (.ref 37), some (.ref 128), some (.int (nI q)), some (.int (nI (gn (T (q * 8 + 0))))), some (.int (nI (gn2 (T2 (q * 8 + 0))))), none] [.int (nI (if likR gn gn2 T T2 q = true then 1 else 0))] Mq (fun r9 M1 => ∃ b, r9 = some (.int (nI b)) ∧ b ≤ 1 ∧ (b = 1 ↔ likB gn gn2 sz sz2 T T2) ∧ M1 = Mq) := by
            refine zw_n 2 (ls' := [some (.ref 37), some (.ref 128), some (.int (nI q)), some (.int (nI (gn (T (q * 8 + 0))))), some (.int (nI (gn2 (T2 (q * 8 + 0))))), some (.int (nI (if likR gn gn2 T T2 q = true then 1 else 0)))]) rfl ?_
            refine zw_ne0N (a := if likR gn gn2 T T2 q = true then 1 else 0) rfl rfl (ite_b) (fun c120 => ?_) (fun c120 => ?_)
            · -- 120 to 125
              refine zw_inc rfl (x' := (nI (q + 1))) (ls' := [some (.ref 37), some (.ref 128), some (.int (nI (q + 1))), some (.int (nI (gn (T (q * 8 + 0))))), some (.int (nI (gn2 (T2 (q * 8 + 0))))), some (.int (nI (if likR gn gn2 T T2 q = true then 1 else 0)))]) rfl (na (a := q) (b := 1) rfl rfl) rfl ?_
              refine zw_n 1 rfl ?_
              refine zw_ls (ls' := [some (.ref 37), some (.ref 128), some (.int (nI (q + 1))), none, none, none]) ⟨Or.inr rfl, Or.inr rfl, Or.inr rfl, Or.inl rfl, Or.inl rfl, Or.inl rfl, trivial⟩ ?_
              exact ih15 (q + 1) (⟨hi15.1, by omega, fun k9 h9 => by
            by_cases e9 : k9 = q
            · rw [e9]; exact ite_ne c120
            · exact hi15.2.2 k9 (by omega)⟩) (by omega)
            · -- 120 to 123
              refine zw_n 1 rfl ?_
              exact zw_zret rfl rfl (Or.inl rfl) (⟨0, rfl, by decide, ⟨fun q9 => by omega, fun q9 => absurd (q9.2 q (by omega)) (ite_eq0 c120)⟩, rfl⟩)
          refine zw_n 2 rfl ?_
          refine zw_ineN (a := gn (T (q * 8 + 0))) (b := gn2 (T2 (q * 8 + 0))) rfl rfl rfl (by omega) (by omega) (fun c63 => ?_) (fun c63 => ?_)
          · -- 63 to 115
            refine zw_n 1 rfl ?_
            refine zw_top (x' := nI (if likR gn gn2 T T2 q = true then 1 else 0)) (show nI 0 = nI (if likR gn gn2 T T2 q = true then 1 else 0) by rw [if_neg (fun q9 => by have h9 := of_decide_eq_true q9; omega)]) ?_
            exact j60
          · -- 63 to 66
            refine zw_n 3 rfl ?_
            refine zw_callV (as := [.int (nI q), .int 1]) (rest := []) rfl rfl rfl (hZ.get 0 rfl) rfl rfl rfl (by decide) (c_field Mq 34 sz wt T V Rc En Su (seg6 (hZ.get 0 rfl) (hZ.get 1 rfl) (hZ.get 2 rfl) (hZ.get 3 rfl) (hZ.get 4 rfl) (hZ.get 5 rfl)) q 1 (by omega) (by omega)) (fun rz5085 Mz5086 hz5087 => ?_)
            rw [hz5087.1, hz5087.2]
            show Zw 1 zm_Tree_isLike 72 [some (.ref 37), some (.ref 128), some (.int (nI q)), some (.int (nI (gn (T (q * 8 + 0))))), some (.int (nI (gn2 (T2 (q * 8 + 0))))), none] [.int (nI (T (q * 8 + 1)))] Mq _
            refine zw_n 3 rfl ?_
            refine zw_callV (as := [.int (nI q), .int 1]) (rest := [.int (nI (T (q * 8 + 1)))]) rfl rfl rfl (hZ2.get 0 rfl) rfl rfl rfl (by decide) (c_field Mq 125 sz2 wt2 T2 V2 Rc2 En2 Su2 (seg6 (hZ2.get 0 rfl) (hZ2.get 1 rfl) (hZ2.get 2 rfl) (hZ2.get 3 rfl) (hZ2.get 4 rfl) (hZ2.get 5 rfl)) q 1 (by omega) (by omega)) (fun rz5088 Mz5089 hz5090 => ?_)
            rw [hz5090.1, hz5090.2]
            show Zw 1 zm_Tree_isLike 78 [some (.ref 37), some (.ref 128), some (.int (nI q)), some (.int (nI (gn (T (q * 8 + 0))))), some (.int (nI (gn2 (T2 (q * 8 + 0))))), none] [.int (nI (T2 (q * 8 + 1))), .int (nI (T (q * 8 + 1)))] Mq _
            refine zw_ineN (a := T (q * 8 + 1)) (b := T2 (q * 8 + 1)) rfl rfl rfl (by omega) (by omega) (fun c78 => ?_) (fun c78 => ?_)
            · -- 78 to 115
              refine zw_n 1 rfl ?_
              refine zw_top (x' := nI (if likR gn gn2 T T2 q = true then 1 else 0)) (show nI 0 = nI (if likR gn gn2 T T2 q = true then 1 else 0) by rw [if_neg (fun q9 => by have h9 := of_decide_eq_true q9; omega)]) ?_
              exact j60
            · -- 78 to 81
              refine zw_n 3 rfl ?_
              refine zw_callV (as := [.int (nI q), .int 2]) (rest := []) rfl rfl rfl (hZ.get 0 rfl) rfl rfl rfl (by decide) (c_field Mq 34 sz wt T V Rc En Su (seg6 (hZ.get 0 rfl) (hZ.get 1 rfl) (hZ.get 2 rfl) (hZ.get 3 rfl) (hZ.get 4 rfl) (hZ.get 5 rfl)) q 2 (by omega) (by omega)) (fun rz5091 Mz5092 hz5093 => ?_)
              rw [hz5093.1, hz5093.2]
              show Zw 1 zm_Tree_isLike 87 [some (.ref 37), some (.ref 128), some (.int (nI q)), some (.int (nI (gn (T (q * 8 + 0))))), some (.int (nI (gn2 (T2 (q * 8 + 0))))), none] [.int (nI (T (q * 8 + 2)))] Mq _
              refine zw_n 3 rfl ?_
              refine zw_callV (as := [.int (nI q), .int 2]) (rest := [.int (nI (T (q * 8 + 2)))]) rfl rfl rfl (hZ2.get 0 rfl) rfl rfl rfl (by decide) (c_field Mq 125 sz2 wt2 T2 V2 Rc2 En2 Su2 (seg6 (hZ2.get 0 rfl) (hZ2.get 1 rfl) (hZ2.get 2 rfl) (hZ2.get 3 rfl) (hZ2.get 4 rfl) (hZ2.get 5 rfl)) q 2 (by omega) (by omega)) (fun rz5094 Mz5095 hz5096 => ?_)
              rw [hz5096.1, hz5096.2]
              show Zw 1 zm_Tree_isLike 93 [some (.ref 37), some (.ref 128), some (.int (nI q)), some (.int (nI (gn (T (q * 8 + 0))))), some (.int (nI (gn2 (T2 (q * 8 + 0))))), none] [.int (nI (T2 (q * 8 + 2))), .int (nI (T (q * 8 + 2)))] Mq _
              refine zw_ineN (a := T (q * 8 + 2)) (b := T2 (q * 8 + 2)) rfl rfl rfl (by omega) (by omega) (fun c93 => ?_) (fun c93 => ?_)
              · -- 93 to 115
                refine zw_n 1 rfl ?_
                refine zw_top (x' := nI (if likR gn gn2 T T2 q = true then 1 else 0)) (show nI 0 = nI (if likR gn gn2 T T2 q = true then 1 else 0) by rw [if_neg (fun q9 => by have h9 := of_decide_eq_true q9; omega)]) ?_
                exact j60
              · -- 93 to 96
                refine zw_n 3 rfl ?_
                refine zw_callV (as := [.int (nI q), .int 3]) (rest := []) rfl rfl rfl (hZ.get 0 rfl) rfl rfl rfl (by decide) (c_field Mq 34 sz wt T V Rc En Su (seg6 (hZ.get 0 rfl) (hZ.get 1 rfl) (hZ.get 2 rfl) (hZ.get 3 rfl) (hZ.get 4 rfl) (hZ.get 5 rfl)) q 3 (by omega) (by omega)) (fun rz5097 Mz5098 hz5099 => ?_)
                rw [hz5099.1, hz5099.2]
                show Zw 1 zm_Tree_isLike 102 [some (.ref 37), some (.ref 128), some (.int (nI q)), some (.int (nI (gn (T (q * 8 + 0))))), some (.int (nI (gn2 (T2 (q * 8 + 0))))), none] [.int (nI (T (q * 8 + 3)))] Mq _
                refine zw_n 3 rfl ?_
                refine zw_callV (as := [.int (nI q), .int 3]) (rest := [.int (nI (T (q * 8 + 3)))]) rfl rfl rfl (hZ2.get 0 rfl) rfl rfl rfl (by decide) (c_field Mq 125 sz2 wt2 T2 V2 Rc2 En2 Su2 (seg6 (hZ2.get 0 rfl) (hZ2.get 1 rfl) (hZ2.get 2 rfl) (hZ2.get 3 rfl) (hZ2.get 4 rfl) (hZ2.get 5 rfl)) q 3 (by omega) (by omega)) (fun rz5100 Mz5101 hz5102 => ?_)
                rw [hz5102.1, hz5102.2]
                show Zw 1 zm_Tree_isLike 108 [some (.ref 37), some (.ref 128), some (.int (nI q)), some (.int (nI (gn (T (q * 8 + 0))))), some (.int (nI (gn2 (T2 (q * 8 + 0))))), none] [.int (nI (T2 (q * 8 + 3))), .int (nI (T (q * 8 + 3)))] Mq _
                refine zw_ineN (a := T (q * 8 + 3)) (b := T2 (q * 8 + 3)) rfl rfl rfl (by omega) (by omega) (fun c108 => ?_) (fun c108 => ?_)
                · -- 108 to 115
                  refine zw_n 1 rfl ?_
                  refine zw_top (x' := nI (if likR gn gn2 T T2 q = true then 1 else 0)) (show nI 0 = nI (if likR gn gn2 T T2 q = true then 1 else 0) by rw [if_neg (fun q9 => by have h9 := of_decide_eq_true q9; omega)]) ?_
                  exact j60
                · -- 108 to 111
                  refine zw_n 2 rfl ?_
                  refine zw_top (x' := nI (if likR gn gn2 T T2 q = true then 1 else 0)) (show nI 1 = nI (if likR gn gn2 T T2 q = true then 1 else 0) by rw [if_pos (show likR gn gn2 T T2 q = true from decide_eq_true ⟨c63, c78, c93, c108⟩)]) ?_
                  exact j60
    exact lp15 _ 0 (⟨c8, Nat.zero_le _, fun k hk => by omega⟩) (Nat.lt_succ_self _)
  · -- 8 to 11
    refine zw_n 1 rfl ?_
    exact zw_zret rfl rfl (Or.inl rfl) (⟨0, rfl, by decide, ⟨fun q9 => by omega, fun q9 => absurd q9.1 c8⟩, rfl⟩)

set_option maxHeartbeats 4000000 in
set_option maxRecDepth 100000 in
theorem c_alike0 (Mq : zM) (f : Nat → Nat → Nat) (L : Nat) (hC : CC Mq f) (hI : CInv L f) (hk : f 95 0 ≠ 0) : Zm 7 zm_CG_alike [.ref 0, .int 0] Mq (fun r9 M1 => ∃ b, r9 = some (.int (if (tFit (eAt f 16 26) (f 16 0) (f 26 0)) ∧ (tFit (eAt f 96 106) (f 96 0) (f 106 0)) then nI b else -1)) ∧ b ≤ 1 ∧ ((tFit (eAt f 16 26) (f 16 0) (f 26 0)) ∧ (tFit (eAt f 96 106) (f 96 0) (f 106 0)) → (b = 1 ↔ likB (f 17) (f 97) (tSz (eAt f 16 26) (f 16 0) (f 26 0)) (tSz (eAt f 96 106) (f 96 0) (f 106 0)) (tRw (eAt f 16 26) (f 16 0) (f 26 0)) (tRw (eAt f 96 106) (f 96 0) (f 106 0)))) ∧ ∃ f9, CC M1 f9 ∧ CInv L f9 ∧ Smc Mq M1 ∧ Asame f f9) := by
  show Zw 7 zm_CG_alike 0 [some (.ref 0), some (.int 0)] [] Mq _
  have hG : SafeG (f 16 0) (f 17) (f 18) (f 19) (f 20) (f 21) (f 22) := hI.gram.safe
  have hS : SafeT (f 26 0) (f 27) (f 28) (f 29) := hI.tok.safe
  have hn8 := hG.1
  have hc20 := hS.1
  obtain ⟨emp, rk, hA⟩ := hI.gram.acy
  have hG2 : SafeG (f 96 0) (f 97) (f 98) (f 99) (f 100) (f 101) (f 102) := hI.kg.1.safe
  have hS2 : SafeT (f 106 0) (f 107) (f 108) (f 109) := hI.kt.1.safe
  obtain ⟨emp2, rk2, hA2⟩ := hI.kg.1.acy
  have hn82 := hG2.1
  have hc22 := hS2.1
  obtain ⟨gk, tk, htk, h94, hgk⟩ := hC.2.2
  refine zw_n 2 rfl ?_
  refine zw_callV (as := [.int 0]) (rest := []) rfl rfl rfl (hC.1 0 (by decide) (by decide) (by decide)) rfl rfl rfl (by decide) (c_isKept0 Mq f L hC hI) (fun rz5103 Mz5104 hz5105 => ?_)
  rw [hz5105.1, hz5105.2]
  show Zw 7 zm_CG_alike 5 [some (.ref 0), some (.int 0)] [.int (nI (if f 95 0 = 0 then 0 else 1))] Mq _
  refine zw_eq0N (a := if f 95 0 = 0 then 0 else 1) rfl rfl (by split <;> decide) (fun c5 => ?_) (fun c5 => ?_)
  · -- 5 to 15
    exfalso
    rw [if_neg hk] at c5; cases c5
  · -- 5 to 8
    refine zw_n 1 rfl ?_
    refine zw_callV (as := []) (rest := []) rfl rfl rfl (hC.1 0 (by decide) (by decide) (by decide)) rfl rfl rfl (by decide) (c_hasTree Mq f L hC hI) (fun rz5113 Mz5114 hz5115 => ?_)
    obtain ⟨hAz5106, fz5107, hCz5108, hIz5109, hSmz5110, hAsz5111, hTz5112⟩ := hz5115
    rw [hAz5106]
    obtain ⟨gk9, tk9, htk9, h949, hgk9⟩ := hCz5108.2.2
    show Zw 7 zm_CG_alike 12 [some (.ref 0), some (.int 0)] [.int (nI (if tFit (eAt f 16 26) (f 16 0) (f 26 0) then 1 else 0))] Mz5114 _
    refine zw_ne0N (a := if tFit (eAt f 16 26) (f 16 0) (f 26 0) then 1 else 0) rfl rfl (ite_b) (fun c12 => ?_) (fun c12 => ?_)
    · -- 12 to 17
      have hfit := ite_ne c12
      have hTs : TrS (eAt f 16 26) (f 16 0) (f 26 0) (fz5107 37 0) (fz5107 38) := hAsz5111.tre (hIz5109.tre (hTz5112 hfit).1)
      have hTr : TrR (eAt f 16 26) (f 16 0) (f 26 0) (fz5107 37 0) (fz5107 38) := hTs.rows (E := eAt f 16 26) hA hn8 hG.2.2.1 hS.2.2.2 hG.2.2.2.2.2.2 hc20 hfit
      have hle := hTr.le
      obtain ⟨hcz, hcT⟩ := hTs.can (by omega)
      have hcq : tEq (fz5107 37 0) (fz5107 38) (tRw (eAt f 16 26) (f 16 0) (f 26 0)) := hcT
      refine zw_n 1 rfl ?_
      refine zw_get (v := .ref 125) rfl (hCz5108.1 0 (by decide) (by decide) (by decide)) rfl ?_
      refine zw_n 1 rfl ?_
      refine zw_get (v := .ref 94) rfl (hCz5108.1 0 (by decide) (by decide) (by decide)) rfl ?_
      refine zw_n 1 rfl ?_
      refine zw_aald (j := 0) rfl h949 htk9 rfl (by decide) (by omega) (hgk9 0 (by decide)) ?_
      refine zw_get (v := .ref 96) rfl (hCz5108.core hAsz5111 (a := 95) rfl (by decide) (by decide) (by decide)) rfl ?_
      refine zw_n 1 rfl ?_
      refine zw_get (v := .ref 94) rfl (hCz5108.1 0 (by decide) (by decide) (by decide)) rfl ?_
      refine zw_n 1 rfl ?_
      refine zw_aald (j := 0) rfl h949 htk9 rfl (by decide) (by omega) (hgk9 0 (by decide)) ?_
      refine zw_get (v := .ref 106) rfl (hCz5108.core hAsz5111 (a := 95) rfl (by decide) (by decide) (by decide)) rfl ?_
      refine zw_callV (as := [.ref 96, .ref 106]) (rest := []) rfl rfl rfl (hCz5108.1 125 (by decide) (by decide) (by decide)) rfl rfl rfl (by decide) (c_turnTo Mz5114 125 (fz5107 125 0) (fz5107 125 1) (fz5107 125 2) (fz5107 126) (fz5107 127) (seg3 (hCz5108.1 125 (by decide) (by decide) (by decide)) (hCz5108.1 126 (by decide) (by decide) (by decide)) (hCz5108.1 127 (by decide) (by decide) (by decide))) 96 106) (fun rz5119 Mz5120 hz5121 => ?_)
      obtain ⟨hAz5116, hBz5117, hSz5118⟩ := hz5121
      rw [hAz5116]
      show Zw 7 zm_CG_alike 42 [some (.ref 0), some (.int 0)] [] Mz5120 _
      refine zw_n 1 rfl ?_
      refine zw_get (v := .ref 125) rfl (Sm.at hSz5118 (by decide) (hCz5108.1 0 (by decide) (by decide) (by decide))) rfl ?_
      refine zw_callV (as := []) (rest := []) rfl rfl rfl (hBz5117.get 0 rfl) rfl rfl rfl (by decide) (c_readOnce Mz5120 125 96 106 0 (fz5107 126) (fz5107 127) (f 96 0) (f 96 7) (f 97) (f 98) (f 99) (f 100) (f 101) (f 102) (f 103) (f 104) (f 105) (f 106 0) (f 107) (f 108) (f 109) (seg3 (hBz5117.get 0 rfl) (hBz5117.get 1 rfl) (hBz5117.get 2 rfl)) (seg10 (Sm.at hSz5118 (by decide) (hCz5108.core hAsz5111 (a := 96) rfl (by decide) (by decide) (by decide))) (Sm.at hSz5118 (by decide) (hCz5108.core hAsz5111 (a := 97) rfl (by decide) (by decide) (by decide))) (Sm.at hSz5118 (by decide) (hCz5108.core hAsz5111 (a := 98) rfl (by decide) (by decide) (by decide))) (Sm.at hSz5118 (by decide) (hCz5108.core hAsz5111 (a := 99) rfl (by decide) (by decide) (by decide))) (Sm.at hSz5118 (by decide) (hCz5108.core hAsz5111 (a := 100) rfl (by decide) (by decide) (by decide))) (Sm.at hSz5118 (by decide) (hCz5108.core hAsz5111 (a := 101) rfl (by decide) (by decide) (by decide))) (Sm.at hSz5118 (by decide) (hCz5108.core hAsz5111 (a := 102) rfl (by decide) (by decide) (by decide))) (Sm.at hSz5118 (by decide) (hCz5108.core hAsz5111 (a := 103) rfl (by decide) (by decide) (by decide))) (Sm.at hSz5118 (by decide) (hCz5108.core hAsz5111 (a := 104) rfl (by decide) (by decide) (by decide))) (Sm.at hSz5118 (by decide) (hCz5108.core hAsz5111 (a := 105) rfl (by decide) (by decide) (by decide)))) (seg4 (Sm.at hSz5118 (by decide) (hCz5108.core hAsz5111 (a := 106) rfl (by decide) (by decide) (by decide))) (Sm.at hSz5118 (by decide) (hCz5108.core hAsz5111 (a := 107) rfl (by decide) (by decide) (by decide))) (Sm.at hSz5118 (by decide) (hCz5108.core hAsz5111 (a := 108) rfl (by decide) (by decide) (by decide))) (Sm.at hSz5118 (by decide) (hCz5108.core hAsz5111 (a := 109) rfl (by decide) (by decide) (by decide)))) hG2 hS2 hIz5109.osw hIz5109.osr (by omega) emp2 rk2 hA2 (Nat.zero_le _) (fun q9 => absurd rfl q9)) (fun rz5130 Mz5131 hz5132 => ?_)
      obtain ⟨hAz5122, Wz5123, Rz5124, hBz5125, hSz5126, hDz5127, hEz5128, hFz5129⟩ := hz5132
      rw [hAz5122]
      show Zw 7 zm_CG_alike 49 [some (.ref 0), some (.int 0)] [.int (nI (if 0 < (f 96 0) ∧ wh (eAt f 96 106) (f 96 0) 0 0 (f 106 0) ≠ 0 then 1 else 0))] Mz5131 _
      refine zw_ne0N (a := if 0 < (f 96 0) ∧ wh (eAt f 96 106) (f 96 0) 0 0 (f 106 0) ≠ 0 then 1 else 0) rfl rfl (ite_b) (fun c49 => ?_) (fun c49 => ?_)
      · -- 49 to 54
        have hfit2 : tFit (eAt f 96 106) (f 96 0) (f 106 0) := ite_ne c49
        refine zw_n 1 rfl ?_
        refine zw_get (v := .ref 128) rfl (Sm.at hSz5126 (by decide) (Sm.at hSz5118 (by decide) (hCz5108.1 0 (by decide) (by decide) (by decide)))) rfl ?_
        refine zw_callV (as := []) (rest := []) rfl rfl rfl (Sm.at hSz5126 (by decide) (Sm.at hSz5118 (by decide) (hCz5108.1 128 (by decide) (by decide) (by decide)))) rfl rfl rfl (by decide) (c_build Mz5131 125 96 106 1 Wz5123 Rz5124 (f 96 0) (f 96 7) (f 97) (f 98) (f 99) (f 100) (f 101) (f 102) (f 103) (f 104) (f 105) (f 106 0) (f 107) (f 108) (f 109) (seg3 (hBz5125.get 0 rfl) (hBz5125.get 1 rfl) (hBz5125.get 2 rfl)) (seg10 (Sm.at hSz5126 (by decide) (Sm.at hSz5118 (by decide) (hCz5108.core hAsz5111 (a := 96) rfl (by decide) (by decide) (by decide)))) (Sm.at hSz5126 (by decide) (Sm.at hSz5118 (by decide) (hCz5108.core hAsz5111 (a := 97) rfl (by decide) (by decide) (by decide)))) (Sm.at hSz5126 (by decide) (Sm.at hSz5118 (by decide) (hCz5108.core hAsz5111 (a := 98) rfl (by decide) (by decide) (by decide)))) (Sm.at hSz5126 (by decide) (Sm.at hSz5118 (by decide) (hCz5108.core hAsz5111 (a := 99) rfl (by decide) (by decide) (by decide)))) (Sm.at hSz5126 (by decide) (Sm.at hSz5118 (by decide) (hCz5108.core hAsz5111 (a := 100) rfl (by decide) (by decide) (by decide)))) (Sm.at hSz5126 (by decide) (Sm.at hSz5118 (by decide) (hCz5108.core hAsz5111 (a := 101) rfl (by decide) (by decide) (by decide)))) (Sm.at hSz5126 (by decide) (Sm.at hSz5118 (by decide) (hCz5108.core hAsz5111 (a := 102) rfl (by decide) (by decide) (by decide)))) (Sm.at hSz5126 (by decide) (Sm.at hSz5118 (by decide) (hCz5108.core hAsz5111 (a := 103) rfl (by decide) (by decide) (by decide)))) (Sm.at hSz5126 (by decide) (Sm.at hSz5118 (by decide) (hCz5108.core hAsz5111 (a := 104) rfl (by decide) (by decide) (by decide)))) (Sm.at hSz5126 (by decide) (Sm.at hSz5118 (by decide) (hCz5108.core hAsz5111 (a := 105) rfl (by decide) (by decide) (by decide))))) (seg4 (Sm.at hSz5126 (by decide) (Sm.at hSz5118 (by decide) (hCz5108.core hAsz5111 (a := 106) rfl (by decide) (by decide) (by decide)))) (Sm.at hSz5126 (by decide) (Sm.at hSz5118 (by decide) (hCz5108.core hAsz5111 (a := 107) rfl (by decide) (by decide) (by decide)))) (Sm.at hSz5126 (by decide) (Sm.at hSz5118 (by decide) (hCz5108.core hAsz5111 (a := 108) rfl (by decide) (by decide) (by decide)))) (Sm.at hSz5126 (by decide) (Sm.at hSz5118 (by decide) (hCz5108.core hAsz5111 (a := 109) rfl (by decide) (by decide) (by decide))))) hG2 hS2 hDz5127 hEz5128 (fz5107 128 0) (fz5107 128 3) (fz5107 129) (fz5107 130) (fz5107 131) (fz5107 132) (fz5107 133) (seg6 (Sm.at hSz5126 (by decide) (Sm.at hSz5118 (by decide) (hCz5108.1 128 (by decide) (by decide) (by decide)))) (Sm.at hSz5126 (by decide) (Sm.at hSz5118 (by decide) (hCz5108.1 129 (by decide) (by decide) (by decide)))) (Sm.at hSz5126 (by decide) (Sm.at hSz5118 (by decide) (hCz5108.1 130 (by decide) (by decide) (by decide)))) (Sm.at hSz5126 (by decide) (Sm.at hSz5118 (by decide) (hCz5108.1 131 (by decide) (by decide) (by decide)))) (Sm.at hSz5126 (by decide) (Sm.at hSz5118 (by decide) (hCz5108.1 132 (by decide) (by decide) (by decide)))) (Sm.at hSz5126 (by decide) (Sm.at hSz5118 (by decide) (hCz5108.1 133 (by decide) (by decide) (by decide))))) ⟨by decide, by decide⟩ emp2 rk2 hA2 hFz5129 (hfit2)) (fun rz5143 Mz5144 hz5145 => ?_)
        obtain ⟨hAz5133, szz5134, wtz5135, Tz5136, Vz5137, Rz5138, Ez5139, hZz5140, hSz5141, hTz5142⟩ := hz5145
        rw [hAz5133]
        have hTr2 : TrR (eAt f 96 106) (f 96 0) (f 106 0) szz5134 Tz5136 := hTz5142.rows (E := (eAt f 96 106)) hA2 hG2.1 hG2.2.2.1 hS2.2.2.2 hG2.2.2.2.2.2.2 hS2.1 hfit2
        have hle2 := hTr2.le
        obtain ⟨hcz2, hcT2⟩ := hTz5142.can (by omega)
        have hcq2 : tEq szz5134 Tz5136 (tRw (eAt f 96 106) (f 96 0) (f 106 0)) := hcT2
        show Zw 7 zm_CG_alike 61 [some (.ref 0), some (.int 0)] [] Mz5144 _
        refine zw_n 1 rfl ?_
        refine zw_get (v := .ref 37) rfl (Sm.at hSz5141 (by decide) (Sm.at hSz5126 (by decide) (Sm.at hSz5118 (by decide) (hCz5108.1 0 (by decide) (by decide) (by decide))))) rfl ?_
        refine zw_n 1 rfl ?_
        refine zw_get (v := .ref 128) rfl (Sm.at hSz5141 (by decide) (Sm.at hSz5126 (by decide) (Sm.at hSz5118 (by decide) (hCz5108.1 0 (by decide) (by decide) (by decide))))) rfl ?_
        refine zw_callV (as := [.ref 128]) (rest := []) rfl rfl rfl (Sm.at hSz5141 (by decide) (Sm.at hSz5126 (by decide) (Sm.at hSz5118 (by decide) (hCz5108.1 37 (by decide) (by decide) (by decide))))) rfl rfl rfl (by decide) (c_isLike Mz5144 (fz5107 37 0) (fz5107 37 3) (fz5107 38) (fz5107 39) (fz5107 40) (fz5107 41) (fz5107 42) (seg6 (Sm.at hSz5141 (by decide) (Sm.at hSz5126 (by decide) (Sm.at hSz5118 (by decide) (hCz5108.1 37 (by decide) (by decide) (by decide))))) (Sm.at hSz5141 (by decide) (Sm.at hSz5126 (by decide) (Sm.at hSz5118 (by decide) (hCz5108.1 38 (by decide) (by decide) (by decide))))) (Sm.at hSz5141 (by decide) (Sm.at hSz5126 (by decide) (Sm.at hSz5118 (by decide) (hCz5108.1 39 (by decide) (by decide) (by decide))))) (Sm.at hSz5141 (by decide) (Sm.at hSz5126 (by decide) (Sm.at hSz5118 (by decide) (hCz5108.1 40 (by decide) (by decide) (by decide))))) (Sm.at hSz5141 (by decide) (Sm.at hSz5126 (by decide) (Sm.at hSz5118 (by decide) (hCz5108.1 41 (by decide) (by decide) (by decide))))) (Sm.at hSz5141 (by decide) (Sm.at hSz5126 (by decide) (Sm.at hSz5118 (by decide) (hCz5108.1 42 (by decide) (by decide) (by decide)))))) szz5134 wtz5135 Tz5136 Vz5137 Rz5138 Ez5139 (fz5107 133) (seg6 (hZz5140.get 0 rfl) (hZz5140.get 1 rfl) (hZz5140.get 2 rfl) (hZz5140.get 3 rfl) (hZz5140.get 4 rfl) (Sm.at hSz5141 (by decide) (Sm.at hSz5126 (by decide) (Sm.at hSz5118 (by decide) (hCz5108.1 133 (by decide) (by decide) (by decide)))))) (fz5107 34 2) 96 106 1 (fz5107 35) (fz5107 36) Wz5123 Rz5124 (seg3 (Sm.at hSz5141 (by decide) (Sm.at hSz5126 (by decide) (Sm.at hSz5118 (by decide) (hCz5108.1 34 (by decide) (by decide) (by decide))))) (Sm.at hSz5141 (by decide) (Sm.at hSz5126 (by decide) (Sm.at hSz5118 (by decide) (hCz5108.1 35 (by decide) (by decide) (by decide))))) (Sm.at hSz5141 (by decide) (Sm.at hSz5126 (by decide) (Sm.at hSz5118 (by decide) (hCz5108.1 36 (by decide) (by decide) (by decide)))))) (seg3 (Sm.at hSz5141 (by decide) (hBz5125.get 0 rfl)) (Sm.at hSz5141 (by decide) (hBz5125.get 1 rfl)) (Sm.at hSz5141 (by decide) (hBz5125.get 2 rfl))) (f 16 0) (f 16 7) (f 17) (f 18) (f 19) (f 20) (f 21) (f 22) (f 23) (f 24) (f 25) (seg10 (Sm.at hSz5141 (by decide) (Sm.at hSz5126 (by decide) (Sm.at hSz5118 (by decide) (hCz5108.core hAsz5111 (a := 16) rfl (by decide) (by decide) (by decide))))) (Sm.at hSz5141 (by decide) (Sm.at hSz5126 (by decide) (Sm.at hSz5118 (by decide) (hCz5108.core hAsz5111 (a := 17) rfl (by decide) (by decide) (by decide))))) (Sm.at hSz5141 (by decide) (Sm.at hSz5126 (by decide) (Sm.at hSz5118 (by decide) (hCz5108.core hAsz5111 (a := 18) rfl (by decide) (by decide) (by decide))))) (Sm.at hSz5141 (by decide) (Sm.at hSz5126 (by decide) (Sm.at hSz5118 (by decide) (hCz5108.core hAsz5111 (a := 19) rfl (by decide) (by decide) (by decide))))) (Sm.at hSz5141 (by decide) (Sm.at hSz5126 (by decide) (Sm.at hSz5118 (by decide) (hCz5108.core hAsz5111 (a := 20) rfl (by decide) (by decide) (by decide))))) (Sm.at hSz5141 (by decide) (Sm.at hSz5126 (by decide) (Sm.at hSz5118 (by decide) (hCz5108.core hAsz5111 (a := 21) rfl (by decide) (by decide) (by decide))))) (Sm.at hSz5141 (by decide) (Sm.at hSz5126 (by decide) (Sm.at hSz5118 (by decide) (hCz5108.core hAsz5111 (a := 22) rfl (by decide) (by decide) (by decide))))) (Sm.at hSz5141 (by decide) (Sm.at hSz5126 (by decide) (Sm.at hSz5118 (by decide) (hCz5108.core hAsz5111 (a := 23) rfl (by decide) (by decide) (by decide))))) (Sm.at hSz5141 (by decide) (Sm.at hSz5126 (by decide) (Sm.at hSz5118 (by decide) (hCz5108.core hAsz5111 (a := 24) rfl (by decide) (by decide) (by decide))))) (Sm.at hSz5141 (by decide) (Sm.at hSz5126 (by decide) (Sm.at hSz5118 (by decide) (hCz5108.core hAsz5111 (a := 25) rfl (by decide) (by decide) (by decide)))))) (f 96 0) (f 96 7) (f 97) (f 98) (f 99) (f 100) (f 101) (f 102) (f 103) (f 104) (f 105) (seg10 (Sm.at hSz5141 (by decide) (Sm.at hSz5126 (by decide) (Sm.at hSz5118 (by decide) (hCz5108.core hAsz5111 (a := 96) rfl (by decide) (by decide) (by decide))))) (Sm.at hSz5141 (by decide) (Sm.at hSz5126 (by decide) (Sm.at hSz5118 (by decide) (hCz5108.core hAsz5111 (a := 97) rfl (by decide) (by decide) (by decide))))) (Sm.at hSz5141 (by decide) (Sm.at hSz5126 (by decide) (Sm.at hSz5118 (by decide) (hCz5108.core hAsz5111 (a := 98) rfl (by decide) (by decide) (by decide))))) (Sm.at hSz5141 (by decide) (Sm.at hSz5126 (by decide) (Sm.at hSz5118 (by decide) (hCz5108.core hAsz5111 (a := 99) rfl (by decide) (by decide) (by decide))))) (Sm.at hSz5141 (by decide) (Sm.at hSz5126 (by decide) (Sm.at hSz5118 (by decide) (hCz5108.core hAsz5111 (a := 100) rfl (by decide) (by decide) (by decide))))) (Sm.at hSz5141 (by decide) (Sm.at hSz5126 (by decide) (Sm.at hSz5118 (by decide) (hCz5108.core hAsz5111 (a := 101) rfl (by decide) (by decide) (by decide))))) (Sm.at hSz5141 (by decide) (Sm.at hSz5126 (by decide) (Sm.at hSz5118 (by decide) (hCz5108.core hAsz5111 (a := 102) rfl (by decide) (by decide) (by decide))))) (Sm.at hSz5141 (by decide) (Sm.at hSz5126 (by decide) (Sm.at hSz5118 (by decide) (hCz5108.core hAsz5111 (a := 103) rfl (by decide) (by decide) (by decide))))) (Sm.at hSz5141 (by decide) (Sm.at hSz5126 (by decide) (Sm.at hSz5118 (by decide) (hCz5108.core hAsz5111 (a := 104) rfl (by decide) (by decide) (by decide))))) (Sm.at hSz5141 (by decide) (Sm.at hSz5126 (by decide) (Sm.at hSz5118 (by decide) (hCz5108.core hAsz5111 (a := 105) rfl (by decide) (by decide) (by decide)))))) (eAt f 16 26) (eAt f 96 106) (f 26 0) (f 106 0) hTr hTr2 hn8 hG2.1 hc20 hS2.1 hG.2.2.1 hG2.2.2.1 hG.2.1 hG2.2.1) (fun rz5151 Mz5152 hz5153 => ?_)
        obtain ⟨bz5146, hAz5147, hbz5148, hbiz5149, hMz5150⟩ := hz5153
        rw [hAz5147, hMz5150]
        show Zw 7 zm_CG_alike 72 [some (.ref 0), some (.int 0)] [.int (nI bz5146)] Mz5144 _
        refine zw_eq0N (a := bz5146) rfl rfl (by omega) (fun c72 => ?_) (fun c72 => ?_)
        · -- 72 to 79
          refine zw_n 1 rfl ?_
          refine zw_top (x' := nI 0) (by decide) ?_
          exact zw_iret rfl rfl (⟨bz5146, by rw [if_pos ⟨hfit, hfit2⟩, (show bz5146 = 0 by omega)], hbz5148, fun _ => by rw [← hcz, ← hcz2, ← likB_cg hcq hcq2]; exact hbiz5149, fset (fset (fset (fset (fset (fset (fset (fset fz5107 132 Ez5139) 131 Rz5138) 130 Vz5137) 129 Tz5136) 128 (up (up (fz5107 128) 0 szz5134) 3 wtz5135)) 127 Rz5124) 126 Wz5123) 125 (up (up (up (fz5107 125) 0 96) 1 106) 2 1), CC.of (f' := fset (fset (fset (fset (fset (fset (fset (fset fz5107 132 Ez5139) 131 Rz5138) 130 Vz5137) 129 Tz5136) 128 (up (up (fz5107 128) 0 szz5134) 3 wtz5135)) 127 Rz5124) 126 Wz5123) 125 (up (up (up (fz5107 125) 0 96) 1 106) 2 1)) (S := [125, 126, 127, 128, 129, 130, 131, 132]) hCz5108 (Sm.tw (Sm.tw (Sm.tw Sm.rf hSz5118 (by decide)) hSz5126 (by decide)) hSz5141 (by decide)) ⟨by decide, by decide⟩ (d1_cons (Sm.at hSz5141 (by decide) (hBz5125.get 0 rfl)) (d1_cons (Sm.at hSz5141 (by decide) (hBz5125.get 1 rfl)) (d1_cons (Sm.at hSz5141 (by decide) (hBz5125.get 2 rfl)) (d1_cons (hZz5140.get 0 rfl) (d1_cons (hZz5140.get 1 rfl) (d1_cons (hZz5140.get 2 rfl) (d1_cons (hZz5140.get 3 rfl) (d1_cons (hZz5140.get 4 rfl) d1_nil)))))))) (fs_c (fs_c (fs_c (fs_c (fs_c (fs_c (fs_c (fs_c fs_n)))))))), ⟨⟨hIz5109.tl, hIz5109.tx, hIz5109.gram, hIz5109.tok, hIz5109.bef, hIz5109.grn, hIz5109.mvd, hIz5109.hsz, hIz5109.hen, hIz5109.past, hIz5109.lln, hIz5109.kh, hIz5109.kg, hIz5109.kt, hIz5109.cst, hIz5109.csw, hIz5109.csr, Nat.le_refl _, hDz5127, hEz5128, hIz5109.tst, hIz5109.rkn, hIz5109.fnd, hIz5109.ofs⟩, hIz5109.cok, hIz5109.blm, hIz5109.tre, hIz5109.rep⟩, Smc.tr hSmz5110 (Smc.of (S := [125, 126, 127, 128, 129, 130, 131, 132]) (Sm.tw (Sm.tw (Sm.tw Sm.rf hSz5118 (by decide)) hSz5126 (by decide)) hSz5141 (by decide)) (by decide)), Asame.tr hAsz5111 (Asame.of (S := [125, 126, 127, 128, 129, 130, 131, 132]) (fs_c (fs_c (fs_c (fs_c (fs_c (fs_c (fs_c (fs_c fs_n)))))))) rfl (by decide))⟩)
        · -- 72 to 75
          refine zw_n 2 rfl ?_
          refine zw_top (x' := nI 1) (by decide) ?_
          exact zw_iret rfl rfl (⟨bz5146, by rw [if_pos ⟨hfit, hfit2⟩, (show bz5146 = 1 by omega)], hbz5148, fun _ => by rw [← hcz, ← hcz2, ← likB_cg hcq hcq2]; exact hbiz5149, fset (fset (fset (fset (fset (fset (fset (fset fz5107 132 Ez5139) 131 Rz5138) 130 Vz5137) 129 Tz5136) 128 (up (up (fz5107 128) 0 szz5134) 3 wtz5135)) 127 Rz5124) 126 Wz5123) 125 (up (up (up (fz5107 125) 0 96) 1 106) 2 1), CC.of (f' := fset (fset (fset (fset (fset (fset (fset (fset fz5107 132 Ez5139) 131 Rz5138) 130 Vz5137) 129 Tz5136) 128 (up (up (fz5107 128) 0 szz5134) 3 wtz5135)) 127 Rz5124) 126 Wz5123) 125 (up (up (up (fz5107 125) 0 96) 1 106) 2 1)) (S := [125, 126, 127, 128, 129, 130, 131, 132]) hCz5108 (Sm.tw (Sm.tw (Sm.tw Sm.rf hSz5118 (by decide)) hSz5126 (by decide)) hSz5141 (by decide)) ⟨by decide, by decide⟩ (d1_cons (Sm.at hSz5141 (by decide) (hBz5125.get 0 rfl)) (d1_cons (Sm.at hSz5141 (by decide) (hBz5125.get 1 rfl)) (d1_cons (Sm.at hSz5141 (by decide) (hBz5125.get 2 rfl)) (d1_cons (hZz5140.get 0 rfl) (d1_cons (hZz5140.get 1 rfl) (d1_cons (hZz5140.get 2 rfl) (d1_cons (hZz5140.get 3 rfl) (d1_cons (hZz5140.get 4 rfl) d1_nil)))))))) (fs_c (fs_c (fs_c (fs_c (fs_c (fs_c (fs_c (fs_c fs_n)))))))), ⟨⟨hIz5109.tl, hIz5109.tx, hIz5109.gram, hIz5109.tok, hIz5109.bef, hIz5109.grn, hIz5109.mvd, hIz5109.hsz, hIz5109.hen, hIz5109.past, hIz5109.lln, hIz5109.kh, hIz5109.kg, hIz5109.kt, hIz5109.cst, hIz5109.csw, hIz5109.csr, Nat.le_refl _, hDz5127, hEz5128, hIz5109.tst, hIz5109.rkn, hIz5109.fnd, hIz5109.ofs⟩, hIz5109.cok, hIz5109.blm, hIz5109.tre, hIz5109.rep⟩, Smc.tr hSmz5110 (Smc.of (S := [125, 126, 127, 128, 129, 130, 131, 132]) (Sm.tw (Sm.tw (Sm.tw Sm.rf hSz5118 (by decide)) hSz5126 (by decide)) hSz5141 (by decide)) (by decide)), Asame.tr hAsz5111 (Asame.of (S := [125, 126, 127, 128, 129, 130, 131, 132]) (fs_c (fs_c (fs_c (fs_c (fs_c (fs_c (fs_c (fs_c fs_n)))))))) rfl (by decide))⟩)
      · -- 49 to 52
        refine zw_n 1 rfl ?_
        exact zw_iret rfl rfl (⟨0, by rw [if_neg (fun q9 => ite_eq0 c49 q9.2)], by decide, fun q9 => absurd q9 (fun q9 => ite_eq0 c49 q9.2), fset (fset (fset fz5107 127 Rz5124) 126 Wz5123) 125 (up (up (up (fz5107 125) 0 96) 1 106) 2 1), CC.of (f' := fset (fset (fset fz5107 127 Rz5124) 126 Wz5123) 125 (up (up (up (fz5107 125) 0 96) 1 106) 2 1)) (S := [125, 126, 127, 128, 129, 130, 131, 132]) hCz5108 (Sm.tw (Sm.tw Sm.rf hSz5118 (by decide)) hSz5126 (by decide)) ⟨by decide, by decide⟩ (d1_cons (hBz5125.get 0 rfl) (d1_cons (hBz5125.get 1 rfl) (d1_cons (hBz5125.get 2 rfl) (d1_cons (Sm.at hSz5126 (by decide) (Sm.at hSz5118 (by decide) (hCz5108.1 128 (by decide) (by decide) (by decide)))) (d1_cons (Sm.at hSz5126 (by decide) (Sm.at hSz5118 (by decide) (hCz5108.1 129 (by decide) (by decide) (by decide)))) (d1_cons (Sm.at hSz5126 (by decide) (Sm.at hSz5118 (by decide) (hCz5108.1 130 (by decide) (by decide) (by decide)))) (d1_cons (Sm.at hSz5126 (by decide) (Sm.at hSz5118 (by decide) (hCz5108.1 131 (by decide) (by decide) (by decide)))) (d1_cons (Sm.at hSz5126 (by decide) (Sm.at hSz5118 (by decide) (hCz5108.1 132 (by decide) (by decide) (by decide)))) d1_nil)))))))) (fs_c (fs_c (fs_c (fs_k (fs_k (fs_k (fs_k (fs_k fs_n)))))))), ⟨⟨hIz5109.tl, hIz5109.tx, hIz5109.gram, hIz5109.tok, hIz5109.bef, hIz5109.grn, hIz5109.mvd, hIz5109.hsz, hIz5109.hen, hIz5109.past, hIz5109.lln, hIz5109.kh, hIz5109.kg, hIz5109.kt, hIz5109.cst, hIz5109.csw, hIz5109.csr, Nat.le_refl _, hDz5127, hEz5128, hIz5109.tst, hIz5109.rkn, hIz5109.fnd, hIz5109.ofs⟩, hIz5109.cok, hIz5109.blm, hIz5109.tre, hIz5109.rep⟩, Smc.tr hSmz5110 (Smc.of (S := [125, 126, 127, 128, 129, 130, 131, 132]) (Sm.tw (Sm.tw Sm.rf hSz5118 (by decide)) hSz5126 (by decide)) (by decide)), Asame.tr hAsz5111 (Asame.of (S := [125, 126, 127, 128, 129, 130, 131, 132]) (fs_c (fs_c (fs_c (fs_k (fs_k (fs_k (fs_k (fs_k fs_n)))))))) rfl (by decide))⟩)
    · -- 12 to 15
      refine zw_n 1 rfl ?_
      exact zw_iret rfl rfl (⟨0, by rw [if_neg (fun q9 => ite_eq0 c12 q9.1)], by decide, fun q9 => absurd q9 (fun q9 => ite_eq0 c12 q9.1), fz5107, hCz5108, hIz5109, hSmz5110, hAsz5111⟩)

set_option maxHeartbeats 4000000 in
set_option maxRecDepth 100000 in
theorem c_alike1 (Mq : zM) (f : Nat → Nat → Nat) (L : Nat) (hC : CC Mq f) (hI : CInv L f) (hk : f 110 0 ≠ 0) : Zm 7 zm_CG_alike [.ref 0, .int 1] Mq (fun r9 M1 => ∃ b, r9 = some (.int (if (tFit (eAt f 16 26) (f 16 0) (f 26 0)) ∧ (tFit (eAt f 111 121) (f 111 0) (f 121 0)) then nI b else -1)) ∧ b ≤ 1 ∧ ((tFit (eAt f 16 26) (f 16 0) (f 26 0)) ∧ (tFit (eAt f 111 121) (f 111 0) (f 121 0)) → (b = 1 ↔ likB (f 17) (f 112) (tSz (eAt f 16 26) (f 16 0) (f 26 0)) (tSz (eAt f 111 121) (f 111 0) (f 121 0)) (tRw (eAt f 16 26) (f 16 0) (f 26 0)) (tRw (eAt f 111 121) (f 111 0) (f 121 0)))) ∧ ∃ f9, CC M1 f9 ∧ CInv L f9 ∧ Smc Mq M1 ∧ Asame f f9) := by
  show Zw 7 zm_CG_alike 0 [some (.ref 0), some (.int 1)] [] Mq _
  have hG : SafeG (f 16 0) (f 17) (f 18) (f 19) (f 20) (f 21) (f 22) := hI.gram.safe
  have hS : SafeT (f 26 0) (f 27) (f 28) (f 29) := hI.tok.safe
  have hn8 := hG.1
  have hc20 := hS.1
  obtain ⟨emp, rk, hA⟩ := hI.gram.acy
  have hG2 : SafeG (f 111 0) (f 112) (f 113) (f 114) (f 115) (f 116) (f 117) := hI.kg.2.safe
  have hS2 : SafeT (f 121 0) (f 122) (f 123) (f 124) := hI.kt.2.safe
  obtain ⟨emp2, rk2, hA2⟩ := hI.kg.2.acy
  have hn82 := hG2.1
  have hc22 := hS2.1
  obtain ⟨gk, tk, htk, h94, hgk⟩ := hC.2.2
  refine zw_n 2 rfl ?_
  refine zw_callV (as := [.int 1]) (rest := []) rfl rfl rfl (hC.1 0 (by decide) (by decide) (by decide)) rfl rfl rfl (by decide) (c_isKept1 Mq f L hC hI) (fun rz5154 Mz5155 hz5156 => ?_)
  rw [hz5156.1, hz5156.2]
  show Zw 7 zm_CG_alike 5 [some (.ref 0), some (.int 1)] [.int (nI (if f 110 0 = 0 then 0 else 1))] Mq _
  refine zw_eq0N (a := if f 110 0 = 0 then 0 else 1) rfl rfl (by split <;> decide) (fun c5 => ?_) (fun c5 => ?_)
  · -- 5 to 15
    exfalso
    rw [if_neg hk] at c5; cases c5
  · -- 5 to 8
    refine zw_n 1 rfl ?_
    refine zw_callV (as := []) (rest := []) rfl rfl rfl (hC.1 0 (by decide) (by decide) (by decide)) rfl rfl rfl (by decide) (c_hasTree Mq f L hC hI) (fun rz5164 Mz5165 hz5166 => ?_)
    obtain ⟨hAz5157, fz5158, hCz5159, hIz5160, hSmz5161, hAsz5162, hTz5163⟩ := hz5166
    rw [hAz5157]
    obtain ⟨gk9, tk9, htk9, h949, hgk9⟩ := hCz5159.2.2
    show Zw 7 zm_CG_alike 12 [some (.ref 0), some (.int 1)] [.int (nI (if tFit (eAt f 16 26) (f 16 0) (f 26 0) then 1 else 0))] Mz5165 _
    refine zw_ne0N (a := if tFit (eAt f 16 26) (f 16 0) (f 26 0) then 1 else 0) rfl rfl (ite_b) (fun c12 => ?_) (fun c12 => ?_)
    · -- 12 to 17
      have hfit := ite_ne c12
      have hTs : TrS (eAt f 16 26) (f 16 0) (f 26 0) (fz5158 37 0) (fz5158 38) := hAsz5162.tre (hIz5160.tre (hTz5163 hfit).1)
      have hTr : TrR (eAt f 16 26) (f 16 0) (f 26 0) (fz5158 37 0) (fz5158 38) := hTs.rows (E := eAt f 16 26) hA hn8 hG.2.2.1 hS.2.2.2 hG.2.2.2.2.2.2 hc20 hfit
      have hle := hTr.le
      obtain ⟨hcz, hcT⟩ := hTs.can (by omega)
      have hcq : tEq (fz5158 37 0) (fz5158 38) (tRw (eAt f 16 26) (f 16 0) (f 26 0)) := hcT
      refine zw_n 1 rfl ?_
      refine zw_get (v := .ref 125) rfl (hCz5159.1 0 (by decide) (by decide) (by decide)) rfl ?_
      refine zw_n 1 rfl ?_
      refine zw_get (v := .ref 94) rfl (hCz5159.1 0 (by decide) (by decide) (by decide)) rfl ?_
      refine zw_n 1 rfl ?_
      refine zw_aald (j := 1) rfl h949 htk9 rfl (by decide) (by omega) (hgk9 1 (by decide)) ?_
      refine zw_get (v := .ref 111) rfl (hCz5159.core hAsz5162 (a := 110) rfl (by decide) (by decide) (by decide)) rfl ?_
      refine zw_n 1 rfl ?_
      refine zw_get (v := .ref 94) rfl (hCz5159.1 0 (by decide) (by decide) (by decide)) rfl ?_
      refine zw_n 1 rfl ?_
      refine zw_aald (j := 1) rfl h949 htk9 rfl (by decide) (by omega) (hgk9 1 (by decide)) ?_
      refine zw_get (v := .ref 121) rfl (hCz5159.core hAsz5162 (a := 110) rfl (by decide) (by decide) (by decide)) rfl ?_
      refine zw_callV (as := [.ref 111, .ref 121]) (rest := []) rfl rfl rfl (hCz5159.1 125 (by decide) (by decide) (by decide)) rfl rfl rfl (by decide) (c_turnTo Mz5165 125 (fz5158 125 0) (fz5158 125 1) (fz5158 125 2) (fz5158 126) (fz5158 127) (seg3 (hCz5159.1 125 (by decide) (by decide) (by decide)) (hCz5159.1 126 (by decide) (by decide) (by decide)) (hCz5159.1 127 (by decide) (by decide) (by decide))) 111 121) (fun rz5170 Mz5171 hz5172 => ?_)
      obtain ⟨hAz5167, hBz5168, hSz5169⟩ := hz5172
      rw [hAz5167]
      show Zw 7 zm_CG_alike 42 [some (.ref 0), some (.int 1)] [] Mz5171 _
      refine zw_n 1 rfl ?_
      refine zw_get (v := .ref 125) rfl (Sm.at hSz5169 (by decide) (hCz5159.1 0 (by decide) (by decide) (by decide))) rfl ?_
      refine zw_callV (as := []) (rest := []) rfl rfl rfl (hBz5168.get 0 rfl) rfl rfl rfl (by decide) (c_readOnce Mz5171 125 111 121 0 (fz5158 126) (fz5158 127) (f 111 0) (f 111 7) (f 112) (f 113) (f 114) (f 115) (f 116) (f 117) (f 118) (f 119) (f 120) (f 121 0) (f 122) (f 123) (f 124) (seg3 (hBz5168.get 0 rfl) (hBz5168.get 1 rfl) (hBz5168.get 2 rfl)) (seg10 (Sm.at hSz5169 (by decide) (hCz5159.core hAsz5162 (a := 111) rfl (by decide) (by decide) (by decide))) (Sm.at hSz5169 (by decide) (hCz5159.core hAsz5162 (a := 112) rfl (by decide) (by decide) (by decide))) (Sm.at hSz5169 (by decide) (hCz5159.core hAsz5162 (a := 113) rfl (by decide) (by decide) (by decide))) (Sm.at hSz5169 (by decide) (hCz5159.core hAsz5162 (a := 114) rfl (by decide) (by decide) (by decide))) (Sm.at hSz5169 (by decide) (hCz5159.core hAsz5162 (a := 115) rfl (by decide) (by decide) (by decide))) (Sm.at hSz5169 (by decide) (hCz5159.core hAsz5162 (a := 116) rfl (by decide) (by decide) (by decide))) (Sm.at hSz5169 (by decide) (hCz5159.core hAsz5162 (a := 117) rfl (by decide) (by decide) (by decide))) (Sm.at hSz5169 (by decide) (hCz5159.core hAsz5162 (a := 118) rfl (by decide) (by decide) (by decide))) (Sm.at hSz5169 (by decide) (hCz5159.core hAsz5162 (a := 119) rfl (by decide) (by decide) (by decide))) (Sm.at hSz5169 (by decide) (hCz5159.core hAsz5162 (a := 120) rfl (by decide) (by decide) (by decide)))) (seg4 (Sm.at hSz5169 (by decide) (hCz5159.core hAsz5162 (a := 121) rfl (by decide) (by decide) (by decide))) (Sm.at hSz5169 (by decide) (hCz5159.core hAsz5162 (a := 122) rfl (by decide) (by decide) (by decide))) (Sm.at hSz5169 (by decide) (hCz5159.core hAsz5162 (a := 123) rfl (by decide) (by decide) (by decide))) (Sm.at hSz5169 (by decide) (hCz5159.core hAsz5162 (a := 124) rfl (by decide) (by decide) (by decide)))) hG2 hS2 hIz5160.osw hIz5160.osr (by omega) emp2 rk2 hA2 (Nat.zero_le _) (fun q9 => absurd rfl q9)) (fun rz5181 Mz5182 hz5183 => ?_)
      obtain ⟨hAz5173, Wz5174, Rz5175, hBz5176, hSz5177, hDz5178, hEz5179, hFz5180⟩ := hz5183
      rw [hAz5173]
      show Zw 7 zm_CG_alike 49 [some (.ref 0), some (.int 1)] [.int (nI (if 0 < (f 111 0) ∧ wh (eAt f 111 121) (f 111 0) 0 0 (f 121 0) ≠ 0 then 1 else 0))] Mz5182 _
      refine zw_ne0N (a := if 0 < (f 111 0) ∧ wh (eAt f 111 121) (f 111 0) 0 0 (f 121 0) ≠ 0 then 1 else 0) rfl rfl (ite_b) (fun c49 => ?_) (fun c49 => ?_)
      · -- 49 to 54
        have hfit2 : tFit (eAt f 111 121) (f 111 0) (f 121 0) := ite_ne c49
        refine zw_n 1 rfl ?_
        refine zw_get (v := .ref 128) rfl (Sm.at hSz5177 (by decide) (Sm.at hSz5169 (by decide) (hCz5159.1 0 (by decide) (by decide) (by decide)))) rfl ?_
        refine zw_callV (as := []) (rest := []) rfl rfl rfl (Sm.at hSz5177 (by decide) (Sm.at hSz5169 (by decide) (hCz5159.1 128 (by decide) (by decide) (by decide)))) rfl rfl rfl (by decide) (c_build Mz5182 125 111 121 1 Wz5174 Rz5175 (f 111 0) (f 111 7) (f 112) (f 113) (f 114) (f 115) (f 116) (f 117) (f 118) (f 119) (f 120) (f 121 0) (f 122) (f 123) (f 124) (seg3 (hBz5176.get 0 rfl) (hBz5176.get 1 rfl) (hBz5176.get 2 rfl)) (seg10 (Sm.at hSz5177 (by decide) (Sm.at hSz5169 (by decide) (hCz5159.core hAsz5162 (a := 111) rfl (by decide) (by decide) (by decide)))) (Sm.at hSz5177 (by decide) (Sm.at hSz5169 (by decide) (hCz5159.core hAsz5162 (a := 112) rfl (by decide) (by decide) (by decide)))) (Sm.at hSz5177 (by decide) (Sm.at hSz5169 (by decide) (hCz5159.core hAsz5162 (a := 113) rfl (by decide) (by decide) (by decide)))) (Sm.at hSz5177 (by decide) (Sm.at hSz5169 (by decide) (hCz5159.core hAsz5162 (a := 114) rfl (by decide) (by decide) (by decide)))) (Sm.at hSz5177 (by decide) (Sm.at hSz5169 (by decide) (hCz5159.core hAsz5162 (a := 115) rfl (by decide) (by decide) (by decide)))) (Sm.at hSz5177 (by decide) (Sm.at hSz5169 (by decide) (hCz5159.core hAsz5162 (a := 116) rfl (by decide) (by decide) (by decide)))) (Sm.at hSz5177 (by decide) (Sm.at hSz5169 (by decide) (hCz5159.core hAsz5162 (a := 117) rfl (by decide) (by decide) (by decide)))) (Sm.at hSz5177 (by decide) (Sm.at hSz5169 (by decide) (hCz5159.core hAsz5162 (a := 118) rfl (by decide) (by decide) (by decide)))) (Sm.at hSz5177 (by decide) (Sm.at hSz5169 (by decide) (hCz5159.core hAsz5162 (a := 119) rfl (by decide) (by decide) (by decide)))) (Sm.at hSz5177 (by decide) (Sm.at hSz5169 (by decide) (hCz5159.core hAsz5162 (a := 120) rfl (by decide) (by decide) (by decide))))) (seg4 (Sm.at hSz5177 (by decide) (Sm.at hSz5169 (by decide) (hCz5159.core hAsz5162 (a := 121) rfl (by decide) (by decide) (by decide)))) (Sm.at hSz5177 (by decide) (Sm.at hSz5169 (by decide) (hCz5159.core hAsz5162 (a := 122) rfl (by decide) (by decide) (by decide)))) (Sm.at hSz5177 (by decide) (Sm.at hSz5169 (by decide) (hCz5159.core hAsz5162 (a := 123) rfl (by decide) (by decide) (by decide)))) (Sm.at hSz5177 (by decide) (Sm.at hSz5169 (by decide) (hCz5159.core hAsz5162 (a := 124) rfl (by decide) (by decide) (by decide))))) hG2 hS2 hDz5178 hEz5179 (fz5158 128 0) (fz5158 128 3) (fz5158 129) (fz5158 130) (fz5158 131) (fz5158 132) (fz5158 133) (seg6 (Sm.at hSz5177 (by decide) (Sm.at hSz5169 (by decide) (hCz5159.1 128 (by decide) (by decide) (by decide)))) (Sm.at hSz5177 (by decide) (Sm.at hSz5169 (by decide) (hCz5159.1 129 (by decide) (by decide) (by decide)))) (Sm.at hSz5177 (by decide) (Sm.at hSz5169 (by decide) (hCz5159.1 130 (by decide) (by decide) (by decide)))) (Sm.at hSz5177 (by decide) (Sm.at hSz5169 (by decide) (hCz5159.1 131 (by decide) (by decide) (by decide)))) (Sm.at hSz5177 (by decide) (Sm.at hSz5169 (by decide) (hCz5159.1 132 (by decide) (by decide) (by decide)))) (Sm.at hSz5177 (by decide) (Sm.at hSz5169 (by decide) (hCz5159.1 133 (by decide) (by decide) (by decide))))) ⟨by decide, by decide⟩ emp2 rk2 hA2 hFz5180 (hfit2)) (fun rz5194 Mz5195 hz5196 => ?_)
        obtain ⟨hAz5184, szz5185, wtz5186, Tz5187, Vz5188, Rz5189, Ez5190, hZz5191, hSz5192, hTz5193⟩ := hz5196
        rw [hAz5184]
        have hTr2 : TrR (eAt f 111 121) (f 111 0) (f 121 0) szz5185 Tz5187 := hTz5193.rows (E := (eAt f 111 121)) hA2 hG2.1 hG2.2.2.1 hS2.2.2.2 hG2.2.2.2.2.2.2 hS2.1 hfit2
        have hle2 := hTr2.le
        obtain ⟨hcz2, hcT2⟩ := hTz5193.can (by omega)
        have hcq2 : tEq szz5185 Tz5187 (tRw (eAt f 111 121) (f 111 0) (f 121 0)) := hcT2
        show Zw 7 zm_CG_alike 61 [some (.ref 0), some (.int 1)] [] Mz5195 _
        refine zw_n 1 rfl ?_
        refine zw_get (v := .ref 37) rfl (Sm.at hSz5192 (by decide) (Sm.at hSz5177 (by decide) (Sm.at hSz5169 (by decide) (hCz5159.1 0 (by decide) (by decide) (by decide))))) rfl ?_
        refine zw_n 1 rfl ?_
        refine zw_get (v := .ref 128) rfl (Sm.at hSz5192 (by decide) (Sm.at hSz5177 (by decide) (Sm.at hSz5169 (by decide) (hCz5159.1 0 (by decide) (by decide) (by decide))))) rfl ?_
        refine zw_callV (as := [.ref 128]) (rest := []) rfl rfl rfl (Sm.at hSz5192 (by decide) (Sm.at hSz5177 (by decide) (Sm.at hSz5169 (by decide) (hCz5159.1 37 (by decide) (by decide) (by decide))))) rfl rfl rfl (by decide) (c_isLike Mz5195 (fz5158 37 0) (fz5158 37 3) (fz5158 38) (fz5158 39) (fz5158 40) (fz5158 41) (fz5158 42) (seg6 (Sm.at hSz5192 (by decide) (Sm.at hSz5177 (by decide) (Sm.at hSz5169 (by decide) (hCz5159.1 37 (by decide) (by decide) (by decide))))) (Sm.at hSz5192 (by decide) (Sm.at hSz5177 (by decide) (Sm.at hSz5169 (by decide) (hCz5159.1 38 (by decide) (by decide) (by decide))))) (Sm.at hSz5192 (by decide) (Sm.at hSz5177 (by decide) (Sm.at hSz5169 (by decide) (hCz5159.1 39 (by decide) (by decide) (by decide))))) (Sm.at hSz5192 (by decide) (Sm.at hSz5177 (by decide) (Sm.at hSz5169 (by decide) (hCz5159.1 40 (by decide) (by decide) (by decide))))) (Sm.at hSz5192 (by decide) (Sm.at hSz5177 (by decide) (Sm.at hSz5169 (by decide) (hCz5159.1 41 (by decide) (by decide) (by decide))))) (Sm.at hSz5192 (by decide) (Sm.at hSz5177 (by decide) (Sm.at hSz5169 (by decide) (hCz5159.1 42 (by decide) (by decide) (by decide)))))) szz5185 wtz5186 Tz5187 Vz5188 Rz5189 Ez5190 (fz5158 133) (seg6 (hZz5191.get 0 rfl) (hZz5191.get 1 rfl) (hZz5191.get 2 rfl) (hZz5191.get 3 rfl) (hZz5191.get 4 rfl) (Sm.at hSz5192 (by decide) (Sm.at hSz5177 (by decide) (Sm.at hSz5169 (by decide) (hCz5159.1 133 (by decide) (by decide) (by decide)))))) (fz5158 34 2) 111 121 1 (fz5158 35) (fz5158 36) Wz5174 Rz5175 (seg3 (Sm.at hSz5192 (by decide) (Sm.at hSz5177 (by decide) (Sm.at hSz5169 (by decide) (hCz5159.1 34 (by decide) (by decide) (by decide))))) (Sm.at hSz5192 (by decide) (Sm.at hSz5177 (by decide) (Sm.at hSz5169 (by decide) (hCz5159.1 35 (by decide) (by decide) (by decide))))) (Sm.at hSz5192 (by decide) (Sm.at hSz5177 (by decide) (Sm.at hSz5169 (by decide) (hCz5159.1 36 (by decide) (by decide) (by decide)))))) (seg3 (Sm.at hSz5192 (by decide) (hBz5176.get 0 rfl)) (Sm.at hSz5192 (by decide) (hBz5176.get 1 rfl)) (Sm.at hSz5192 (by decide) (hBz5176.get 2 rfl))) (f 16 0) (f 16 7) (f 17) (f 18) (f 19) (f 20) (f 21) (f 22) (f 23) (f 24) (f 25) (seg10 (Sm.at hSz5192 (by decide) (Sm.at hSz5177 (by decide) (Sm.at hSz5169 (by decide) (hCz5159.core hAsz5162 (a := 16) rfl (by decide) (by decide) (by decide))))) (Sm.at hSz5192 (by decide) (Sm.at hSz5177 (by decide) (Sm.at hSz5169 (by decide) (hCz5159.core hAsz5162 (a := 17) rfl (by decide) (by decide) (by decide))))) (Sm.at hSz5192 (by decide) (Sm.at hSz5177 (by decide) (Sm.at hSz5169 (by decide) (hCz5159.core hAsz5162 (a := 18) rfl (by decide) (by decide) (by decide))))) (Sm.at hSz5192 (by decide) (Sm.at hSz5177 (by decide) (Sm.at hSz5169 (by decide) (hCz5159.core hAsz5162 (a := 19) rfl (by decide) (by decide) (by decide))))) (Sm.at hSz5192 (by decide) (Sm.at hSz5177 (by decide) (Sm.at hSz5169 (by decide) (hCz5159.core hAsz5162 (a := 20) rfl (by decide) (by decide) (by decide))))) (Sm.at hSz5192 (by decide) (Sm.at hSz5177 (by decide) (Sm.at hSz5169 (by decide) (hCz5159.core hAsz5162 (a := 21) rfl (by decide) (by decide) (by decide))))) (Sm.at hSz5192 (by decide) (Sm.at hSz5177 (by decide) (Sm.at hSz5169 (by decide) (hCz5159.core hAsz5162 (a := 22) rfl (by decide) (by decide) (by decide))))) (Sm.at hSz5192 (by decide) (Sm.at hSz5177 (by decide) (Sm.at hSz5169 (by decide) (hCz5159.core hAsz5162 (a := 23) rfl (by decide) (by decide) (by decide))))) (Sm.at hSz5192 (by decide) (Sm.at hSz5177 (by decide) (Sm.at hSz5169 (by decide) (hCz5159.core hAsz5162 (a := 24) rfl (by decide) (by decide) (by decide))))) (Sm.at hSz5192 (by decide) (Sm.at hSz5177 (by decide) (Sm.at hSz5169 (by decide) (hCz5159.core hAsz5162 (a := 25) rfl (by decide) (by decide) (by decide)))))) (f 111 0) (f 111 7) (f 112) (f 113) (f 114) (f 115) (f 116) (f 117) (f 118) (f 119) (f 120) (seg10 (Sm.at hSz5192 (by decide) (Sm.at hSz5177 (by decide) (Sm.at hSz5169 (by decide) (hCz5159.core hAsz5162 (a := 111) rfl (by decide) (by decide) (by decide))))) (Sm.at hSz5192 (by decide) (Sm.at hSz5177 (by decide) (Sm.at hSz5169 (by decide) (hCz5159.core hAsz5162 (a := 112) rfl (by decide) (by decide) (by decide))))) (Sm.at hSz5192 (by decide) (Sm.at hSz5177 (by decide) (Sm.at hSz5169 (by decide) (hCz5159.core hAsz5162 (a := 113) rfl (by decide) (by decide) (by decide))))) (Sm.at hSz5192 (by decide) (Sm.at hSz5177 (by decide) (Sm.at hSz5169 (by decide) (hCz5159.core hAsz5162 (a := 114) rfl (by decide) (by decide) (by decide))))) (Sm.at hSz5192 (by decide) (Sm.at hSz5177 (by decide) (Sm.at hSz5169 (by decide) (hCz5159.core hAsz5162 (a := 115) rfl (by decide) (by decide) (by decide))))) (Sm.at hSz5192 (by decide) (Sm.at hSz5177 (by decide) (Sm.at hSz5169 (by decide) (hCz5159.core hAsz5162 (a := 116) rfl (by decide) (by decide) (by decide))))) (Sm.at hSz5192 (by decide) (Sm.at hSz5177 (by decide) (Sm.at hSz5169 (by decide) (hCz5159.core hAsz5162 (a := 117) rfl (by decide) (by decide) (by decide))))) (Sm.at hSz5192 (by decide) (Sm.at hSz5177 (by decide) (Sm.at hSz5169 (by decide) (hCz5159.core hAsz5162 (a := 118) rfl (by decide) (by decide) (by decide))))) (Sm.at hSz5192 (by decide) (Sm.at hSz5177 (by decide) (Sm.at hSz5169 (by decide) (hCz5159.core hAsz5162 (a := 119) rfl (by decide) (by decide) (by decide))))) (Sm.at hSz5192 (by decide) (Sm.at hSz5177 (by decide) (Sm.at hSz5169 (by decide) (hCz5159.core hAsz5162 (a := 120) rfl (by decide) (by decide) (by decide)))))) (eAt f 16 26) (eAt f 111 121) (f 26 0) (f 121 0) hTr hTr2 hn8 hG2.1 hc20 hS2.1 hG.2.2.1 hG2.2.2.1 hG.2.1 hG2.2.1) (fun rz5202 Mz5203 hz5204 => ?_)
        obtain ⟨bz5197, hAz5198, hbz5199, hbiz5200, hMz5201⟩ := hz5204
        rw [hAz5198, hMz5201]
        show Zw 7 zm_CG_alike 72 [some (.ref 0), some (.int 1)] [.int (nI bz5197)] Mz5195 _
        refine zw_eq0N (a := bz5197) rfl rfl (by omega) (fun c72 => ?_) (fun c72 => ?_)
        · -- 72 to 79
          refine zw_n 1 rfl ?_
          refine zw_top (x' := nI 0) (by decide) ?_
          exact zw_iret rfl rfl (⟨bz5197, by rw [if_pos ⟨hfit, hfit2⟩, (show bz5197 = 0 by omega)], hbz5199, fun _ => by rw [← hcz, ← hcz2, ← likB_cg hcq hcq2]; exact hbiz5200, fset (fset (fset (fset (fset (fset (fset (fset fz5158 132 Ez5190) 131 Rz5189) 130 Vz5188) 129 Tz5187) 128 (up (up (fz5158 128) 0 szz5185) 3 wtz5186)) 127 Rz5175) 126 Wz5174) 125 (up (up (up (fz5158 125) 0 111) 1 121) 2 1), CC.of (f' := fset (fset (fset (fset (fset (fset (fset (fset fz5158 132 Ez5190) 131 Rz5189) 130 Vz5188) 129 Tz5187) 128 (up (up (fz5158 128) 0 szz5185) 3 wtz5186)) 127 Rz5175) 126 Wz5174) 125 (up (up (up (fz5158 125) 0 111) 1 121) 2 1)) (S := [125, 126, 127, 128, 129, 130, 131, 132]) hCz5159 (Sm.tw (Sm.tw (Sm.tw Sm.rf hSz5169 (by decide)) hSz5177 (by decide)) hSz5192 (by decide)) ⟨by decide, by decide⟩ (d1_cons (Sm.at hSz5192 (by decide) (hBz5176.get 0 rfl)) (d1_cons (Sm.at hSz5192 (by decide) (hBz5176.get 1 rfl)) (d1_cons (Sm.at hSz5192 (by decide) (hBz5176.get 2 rfl)) (d1_cons (hZz5191.get 0 rfl) (d1_cons (hZz5191.get 1 rfl) (d1_cons (hZz5191.get 2 rfl) (d1_cons (hZz5191.get 3 rfl) (d1_cons (hZz5191.get 4 rfl) d1_nil)))))))) (fs_c (fs_c (fs_c (fs_c (fs_c (fs_c (fs_c (fs_c fs_n)))))))), ⟨⟨hIz5160.tl, hIz5160.tx, hIz5160.gram, hIz5160.tok, hIz5160.bef, hIz5160.grn, hIz5160.mvd, hIz5160.hsz, hIz5160.hen, hIz5160.past, hIz5160.lln, hIz5160.kh, hIz5160.kg, hIz5160.kt, hIz5160.cst, hIz5160.csw, hIz5160.csr, Nat.le_refl _, hDz5178, hEz5179, hIz5160.tst, hIz5160.rkn, hIz5160.fnd, hIz5160.ofs⟩, hIz5160.cok, hIz5160.blm, hIz5160.tre, hIz5160.rep⟩, Smc.tr hSmz5161 (Smc.of (S := [125, 126, 127, 128, 129, 130, 131, 132]) (Sm.tw (Sm.tw (Sm.tw Sm.rf hSz5169 (by decide)) hSz5177 (by decide)) hSz5192 (by decide)) (by decide)), Asame.tr hAsz5162 (Asame.of (S := [125, 126, 127, 128, 129, 130, 131, 132]) (fs_c (fs_c (fs_c (fs_c (fs_c (fs_c (fs_c (fs_c fs_n)))))))) rfl (by decide))⟩)
        · -- 72 to 75
          refine zw_n 2 rfl ?_
          refine zw_top (x' := nI 1) (by decide) ?_
          exact zw_iret rfl rfl (⟨bz5197, by rw [if_pos ⟨hfit, hfit2⟩, (show bz5197 = 1 by omega)], hbz5199, fun _ => by rw [← hcz, ← hcz2, ← likB_cg hcq hcq2]; exact hbiz5200, fset (fset (fset (fset (fset (fset (fset (fset fz5158 132 Ez5190) 131 Rz5189) 130 Vz5188) 129 Tz5187) 128 (up (up (fz5158 128) 0 szz5185) 3 wtz5186)) 127 Rz5175) 126 Wz5174) 125 (up (up (up (fz5158 125) 0 111) 1 121) 2 1), CC.of (f' := fset (fset (fset (fset (fset (fset (fset (fset fz5158 132 Ez5190) 131 Rz5189) 130 Vz5188) 129 Tz5187) 128 (up (up (fz5158 128) 0 szz5185) 3 wtz5186)) 127 Rz5175) 126 Wz5174) 125 (up (up (up (fz5158 125) 0 111) 1 121) 2 1)) (S := [125, 126, 127, 128, 129, 130, 131, 132]) hCz5159 (Sm.tw (Sm.tw (Sm.tw Sm.rf hSz5169 (by decide)) hSz5177 (by decide)) hSz5192 (by decide)) ⟨by decide, by decide⟩ (d1_cons (Sm.at hSz5192 (by decide) (hBz5176.get 0 rfl)) (d1_cons (Sm.at hSz5192 (by decide) (hBz5176.get 1 rfl)) (d1_cons (Sm.at hSz5192 (by decide) (hBz5176.get 2 rfl)) (d1_cons (hZz5191.get 0 rfl) (d1_cons (hZz5191.get 1 rfl) (d1_cons (hZz5191.get 2 rfl) (d1_cons (hZz5191.get 3 rfl) (d1_cons (hZz5191.get 4 rfl) d1_nil)))))))) (fs_c (fs_c (fs_c (fs_c (fs_c (fs_c (fs_c (fs_c fs_n)))))))), ⟨⟨hIz5160.tl, hIz5160.tx, hIz5160.gram, hIz5160.tok, hIz5160.bef, hIz5160.grn, hIz5160.mvd, hIz5160.hsz, hIz5160.hen, hIz5160.past, hIz5160.lln, hIz5160.kh, hIz5160.kg, hIz5160.kt, hIz5160.cst, hIz5160.csw, hIz5160.csr, Nat.le_refl _, hDz5178, hEz5179, hIz5160.tst, hIz5160.rkn, hIz5160.fnd, hIz5160.ofs⟩, hIz5160.cok, hIz5160.blm, hIz5160.tre, hIz5160.rep⟩, Smc.tr hSmz5161 (Smc.of (S := [125, 126, 127, 128, 129, 130, 131, 132]) (Sm.tw (Sm.tw (Sm.tw Sm.rf hSz5169 (by decide)) hSz5177 (by decide)) hSz5192 (by decide)) (by decide)), Asame.tr hAsz5162 (Asame.of (S := [125, 126, 127, 128, 129, 130, 131, 132]) (fs_c (fs_c (fs_c (fs_c (fs_c (fs_c (fs_c (fs_c fs_n)))))))) rfl (by decide))⟩)
      · -- 49 to 52
        refine zw_n 1 rfl ?_
        exact zw_iret rfl rfl (⟨0, by rw [if_neg (fun q9 => ite_eq0 c49 q9.2)], by decide, fun q9 => absurd q9 (fun q9 => ite_eq0 c49 q9.2), fset (fset (fset fz5158 127 Rz5175) 126 Wz5174) 125 (up (up (up (fz5158 125) 0 111) 1 121) 2 1), CC.of (f' := fset (fset (fset fz5158 127 Rz5175) 126 Wz5174) 125 (up (up (up (fz5158 125) 0 111) 1 121) 2 1)) (S := [125, 126, 127, 128, 129, 130, 131, 132]) hCz5159 (Sm.tw (Sm.tw Sm.rf hSz5169 (by decide)) hSz5177 (by decide)) ⟨by decide, by decide⟩ (d1_cons (hBz5176.get 0 rfl) (d1_cons (hBz5176.get 1 rfl) (d1_cons (hBz5176.get 2 rfl) (d1_cons (Sm.at hSz5177 (by decide) (Sm.at hSz5169 (by decide) (hCz5159.1 128 (by decide) (by decide) (by decide)))) (d1_cons (Sm.at hSz5177 (by decide) (Sm.at hSz5169 (by decide) (hCz5159.1 129 (by decide) (by decide) (by decide)))) (d1_cons (Sm.at hSz5177 (by decide) (Sm.at hSz5169 (by decide) (hCz5159.1 130 (by decide) (by decide) (by decide)))) (d1_cons (Sm.at hSz5177 (by decide) (Sm.at hSz5169 (by decide) (hCz5159.1 131 (by decide) (by decide) (by decide)))) (d1_cons (Sm.at hSz5177 (by decide) (Sm.at hSz5169 (by decide) (hCz5159.1 132 (by decide) (by decide) (by decide)))) d1_nil)))))))) (fs_c (fs_c (fs_c (fs_k (fs_k (fs_k (fs_k (fs_k fs_n)))))))), ⟨⟨hIz5160.tl, hIz5160.tx, hIz5160.gram, hIz5160.tok, hIz5160.bef, hIz5160.grn, hIz5160.mvd, hIz5160.hsz, hIz5160.hen, hIz5160.past, hIz5160.lln, hIz5160.kh, hIz5160.kg, hIz5160.kt, hIz5160.cst, hIz5160.csw, hIz5160.csr, Nat.le_refl _, hDz5178, hEz5179, hIz5160.tst, hIz5160.rkn, hIz5160.fnd, hIz5160.ofs⟩, hIz5160.cok, hIz5160.blm, hIz5160.tre, hIz5160.rep⟩, Smc.tr hSmz5161 (Smc.of (S := [125, 126, 127, 128, 129, 130, 131, 132]) (Sm.tw (Sm.tw Sm.rf hSz5169 (by decide)) hSz5177 (by decide)) (by decide)), Asame.tr hAsz5162 (Asame.of (S := [125, 126, 127, 128, 129, 130, 131, 132]) (fs_c (fs_c (fs_c (fs_k (fs_k (fs_k (fs_k (fs_k fs_n)))))))) rfl (by decide))⟩)
    · -- 12 to 15
      refine zw_n 1 rfl ?_
      exact zw_iret rfl rfl (⟨0, by rw [if_neg (fun q9 => ite_eq0 c12 q9.1)], by decide, fun q9 => absurd q9 (fun q9 => ite_eq0 c12 q9.1), fz5158, hCz5159, hIz5160, hSmz5161, hAsz5162⟩)

set_option maxHeartbeats 4000000 in
set_option maxRecDepth 100000 in
theorem c_alikeE0 (Mq : zM) (f : Nat → Nat → Nat) (L : Nat) (hC : CC Mq f) (hI : CInv L f) (hk : f 95 0 = 0) : Zm 7 zm_CG_alike [.ref 0, .int 0] Mq (fun r9 M1 => r9 = some (.int (-1)) ∧ M1 = Mq) := by
  show Zw 7 zm_CG_alike 0 [some (.ref 0), some (.int 0)] [] Mq _
  obtain ⟨gk, tk, htk, h94, hgk⟩ := hC.2.2
  refine zw_n 2 rfl ?_
  refine zw_callV (as := [.int 0]) (rest := []) rfl rfl rfl (hC.1 0 (by decide) (by decide) (by decide)) rfl rfl rfl (by decide) (c_isKept0 Mq f L hC hI) (fun rz5205 Mz5206 hz5207 => ?_)
  rw [hz5207.1, hz5207.2]
  show Zw 7 zm_CG_alike 5 [some (.ref 0), some (.int 0)] [.int (nI (if f 95 0 = 0 then 0 else 1))] Mq _
  refine zw_eq0N (a := if f 95 0 = 0 then 0 else 1) rfl rfl (by split <;> decide) (fun c5 => ?_) (fun c5 => ?_)
  · -- 5 to 15
    refine zw_n 1 rfl ?_
    exact zw_iret rfl rfl (⟨rfl, rfl⟩)
  · -- 5 to 8
    exfalso
    rw [if_pos hk] at c5; exact c5 rfl

set_option maxHeartbeats 4000000 in
set_option maxRecDepth 100000 in
theorem c_alikeE1 (Mq : zM) (f : Nat → Nat → Nat) (L : Nat) (hC : CC Mq f) (hI : CInv L f) (hk : f 110 0 = 0) : Zm 7 zm_CG_alike [.ref 0, .int 1] Mq (fun r9 M1 => r9 = some (.int (-1)) ∧ M1 = Mq) := by
  show Zw 7 zm_CG_alike 0 [some (.ref 0), some (.int 1)] [] Mq _
  obtain ⟨gk, tk, htk, h94, hgk⟩ := hC.2.2
  refine zw_n 2 rfl ?_
  refine zw_callV (as := [.int 1]) (rest := []) rfl rfl rfl (hC.1 0 (by decide) (by decide) (by decide)) rfl rfl rfl (by decide) (c_isKept1 Mq f L hC hI) (fun rz5208 Mz5209 hz5210 => ?_)
  rw [hz5210.1, hz5210.2]
  show Zw 7 zm_CG_alike 5 [some (.ref 0), some (.int 1)] [.int (nI (if f 110 0 = 0 then 0 else 1))] Mq _
  refine zw_eq0N (a := if f 110 0 = 0 then 0 else 1) rfl rfl (by split <;> decide) (fun c5 => ?_) (fun c5 => ?_)
  · -- 5 to 15
    refine zw_n 1 rfl ?_
    exact zw_iret rfl rfl (⟨rfl, rfl⟩)
  · -- 5 to 8
    exfalso
    rw [if_pos hk] at c5; exact c5 rfl

set_option maxHeartbeats 4000000 in
set_option maxRecDepth 100000 in
theorem c_alikeNo (Mq : zM) (f : Nat → Nat → Nat) (L : Nat) (hC : CC Mq f) (hI : CInv L f) (x : Int32) (hx : ¬ (0 ≤ x.toInt ∧ x.toInt < 2)) : Zm 7 zm_CG_alike [.ref 0, .int x] Mq (fun r9 M1 => r9 = some (.int (-1)) ∧ M1 = Mq) := by
  show Zw 7 zm_CG_alike 0 [some (.ref 0), some (.int x)] [] Mq _
  obtain ⟨gk, tk, htk, h94, hgk⟩ := hC.2.2
  refine zw_n 2 rfl ?_
  refine zw_callV (as := [.int x]) (rest := []) rfl rfl rfl (hC.1 0 (by decide) (by decide) (by decide)) rfl rfl rfl (by decide) (c_isKeptNo Mq f L hC hI x hx) (fun rz5211 Mz5212 hz5213 => ?_)
  rw [hz5213.1, hz5213.2]
  show Zw 7 zm_CG_alike 5 [some (.ref 0), some (.int x)] [.int 0] Mq _
  refine zw_if rfl ?_
  show Zw 7 zm_CG_alike 15 [some (.ref 0), some (.int x)] [] Mq _
  refine zw_n 1 rfl ?_
  exact zw_iret rfl rfl (⟨rfl, rfl⟩)
