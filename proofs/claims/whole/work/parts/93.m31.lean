set_option maxHeartbeats 4000000 in
set_option maxRecDepth 100000 in
theorem m_draftOf (Mq : zM) (o : Nat → Nat) (f : Nat → Nat → Nat) (hM : MM Mq o f) (n x : Nat) (hn0 : f 145 0 = n) (hn : n ≤ 8) (hx : x < 2147483648) (hb0 : ∀ q, f 145 q < 2147483648) : Zm 0 zm_MO_draftOf [.ref 139, .int (nI x)] Mq (fun r9 M1 => r9 = some (.int (nI (srch (fun q => f 145 (1 + q) == x) 0 n))) ∧ M1 = Mq) := by
  show Zw 0 zm_MO_draftOf 0 [some (.ref 139), some (.int (nI x)), none] [] Mq _
  refine zw_n 2 (ls' := [some (.ref 139), some (.int (nI x)), some (.int 0)]) rfl ?_
  have lp2 : ∀ (n2 : Nat) (i : Nat), (i ≤ n ∧ srch (fun q => f 145 (1 + q) == x) 0 n = srch (fun q => f 145 (1 + q) == x) i (n - i)) → n - i < n2 → Zw 0 zm_MO_draftOf 2 [some (.ref 139), some (.int (nI x)), some (.int (nI i))] [] Mq (fun r9 M1 => r9 = some (.int (nI (srch (fun q => f 145 (1 + q) == x) 0 n))) ∧ M1 = Mq) := by
    intro n2
    induction n2 with
    | zero => intro i _ h; exact absurd h (Nat.not_lt_zero _)
    | succ n2 ih2 =>
      intro i hi2 hm2
      refine zw_n 2 rfl ?_
      refine zw_get (v := .ref 145) rfl hM.1 rfl ?_
      refine zw_n 1 rfl ?_
      refine zw_iald (f := ai (f 145)) (j := 0) rfl (hM.2 145 (by decide) (by decide)) rfl (by decide) (by omega) ?_
      refine zw_top (x' := (nI n)) (congrArg nI hn0) ?_
      refine zw_igeN (a := i) (b := n) rfl rfl rfl (by omega) (by omega) (fun c9 => ?_) (fun c9 => ?_)
      · -- 9 to 32
        refine zw_n 1 rfl ?_
        exact zw_iret rfl rfl (⟨by rw [hi2.2, srch_end (by omega)]; decide, rfl⟩)
      · -- 9 to 12
        refine zw_n 1 rfl ?_
        refine zw_get (v := .ref 145) rfl hM.1 rfl ?_
        refine zw_n 3 rfl ?_
        refine zw_top (na (a := 1) (b := i) rfl rfl) ?_
        refine zw_iald (f := ai (f 145)) (j := (1 + i)) rfl (hM.2 145 (by decide) (by decide)) rfl (by decide) (by omega) ?_
        have bz3035 := hb0 (1 + i)
        refine zw_n 1 rfl ?_
        refine zw_ineN (a := (f 145) (1 + i)) (b := x) rfl rfl rfl (by omega) (by omega) (fun c21 => ?_) (fun c21 => ?_)
        · -- 21 to 26
          refine zw_inc rfl (x' := (nI (i + 1))) (ls' := [some (.ref 139), some (.int (nI x)), some (.int (nI (i + 1)))]) rfl (na (a := i) (b := 1) rfl rfl) rfl ?_
          refine zw_n 1 rfl ?_
          exact ih2 (i + 1) (⟨by omega, by rw [hi2.2, srch_no (by omega) (by simpa using c21), show n - (i + 1) = n - i - 1 by omega]⟩) (by omega)
        · -- 21 to 24
          refine zw_n 1 rfl ?_
          exact zw_iret rfl rfl (⟨by rw [hi2.2, srch_yes (by omega) (by simpa using c21)], rfl⟩)
  exact lp2 _ 0 (⟨Nat.zero_le _, rfl⟩) (Nat.lt_succ_self _)

set_option maxHeartbeats 4000000 in
set_option maxRecDepth 100000 in
theorem m_readRule (Mq : zM) (o : Nat → Nat) (f : Nat → Nat → Nat) (hM : MM Mq o f) (tx : Nat → Nat) (hX : ∀ q, q < o 7 → f 144 q = byv (tx q)) (htx : ∀ q, tx q < 256) (htl : o 7 ≤ 240) (hp : o 8 ≤ o 7) (hg : o 10 = 1) (i : Nat) (hi8 : i ≤ 8) (hi0 : f 145 0 = i) (hpc : o 8 = cP tx (o 7) i) (hnm : ∀ q, q < i → f 145 (1 + q) = cN tx (o 7) q) (hb0 : ∀ q, f 145 q < 2147483648) : Zm 4 zm_MO_readRule [.ref 139] Mq (fun r9 M1 => r9 = none ∧ Sm Mq M1 [139, 145, 146, 147] ∧ ((∃ D9 N9 Q9, MM M1 (up o 8 (bE tx (o 7) (cA tx (o 7) i))) (fset (fset (fset f 147 Q9) 146 N9) 145 D9) ∧ (cF tx (o 7) i = NO ∨ cF tx (o 7) i = bE tx (o 7) (cA tx (o 7) i)) ∧ i < 8 ∧ cA tx (o 7) i ≤ o 7 ∧ (∀ j, j < bK tx (o 7) (cA tx (o 7) i) → bZ tx (o 7) (cA tx (o 7) i) j = false) ∧ bK tx (o 7) (cA tx (o 7) i) < 4 ∧ MRul tx (o 7) (cA tx (o 7) i) i (bK tx (o 7) (cA tx (o 7) i) + 1) D9 Q9 ∧ (∀ q, D9 q < 2147483648) ∧ (∀ q, ¬ rR_ i q → q ≠ 0 → q ≠ 1 + i → D9 q = f 145 q) ∧ D9 0 = i + 1 ∧ D9 (1 + i) = cN tx (o 7) i ∧ (∀ q, ¬ (i * 20 ≤ q ∧ q < i * 20 + 20) → Q9 q = f 147 q) ∧ N9 = up (f 146) i (nQ tx (o 7) (cP tx (o 7) i)) ∧ cF tx (o 7) i = bF tx (o 7) (cA tx (o 7) i)) ∨ (cF tx (o 7) i ≠ NO ∧ ∃ P9 f9, MM M1 (up (up (up o 8 P9) 9 (cF tx (o 7) i)) 10 0) f9 ∧ P9 ≤ o 7 ∧ (∀ q, f9 145 q < 2147483648) ∧ Dsame f f9))) := by
  show Zw 4 zm_MO_readRule 0 [some (.ref 139), none, none] [] Mq _
  refine zw_n 1 rfl ?_
  refine zw_callV (as := []) (rest := []) rfl rfl rfl hM.1 rfl rfl rfl (by decide) (m_next Mq o f hM tx hX htx htl (show o 8 ≤ o 7 by omega)) (fun rz3039 Mz3040 hz3041 => ?_)
  obtain ⟨hAz3036, hMMz3037, hSz3038⟩ := hz3041
  rw [hAz3036]
  have hgehAz3036 := sk_ge tx (o 7) (o 8)
  have hlehAz3036 := @sk_le tx (o 7) (o 8) (by omega)
  show Zw 4 zm_MO_readRule 4 [some (.ref 139), none, none] [.int (nI (mv tx (o 7) (sk tx (o 7) (o 8))))] Mz3040 _
  refine zw_n 2 (ls' := [some (.ref 139), some (.int (nI (mv tx (o 7) (sk tx (o 7) (o 8))))), none]) rfl ?_
  refine zw_get (v := .ref 145) rfl hMMz3037.1 rfl ?_
  refine zw_n 1 rfl ?_
  refine zw_iald (f := ai (f 145)) (j := 0) rfl (Sm.at hSz3038 (by decide) (hM.2 145 (by decide) (by decide))) rfl (by decide) (by omega) ?_
  refine zw_top (x' := (nI i)) (congrArg nI hi0) ?_
  refine zw_n 3 (ls' := [some (.ref 139), some (.int (nI (mv tx (o 7) (sk tx (o 7) (o 8))))), some (.int (nI i))]) rfl ?_
  refine zw_ineN (a := i) (b := 8) rfl rfl rfl (by omega) (by omega) (fun c15 => ?_) (fun c15 => ?_)
  · -- 15 to 29
    refine zw_n 1 rfl ?_
    refine zw_callS (as := [.int (nI (mv tx (o 7) (sk tx (o 7) (o 8))))]) (rest := []) rfl rfl rfl rfl rfl rfl (by decide) (m_isName _ (sk tx (o 7) (o 8)) (o 7) tx htx) (fun rz3042 Mz3043 hz3044 => ?_)
    rw [hz3044.1, hz3044.2]
    show Zw 4 zm_MO_readRule 33 [some (.ref 139), some (.int (nI (mv tx (o 7) (sk tx (o 7) (o 8))))), some (.int (nI i))] [.int (nI (if nmB (hr tx (o 7) (sk tx (o 7) (o 8))) = true then 1 else 0))] Mz3040 _
    refine zw_eq0N (a := if nmB (hr tx (o 7) (sk tx (o 7) (o 8))) = true then 1 else 0) rfl rfl (ite_b) (fun c33 => ?_) (fun c33 => ?_)
    · -- 33 to 45
      have hbd : cD tx (o 7) i = true := by
        cases hc : cD tx (o 7) i with
        | true => rfl
        | false =>
          exfalso
          have h9 := (nOk_c (gn := fun q => f 145 (1 + q)) (fun q hq => hnm q hq)).mpr hc
          unfold nOk nQ at h9
          rw [← hpc] at h9
          first
            | exact ite_eq0 c33 h9.1
            | exact c42 h9.2.2
            | (have := h9.2.1; omega)
      refine zw_n 1 rfl ?_
      refine zw_callV (as := []) (rest := []) rfl rfl rfl hMMz3037.1 rfl rfl rfl (by decide) (m_wrong Mz3040 (up o 8 (sk tx (o 7) (o 8))) f (MM.of (o' := up o 8 (sk tx (o 7) (o 8))) (f' := f) hM (Sm.tw Sm.rf hSz3038 (by decide)) hMMz3037.1 (c1_skip (c1_cons (Sm.at hSz3038 (by decide) (hM.2 145 (by decide) (by decide))) (c1_cons (Sm.at hSz3038 (by decide) (hM.2 146 (by decide) (by decide))) (c1_cons (Sm.at hSz3038 (by decide) (hM.2 147 (by decide) (by decide))) c1_nil)))) (fs_k (fs_k (fs_k (fs_k fs_n))))) hg) (fun rz3048 Mz3049 hz3050 => ?_)
      obtain ⟨hAz3045, hMMz3046, hSz3047⟩ := hz3050
      rw [hAz3045]
      show Zw 4 zm_MO_readRule 49 [some (.ref 139), some (.int (nI (mv tx (o 7) (sk tx (o 7) (o 8))))), some (.int (nI i))] [] Mz3049 _
      refine zw_vret rfl rfl ?_
      have hf9 : cF tx (o 7) i = sk tx (o 7) (o 8) := by rw [cF_bad hbd, hpc]; rfl
      exact ⟨rfl, Sm.tw (Sm.tw Sm.rf hSz3038 (by decide)) hSz3047 (by decide), Or.inr ⟨by rw [hf9]; unfold NO; omega, sk tx (o 7) (o 8), f, by rw [hf9]; exact (MM.of (o' := up (up (up o 8 (sk tx (o 7) (o 8))) 9 (sk tx (o 7) (o 8))) 10 0) (f' := f) hM (Sm.tw (Sm.tw Sm.rf hSz3038 (by decide)) hSz3047 (by decide)) hMMz3046.1 (c1_skip (c1_cons (Sm.at hSz3047 (by decide) (Sm.at hSz3038 (by decide) (hM.2 145 (by decide) (by decide)))) (c1_cons (Sm.at hSz3047 (by decide) (Sm.at hSz3038 (by decide) (hM.2 146 (by decide) (by decide)))) (c1_cons (Sm.at hSz3047 (by decide) (Sm.at hSz3038 (by decide) (hM.2 147 (by decide) (by decide)))) c1_nil)))) (fs_k (fs_k (fs_k (fs_k fs_n))))), by omega, hb0, Dsame.of (S := [139, 145, 146, 147]) (fs_k (fs_k (fs_k (fs_k fs_n)))) (by decide)⟩⟩
    · -- 33 to 36
      refine zw_n 2 rfl ?_
      have hnm9 := ite_ne c33
      refine zw_top (x' := nI (hr tx (o 7) (sk tx (o 7) (o 8)))) (congrArg nI (mv_val (by have := nm_lt hnm9; omega))) ?_
      refine zw_callV (as := [.int (nI (hr tx (o 7) (sk tx (o 7) (o 8))))]) (rest := []) rfl rfl rfl hMMz3037.1 rfl rfl rfl (by decide) (m_draftOf Mz3040 (up o 8 (sk tx (o 7) (o 8))) f (MM.of (o' := up o 8 (sk tx (o 7) (o 8))) (f' := f) hM (Sm.tw Sm.rf hSz3038 (by decide)) hMMz3037.1 (c1_skip (c1_cons (Sm.at hSz3038 (by decide) (hM.2 145 (by decide) (by decide))) (c1_cons (Sm.at hSz3038 (by decide) (hM.2 146 (by decide) (by decide))) (c1_cons (Sm.at hSz3038 (by decide) (hM.2 147 (by decide) (by decide))) c1_nil)))) (fs_k (fs_k (fs_k (fs_k fs_n))))) i (hr tx (o 7) (sk tx (o 7) (o 8))) hi0 (by omega) (by have := nm_lt hnm9; omega) hb0) (fun rz3051 Mz3052 hz3053 => ?_)
      rw [hz3053.1, hz3053.2]
      show Zw 4 zm_MO_readRule 41 [some (.ref 139), some (.int (nI (mv tx (o 7) (sk tx (o 7) (o 8))))), some (.int (nI i))] [.int (nI (srch (fun q => f 145 (1 + q) == (hr tx (o 7) (sk tx (o 7) (o 8)))) 0 i))] Mz3040 _
      refine zw_n 1 rfl ?_
      refine zw_ieqM (a := srch (fun q => f 145 (1 + q) == (hr tx (o 7) (sk tx (o 7) (o 8)))) 0 i) rfl rfl (by rcases srch_spec (fun q => f 145 (1 + q) == hr tx (o 7) (sk tx (o 7) (o 8))) i 0 with ⟨q9, _⟩ | ⟨_, q9, _, _⟩ <;> (first | (rw [q9]; decide) | omega)) (fun c42 => ?_) (fun c42 => ?_)
      · -- 42 to 50
        have hi7 : i < 8 := by have := nm_in hnm9; omega
        have hnl := nm_lt hnm9
        have hnin := nm_in hnm9
        have hcd : cD tx (o 7) i = false := (nOk_c (gn := fun q => f 145 (1 + q)) (fun q hq => hnm q hq)).mp (by unfold nOk nQ; rw [← hpc]; exact ⟨hnm9, hi7, c42⟩)
        refine zw_n 1 rfl ?_
        refine zw_get (v := .ref 145) rfl hMMz3037.1 rfl ?_
        refine zw_n 3 rfl ?_
        refine zw_top (na (a := 1) (b := i) rfl rfl) ?_
        refine zw_n 1 rfl ?_
        refine zw_iastN (g := (f 145)) (j := (1 + i)) (v := (hr tx (o 7) (sk tx (o 7) (o 8)))) rfl (Sm.at hSz3038 (by decide) (hM.2 145 (by decide) (by decide))) rfl (by decide) (by omega) (congrArg nI (mv_val (by omega))) ?_
        generalize ez3055 : List.set Mz3040 145 _ = Mz3054
        refine zw_n 1 rfl ?_
        refine zw_get (v := .ref 145) rfl (zat_set ez3055 (by decide) hMMz3037.1) rfl ?_
        refine zw_n 3 rfl ?_
        refine zw_top (na (a := 9) (b := i) rfl rfl) ?_
        refine zw_n 1 rfl ?_
        refine zw_iastN (g := (up (f 145) (1 + i) (hr tx (o 7) (sk tx (o 7) (o 8))))) (j := (9 + i)) (v := 0) rfl (zat_self ez3055 (Sm.at hSz3038 (by decide) (hM.2 145 (by decide) (by decide)))) rfl (by decide) (by omega) (rfl) ?_
        generalize ez3057 : List.set Mz3054 145 _ = Mz3056
        refine zw_n 1 rfl ?_
        refine zw_get (v := .ref 146) rfl (zat_set ez3057 (by decide) (zat_set ez3055 (by decide) hMMz3037.1)) rfl ?_
        refine zw_n 2 rfl ?_
        refine zw_get (v := .int (nI (sk tx (o 7) (o 8)))) rfl (zat_set ez3057 (by decide) (zat_set ez3055 (by decide) hMMz3037.1)) rfl ?_
        refine zw_iastN (g := (f 146)) (j := i) (v := (sk tx (o 7) (o 8))) rfl (zat_set ez3057 (by decide) (zat_set ez3055 (by decide) (Sm.at hSz3038 (by decide) (hM.2 146 (by decide) (by decide))))) rfl (by decide) (by omega) (rfl) ?_
        generalize ez3059 : List.set Mz3056 146 _ = Mz3058
        refine zw_n 1 rfl ?_
        refine zw_get (v := .ref 145) rfl (zat_set ez3059 (by decide) (zat_set ez3057 (by decide) (zat_set ez3055 (by decide) hMMz3037.1))) rfl ?_
        refine zw_n 2 rfl ?_
        refine zw_iald (f := ai (up (up (f 145) (1 + i) (hr tx (o 7) (sk tx (o 7) (o 8)))) (9 + i) 0)) (j := 0) rfl (zat_set ez3059 (by decide) (zat_self ez3057 (zat_self ez3055 (Sm.at hSz3038 (by decide) (hM.2 145 (by decide) (by decide)))))) rfl (by decide) (by omega) ?_
        refine zw_top (x' := (nI i)) (congrArg nI ((up_n (by omega)).trans ((up_n (by omega)).trans hi0))) ?_
        refine zw_n 2 rfl ?_
        refine zw_top (na (a := i) (b := 1) rfl rfl) ?_
        refine zw_iastN (g := (up (up (f 145) (1 + i) (hr tx (o 7) (sk tx (o 7) (o 8)))) (9 + i) 0)) (j := 0) (v := (i + 1)) rfl (zat_set ez3059 (by decide) (zat_self ez3057 (zat_self ez3055 (Sm.at hSz3038 (by decide) (hM.2 145 (by decide) (by decide)))))) rfl (by decide) (by omega) (rfl) ?_
        generalize ez3061 : List.set Mz3058 145 _ = Mz3060
        refine zw_n 2 rfl ?_
        refine zw_get (v := .int (nI (sk tx (o 7) (o 8)))) rfl (zat_set ez3061 (by decide) (zat_set ez3059 (by decide) (zat_set ez3057 (by decide) (zat_set ez3055 (by decide) hMMz3037.1)))) rfl ?_
        refine zw_n 2 rfl ?_
        refine zw_top (na (a := sk tx (o 7) (o 8)) (b := 1) rfl rfl) ?_
        refine zw_put rfl (zat_set ez3061 (by decide) (zat_set ez3059 (by decide) (zat_set ez3057 (by decide) (zat_set ez3055 (by decide) hMMz3037.1)))) (rfl) (Nat.le_of_ble_eq_true rfl) ?_
        generalize ez3063 : List.set Mz3060 139 _ = Mz3062
        refine zw_n 2 rfl ?_
        refine zw_callV (as := [.int 58]) (rest := []) rfl rfl rfl (zat_self ez3063 (zat_set ez3061 (by decide) (zat_set ez3059 (by decide) (zat_set ez3057 (by decide) (zat_set ez3055 (by decide) hMMz3037.1))))) rfl rfl rfl (by decide) (m_takes Mz3062 (up o 8 ((sk tx (o 7) (o 8)) + 1)) (fset (fset f 146 (up (f 146) i (sk tx (o 7) (o 8)))) 145 (up (up (up (f 145) (1 + i) (hr tx (o 7) (sk tx (o 7) (o 8)))) (9 + i) 0) 0 (i + 1))) (MM.of (o' := up o 8 ((sk tx (o 7) (o 8)) + 1)) (f' := fset (fset f 146 (up (f 146) i (sk tx (o 7) (o 8)))) 145 (up (up (up (f 145) (1 + i) (hr tx (o 7) (sk tx (o 7) (o 8)))) (9 + i) 0) 0 (i + 1))) hM (Sm.tset (Sm.tset (Sm.tset (Sm.tset (Sm.tset (Sm.tw Sm.rf hSz3038 (by decide)) ez3055 (by decide)) ez3057 (by decide)) ez3059 (by decide)) ez3061 (by decide)) ez3063 (by decide)) (zat_self ez3063 (zat_set ez3061 (by decide) (zat_set ez3059 (by decide) (zat_set ez3057 (by decide) (zat_set ez3055 (by decide) hMMz3037.1))))) (c1_skip (c1_cons (zat_set ez3063 (by decide) (zat_self ez3061 (zat_set ez3059 (by decide) (zat_self ez3057 (zat_self ez3055 (Sm.at hSz3038 (by decide) (hM.2 145 (by decide) (by decide)))))))) (c1_cons (zat_set ez3063 (by decide) (zat_set ez3061 (by decide) (zat_self ez3059 (zat_set ez3057 (by decide) (zat_set ez3055 (by decide) (Sm.at hSz3038 (by decide) (hM.2 146 (by decide) (by decide)))))))) (c1_cons (zat_set ez3063 (by decide) (zat_set ez3061 (by decide) (zat_set ez3059 (by decide) (zat_set ez3057 (by decide) (zat_set ez3055 (by decide) (Sm.at hSz3038 (by decide) (hM.2 147 (by decide) (by decide)))))))) c1_nil)))) (fs_k (fs_c (fs_c (fs_k fs_n))))) tx hX htx htl (show (sk tx (o 7) (o 8)) + 1 ≤ o 7 by omega) hg 58 (by decide) (by decide)) (fun rz3067 Mz3068 hz3069 => ?_)
        rcases Classical.em (hr tx (o 7) (sk tx (o 7) ((sk tx (o 7) (o 8)) + 1)) = 58) with hz3069a | hz3069b
        · skip
          obtain ⟨hAz3064, hMMz3065, hSz3066⟩ := hz3069.1 hz3069a
          rw [hAz3064]
          have htk9 : sk tx (o 7) ((sk tx (o 7) (o 8)) + 1) < o 7 := hr_in (by rw [hz3069a]; decide)
          show Zw 4 zm_MO_readRule 105 [some (.ref 139), some (.int (nI (mv tx (o 7) (sk tx (o 7) (o 8))))), some (.int (nI i))] [.int 1] Mz3068 _
          refine zw_if rfl ?_
          show Zw 4 zm_MO_readRule 113 [some (.ref 139), some (.int (nI (mv tx (o 7) (sk tx (o 7) (o 8))))), some (.int (nI i))] [] Mz3068 _
          have hCA : sk tx (o 7) (sk tx (o 7) (o 8) + 1) + 1 = cA tx (o 7) i := by rw [hpc]; rfl
          have mz3070 : Mz3068[139]? = some (.inr (12, [.int (nI (o 0)), .ref 140, .ref 141, .ref 142, .ref 143, .int (nI (o 5)), .ref 144, .int (nI (o 7)), .int (nI ((sk tx (o 7) ((sk tx (o 7) (o 8)) + 1)) + 1)), .int (nI (o 9)), .int (nI (o 10)), .ref 145, .ref 146, .ref 147, .ref 148, .ref 149, .ref 150, .ref 151, .ref 152, .ref 153, .ref 154, .ref 155, .ref 156, .ref 157, .ref 158, .ref 159, .ref 160, .ref 161, .ref 162, .ref 163, .ref 164, .int (nI (o 31)), .ref 165, .int (nI (o 33)), .ref 166, .ref 167, .ref 168, .ref 169, .int (nI (o 38)), .ref 170, .ref 171, .ref 172, .ref 173, .ref 174, .ref 175, .int (nI (o 45)), .int (nI (o 46)), .int (nI (o 47)), .long (lN (o 48)), .ref 176])) := hMMz3065.1
          rw [hCA] at mz3070
          have hcf : cF tx (o 7) i = bF tx (o 7) (cA tx (o 7) i) := by rw [cF_ok hcd, if_pos]; have h8 := hz3069a; rw [hpc] at h8; exact h8
          have hca9 : cA tx (o 7) i ≤ o 7 := by rw [← hCA]; omega
          refine zw_n 2 rfl ?_
          refine zw_callV (as := [.int (nI i)]) (rest := []) rfl rfl rfl mz3070 rfl rfl rfl (by decide) (m_readAlt Mz3068 (up o 8 (cA tx (o 7) i)) (fset (fset f 146 (up (f 146) i (sk tx (o 7) (o 8)))) 145 (up (up (up (f 145) (1 + i) (hr tx (o 7) (sk tx (o 7) (o 8)))) (9 + i) 0) 0 (i + 1))) (MM.of (o' := up o 8 (cA tx (o 7) i)) (f' := fset (fset f 146 (up (f 146) i (sk tx (o 7) (o 8)))) 145 (up (up (up (f 145) (1 + i) (hr tx (o 7) (sk tx (o 7) (o 8)))) (9 + i) 0) 0 (i + 1))) hM (Sm.tw (Sm.tset (Sm.tset (Sm.tset (Sm.tset (Sm.tset (Sm.tw Sm.rf hSz3038 (by decide)) ez3055 (by decide)) ez3057 (by decide)) ez3059 (by decide)) ez3061 (by decide)) ez3063 (by decide)) hSz3066 (by decide)) mz3070 (c1_skip (c1_cons (Sm.at hSz3066 (by decide) (zat_set ez3063 (by decide) (zat_self ez3061 (zat_set ez3059 (by decide) (zat_self ez3057 (zat_self ez3055 (Sm.at hSz3038 (by decide) (hM.2 145 (by decide) (by decide))))))))) (c1_cons (Sm.at hSz3066 (by decide) (zat_set ez3063 (by decide) (zat_set ez3061 (by decide) (zat_self ez3059 (zat_set ez3057 (by decide) (zat_set ez3055 (by decide) (Sm.at hSz3038 (by decide) (hM.2 146 (by decide) (by decide))))))))) (c1_cons (Sm.at hSz3066 (by decide) (zat_set ez3063 (by decide) (zat_set ez3061 (by decide) (zat_set ez3059 (by decide) (zat_set ez3057 (by decide) (zat_set ez3055 (by decide) (Sm.at hSz3038 (by decide) (hM.2 147 (by decide) (by decide))))))))) c1_nil)))) (fs_k (fs_c (fs_c (fs_k fs_n))))) tx hX htx htl (show cA tx (o 7) i ≤ o 7 by omega) hg i 0 (by omega) ((up_n (by omega)).trans (up_s ..)) (by omega) (up_lt (up_lt (up_lt hb0 (by omega)) (by decide)) (by omega))) (fun rz3088 Mz3089 hz3090 => ?_)
          rcases hz3090.2.2 with hz3090a | hz3090b
          · skip
            obtain ⟨hAz3071, hSz3073, -⟩ := hz3090
            obtain ⟨Dz3074, Qz3075, hMMz3072, hsoz3076, hMAz3077, hbz3078, hfz3079, h9z3080, hqz3081⟩ := hz3090a
            rw [hAz3071]
            show Zw 4 zm_MO_readRule 118 [some (.ref 139), some (.int (nI (mv tx (o 7) (sk tx (o 7) (o 8))))), some (.int (nI i))] [] Mz3089 _
            have mz3091 : Mz3089[144]? = some (.inl (2, 240, .inl (ai (f 144)))) := Sm.at hSz3073 (by decide) (Sm.at hSz3066 (by decide) (zat_set ez3063 (by decide) (zat_set ez3061 (by decide) (zat_set ez3059 (by decide) (zat_set ez3057 (by decide) (zat_set ez3055 (by decide) (Sm.at hSz3038 (by decide) (hM.2 144 (by decide) (by decide)))))))))
            have mz3092 : Mz3089[146]? = some (.inl (0, 8, .inl (ai (up (f 146) i (sk tx (o 7) (o 8)))))) := Sm.at hSz3073 (by decide) (Sm.at hSz3066 (by decide) (zat_set ez3063 (by decide) (zat_set ez3061 (by decide) (zat_self ez3059 (zat_set ez3057 (by decide) (zat_set ez3055 (by decide) (Sm.at hSz3038 (by decide) (hM.2 146 (by decide) (by decide)))))))))
            have sz3093 : Sm Mq Mz3089 [139, 145, 146, 147] := Sm.tw (Sm.tw (Sm.tset (Sm.tset (Sm.tset (Sm.tset (Sm.tset (Sm.tw Sm.rf hSz3038 (by decide)) ez3055 (by decide)) ez3057 (by decide)) ez3059 (by decide)) ez3061 (by decide)) ez3063 (by decide)) hSz3066 (by decide)) hSz3073 (by decide)
            have lp118 : ∀ (n118 : Nat) (j : Nat) (D1 : Nat → Nat) (Q1 : Nat → Nat) (M_118 : zM), Sm Mq M_118 [139, 145, 146, 147] → M_118[139]? = some (.inr (12, [.int (nI (o 0)), .ref 140, .ref 141, .ref 142, .ref 143, .int (nI (o 5)), .ref 144, .int (nI (o 7)), .int (nI (aE tx (o 7) (bP tx (o 7) (cA tx (o 7) i) j))), .int (nI (o 9)), .int (nI (o 10)), .ref 145, .ref 146, .ref 147, .ref 148, .ref 149, .ref 150, .ref 151, .ref 152, .ref 153, .ref 154, .ref 155, .ref 156, .ref 157, .ref 158, .ref 159, .ref 160, .ref 161, .ref 162, .ref 163, .ref 164, .int (nI (o 31)), .ref 165, .int (nI (o 33)), .ref 166, .ref 167, .ref 168, .ref 169, .int (nI (o 38)), .ref 170, .ref 171, .ref 172, .ref 173, .ref 174, .ref 175, .int (nI (o 45)), .int (nI (o 46)), .int (nI (o 47)), .long (lN (o 48)), .ref 176])) → M_118[145]? = some (.inl (0, 529, .inl (ai D1))) → M_118[147]? = some (.inl (0, 160, .inl (ai Q1))) → M_118[146]? = some (.inl (0, 8, .inl (ai (up (f 146) i (sk tx (o 7) (o 8)))))) → (j < 4 ∧ (∀ q, q < j → bZ tx (o 7) (cA tx (o 7) i) q = false) ∧ (aF tx (o 7) (bP tx (o 7) (cA tx (o 7) i) j) = NO ∨ aF tx (o 7) (bP tx (o 7) (cA tx (o 7) i) j) = aE tx (o 7) (bP tx (o 7) (cA tx (o 7) i) j)) ∧ MRul tx (o 7) (cA tx (o 7) i) i (j + 1) D1 Q1 ∧ (∀ q, D1 q < 2147483648) ∧ (∀ q, ¬ rR_ i q → q ≠ 0 → q ≠ 1 + i → D1 q = f 145 q) ∧ D1 0 = i + 1 ∧ D1 (1 + i) = cN tx (o 7) i ∧ (∀ q, ¬ (i * 20 ≤ q ∧ q < i * 20 + 20) → Q1 q = f 147 q)) → 4 - j < n118 → Zw 4 zm_MO_readRule 118 [some (.ref 139), some (.int (nI (mv tx (o 7) (sk tx (o 7) (o 8))))), some (.int (nI i))] [] M_118 (fun r9 M1 => r9 = none ∧ Sm Mq M1 [139, 145, 146, 147] ∧ ((∃ D9 N9 Q9, MM M1 (up o 8 (bE tx (o 7) (cA tx (o 7) i))) (fset (fset (fset f 147 Q9) 146 N9) 145 D9) ∧ (cF tx (o 7) i = NO ∨ cF tx (o 7) i = bE tx (o 7) (cA tx (o 7) i)) ∧ i < 8 ∧ cA tx (o 7) i ≤ o 7 ∧ (∀ j, j < bK tx (o 7) (cA tx (o 7) i) → bZ tx (o 7) (cA tx (o 7) i) j = false) ∧ bK tx (o 7) (cA tx (o 7) i) < 4 ∧ MRul tx (o 7) (cA tx (o 7) i) i (bK tx (o 7) (cA tx (o 7) i) + 1) D9 Q9 ∧ (∀ q, D9 q < 2147483648) ∧ (∀ q, ¬ rR_ i q → q ≠ 0 → q ≠ 1 + i → D9 q = f 145 q) ∧ D9 0 = i + 1 ∧ D9 (1 + i) = cN tx (o 7) i ∧ (∀ q, ¬ (i * 20 ≤ q ∧ q < i * 20 + 20) → Q9 q = f 147 q) ∧ N9 = up (f 146) i (nQ tx (o 7) (cP tx (o 7) i)) ∧ cF tx (o 7) i = bF tx (o 7) (cA tx (o 7) i)) ∨ (cF tx (o 7) i ≠ NO ∧ ∃ P9 f9, MM M1 (up (up (up o 8 P9) 9 (cF tx (o 7) i)) 10 0) f9 ∧ P9 ≤ o 7 ∧ (∀ q, f9 145 q < 2147483648) ∧ Dsame f f9))) := by
              intro n118
              induction n118 with
              | zero => intro j D1 Q1 M_118 _ _ _ _ _ _ h; exact absurd h (Nat.not_lt_zero _)
              | succ n118 ih118 =>
                intro j D1 Q1 M_118 s_118 f118_0 f118_1 f118_2 f118_3 hi118 hm118
                obtain ⟨ij, iz, iso, iM, iBd, iFr, i0, i1, iQ9⟩ := hi118
                have hbj := bP_b (tx := tx) hca9 htl iz
                have haj := aE_b (tx := tx) hbj.2 htl
                refine zw_n 2 rfl ?_
                refine zw_callV (as := [.int 47]) (rest := []) rfl rfl rfl f118_0 rfl rfl rfl (by decide) (m_takes M_118 (up o 8 (aE tx (o 7) (bP tx (o 7) (cA tx (o 7) i) j))) (fset (fset (fset f 147 Q1) 146 (up (f 146) i (sk tx (o 7) (o 8)))) 145 D1) (MM.of (o' := up o 8 (aE tx (o 7) (bP tx (o 7) (cA tx (o 7) i) j))) (f' := fset (fset (fset f 147 Q1) 146 (up (f 146) i (sk tx (o 7) (o 8)))) 145 D1) hM s_118 f118_0 (c1_skip (c1_cons f118_1 (c1_cons f118_3 (c1_cons f118_2 c1_nil)))) (fs_k (fs_c (fs_c (fs_c fs_n))))) tx hX htx htl (show aE tx (o 7) (bP tx (o 7) (cA tx (o 7) i) j) ≤ o 7 by omega) hg 47 (by decide) (by decide)) (fun rz3097 Mz3098 hz3099 => ?_)
                rcases Classical.em (hr tx (o 7) (sk tx (o 7) (aE tx (o 7) (bP tx (o 7) (cA tx (o 7) i) j))) = 47) with hz3099a | hz3099b
                · skip
                  obtain ⟨hAz3094, hMMz3095, hSz3096⟩ := hz3099.1 hz3099a
                  rw [hAz3094]
                  have htk9 : sk tx (o 7) (aE tx (o 7) (bP tx (o 7) (cA tx (o 7) i) j)) < o 7 := hr_in (by rw [hz3099a]; decide)
                  show Zw 4 zm_MO_readRule 124 [some (.ref 139), some (.int (nI (mv tx (o 7) (sk tx (o 7) (o 8))))), some (.int (nI i))] [.int 1] Mz3098 _
                  refine zw_if rfl ?_
                  show Zw 4 zm_MO_readRule 127 [some (.ref 139), some (.int (nI (mv tx (o 7) (sk tx (o 7) (o 8))))), some (.int (nI i))] [] Mz3098 _
                  by_cases sp127 : j + 1 < 4
                  · skip
                    have h47 : hr tx (o 7) (aE tx (o 7) (bP tx (o 7) (cA tx (o 7) i) j)) = 47 := by have h8 := hz3099a; rw [aE_sk] at h8; exact h8
                    have hBJ : sk tx (o 7) (aE tx (o 7) (bP tx (o 7) (cA tx (o 7) i) j)) + 1 = bP tx (o 7) (cA tx (o 7) i) (j + 1) := by rw [aE_sk]; rfl
                    have mz3100 : Mz3098[139]? = some (.inr (12, [.int (nI (o 0)), .ref 140, .ref 141, .ref 142, .ref 143, .int (nI (o 5)), .ref 144, .int (nI (o 7)), .int (nI ((sk tx (o 7) (aE tx (o 7) (bP tx (o 7) (cA tx (o 7) i) j))) + 1)), .int (nI (o 9)), .int (nI (o 10)), .ref 145, .ref 146, .ref 147, .ref 148, .ref 149, .ref 150, .ref 151, .ref 152, .ref 153, .ref 154, .ref 155, .ref 156, .ref 157, .ref 158, .ref 159, .ref 160, .ref 161, .ref 162, .ref 163, .ref 164, .int (nI (o 31)), .ref 165, .int (nI (o 33)), .ref 166, .ref 167, .ref 168, .ref 169, .int (nI (o 38)), .ref 170, .ref 171, .ref 172, .ref 173, .ref 174, .ref 175, .int (nI (o 45)), .int (nI (o 46)), .int (nI (o 47)), .long (lN (o 48)), .ref 176])) := hMMz3095.1
                    rw [hBJ] at mz3100
                    have hz8 := rt_step iz (bZ_no (soft_47 iso hbj.2 htl (by rw [h47]; exact stp47)) h47)
                    have hb8 := bP_b (tx := tx) hca9 htl (j := j + 1) hz8
                    have hb0j : 0 < bP tx (o 7) (cA tx (o 7) i) (j + 1) := by show 0 < _ + 1; omega
                    refine zw_n 2 rfl ?_
                    refine zw_callV (as := [.int (nI i)]) (rest := []) rfl rfl rfl mz3100 rfl rfl rfl (by decide) (m_readAlt Mz3098 (up o 8 (bP tx (o 7) (cA tx (o 7) i) (j + 1))) (fset (fset (fset f 147 Q1) 146 (up (f 146) i (sk tx (o 7) (o 8)))) 145 D1) (MM.of (o' := up o 8 (bP tx (o 7) (cA tx (o 7) i) (j + 1))) (f' := fset (fset (fset f 147 Q1) 146 (up (f 146) i (sk tx (o 7) (o 8)))) 145 D1) hM (Sm.tw s_118 hSz3096 (by decide)) mz3100 (c1_skip (c1_cons (Sm.at hSz3096 (by decide) f118_1) (c1_cons (Sm.at hSz3096 (by decide) f118_3) (c1_cons (Sm.at hSz3096 (by decide) f118_2) c1_nil)))) (fs_k (fs_c (fs_c (fs_c fs_n))))) tx hX htx htl (show bP tx (o 7) (cA tx (o 7) i) (j + 1) ≤ o 7 by omega) hg i (j + 1) (by omega) iM.1 (by omega) iBd) (fun rz3118 Mz3119 hz3120 => ?_)
                    rcases hz3120.2.2 with hz3120a | hz3120b
                    · skip
                      obtain ⟨hAz3101, hSz3103, -⟩ := hz3120
                      obtain ⟨Dz3104, Qz3105, hMMz3102, hsoz3106, hMAz3107, hbz3108, hfz3109, h9z3110, hqz3111⟩ := hz3120a
                      rw [hAz3101]
                      show Zw 4 zm_MO_readRule 132 [some (.ref 139), some (.int (nI (mv tx (o 7) (sk tx (o 7) (o 8))))), some (.int (nI i))] [] Mz3119 _
                      refine zw_n 1 rfl ?_
                      exact ih118 (j + 1) Dz3104 Qz3105 Mz3119 (Sm.tw (Sm.tw s_118 hSz3096 (by decide)) hSz3103 (by decide)) hMMz3102.1 (hMMz3102.2 145 (by decide) (by decide)) (hMMz3102.2 147 (by decide) (by decide)) (Sm.at hSz3103 (by decide) (Sm.at hSz3096 (by decide) f118_3)) (⟨by omega, hz8, hsoz3106, iM.step (by omega) hi7 hMAz3107 hfz3109 h9z3110 hqz3111, hbz3108, fun q q1 q2 q3 => (hfz3109 q (rR_al (by omega) q1).1 (rR_al (j := 0) (by omega) q1).2).trans (iFr q q1 q2 q3), (hfz3109 0 (by unfold aR_; omega) (by omega)).trans i0, (hfz3109 (1 + i) (by unfold aR_; omega) (by omega)).trans i1, fun q q1 => (hqz3111 q (by omega)).trans (iQ9 q q1)⟩) (by omega)
                    · skip
                      obtain ⟨hAz3101, hSz3103, -⟩ := hz3120
                      obtain ⟨hnez3117, Pz3112, fz3113, hMMz3102, hpz3114, hbz3115, hdz3116⟩ := hz3120b
                      rw [hAz3101]
                      have hp8 : Pz3112 ≤ o 7 := hpz3114
                      show Zw 4 zm_MO_readRule 132 [some (.ref 139), some (.int (nI (mv tx (o 7) (sk tx (o 7) (o 8))))), some (.int (nI i))] [] Mz3119 _
                      refine zw_n 3 rfl ?_
                      refine zw_callV (as := [.int 47]) (rest := []) rfl rfl rfl hMMz3102.1 rfl rfl rfl (by decide) (m_takesB Mz3119 (up (up (up o 8 Pz3112) 9 (aF tx (o 7) (bP tx (o 7) (cA tx (o 7) i) (j + 1)))) 10 0) (fset (fset (fset f 147 (fz3113 147)) 146 (up (f 146) i (sk tx (o 7) (o 8)))) 145 (fz3113 145)) (MM.of (o' := up (up (up o 8 Pz3112) 9 (aF tx (o 7) (bP tx (o 7) (cA tx (o 7) i) (j + 1)))) 10 0) (f' := fset (fset (fset f 147 (fz3113 147)) 146 (up (f 146) i (sk tx (o 7) (o 8)))) 145 (fz3113 145)) hM (Sm.tw (Sm.tw s_118 hSz3096 (by decide)) hSz3103 (by decide)) hMMz3102.1 (c1_skip (c1_cons (hMMz3102.2 145 (by decide) (by decide)) (c1_cons (Sm.at hSz3103 (by decide) (Sm.at hSz3096 (by decide) f118_3)) (c1_cons (hMMz3102.2 147 (by decide) (by decide)) c1_nil)))) (fs_k (fs_c (fs_c (fs_c fs_n))))) rfl 47) (fun rz3124 Mz3125 hz3126 => ?_)
                      obtain ⟨hAz3121, hMMz3122, hSz3123⟩ := hz3126
                      rw [hAz3121]
                      show Zw 4 zm_MO_readRule 124 [some (.ref 139), some (.int (nI (mv tx (o 7) (sk tx (o 7) (o 8))))), some (.int (nI i))] [.int 0] Mz3125 _
                      refine zw_if rfl ?_
                      show Zw 4 zm_MO_readRule 135 [some (.ref 139), some (.int (nI (mv tx (o 7) (sk tx (o 7) (o 8))))), some (.int (nI i))] [] Mz3125 _
                      refine zw_vret rfl rfl ?_
                      have hf9 : cF tx (o 7) i = aF tx (o 7) (bP tx (o 7) (cA tx (o 7) i) (j + 1)) := by rw [hcf]; exact (bF_at (bK_at hz8 (by omega) (bZ_f hnez3117)) (by omega)).1
                      exact ⟨rfl, Sm.tw (Sm.tw (Sm.tw s_118 hSz3096 (by decide)) hSz3103 (by decide)) hSz3123 (by decide), Or.inr ⟨by rw [hf9]; exact hnez3117, Pz3112 + 0, fset (fset (fset f 147 (fz3113 147)) 146 (up (f 146) i (sk tx (o 7) (o 8)))) 145 (fz3113 145), by rw [hf9]; exact (MM.of (o' := up (up (up o 8 (Pz3112 + 0)) 9 (aF tx (o 7) (bP tx (o 7) (cA tx (o 7) i) (j + 1)))) 10 0) (f' := fset (fset (fset f 147 (fz3113 147)) 146 (up (f 146) i (sk tx (o 7) (o 8)))) 145 (fz3113 145)) hM (Sm.tw (Sm.tw (Sm.tw s_118 hSz3096 (by decide)) hSz3103 (by decide)) hSz3123 (by decide)) hMMz3122.1 (c1_skip (c1_cons (Sm.at hSz3123 (by decide) (hMMz3102.2 145 (by decide) (by decide))) (c1_cons (Sm.at hSz3123 (by decide) (Sm.at hSz3103 (by decide) (Sm.at hSz3096 (by decide) f118_3))) (c1_cons (Sm.at hSz3123 (by decide) (hMMz3102.2 147 (by decide) (by decide))) c1_nil)))) (fs_k (fs_c (fs_c (fs_c fs_n))))), by omega, hbz3115, Dsame.of (S := [139, 145, 146, 147]) (fs_k (fs_c (fs_c (fs_c fs_n)))) (by decide)⟩⟩
                  · skip
                    have h47 : hr tx (o 7) (aE tx (o 7) (bP tx (o 7) (cA tx (o 7) i) j)) = 47 := by have h8 := hz3099a; rw [aE_sk] at h8; exact h8
                    have hBJ : sk tx (o 7) (aE tx (o 7) (bP tx (o 7) (cA tx (o 7) i) j)) + 1 = bP tx (o 7) (cA tx (o 7) i) (j + 1) := by rw [aE_sk]; rfl
                    have mz3127 : Mz3098[139]? = some (.inr (12, [.int (nI (o 0)), .ref 140, .ref 141, .ref 142, .ref 143, .int (nI (o 5)), .ref 144, .int (nI (o 7)), .int (nI ((sk tx (o 7) (aE tx (o 7) (bP tx (o 7) (cA tx (o 7) i) j))) + 1)), .int (nI (o 9)), .int (nI (o 10)), .ref 145, .ref 146, .ref 147, .ref 148, .ref 149, .ref 150, .ref 151, .ref 152, .ref 153, .ref 154, .ref 155, .ref 156, .ref 157, .ref 158, .ref 159, .ref 160, .ref 161, .ref 162, .ref 163, .ref 164, .int (nI (o 31)), .ref 165, .int (nI (o 33)), .ref 166, .ref 167, .ref 168, .ref 169, .int (nI (o 38)), .ref 170, .ref 171, .ref 172, .ref 173, .ref 174, .ref 175, .int (nI (o 45)), .int (nI (o 46)), .int (nI (o 47)), .long (lN (o 48)), .ref 176])) := hMMz3095.1
                    rw [hBJ] at mz3127
                    have hz8 := rt_step iz (bZ_no (soft_47 iso hbj.2 htl (by rw [h47]; exact stp47)) h47)
                    have hb8 := bP_b (tx := tx) hca9 htl (j := j + 1) hz8
                    have hb0j : 0 < bP tx (o 7) (cA tx (o 7) i) (j + 1) := by show 0 < _ + 1; omega
                    refine zw_n 2 rfl ?_
                    refine zw_callV (as := [.int (nI i)]) (rest := []) rfl rfl rfl mz3127 rfl rfl rfl (by decide) (m_readAlt4 Mz3098 (up o 8 (bP tx (o 7) (cA tx (o 7) i) (j + 1))) (fset (fset (fset f 147 Q1) 146 (up (f 146) i (sk tx (o 7) (o 8)))) 145 D1) (MM.of (o' := up o 8 (bP tx (o 7) (cA tx (o 7) i) (j + 1))) (f' := fset (fset (fset f 147 Q1) 146 (up (f 146) i (sk tx (o 7) (o 8)))) 145 D1) hM (Sm.tw s_118 hSz3096 (by decide)) mz3127 (c1_skip (c1_cons (Sm.at hSz3096 (by decide) f118_1) (c1_cons (Sm.at hSz3096 (by decide) f118_3) (c1_cons (Sm.at hSz3096 (by decide) f118_2) c1_nil)))) (fs_k (fs_c (fs_c (fs_c fs_n))))) tx hX htx htl (show bP tx (o 7) (cA tx (o 7) i) (j + 1) ≤ o 7 by omega) hg i (j + 1) (by omega) iM.1 (by omega) (show 0 < bP tx (o 7) (cA tx (o 7) i) (j + 1) by omega)) (fun rz3145 Mz3146 hz3147 => ?_)
                    obtain ⟨hAz3128, hMMz3129, hSz3130⟩ := hz3147
                    rw [hAz3128]
                    show Zw 4 zm_MO_readRule 132 [some (.ref 139), some (.int (nI (mv tx (o 7) (sk tx (o 7) (o 8))))), some (.int (nI i))] [] Mz3146 _
                    refine zw_n 3 rfl ?_
                    refine zw_callV (as := [.int 47]) (rest := []) rfl rfl rfl hMMz3129.1 rfl rfl rfl (by decide) (m_takesB Mz3146 (up (up (up o 8 ((bP tx (o 7) (cA tx (o 7) i) (j + 1)) - 1)) 9 ((bP tx (o 7) (cA tx (o 7) i) (j + 1)) - 1)) 10 0) (fset (fset (fset f 147 Q1) 146 (up (f 146) i (sk tx (o 7) (o 8)))) 145 D1) (MM.of (o' := up (up (up o 8 ((bP tx (o 7) (cA tx (o 7) i) (j + 1)) - 1)) 9 ((bP tx (o 7) (cA tx (o 7) i) (j + 1)) - 1)) 10 0) (f' := fset (fset (fset f 147 Q1) 146 (up (f 146) i (sk tx (o 7) (o 8)))) 145 D1) hM (Sm.tw (Sm.tw s_118 hSz3096 (by decide)) hSz3130 (by decide)) hMMz3129.1 (c1_skip (c1_cons (Sm.at hSz3130 (by decide) (Sm.at hSz3096 (by decide) f118_1)) (c1_cons (Sm.at hSz3130 (by decide) (Sm.at hSz3096 (by decide) f118_3)) (c1_cons (Sm.at hSz3130 (by decide) (Sm.at hSz3096 (by decide) f118_2)) c1_nil)))) (fs_k (fs_c (fs_c (fs_c fs_n))))) rfl 47) (fun rz3151 Mz3152 hz3153 => ?_)
                    obtain ⟨hAz3148, hMMz3149, hSz3150⟩ := hz3153
                    rw [hAz3148]
                    show Zw 4 zm_MO_readRule 124 [some (.ref 139), some (.int (nI (mv tx (o 7) (sk tx (o 7) (o 8))))), some (.int (nI i))] [.int 0] Mz3152 _
                    refine zw_if rfl ?_
                    show Zw 4 zm_MO_readRule 135 [some (.ref 139), some (.int (nI (mv tx (o 7) (sk tx (o 7) (o 8))))), some (.int (nI i))] [] Mz3152 _
                    refine zw_vret rfl rfl ?_
                    have hf9 : cF tx (o 7) i = bP tx (o 7) (cA tx (o 7) i) (j + 1) - 1 := by rw [hcf, bF_no (bK_no (fun q9 h9 => hz8 q9 (by omega))), show j = 3 by omega]; rfl
                    exact ⟨rfl, Sm.tw (Sm.tw (Sm.tw s_118 hSz3096 (by decide)) hSz3130 (by decide)) hSz3150 (by decide), Or.inr ⟨by rw [hf9]; unfold NO; omega, ((bP tx (o 7) (cA tx (o 7) i) (j + 1)) - 1) + 0, fset (fset (fset f 147 Q1) 146 (up (f 146) i (sk tx (o 7) (o 8)))) 145 D1, by rw [hf9]; exact (MM.of (o' := up (up (up o 8 (((bP tx (o 7) (cA tx (o 7) i) (j + 1)) - 1) + 0)) 9 ((bP tx (o 7) (cA tx (o 7) i) (j + 1)) - 1)) 10 0) (f' := fset (fset (fset f 147 Q1) 146 (up (f 146) i (sk tx (o 7) (o 8)))) 145 D1) hM (Sm.tw (Sm.tw (Sm.tw s_118 hSz3096 (by decide)) hSz3130 (by decide)) hSz3150 (by decide)) hMMz3149.1 (c1_skip (c1_cons (Sm.at hSz3150 (by decide) (Sm.at hSz3130 (by decide) (Sm.at hSz3096 (by decide) f118_1))) (c1_cons (Sm.at hSz3150 (by decide) (Sm.at hSz3130 (by decide) (Sm.at hSz3096 (by decide) f118_3))) (c1_cons (Sm.at hSz3150 (by decide) (Sm.at hSz3130 (by decide) (Sm.at hSz3096 (by decide) f118_2))) c1_nil)))) (fs_k (fs_c (fs_c (fs_c fs_n))))), by omega, iBd, Dsame.of (S := [139, 145, 146, 147]) (fs_k (fs_c (fs_c (fs_c fs_n)))) (by decide)⟩⟩
                · skip
                  obtain ⟨hAz3094, hMMz3095, hSz3096⟩ := hz3099.2 hz3099b
                  rw [hAz3094]
                  have hleThAz3094 := @sk_le tx (o 7) (aE tx (o 7) (bP tx (o 7) (cA tx (o 7) i) j)) (by omega)
                  show Zw 4 zm_MO_readRule 124 [some (.ref 139), some (.int (nI (mv tx (o 7) (sk tx (o 7) (o 8))))), some (.int (nI i))] [.int 0] Mz3098 _
                  refine zw_if rfl ?_
                  show Zw 4 zm_MO_readRule 135 [some (.ref 139), some (.int (nI (mv tx (o 7) (sk tx (o 7) (o 8))))), some (.int (nI i))] [] Mz3098 _
                  refine zw_vret rfl rfl ?_
                  have hz9 := bZ_h (fun q9 => hz3099b (by rw [aE_sk]; exact q9))
                  have hk9 := bK_at iz ij hz9
                  have hb9 := bF_at hk9 ij
                  exact ⟨rfl, Sm.tw s_118 hSz3096 (by decide), Or.inl ⟨D1, (up (f 146) i (sk tx (o 7) (o 8))), Q1, by rw [hb9.2, ← aE_sk tx (o 7) (bP tx (o 7) (cA tx (o 7) i) j)]; exact (MM.of (o' := up o 8 ((sk tx (o 7) (aE tx (o 7) (bP tx (o 7) (cA tx (o 7) i) j))) + 0)) (f' := fset (fset (fset f 147 Q1) 146 (up (f 146) i (sk tx (o 7) (o 8)))) 145 D1) hM (Sm.tw s_118 hSz3096 (by decide)) hMMz3095.1 (c1_skip (c1_cons (Sm.at hSz3096 (by decide) f118_1) (c1_cons (Sm.at hSz3096 (by decide) f118_3) (c1_cons (Sm.at hSz3096 (by decide) f118_2) c1_nil)))) (fs_k (fs_c (fs_c (fs_c fs_n))))), by rw [hcf, hb9.1, hb9.2]; exact iso, by omega, hca9, by rw [hk9]; exact iz, by omega, by rw [hk9]; exact iM, iBd, iFr, i0, i1, iQ9, by rw [hpc]; rfl, hcf⟩⟩
            exact lp118 _ 0 Dz3074 Qz3075 Mz3089 sz3093 hMMz3072.1 (hMMz3072.2 145 (by decide) (by decide)) (hMMz3072.2 147 (by decide) (by decide)) mz3092 (ru_start hi7 hsoz3076 hMAz3077 hbz3078 hfz3079 h9z3080 hqz3081 (by rw [hpc]; rfl)) (Nat.lt_succ_self _)
          · skip
            obtain ⟨hAz3071, hSz3073, -⟩ := hz3090
            obtain ⟨hnez3087, Pz3082, fz3083, hMMz3072, hpz3084, hbz3085, hdz3086⟩ := hz3090b
            rw [hAz3071]
            have hp8 : Pz3082 ≤ o 7 := hpz3084
            show Zw 4 zm_MO_readRule 118 [some (.ref 139), some (.int (nI (mv tx (o 7) (sk tx (o 7) (o 8))))), some (.int (nI i))] [] Mz3089 _
            refine zw_n 2 rfl ?_
            refine zw_callV (as := [.int 47]) (rest := []) rfl rfl rfl hMMz3072.1 rfl rfl rfl (by decide) (m_takesB Mz3089 (up (up (up o 8 Pz3082) 9 (aF tx (o 7) (cA tx (o 7) i))) 10 0) (fset (fset (fset f 147 (fz3083 147)) 146 (up (f 146) i (sk tx (o 7) (o 8)))) 145 (fz3083 145)) (MM.of (o' := up (up (up o 8 Pz3082) 9 (aF tx (o 7) (cA tx (o 7) i))) 10 0) (f' := fset (fset (fset f 147 (fz3083 147)) 146 (up (f 146) i (sk tx (o 7) (o 8)))) 145 (fz3083 145)) hM (Sm.tw (Sm.tw (Sm.tset (Sm.tset (Sm.tset (Sm.tset (Sm.tset (Sm.tw Sm.rf hSz3038 (by decide)) ez3055 (by decide)) ez3057 (by decide)) ez3059 (by decide)) ez3061 (by decide)) ez3063 (by decide)) hSz3066 (by decide)) hSz3073 (by decide)) hMMz3072.1 (c1_skip (c1_cons (hMMz3072.2 145 (by decide) (by decide)) (c1_cons (Sm.at hSz3073 (by decide) (Sm.at hSz3066 (by decide) (zat_set ez3063 (by decide) (zat_set ez3061 (by decide) (zat_self ez3059 (zat_set ez3057 (by decide) (zat_set ez3055 (by decide) (Sm.at hSz3038 (by decide) (hM.2 146 (by decide) (by decide)))))))))) (c1_cons (hMMz3072.2 147 (by decide) (by decide)) c1_nil)))) (fs_k (fs_c (fs_c (fs_c fs_n))))) rfl 47) (fun rz3157 Mz3158 hz3159 => ?_)
            obtain ⟨hAz3154, hMMz3155, hSz3156⟩ := hz3159
            rw [hAz3154]
            show Zw 4 zm_MO_readRule 124 [some (.ref 139), some (.int (nI (mv tx (o 7) (sk tx (o 7) (o 8))))), some (.int (nI i))] [.int 0] Mz3158 _
            refine zw_if rfl ?_
            show Zw 4 zm_MO_readRule 135 [some (.ref 139), some (.int (nI (mv tx (o 7) (sk tx (o 7) (o 8))))), some (.int (nI i))] [] Mz3158 _
            refine zw_vret rfl rfl ?_
            have hf9 : cF tx (o 7) i = aF tx (o 7) (bP tx (o 7) (cA tx (o 7) i) 0) := by rw [hcf]; exact (bF_at (bK_at (fun j hj => absurd hj (Nat.not_lt_zero _)) (by omega) (bZ_f hnez3087)) (by omega)).1
            exact ⟨rfl, Sm.tw (Sm.tw (Sm.tw (Sm.tset (Sm.tset (Sm.tset (Sm.tset (Sm.tset (Sm.tw Sm.rf hSz3038 (by decide)) ez3055 (by decide)) ez3057 (by decide)) ez3059 (by decide)) ez3061 (by decide)) ez3063 (by decide)) hSz3066 (by decide)) hSz3073 (by decide)) hSz3156 (by decide), Or.inr ⟨by rw [hf9]; exact hnez3087, Pz3082 + 0, fset (fset (fset f 147 (fz3083 147)) 146 (up (f 146) i (sk tx (o 7) (o 8)))) 145 (fz3083 145), by rw [hf9]; exact (MM.of (o' := up (up (up o 8 (Pz3082 + 0)) 9 (aF tx (o 7) (cA tx (o 7) i))) 10 0) (f' := fset (fset (fset f 147 (fz3083 147)) 146 (up (f 146) i (sk tx (o 7) (o 8)))) 145 (fz3083 145)) hM (Sm.tw (Sm.tw (Sm.tw (Sm.tset (Sm.tset (Sm.tset (Sm.tset (Sm.tset (Sm.tw Sm.rf hSz3038 (by decide)) ez3055 (by decide)) ez3057 (by decide)) ez3059 (by decide)) ez3061 (by decide)) ez3063 (by decide)) hSz3066 (by decide)) hSz3073 (by decide)) hSz3156 (by decide)) hMMz3155.1 (c1_skip (c1_cons (Sm.at hSz3156 (by decide) (hMMz3072.2 145 (by decide) (by decide))) (c1_cons (Sm.at hSz3156 (by decide) (Sm.at hSz3073 (by decide) (Sm.at hSz3066 (by decide) (zat_set ez3063 (by decide) (zat_set ez3061 (by decide) (zat_self ez3059 (zat_set ez3057 (by decide) (zat_set ez3055 (by decide) (Sm.at hSz3038 (by decide) (hM.2 146 (by decide) (by decide))))))))))) (c1_cons (Sm.at hSz3156 (by decide) (hMMz3072.2 147 (by decide) (by decide))) c1_nil)))) (fs_k (fs_c (fs_c (fs_c fs_n))))), by omega, hbz3085, Dsame.of (S := [139, 145, 146, 147]) (fs_k (fs_c (fs_c (fs_c fs_n)))) (by decide)⟩⟩
        · skip
          obtain ⟨hAz3064, hMMz3065, hSz3066⟩ := hz3069.2 hz3069b
          rw [hAz3064]
          have hleThAz3064 := @sk_le tx (o 7) ((sk tx (o 7) (o 8)) + 1) (by omega)
          show Zw 4 zm_MO_readRule 105 [some (.ref 139), some (.int (nI (mv tx (o 7) (sk tx (o 7) (o 8))))), some (.int (nI i))] [.int 0] Mz3068 _
          refine zw_if rfl ?_
          show Zw 4 zm_MO_readRule 108 [some (.ref 139), some (.int (nI (mv tx (o 7) (sk tx (o 7) (o 8))))), some (.int (nI i))] [] Mz3068 _
          have hbD : ∀ q, (up (up (up (f 145) (1 + i) (hr tx (o 7) (sk tx (o 7) (o 8)))) (9 + i) 0) 0 (i + 1)) q < 2147483648 := up_lt (up_lt (up_lt hb0 (by omega)) (by decide)) (by omega)
          refine zw_n 1 rfl ?_
          refine zw_callV (as := []) (rest := []) rfl rfl rfl hMMz3065.1 rfl rfl rfl (by decide) (m_wrong Mz3068 (up o 8 ((sk tx (o 7) ((sk tx (o 7) (o 8)) + 1)) + 0)) (fset (fset f 146 (up (f 146) i (sk tx (o 7) (o 8)))) 145 (up (up (up (f 145) (1 + i) (hr tx (o 7) (sk tx (o 7) (o 8)))) (9 + i) 0) 0 (i + 1))) (MM.of (o' := up o 8 ((sk tx (o 7) ((sk tx (o 7) (o 8)) + 1)) + 0)) (f' := fset (fset f 146 (up (f 146) i (sk tx (o 7) (o 8)))) 145 (up (up (up (f 145) (1 + i) (hr tx (o 7) (sk tx (o 7) (o 8)))) (9 + i) 0) 0 (i + 1))) hM (Sm.tw (Sm.tset (Sm.tset (Sm.tset (Sm.tset (Sm.tset (Sm.tw Sm.rf hSz3038 (by decide)) ez3055 (by decide)) ez3057 (by decide)) ez3059 (by decide)) ez3061 (by decide)) ez3063 (by decide)) hSz3066 (by decide)) hMMz3065.1 (c1_skip (c1_cons (Sm.at hSz3066 (by decide) (zat_set ez3063 (by decide) (zat_self ez3061 (zat_set ez3059 (by decide) (zat_self ez3057 (zat_self ez3055 (Sm.at hSz3038 (by decide) (hM.2 145 (by decide) (by decide))))))))) (c1_cons (Sm.at hSz3066 (by decide) (zat_set ez3063 (by decide) (zat_set ez3061 (by decide) (zat_self ez3059 (zat_set ez3057 (by decide) (zat_set ez3055 (by decide) (Sm.at hSz3038 (by decide) (hM.2 146 (by decide) (by decide))))))))) (c1_cons (Sm.at hSz3066 (by decide) (zat_set ez3063 (by decide) (zat_set ez3061 (by decide) (zat_set ez3059 (by decide) (zat_set ez3057 (by decide) (zat_set ez3055 (by decide) (Sm.at hSz3038 (by decide) (hM.2 147 (by decide) (by decide))))))))) c1_nil)))) (fs_k (fs_c (fs_c (fs_k fs_n))))) hg) (fun rz3163 Mz3164 hz3165 => ?_)
          obtain ⟨hAz3160, hMMz3161, hSz3162⟩ := hz3165
          rw [hAz3160]
          show Zw 4 zm_MO_readRule 112 [some (.ref 139), some (.int (nI (mv tx (o 7) (sk tx (o 7) (o 8))))), some (.int (nI i))] [] Mz3164 _
          refine zw_vret rfl rfl ?_
          have hf9 : cF tx (o 7) i = sk tx (o 7) (sk tx (o 7) (o 8) + 1) + 0 := by rw [cF_ok hcd, if_neg (fun q9 => hz3069b (by rw [hpc]; exact q9))]; rw [hpc]; rfl
          exact ⟨rfl, Sm.tw (Sm.tw (Sm.tset (Sm.tset (Sm.tset (Sm.tset (Sm.tset (Sm.tw Sm.rf hSz3038 (by decide)) ez3055 (by decide)) ez3057 (by decide)) ez3059 (by decide)) ez3061 (by decide)) ez3063 (by decide)) hSz3066 (by decide)) hSz3162 (by decide), Or.inr ⟨by rw [hf9]; unfold NO; omega, (sk tx (o 7) ((sk tx (o 7) (o 8)) + 1)) + 0, fset (fset f 146 (up (f 146) i (sk tx (o 7) (o 8)))) 145 (up (up (up (f 145) (1 + i) (hr tx (o 7) (sk tx (o 7) (o 8)))) (9 + i) 0) 0 (i + 1)), by rw [hf9]; exact (MM.of (o' := up (up (up o 8 ((sk tx (o 7) ((sk tx (o 7) (o 8)) + 1)) + 0)) 9 ((sk tx (o 7) ((sk tx (o 7) (o 8)) + 1)) + 0)) 10 0) (f' := fset (fset f 146 (up (f 146) i (sk tx (o 7) (o 8)))) 145 (up (up (up (f 145) (1 + i) (hr tx (o 7) (sk tx (o 7) (o 8)))) (9 + i) 0) 0 (i + 1))) hM (Sm.tw (Sm.tw (Sm.tset (Sm.tset (Sm.tset (Sm.tset (Sm.tset (Sm.tw Sm.rf hSz3038 (by decide)) ez3055 (by decide)) ez3057 (by decide)) ez3059 (by decide)) ez3061 (by decide)) ez3063 (by decide)) hSz3066 (by decide)) hSz3162 (by decide)) hMMz3161.1 (c1_skip (c1_cons (Sm.at hSz3162 (by decide) (Sm.at hSz3066 (by decide) (zat_set ez3063 (by decide) (zat_self ez3061 (zat_set ez3059 (by decide) (zat_self ez3057 (zat_self ez3055 (Sm.at hSz3038 (by decide) (hM.2 145 (by decide) (by decide)))))))))) (c1_cons (Sm.at hSz3162 (by decide) (Sm.at hSz3066 (by decide) (zat_set ez3063 (by decide) (zat_set ez3061 (by decide) (zat_self ez3059 (zat_set ez3057 (by decide) (zat_set ez3055 (by decide) (Sm.at hSz3038 (by decide) (hM.2 146 (by decide) (by decide)))))))))) (c1_cons (Sm.at hSz3162 (by decide) (Sm.at hSz3066 (by decide) (zat_set ez3063 (by decide) (zat_set ez3061 (by decide) (zat_set ez3059 (by decide) (zat_set ez3057 (by decide) (zat_set ez3055 (by decide) (Sm.at hSz3038 (by decide) (hM.2 147 (by decide) (by decide)))))))))) c1_nil)))) (fs_k (fs_c (fs_c (fs_k fs_n))))), by omega, hbD, Dsame.of (S := [139, 145, 146, 147]) (fs_k (fs_c (fs_c (fs_k fs_n)))) (by decide)⟩⟩
      · -- 42 to 45
        have hbd : cD tx (o 7) i = true := by
          cases hc : cD tx (o 7) i with
          | true => rfl
          | false =>
            exfalso
            have h9 := (nOk_c (gn := fun q => f 145 (1 + q)) (fun q hq => hnm q hq)).mpr hc
            unfold nOk nQ at h9
            rw [← hpc] at h9
            first
              | exact ite_eq0 c33 h9.1
              | exact c42 h9.2.2
              | (have := h9.2.1; omega)
        refine zw_n 1 rfl ?_
        refine zw_callV (as := []) (rest := []) rfl rfl rfl hMMz3037.1 rfl rfl rfl (by decide) (m_wrong Mz3040 (up o 8 (sk tx (o 7) (o 8))) f (MM.of (o' := up o 8 (sk tx (o 7) (o 8))) (f' := f) hM (Sm.tw Sm.rf hSz3038 (by decide)) hMMz3037.1 (c1_skip (c1_cons (Sm.at hSz3038 (by decide) (hM.2 145 (by decide) (by decide))) (c1_cons (Sm.at hSz3038 (by decide) (hM.2 146 (by decide) (by decide))) (c1_cons (Sm.at hSz3038 (by decide) (hM.2 147 (by decide) (by decide))) c1_nil)))) (fs_k (fs_k (fs_k (fs_k fs_n))))) hg) (fun rz3169 Mz3170 hz3171 => ?_)
        obtain ⟨hAz3166, hMMz3167, hSz3168⟩ := hz3171
        rw [hAz3166]
        show Zw 4 zm_MO_readRule 49 [some (.ref 139), some (.int (nI (mv tx (o 7) (sk tx (o 7) (o 8))))), some (.int (nI i))] [] Mz3170 _
        refine zw_vret rfl rfl ?_
        have hf9 : cF tx (o 7) i = sk tx (o 7) (o 8) := by rw [cF_bad hbd, hpc]; rfl
        exact ⟨rfl, Sm.tw (Sm.tw Sm.rf hSz3038 (by decide)) hSz3168 (by decide), Or.inr ⟨by rw [hf9]; unfold NO; omega, sk tx (o 7) (o 8), f, by rw [hf9]; exact (MM.of (o' := up (up (up o 8 (sk tx (o 7) (o 8))) 9 (sk tx (o 7) (o 8))) 10 0) (f' := f) hM (Sm.tw (Sm.tw Sm.rf hSz3038 (by decide)) hSz3168 (by decide)) hMMz3167.1 (c1_skip (c1_cons (Sm.at hSz3168 (by decide) (Sm.at hSz3038 (by decide) (hM.2 145 (by decide) (by decide)))) (c1_cons (Sm.at hSz3168 (by decide) (Sm.at hSz3038 (by decide) (hM.2 146 (by decide) (by decide)))) (c1_cons (Sm.at hSz3168 (by decide) (Sm.at hSz3038 (by decide) (hM.2 147 (by decide) (by decide)))) c1_nil)))) (fs_k (fs_k (fs_k (fs_k fs_n))))), by omega, hb0, Dsame.of (S := [139, 145, 146, 147]) (fs_k (fs_k (fs_k (fs_k fs_n)))) (by decide)⟩⟩
  · -- 15 to 18
    refine zw_n 1 rfl ?_
    refine zw_get (v := .int (nI (sk tx (o 7) (o 8)))) rfl hMMz3037.1 rfl ?_
    refine zw_n 1 rfl ?_
    refine zw_get (v := .int (nI (o 7))) rfl hMMz3037.1 rfl ?_
    refine zw_iltN (a := sk tx (o 7) (o 8)) (b := o 7) rfl rfl rfl (by omega) (by omega) (fun c26 => ?_) (fun c26 => ?_)
    · -- 26 to 45
      have hbd : cD tx (o 7) i = true := by
        cases hc : cD tx (o 7) i with
        | true => rfl
        | false =>
          exfalso
          have h9 := (nOk_c (gn := fun q => f 145 (1 + q)) (fun q hq => hnm q hq)).mpr hc
          unfold nOk nQ at h9
          rw [← hpc] at h9
          first
            | exact ite_eq0 c33 h9.1
            | exact c42 h9.2.2
            | (have := h9.2.1; omega)
      refine zw_n 1 rfl ?_
      refine zw_callV (as := []) (rest := []) rfl rfl rfl hMMz3037.1 rfl rfl rfl (by decide) (m_wrong Mz3040 (up o 8 (sk tx (o 7) (o 8))) f (MM.of (o' := up o 8 (sk tx (o 7) (o 8))) (f' := f) hM (Sm.tw Sm.rf hSz3038 (by decide)) hMMz3037.1 (c1_skip (c1_cons (Sm.at hSz3038 (by decide) (hM.2 145 (by decide) (by decide))) (c1_cons (Sm.at hSz3038 (by decide) (hM.2 146 (by decide) (by decide))) (c1_cons (Sm.at hSz3038 (by decide) (hM.2 147 (by decide) (by decide))) c1_nil)))) (fs_k (fs_k (fs_k (fs_k fs_n))))) hg) (fun rz3175 Mz3176 hz3177 => ?_)
      obtain ⟨hAz3172, hMMz3173, hSz3174⟩ := hz3177
      rw [hAz3172]
      show Zw 4 zm_MO_readRule 49 [some (.ref 139), some (.int (nI (mv tx (o 7) (sk tx (o 7) (o 8))))), some (.int (nI i))] [] Mz3176 _
      refine zw_vret rfl rfl ?_
      have hf9 : cF tx (o 7) i = sk tx (o 7) (o 8) := by rw [cF_bad hbd, hpc]; rfl
      exact ⟨rfl, Sm.tw (Sm.tw Sm.rf hSz3038 (by decide)) hSz3174 (by decide), Or.inr ⟨by rw [hf9]; unfold NO; omega, sk tx (o 7) (o 8), f, by rw [hf9]; exact (MM.of (o' := up (up (up o 8 (sk tx (o 7) (o 8))) 9 (sk tx (o 7) (o 8))) 10 0) (f' := f) hM (Sm.tw (Sm.tw Sm.rf hSz3038 (by decide)) hSz3174 (by decide)) hMMz3173.1 (c1_skip (c1_cons (Sm.at hSz3174 (by decide) (Sm.at hSz3038 (by decide) (hM.2 145 (by decide) (by decide)))) (c1_cons (Sm.at hSz3174 (by decide) (Sm.at hSz3038 (by decide) (hM.2 146 (by decide) (by decide)))) (c1_cons (Sm.at hSz3174 (by decide) (Sm.at hSz3038 (by decide) (hM.2 147 (by decide) (by decide)))) c1_nil)))) (fs_k (fs_k (fs_k (fs_k fs_n))))), by omega, hb0, Dsame.of (S := [139, 145, 146, 147]) (fs_k (fs_k (fs_k (fs_k fs_n)))) (by decide)⟩⟩
    · -- 26 to 29
      refine zw_n 1 rfl ?_
      refine zw_callS (as := [.int (nI (mv tx (o 7) (sk tx (o 7) (o 8))))]) (rest := []) rfl rfl rfl rfl rfl rfl (by decide) (m_isName _ (sk tx (o 7) (o 8)) (o 7) tx htx) (fun rz3178 Mz3179 hz3180 => ?_)
      rw [hz3180.1, hz3180.2]
      show Zw 4 zm_MO_readRule 33 [some (.ref 139), some (.int (nI (mv tx (o 7) (sk tx (o 7) (o 8))))), some (.int (nI i))] [.int (nI (if nmB (hr tx (o 7) (sk tx (o 7) (o 8))) = true then 1 else 0))] Mz3040 _
      refine zw_eq0N (a := if nmB (hr tx (o 7) (sk tx (o 7) (o 8))) = true then 1 else 0) rfl rfl (ite_b) (fun c33 => ?_) (fun c33 => ?_)
      · -- 33 to 45
        have hbd : cD tx (o 7) i = true := by
          cases hc : cD tx (o 7) i with
          | true => rfl
          | false =>
            exfalso
            have h9 := (nOk_c (gn := fun q => f 145 (1 + q)) (fun q hq => hnm q hq)).mpr hc
            unfold nOk nQ at h9
            rw [← hpc] at h9
            first
              | exact ite_eq0 c33 h9.1
              | exact c42 h9.2.2
              | (have := h9.2.1; omega)
        refine zw_n 1 rfl ?_
        refine zw_callV (as := []) (rest := []) rfl rfl rfl hMMz3037.1 rfl rfl rfl (by decide) (m_wrong Mz3040 (up o 8 (sk tx (o 7) (o 8))) f (MM.of (o' := up o 8 (sk tx (o 7) (o 8))) (f' := f) hM (Sm.tw Sm.rf hSz3038 (by decide)) hMMz3037.1 (c1_skip (c1_cons (Sm.at hSz3038 (by decide) (hM.2 145 (by decide) (by decide))) (c1_cons (Sm.at hSz3038 (by decide) (hM.2 146 (by decide) (by decide))) (c1_cons (Sm.at hSz3038 (by decide) (hM.2 147 (by decide) (by decide))) c1_nil)))) (fs_k (fs_k (fs_k (fs_k fs_n))))) hg) (fun rz3184 Mz3185 hz3186 => ?_)
        obtain ⟨hAz3181, hMMz3182, hSz3183⟩ := hz3186
        rw [hAz3181]
        show Zw 4 zm_MO_readRule 49 [some (.ref 139), some (.int (nI (mv tx (o 7) (sk tx (o 7) (o 8))))), some (.int (nI i))] [] Mz3185 _
        refine zw_vret rfl rfl ?_
        have hf9 : cF tx (o 7) i = sk tx (o 7) (o 8) := by rw [cF_bad hbd, hpc]; rfl
        exact ⟨rfl, Sm.tw (Sm.tw Sm.rf hSz3038 (by decide)) hSz3183 (by decide), Or.inr ⟨by rw [hf9]; unfold NO; omega, sk tx (o 7) (o 8), f, by rw [hf9]; exact (MM.of (o' := up (up (up o 8 (sk tx (o 7) (o 8))) 9 (sk tx (o 7) (o 8))) 10 0) (f' := f) hM (Sm.tw (Sm.tw Sm.rf hSz3038 (by decide)) hSz3183 (by decide)) hMMz3182.1 (c1_skip (c1_cons (Sm.at hSz3183 (by decide) (Sm.at hSz3038 (by decide) (hM.2 145 (by decide) (by decide)))) (c1_cons (Sm.at hSz3183 (by decide) (Sm.at hSz3038 (by decide) (hM.2 146 (by decide) (by decide)))) (c1_cons (Sm.at hSz3183 (by decide) (Sm.at hSz3038 (by decide) (hM.2 147 (by decide) (by decide)))) c1_nil)))) (fs_k (fs_k (fs_k (fs_k fs_n))))), by omega, hb0, Dsame.of (S := [139, 145, 146, 147]) (fs_k (fs_k (fs_k (fs_k fs_n)))) (by decide)⟩⟩
      · -- 33 to 36
        refine zw_n 2 rfl ?_
        have hnm9 := ite_ne c33
        refine zw_top (x' := nI (hr tx (o 7) (sk tx (o 7) (o 8)))) (congrArg nI (mv_val (by have := nm_lt hnm9; omega))) ?_
        refine zw_callV (as := [.int (nI (hr tx (o 7) (sk tx (o 7) (o 8))))]) (rest := []) rfl rfl rfl hMMz3037.1 rfl rfl rfl (by decide) (m_draftOf Mz3040 (up o 8 (sk tx (o 7) (o 8))) f (MM.of (o' := up o 8 (sk tx (o 7) (o 8))) (f' := f) hM (Sm.tw Sm.rf hSz3038 (by decide)) hMMz3037.1 (c1_skip (c1_cons (Sm.at hSz3038 (by decide) (hM.2 145 (by decide) (by decide))) (c1_cons (Sm.at hSz3038 (by decide) (hM.2 146 (by decide) (by decide))) (c1_cons (Sm.at hSz3038 (by decide) (hM.2 147 (by decide) (by decide))) c1_nil)))) (fs_k (fs_k (fs_k (fs_k fs_n))))) i (hr tx (o 7) (sk tx (o 7) (o 8))) hi0 (by omega) (by have := nm_lt hnm9; omega) hb0) (fun rz3187 Mz3188 hz3189 => ?_)
        rw [hz3189.1, hz3189.2]
        show Zw 4 zm_MO_readRule 41 [some (.ref 139), some (.int (nI (mv tx (o 7) (sk tx (o 7) (o 8))))), some (.int (nI i))] [.int (nI (srch (fun q => f 145 (1 + q) == (hr tx (o 7) (sk tx (o 7) (o 8)))) 0 i))] Mz3040 _
        refine zw_n 1 rfl ?_
        refine zw_ieqM (a := srch (fun q => f 145 (1 + q) == (hr tx (o 7) (sk tx (o 7) (o 8)))) 0 i) rfl rfl (by rcases srch_spec (fun q => f 145 (1 + q) == hr tx (o 7) (sk tx (o 7) (o 8))) i 0 with ⟨q9, _⟩ | ⟨_, q9, _, _⟩ <;> (first | (rw [q9]; decide) | omega)) (fun c42 => ?_) (fun c42 => ?_)
        · -- 42 to 50
          have hi7 : i < 8 := by have := nm_in hnm9; omega
          have hnl := nm_lt hnm9
          have hnin := nm_in hnm9
          have hcd : cD tx (o 7) i = false := (nOk_c (gn := fun q => f 145 (1 + q)) (fun q hq => hnm q hq)).mp (by unfold nOk nQ; rw [← hpc]; exact ⟨hnm9, hi7, c42⟩)
          refine zw_n 1 rfl ?_
          refine zw_get (v := .ref 145) rfl hMMz3037.1 rfl ?_
          refine zw_n 3 rfl ?_
          refine zw_top (na (a := 1) (b := i) rfl rfl) ?_
          refine zw_n 1 rfl ?_
          refine zw_iastN (g := (f 145)) (j := (1 + i)) (v := (hr tx (o 7) (sk tx (o 7) (o 8)))) rfl (Sm.at hSz3038 (by decide) (hM.2 145 (by decide) (by decide))) rfl (by decide) (by omega) (congrArg nI (mv_val (by omega))) ?_
          generalize ez3191 : List.set Mz3040 145 _ = Mz3190
          refine zw_n 1 rfl ?_
          refine zw_get (v := .ref 145) rfl (zat_set ez3191 (by decide) hMMz3037.1) rfl ?_
          refine zw_n 3 rfl ?_
          refine zw_top (na (a := 9) (b := i) rfl rfl) ?_
          refine zw_n 1 rfl ?_
          refine zw_iastN (g := (up (f 145) (1 + i) (hr tx (o 7) (sk tx (o 7) (o 8))))) (j := (9 + i)) (v := 0) rfl (zat_self ez3191 (Sm.at hSz3038 (by decide) (hM.2 145 (by decide) (by decide)))) rfl (by decide) (by omega) (rfl) ?_
          generalize ez3193 : List.set Mz3190 145 _ = Mz3192
          refine zw_n 1 rfl ?_
          refine zw_get (v := .ref 146) rfl (zat_set ez3193 (by decide) (zat_set ez3191 (by decide) hMMz3037.1)) rfl ?_
          refine zw_n 2 rfl ?_
          refine zw_get (v := .int (nI (sk tx (o 7) (o 8)))) rfl (zat_set ez3193 (by decide) (zat_set ez3191 (by decide) hMMz3037.1)) rfl ?_
          refine zw_iastN (g := (f 146)) (j := i) (v := (sk tx (o 7) (o 8))) rfl (zat_set ez3193 (by decide) (zat_set ez3191 (by decide) (Sm.at hSz3038 (by decide) (hM.2 146 (by decide) (by decide))))) rfl (by decide) (by omega) (rfl) ?_
          generalize ez3195 : List.set Mz3192 146 _ = Mz3194
          refine zw_n 1 rfl ?_
          refine zw_get (v := .ref 145) rfl (zat_set ez3195 (by decide) (zat_set ez3193 (by decide) (zat_set ez3191 (by decide) hMMz3037.1))) rfl ?_
          refine zw_n 2 rfl ?_
          refine zw_iald (f := ai (up (up (f 145) (1 + i) (hr tx (o 7) (sk tx (o 7) (o 8)))) (9 + i) 0)) (j := 0) rfl (zat_set ez3195 (by decide) (zat_self ez3193 (zat_self ez3191 (Sm.at hSz3038 (by decide) (hM.2 145 (by decide) (by decide)))))) rfl (by decide) (by omega) ?_
          refine zw_top (x' := (nI i)) (congrArg nI ((up_n (by omega)).trans ((up_n (by omega)).trans hi0))) ?_
          refine zw_n 2 rfl ?_
          refine zw_top (na (a := i) (b := 1) rfl rfl) ?_
          refine zw_iastN (g := (up (up (f 145) (1 + i) (hr tx (o 7) (sk tx (o 7) (o 8)))) (9 + i) 0)) (j := 0) (v := (i + 1)) rfl (zat_set ez3195 (by decide) (zat_self ez3193 (zat_self ez3191 (Sm.at hSz3038 (by decide) (hM.2 145 (by decide) (by decide)))))) rfl (by decide) (by omega) (rfl) ?_
          generalize ez3197 : List.set Mz3194 145 _ = Mz3196
          refine zw_n 2 rfl ?_
          refine zw_get (v := .int (nI (sk tx (o 7) (o 8)))) rfl (zat_set ez3197 (by decide) (zat_set ez3195 (by decide) (zat_set ez3193 (by decide) (zat_set ez3191 (by decide) hMMz3037.1)))) rfl ?_
          refine zw_n 2 rfl ?_
          refine zw_top (na (a := sk tx (o 7) (o 8)) (b := 1) rfl rfl) ?_
          refine zw_put rfl (zat_set ez3197 (by decide) (zat_set ez3195 (by decide) (zat_set ez3193 (by decide) (zat_set ez3191 (by decide) hMMz3037.1)))) (rfl) (Nat.le_of_ble_eq_true rfl) ?_
          generalize ez3199 : List.set Mz3196 139 _ = Mz3198
          refine zw_n 2 rfl ?_
          refine zw_callV (as := [.int 58]) (rest := []) rfl rfl rfl (zat_self ez3199 (zat_set ez3197 (by decide) (zat_set ez3195 (by decide) (zat_set ez3193 (by decide) (zat_set ez3191 (by decide) hMMz3037.1))))) rfl rfl rfl (by decide) (m_takes Mz3198 (up o 8 ((sk tx (o 7) (o 8)) + 1)) (fset (fset f 146 (up (f 146) i (sk tx (o 7) (o 8)))) 145 (up (up (up (f 145) (1 + i) (hr tx (o 7) (sk tx (o 7) (o 8)))) (9 + i) 0) 0 (i + 1))) (MM.of (o' := up o 8 ((sk tx (o 7) (o 8)) + 1)) (f' := fset (fset f 146 (up (f 146) i (sk tx (o 7) (o 8)))) 145 (up (up (up (f 145) (1 + i) (hr tx (o 7) (sk tx (o 7) (o 8)))) (9 + i) 0) 0 (i + 1))) hM (Sm.tset (Sm.tset (Sm.tset (Sm.tset (Sm.tset (Sm.tw Sm.rf hSz3038 (by decide)) ez3191 (by decide)) ez3193 (by decide)) ez3195 (by decide)) ez3197 (by decide)) ez3199 (by decide)) (zat_self ez3199 (zat_set ez3197 (by decide) (zat_set ez3195 (by decide) (zat_set ez3193 (by decide) (zat_set ez3191 (by decide) hMMz3037.1))))) (c1_skip (c1_cons (zat_set ez3199 (by decide) (zat_self ez3197 (zat_set ez3195 (by decide) (zat_self ez3193 (zat_self ez3191 (Sm.at hSz3038 (by decide) (hM.2 145 (by decide) (by decide)))))))) (c1_cons (zat_set ez3199 (by decide) (zat_set ez3197 (by decide) (zat_self ez3195 (zat_set ez3193 (by decide) (zat_set ez3191 (by decide) (Sm.at hSz3038 (by decide) (hM.2 146 (by decide) (by decide)))))))) (c1_cons (zat_set ez3199 (by decide) (zat_set ez3197 (by decide) (zat_set ez3195 (by decide) (zat_set ez3193 (by decide) (zat_set ez3191 (by decide) (Sm.at hSz3038 (by decide) (hM.2 147 (by decide) (by decide)))))))) c1_nil)))) (fs_k (fs_c (fs_c (fs_k fs_n))))) tx hX htx htl (show (sk tx (o 7) (o 8)) + 1 ≤ o 7 by omega) hg 58 (by decide) (by decide)) (fun rz3203 Mz3204 hz3205 => ?_)
          rcases Classical.em (hr tx (o 7) (sk tx (o 7) ((sk tx (o 7) (o 8)) + 1)) = 58) with hz3205a | hz3205b
          · skip
            obtain ⟨hAz3200, hMMz3201, hSz3202⟩ := hz3205.1 hz3205a
            rw [hAz3200]
            have htk9 : sk tx (o 7) ((sk tx (o 7) (o 8)) + 1) < o 7 := hr_in (by rw [hz3205a]; decide)
            show Zw 4 zm_MO_readRule 105 [some (.ref 139), some (.int (nI (mv tx (o 7) (sk tx (o 7) (o 8))))), some (.int (nI i))] [.int 1] Mz3204 _
            refine zw_if rfl ?_
            show Zw 4 zm_MO_readRule 113 [some (.ref 139), some (.int (nI (mv tx (o 7) (sk tx (o 7) (o 8))))), some (.int (nI i))] [] Mz3204 _
            have hCA : sk tx (o 7) (sk tx (o 7) (o 8) + 1) + 1 = cA tx (o 7) i := by rw [hpc]; rfl
            have mz3206 : Mz3204[139]? = some (.inr (12, [.int (nI (o 0)), .ref 140, .ref 141, .ref 142, .ref 143, .int (nI (o 5)), .ref 144, .int (nI (o 7)), .int (nI ((sk tx (o 7) ((sk tx (o 7) (o 8)) + 1)) + 1)), .int (nI (o 9)), .int (nI (o 10)), .ref 145, .ref 146, .ref 147, .ref 148, .ref 149, .ref 150, .ref 151, .ref 152, .ref 153, .ref 154, .ref 155, .ref 156, .ref 157, .ref 158, .ref 159, .ref 160, .ref 161, .ref 162, .ref 163, .ref 164, .int (nI (o 31)), .ref 165, .int (nI (o 33)), .ref 166, .ref 167, .ref 168, .ref 169, .int (nI (o 38)), .ref 170, .ref 171, .ref 172, .ref 173, .ref 174, .ref 175, .int (nI (o 45)), .int (nI (o 46)), .int (nI (o 47)), .long (lN (o 48)), .ref 176])) := hMMz3201.1
            rw [hCA] at mz3206
            have hcf : cF tx (o 7) i = bF tx (o 7) (cA tx (o 7) i) := by rw [cF_ok hcd, if_pos]; have h8 := hz3205a; rw [hpc] at h8; exact h8
            have hca9 : cA tx (o 7) i ≤ o 7 := by rw [← hCA]; omega
            refine zw_n 2 rfl ?_
            refine zw_callV (as := [.int (nI i)]) (rest := []) rfl rfl rfl mz3206 rfl rfl rfl (by decide) (m_readAlt Mz3204 (up o 8 (cA tx (o 7) i)) (fset (fset f 146 (up (f 146) i (sk tx (o 7) (o 8)))) 145 (up (up (up (f 145) (1 + i) (hr tx (o 7) (sk tx (o 7) (o 8)))) (9 + i) 0) 0 (i + 1))) (MM.of (o' := up o 8 (cA tx (o 7) i)) (f' := fset (fset f 146 (up (f 146) i (sk tx (o 7) (o 8)))) 145 (up (up (up (f 145) (1 + i) (hr tx (o 7) (sk tx (o 7) (o 8)))) (9 + i) 0) 0 (i + 1))) hM (Sm.tw (Sm.tset (Sm.tset (Sm.tset (Sm.tset (Sm.tset (Sm.tw Sm.rf hSz3038 (by decide)) ez3191 (by decide)) ez3193 (by decide)) ez3195 (by decide)) ez3197 (by decide)) ez3199 (by decide)) hSz3202 (by decide)) mz3206 (c1_skip (c1_cons (Sm.at hSz3202 (by decide) (zat_set ez3199 (by decide) (zat_self ez3197 (zat_set ez3195 (by decide) (zat_self ez3193 (zat_self ez3191 (Sm.at hSz3038 (by decide) (hM.2 145 (by decide) (by decide))))))))) (c1_cons (Sm.at hSz3202 (by decide) (zat_set ez3199 (by decide) (zat_set ez3197 (by decide) (zat_self ez3195 (zat_set ez3193 (by decide) (zat_set ez3191 (by decide) (Sm.at hSz3038 (by decide) (hM.2 146 (by decide) (by decide))))))))) (c1_cons (Sm.at hSz3202 (by decide) (zat_set ez3199 (by decide) (zat_set ez3197 (by decide) (zat_set ez3195 (by decide) (zat_set ez3193 (by decide) (zat_set ez3191 (by decide) (Sm.at hSz3038 (by decide) (hM.2 147 (by decide) (by decide))))))))) c1_nil)))) (fs_k (fs_c (fs_c (fs_k fs_n))))) tx hX htx htl (show cA tx (o 7) i ≤ o 7 by omega) hg i 0 (by omega) ((up_n (by omega)).trans (up_s ..)) (by omega) (up_lt (up_lt (up_lt hb0 (by omega)) (by decide)) (by omega))) (fun rz3224 Mz3225 hz3226 => ?_)
            rcases hz3226.2.2 with hz3226a | hz3226b
            · skip
              obtain ⟨hAz3207, hSz3209, -⟩ := hz3226
              obtain ⟨Dz3210, Qz3211, hMMz3208, hsoz3212, hMAz3213, hbz3214, hfz3215, h9z3216, hqz3217⟩ := hz3226a
              rw [hAz3207]
              show Zw 4 zm_MO_readRule 118 [some (.ref 139), some (.int (nI (mv tx (o 7) (sk tx (o 7) (o 8))))), some (.int (nI i))] [] Mz3225 _
              have mz3227 : Mz3225[144]? = some (.inl (2, 240, .inl (ai (f 144)))) := Sm.at hSz3209 (by decide) (Sm.at hSz3202 (by decide) (zat_set ez3199 (by decide) (zat_set ez3197 (by decide) (zat_set ez3195 (by decide) (zat_set ez3193 (by decide) (zat_set ez3191 (by decide) (Sm.at hSz3038 (by decide) (hM.2 144 (by decide) (by decide)))))))))
              have mz3228 : Mz3225[146]? = some (.inl (0, 8, .inl (ai (up (f 146) i (sk tx (o 7) (o 8)))))) := Sm.at hSz3209 (by decide) (Sm.at hSz3202 (by decide) (zat_set ez3199 (by decide) (zat_set ez3197 (by decide) (zat_self ez3195 (zat_set ez3193 (by decide) (zat_set ez3191 (by decide) (Sm.at hSz3038 (by decide) (hM.2 146 (by decide) (by decide)))))))))
              have sz3229 : Sm Mq Mz3225 [139, 145, 146, 147] := Sm.tw (Sm.tw (Sm.tset (Sm.tset (Sm.tset (Sm.tset (Sm.tset (Sm.tw Sm.rf hSz3038 (by decide)) ez3191 (by decide)) ez3193 (by decide)) ez3195 (by decide)) ez3197 (by decide)) ez3199 (by decide)) hSz3202 (by decide)) hSz3209 (by decide)
              have lp118 : ∀ (n118 : Nat) (j : Nat) (D1 : Nat → Nat) (Q1 : Nat → Nat) (M_118 : zM), Sm Mq M_118 [139, 145, 146, 147] → M_118[139]? = some (.inr (12, [.int (nI (o 0)), .ref 140, .ref 141, .ref 142, .ref 143, .int (nI (o 5)), .ref 144, .int (nI (o 7)), .int (nI (aE tx (o 7) (bP tx (o 7) (cA tx (o 7) i) j))), .int (nI (o 9)), .int (nI (o 10)), .ref 145, .ref 146, .ref 147, .ref 148, .ref 149, .ref 150, .ref 151, .ref 152, .ref 153, .ref 154, .ref 155, .ref 156, .ref 157, .ref 158, .ref 159, .ref 160, .ref 161, .ref 162, .ref 163, .ref 164, .int (nI (o 31)), .ref 165, .int (nI (o 33)), .ref 166, .ref 167, .ref 168, .ref 169, .int (nI (o 38)), .ref 170, .ref 171, .ref 172, .ref 173, .ref 174, .ref 175, .int (nI (o 45)), .int (nI (o 46)), .int (nI (o 47)), .long (lN (o 48)), .ref 176])) → M_118[145]? = some (.inl (0, 529, .inl (ai D1))) → M_118[147]? = some (.inl (0, 160, .inl (ai Q1))) → M_118[146]? = some (.inl (0, 8, .inl (ai (up (f 146) i (sk tx (o 7) (o 8)))))) → (j < 4 ∧ (∀ q, q < j → bZ tx (o 7) (cA tx (o 7) i) q = false) ∧ (aF tx (o 7) (bP tx (o 7) (cA tx (o 7) i) j) = NO ∨ aF tx (o 7) (bP tx (o 7) (cA tx (o 7) i) j) = aE tx (o 7) (bP tx (o 7) (cA tx (o 7) i) j)) ∧ MRul tx (o 7) (cA tx (o 7) i) i (j + 1) D1 Q1 ∧ (∀ q, D1 q < 2147483648) ∧ (∀ q, ¬ rR_ i q → q ≠ 0 → q ≠ 1 + i → D1 q = f 145 q) ∧ D1 0 = i + 1 ∧ D1 (1 + i) = cN tx (o 7) i ∧ (∀ q, ¬ (i * 20 ≤ q ∧ q < i * 20 + 20) → Q1 q = f 147 q)) → 4 - j < n118 → Zw 4 zm_MO_readRule 118 [some (.ref 139), some (.int (nI (mv tx (o 7) (sk tx (o 7) (o 8))))), some (.int (nI i))] [] M_118 (fun r9 M1 => r9 = none ∧ Sm Mq M1 [139, 145, 146, 147] ∧ ((∃ D9 N9 Q9, MM M1 (up o 8 (bE tx (o 7) (cA tx (o 7) i))) (fset (fset (fset f 147 Q9) 146 N9) 145 D9) ∧ (cF tx (o 7) i = NO ∨ cF tx (o 7) i = bE tx (o 7) (cA tx (o 7) i)) ∧ i < 8 ∧ cA tx (o 7) i ≤ o 7 ∧ (∀ j, j < bK tx (o 7) (cA tx (o 7) i) → bZ tx (o 7) (cA tx (o 7) i) j = false) ∧ bK tx (o 7) (cA tx (o 7) i) < 4 ∧ MRul tx (o 7) (cA tx (o 7) i) i (bK tx (o 7) (cA tx (o 7) i) + 1) D9 Q9 ∧ (∀ q, D9 q < 2147483648) ∧ (∀ q, ¬ rR_ i q → q ≠ 0 → q ≠ 1 + i → D9 q = f 145 q) ∧ D9 0 = i + 1 ∧ D9 (1 + i) = cN tx (o 7) i ∧ (∀ q, ¬ (i * 20 ≤ q ∧ q < i * 20 + 20) → Q9 q = f 147 q) ∧ N9 = up (f 146) i (nQ tx (o 7) (cP tx (o 7) i)) ∧ cF tx (o 7) i = bF tx (o 7) (cA tx (o 7) i)) ∨ (cF tx (o 7) i ≠ NO ∧ ∃ P9 f9, MM M1 (up (up (up o 8 P9) 9 (cF tx (o 7) i)) 10 0) f9 ∧ P9 ≤ o 7 ∧ (∀ q, f9 145 q < 2147483648) ∧ Dsame f f9))) := by
                intro n118
                induction n118 with
                | zero => intro j D1 Q1 M_118 _ _ _ _ _ _ h; exact absurd h (Nat.not_lt_zero _)
                | succ n118 ih118 =>
                  intro j D1 Q1 M_118 s_118 f118_0 f118_1 f118_2 f118_3 hi118 hm118
                  obtain ⟨ij, iz, iso, iM, iBd, iFr, i0, i1, iQ9⟩ := hi118
                  have hbj := bP_b (tx := tx) hca9 htl iz
                  have haj := aE_b (tx := tx) hbj.2 htl
                  refine zw_n 2 rfl ?_
                  refine zw_callV (as := [.int 47]) (rest := []) rfl rfl rfl f118_0 rfl rfl rfl (by decide) (m_takes M_118 (up o 8 (aE tx (o 7) (bP tx (o 7) (cA tx (o 7) i) j))) (fset (fset (fset f 147 Q1) 146 (up (f 146) i (sk tx (o 7) (o 8)))) 145 D1) (MM.of (o' := up o 8 (aE tx (o 7) (bP tx (o 7) (cA tx (o 7) i) j))) (f' := fset (fset (fset f 147 Q1) 146 (up (f 146) i (sk tx (o 7) (o 8)))) 145 D1) hM s_118 f118_0 (c1_skip (c1_cons f118_1 (c1_cons f118_3 (c1_cons f118_2 c1_nil)))) (fs_k (fs_c (fs_c (fs_c fs_n))))) tx hX htx htl (show aE tx (o 7) (bP tx (o 7) (cA tx (o 7) i) j) ≤ o 7 by omega) hg 47 (by decide) (by decide)) (fun rz3233 Mz3234 hz3235 => ?_)
                  rcases Classical.em (hr tx (o 7) (sk tx (o 7) (aE tx (o 7) (bP tx (o 7) (cA tx (o 7) i) j))) = 47) with hz3235a | hz3235b
                  · skip
                    obtain ⟨hAz3230, hMMz3231, hSz3232⟩ := hz3235.1 hz3235a
                    rw [hAz3230]
                    have htk9 : sk tx (o 7) (aE tx (o 7) (bP tx (o 7) (cA tx (o 7) i) j)) < o 7 := hr_in (by rw [hz3235a]; decide)
                    show Zw 4 zm_MO_readRule 124 [some (.ref 139), some (.int (nI (mv tx (o 7) (sk tx (o 7) (o 8))))), some (.int (nI i))] [.int 1] Mz3234 _
                    refine zw_if rfl ?_
                    show Zw 4 zm_MO_readRule 127 [some (.ref 139), some (.int (nI (mv tx (o 7) (sk tx (o 7) (o 8))))), some (.int (nI i))] [] Mz3234 _
                    by_cases sp127 : j + 1 < 4
                    · skip
                      have h47 : hr tx (o 7) (aE tx (o 7) (bP tx (o 7) (cA tx (o 7) i) j)) = 47 := by have h8 := hz3235a; rw [aE_sk] at h8; exact h8
                      have hBJ : sk tx (o 7) (aE tx (o 7) (bP tx (o 7) (cA tx (o 7) i) j)) + 1 = bP tx (o 7) (cA tx (o 7) i) (j + 1) := by rw [aE_sk]; rfl
                      have mz3236 : Mz3234[139]? = some (.inr (12, [.int (nI (o 0)), .ref 140, .ref 141, .ref 142, .ref 143, .int (nI (o 5)), .ref 144, .int (nI (o 7)), .int (nI ((sk tx (o 7) (aE tx (o 7) (bP tx (o 7) (cA tx (o 7) i) j))) + 1)), .int (nI (o 9)), .int (nI (o 10)), .ref 145, .ref 146, .ref 147, .ref 148, .ref 149, .ref 150, .ref 151, .ref 152, .ref 153, .ref 154, .ref 155, .ref 156, .ref 157, .ref 158, .ref 159, .ref 160, .ref 161, .ref 162, .ref 163, .ref 164, .int (nI (o 31)), .ref 165, .int (nI (o 33)), .ref 166, .ref 167, .ref 168, .ref 169, .int (nI (o 38)), .ref 170, .ref 171, .ref 172, .ref 173, .ref 174, .ref 175, .int (nI (o 45)), .int (nI (o 46)), .int (nI (o 47)), .long (lN (o 48)), .ref 176])) := hMMz3231.1
                      rw [hBJ] at mz3236
                      have hz8 := rt_step iz (bZ_no (soft_47 iso hbj.2 htl (by rw [h47]; exact stp47)) h47)
                      have hb8 := bP_b (tx := tx) hca9 htl (j := j + 1) hz8
                      have hb0j : 0 < bP tx (o 7) (cA tx (o 7) i) (j + 1) := by show 0 < _ + 1; omega
                      refine zw_n 2 rfl ?_
                      refine zw_callV (as := [.int (nI i)]) (rest := []) rfl rfl rfl mz3236 rfl rfl rfl (by decide) (m_readAlt Mz3234 (up o 8 (bP tx (o 7) (cA tx (o 7) i) (j + 1))) (fset (fset (fset f 147 Q1) 146 (up (f 146) i (sk tx (o 7) (o 8)))) 145 D1) (MM.of (o' := up o 8 (bP tx (o 7) (cA tx (o 7) i) (j + 1))) (f' := fset (fset (fset f 147 Q1) 146 (up (f 146) i (sk tx (o 7) (o 8)))) 145 D1) hM (Sm.tw s_118 hSz3232 (by decide)) mz3236 (c1_skip (c1_cons (Sm.at hSz3232 (by decide) f118_1) (c1_cons (Sm.at hSz3232 (by decide) f118_3) (c1_cons (Sm.at hSz3232 (by decide) f118_2) c1_nil)))) (fs_k (fs_c (fs_c (fs_c fs_n))))) tx hX htx htl (show bP tx (o 7) (cA tx (o 7) i) (j + 1) ≤ o 7 by omega) hg i (j + 1) (by omega) iM.1 (by omega) iBd) (fun rz3254 Mz3255 hz3256 => ?_)
                      rcases hz3256.2.2 with hz3256a | hz3256b
                      · skip
                        obtain ⟨hAz3237, hSz3239, -⟩ := hz3256
                        obtain ⟨Dz3240, Qz3241, hMMz3238, hsoz3242, hMAz3243, hbz3244, hfz3245, h9z3246, hqz3247⟩ := hz3256a
                        rw [hAz3237]
                        show Zw 4 zm_MO_readRule 132 [some (.ref 139), some (.int (nI (mv tx (o 7) (sk tx (o 7) (o 8))))), some (.int (nI i))] [] Mz3255 _
                        refine zw_n 1 rfl ?_
                        exact ih118 (j + 1) Dz3240 Qz3241 Mz3255 (Sm.tw (Sm.tw s_118 hSz3232 (by decide)) hSz3239 (by decide)) hMMz3238.1 (hMMz3238.2 145 (by decide) (by decide)) (hMMz3238.2 147 (by decide) (by decide)) (Sm.at hSz3239 (by decide) (Sm.at hSz3232 (by decide) f118_3)) (⟨by omega, hz8, hsoz3242, iM.step (by omega) hi7 hMAz3243 hfz3245 h9z3246 hqz3247, hbz3244, fun q q1 q2 q3 => (hfz3245 q (rR_al (by omega) q1).1 (rR_al (j := 0) (by omega) q1).2).trans (iFr q q1 q2 q3), (hfz3245 0 (by unfold aR_; omega) (by omega)).trans i0, (hfz3245 (1 + i) (by unfold aR_; omega) (by omega)).trans i1, fun q q1 => (hqz3247 q (by omega)).trans (iQ9 q q1)⟩) (by omega)
                      · skip
                        obtain ⟨hAz3237, hSz3239, -⟩ := hz3256
                        obtain ⟨hnez3253, Pz3248, fz3249, hMMz3238, hpz3250, hbz3251, hdz3252⟩ := hz3256b
                        rw [hAz3237]
                        have hp8 : Pz3248 ≤ o 7 := hpz3250
                        show Zw 4 zm_MO_readRule 132 [some (.ref 139), some (.int (nI (mv tx (o 7) (sk tx (o 7) (o 8))))), some (.int (nI i))] [] Mz3255 _
                        refine zw_n 3 rfl ?_
                        refine zw_callV (as := [.int 47]) (rest := []) rfl rfl rfl hMMz3238.1 rfl rfl rfl (by decide) (m_takesB Mz3255 (up (up (up o 8 Pz3248) 9 (aF tx (o 7) (bP tx (o 7) (cA tx (o 7) i) (j + 1)))) 10 0) (fset (fset (fset f 147 (fz3249 147)) 146 (up (f 146) i (sk tx (o 7) (o 8)))) 145 (fz3249 145)) (MM.of (o' := up (up (up o 8 Pz3248) 9 (aF tx (o 7) (bP tx (o 7) (cA tx (o 7) i) (j + 1)))) 10 0) (f' := fset (fset (fset f 147 (fz3249 147)) 146 (up (f 146) i (sk tx (o 7) (o 8)))) 145 (fz3249 145)) hM (Sm.tw (Sm.tw s_118 hSz3232 (by decide)) hSz3239 (by decide)) hMMz3238.1 (c1_skip (c1_cons (hMMz3238.2 145 (by decide) (by decide)) (c1_cons (Sm.at hSz3239 (by decide) (Sm.at hSz3232 (by decide) f118_3)) (c1_cons (hMMz3238.2 147 (by decide) (by decide)) c1_nil)))) (fs_k (fs_c (fs_c (fs_c fs_n))))) rfl 47) (fun rz3260 Mz3261 hz3262 => ?_)
                        obtain ⟨hAz3257, hMMz3258, hSz3259⟩ := hz3262
                        rw [hAz3257]
                        show Zw 4 zm_MO_readRule 124 [some (.ref 139), some (.int (nI (mv tx (o 7) (sk tx (o 7) (o 8))))), some (.int (nI i))] [.int 0] Mz3261 _
                        refine zw_if rfl ?_
                        show Zw 4 zm_MO_readRule 135 [some (.ref 139), some (.int (nI (mv tx (o 7) (sk tx (o 7) (o 8))))), some (.int (nI i))] [] Mz3261 _
                        refine zw_vret rfl rfl ?_
                        have hf9 : cF tx (o 7) i = aF tx (o 7) (bP tx (o 7) (cA tx (o 7) i) (j + 1)) := by rw [hcf]; exact (bF_at (bK_at hz8 (by omega) (bZ_f hnez3253)) (by omega)).1
                        exact ⟨rfl, Sm.tw (Sm.tw (Sm.tw s_118 hSz3232 (by decide)) hSz3239 (by decide)) hSz3259 (by decide), Or.inr ⟨by rw [hf9]; exact hnez3253, Pz3248 + 0, fset (fset (fset f 147 (fz3249 147)) 146 (up (f 146) i (sk tx (o 7) (o 8)))) 145 (fz3249 145), by rw [hf9]; exact (MM.of (o' := up (up (up o 8 (Pz3248 + 0)) 9 (aF tx (o 7) (bP tx (o 7) (cA tx (o 7) i) (j + 1)))) 10 0) (f' := fset (fset (fset f 147 (fz3249 147)) 146 (up (f 146) i (sk tx (o 7) (o 8)))) 145 (fz3249 145)) hM (Sm.tw (Sm.tw (Sm.tw s_118 hSz3232 (by decide)) hSz3239 (by decide)) hSz3259 (by decide)) hMMz3258.1 (c1_skip (c1_cons (Sm.at hSz3259 (by decide) (hMMz3238.2 145 (by decide) (by decide))) (c1_cons (Sm.at hSz3259 (by decide) (Sm.at hSz3239 (by decide) (Sm.at hSz3232 (by decide) f118_3))) (c1_cons (Sm.at hSz3259 (by decide) (hMMz3238.2 147 (by decide) (by decide))) c1_nil)))) (fs_k (fs_c (fs_c (fs_c fs_n))))), by omega, hbz3251, Dsame.of (S := [139, 145, 146, 147]) (fs_k (fs_c (fs_c (fs_c fs_n)))) (by decide)⟩⟩
                    · skip
                      have h47 : hr tx (o 7) (aE tx (o 7) (bP tx (o 7) (cA tx (o 7) i) j)) = 47 := by have h8 := hz3235a; rw [aE_sk] at h8; exact h8
                      have hBJ : sk tx (o 7) (aE tx (o 7) (bP tx (o 7) (cA tx (o 7) i) j)) + 1 = bP tx (o 7) (cA tx (o 7) i) (j + 1) := by rw [aE_sk]; rfl
                      have mz3263 : Mz3234[139]? = some (.inr (12, [.int (nI (o 0)), .ref 140, .ref 141, .ref 142, .ref 143, .int (nI (o 5)), .ref 144, .int (nI (o 7)), .int (nI ((sk tx (o 7) (aE tx (o 7) (bP tx (o 7) (cA tx (o 7) i) j))) + 1)), .int (nI (o 9)), .int (nI (o 10)), .ref 145, .ref 146, .ref 147, .ref 148, .ref 149, .ref 150, .ref 151, .ref 152, .ref 153, .ref 154, .ref 155, .ref 156, .ref 157, .ref 158, .ref 159, .ref 160, .ref 161, .ref 162, .ref 163, .ref 164, .int (nI (o 31)), .ref 165, .int (nI (o 33)), .ref 166, .ref 167, .ref 168, .ref 169, .int (nI (o 38)), .ref 170, .ref 171, .ref 172, .ref 173, .ref 174, .ref 175, .int (nI (o 45)), .int (nI (o 46)), .int (nI (o 47)), .long (lN (o 48)), .ref 176])) := hMMz3231.1
                      rw [hBJ] at mz3263
                      have hz8 := rt_step iz (bZ_no (soft_47 iso hbj.2 htl (by rw [h47]; exact stp47)) h47)
                      have hb8 := bP_b (tx := tx) hca9 htl (j := j + 1) hz8
                      have hb0j : 0 < bP tx (o 7) (cA tx (o 7) i) (j + 1) := by show 0 < _ + 1; omega
                      refine zw_n 2 rfl ?_
                      refine zw_callV (as := [.int (nI i)]) (rest := []) rfl rfl rfl mz3263 rfl rfl rfl (by decide) (m_readAlt4 Mz3234 (up o 8 (bP tx (o 7) (cA tx (o 7) i) (j + 1))) (fset (fset (fset f 147 Q1) 146 (up (f 146) i (sk tx (o 7) (o 8)))) 145 D1) (MM.of (o' := up o 8 (bP tx (o 7) (cA tx (o 7) i) (j + 1))) (f' := fset (fset (fset f 147 Q1) 146 (up (f 146) i (sk tx (o 7) (o 8)))) 145 D1) hM (Sm.tw s_118 hSz3232 (by decide)) mz3263 (c1_skip (c1_cons (Sm.at hSz3232 (by decide) f118_1) (c1_cons (Sm.at hSz3232 (by decide) f118_3) (c1_cons (Sm.at hSz3232 (by decide) f118_2) c1_nil)))) (fs_k (fs_c (fs_c (fs_c fs_n))))) tx hX htx htl (show bP tx (o 7) (cA tx (o 7) i) (j + 1) ≤ o 7 by omega) hg i (j + 1) (by omega) iM.1 (by omega) (show 0 < bP tx (o 7) (cA tx (o 7) i) (j + 1) by omega)) (fun rz3281 Mz3282 hz3283 => ?_)
                      obtain ⟨hAz3264, hMMz3265, hSz3266⟩ := hz3283
                      rw [hAz3264]
                      show Zw 4 zm_MO_readRule 132 [some (.ref 139), some (.int (nI (mv tx (o 7) (sk tx (o 7) (o 8))))), some (.int (nI i))] [] Mz3282 _
                      refine zw_n 3 rfl ?_
                      refine zw_callV (as := [.int 47]) (rest := []) rfl rfl rfl hMMz3265.1 rfl rfl rfl (by decide) (m_takesB Mz3282 (up (up (up o 8 ((bP tx (o 7) (cA tx (o 7) i) (j + 1)) - 1)) 9 ((bP tx (o 7) (cA tx (o 7) i) (j + 1)) - 1)) 10 0) (fset (fset (fset f 147 Q1) 146 (up (f 146) i (sk tx (o 7) (o 8)))) 145 D1) (MM.of (o' := up (up (up o 8 ((bP tx (o 7) (cA tx (o 7) i) (j + 1)) - 1)) 9 ((bP tx (o 7) (cA tx (o 7) i) (j + 1)) - 1)) 10 0) (f' := fset (fset (fset f 147 Q1) 146 (up (f 146) i (sk tx (o 7) (o 8)))) 145 D1) hM (Sm.tw (Sm.tw s_118 hSz3232 (by decide)) hSz3266 (by decide)) hMMz3265.1 (c1_skip (c1_cons (Sm.at hSz3266 (by decide) (Sm.at hSz3232 (by decide) f118_1)) (c1_cons (Sm.at hSz3266 (by decide) (Sm.at hSz3232 (by decide) f118_3)) (c1_cons (Sm.at hSz3266 (by decide) (Sm.at hSz3232 (by decide) f118_2)) c1_nil)))) (fs_k (fs_c (fs_c (fs_c fs_n))))) rfl 47) (fun rz3287 Mz3288 hz3289 => ?_)
                      obtain ⟨hAz3284, hMMz3285, hSz3286⟩ := hz3289
                      rw [hAz3284]
                      show Zw 4 zm_MO_readRule 124 [some (.ref 139), some (.int (nI (mv tx (o 7) (sk tx (o 7) (o 8))))), some (.int (nI i))] [.int 0] Mz3288 _
                      refine zw_if rfl ?_
                      show Zw 4 zm_MO_readRule 135 [some (.ref 139), some (.int (nI (mv tx (o 7) (sk tx (o 7) (o 8))))), some (.int (nI i))] [] Mz3288 _
                      refine zw_vret rfl rfl ?_
                      have hf9 : cF tx (o 7) i = bP tx (o 7) (cA tx (o 7) i) (j + 1) - 1 := by rw [hcf, bF_no (bK_no (fun q9 h9 => hz8 q9 (by omega))), show j = 3 by omega]; rfl
                      exact ⟨rfl, Sm.tw (Sm.tw (Sm.tw s_118 hSz3232 (by decide)) hSz3266 (by decide)) hSz3286 (by decide), Or.inr ⟨by rw [hf9]; unfold NO; omega, ((bP tx (o 7) (cA tx (o 7) i) (j + 1)) - 1) + 0, fset (fset (fset f 147 Q1) 146 (up (f 146) i (sk tx (o 7) (o 8)))) 145 D1, by rw [hf9]; exact (MM.of (o' := up (up (up o 8 (((bP tx (o 7) (cA tx (o 7) i) (j + 1)) - 1) + 0)) 9 ((bP tx (o 7) (cA tx (o 7) i) (j + 1)) - 1)) 10 0) (f' := fset (fset (fset f 147 Q1) 146 (up (f 146) i (sk tx (o 7) (o 8)))) 145 D1) hM (Sm.tw (Sm.tw (Sm.tw s_118 hSz3232 (by decide)) hSz3266 (by decide)) hSz3286 (by decide)) hMMz3285.1 (c1_skip (c1_cons (Sm.at hSz3286 (by decide) (Sm.at hSz3266 (by decide) (Sm.at hSz3232 (by decide) f118_1))) (c1_cons (Sm.at hSz3286 (by decide) (Sm.at hSz3266 (by decide) (Sm.at hSz3232 (by decide) f118_3))) (c1_cons (Sm.at hSz3286 (by decide) (Sm.at hSz3266 (by decide) (Sm.at hSz3232 (by decide) f118_2))) c1_nil)))) (fs_k (fs_c (fs_c (fs_c fs_n))))), by omega, iBd, Dsame.of (S := [139, 145, 146, 147]) (fs_k (fs_c (fs_c (fs_c fs_n)))) (by decide)⟩⟩
                  · skip
                    obtain ⟨hAz3230, hMMz3231, hSz3232⟩ := hz3235.2 hz3235b
                    rw [hAz3230]
                    have hleThAz3230 := @sk_le tx (o 7) (aE tx (o 7) (bP tx (o 7) (cA tx (o 7) i) j)) (by omega)
                    show Zw 4 zm_MO_readRule 124 [some (.ref 139), some (.int (nI (mv tx (o 7) (sk tx (o 7) (o 8))))), some (.int (nI i))] [.int 0] Mz3234 _
                    refine zw_if rfl ?_
                    show Zw 4 zm_MO_readRule 135 [some (.ref 139), some (.int (nI (mv tx (o 7) (sk tx (o 7) (o 8))))), some (.int (nI i))] [] Mz3234 _
                    refine zw_vret rfl rfl ?_
                    have hz9 := bZ_h (fun q9 => hz3235b (by rw [aE_sk]; exact q9))
                    have hk9 := bK_at iz ij hz9
                    have hb9 := bF_at hk9 ij
                    exact ⟨rfl, Sm.tw s_118 hSz3232 (by decide), Or.inl ⟨D1, (up (f 146) i (sk tx (o 7) (o 8))), Q1, by rw [hb9.2, ← aE_sk tx (o 7) (bP tx (o 7) (cA tx (o 7) i) j)]; exact (MM.of (o' := up o 8 ((sk tx (o 7) (aE tx (o 7) (bP tx (o 7) (cA tx (o 7) i) j))) + 0)) (f' := fset (fset (fset f 147 Q1) 146 (up (f 146) i (sk tx (o 7) (o 8)))) 145 D1) hM (Sm.tw s_118 hSz3232 (by decide)) hMMz3231.1 (c1_skip (c1_cons (Sm.at hSz3232 (by decide) f118_1) (c1_cons (Sm.at hSz3232 (by decide) f118_3) (c1_cons (Sm.at hSz3232 (by decide) f118_2) c1_nil)))) (fs_k (fs_c (fs_c (fs_c fs_n))))), by rw [hcf, hb9.1, hb9.2]; exact iso, by omega, hca9, by rw [hk9]; exact iz, by omega, by rw [hk9]; exact iM, iBd, iFr, i0, i1, iQ9, by rw [hpc]; rfl, hcf⟩⟩
              exact lp118 _ 0 Dz3210 Qz3211 Mz3225 sz3229 hMMz3208.1 (hMMz3208.2 145 (by decide) (by decide)) (hMMz3208.2 147 (by decide) (by decide)) mz3228 (ru_start hi7 hsoz3212 hMAz3213 hbz3214 hfz3215 h9z3216 hqz3217 (by rw [hpc]; rfl)) (Nat.lt_succ_self _)
            · skip
              obtain ⟨hAz3207, hSz3209, -⟩ := hz3226
              obtain ⟨hnez3223, Pz3218, fz3219, hMMz3208, hpz3220, hbz3221, hdz3222⟩ := hz3226b
              rw [hAz3207]
              have hp8 : Pz3218 ≤ o 7 := hpz3220
              show Zw 4 zm_MO_readRule 118 [some (.ref 139), some (.int (nI (mv tx (o 7) (sk tx (o 7) (o 8))))), some (.int (nI i))] [] Mz3225 _
              refine zw_n 2 rfl ?_
              refine zw_callV (as := [.int 47]) (rest := []) rfl rfl rfl hMMz3208.1 rfl rfl rfl (by decide) (m_takesB Mz3225 (up (up (up o 8 Pz3218) 9 (aF tx (o 7) (cA tx (o 7) i))) 10 0) (fset (fset (fset f 147 (fz3219 147)) 146 (up (f 146) i (sk tx (o 7) (o 8)))) 145 (fz3219 145)) (MM.of (o' := up (up (up o 8 Pz3218) 9 (aF tx (o 7) (cA tx (o 7) i))) 10 0) (f' := fset (fset (fset f 147 (fz3219 147)) 146 (up (f 146) i (sk tx (o 7) (o 8)))) 145 (fz3219 145)) hM (Sm.tw (Sm.tw (Sm.tset (Sm.tset (Sm.tset (Sm.tset (Sm.tset (Sm.tw Sm.rf hSz3038 (by decide)) ez3191 (by decide)) ez3193 (by decide)) ez3195 (by decide)) ez3197 (by decide)) ez3199 (by decide)) hSz3202 (by decide)) hSz3209 (by decide)) hMMz3208.1 (c1_skip (c1_cons (hMMz3208.2 145 (by decide) (by decide)) (c1_cons (Sm.at hSz3209 (by decide) (Sm.at hSz3202 (by decide) (zat_set ez3199 (by decide) (zat_set ez3197 (by decide) (zat_self ez3195 (zat_set ez3193 (by decide) (zat_set ez3191 (by decide) (Sm.at hSz3038 (by decide) (hM.2 146 (by decide) (by decide)))))))))) (c1_cons (hMMz3208.2 147 (by decide) (by decide)) c1_nil)))) (fs_k (fs_c (fs_c (fs_c fs_n))))) rfl 47) (fun rz3293 Mz3294 hz3295 => ?_)
              obtain ⟨hAz3290, hMMz3291, hSz3292⟩ := hz3295
              rw [hAz3290]
              show Zw 4 zm_MO_readRule 124 [some (.ref 139), some (.int (nI (mv tx (o 7) (sk tx (o 7) (o 8))))), some (.int (nI i))] [.int 0] Mz3294 _
              refine zw_if rfl ?_
              show Zw 4 zm_MO_readRule 135 [some (.ref 139), some (.int (nI (mv tx (o 7) (sk tx (o 7) (o 8))))), some (.int (nI i))] [] Mz3294 _
              refine zw_vret rfl rfl ?_
              have hf9 : cF tx (o 7) i = aF tx (o 7) (bP tx (o 7) (cA tx (o 7) i) 0) := by rw [hcf]; exact (bF_at (bK_at (fun j hj => absurd hj (Nat.not_lt_zero _)) (by omega) (bZ_f hnez3223)) (by omega)).1
              exact ⟨rfl, Sm.tw (Sm.tw (Sm.tw (Sm.tset (Sm.tset (Sm.tset (Sm.tset (Sm.tset (Sm.tw Sm.rf hSz3038 (by decide)) ez3191 (by decide)) ez3193 (by decide)) ez3195 (by decide)) ez3197 (by decide)) ez3199 (by decide)) hSz3202 (by decide)) hSz3209 (by decide)) hSz3292 (by decide), Or.inr ⟨by rw [hf9]; exact hnez3223, Pz3218 + 0, fset (fset (fset f 147 (fz3219 147)) 146 (up (f 146) i (sk tx (o 7) (o 8)))) 145 (fz3219 145), by rw [hf9]; exact (MM.of (o' := up (up (up o 8 (Pz3218 + 0)) 9 (aF tx (o 7) (cA tx (o 7) i))) 10 0) (f' := fset (fset (fset f 147 (fz3219 147)) 146 (up (f 146) i (sk tx (o 7) (o 8)))) 145 (fz3219 145)) hM (Sm.tw (Sm.tw (Sm.tw (Sm.tset (Sm.tset (Sm.tset (Sm.tset (Sm.tset (Sm.tw Sm.rf hSz3038 (by decide)) ez3191 (by decide)) ez3193 (by decide)) ez3195 (by decide)) ez3197 (by decide)) ez3199 (by decide)) hSz3202 (by decide)) hSz3209 (by decide)) hSz3292 (by decide)) hMMz3291.1 (c1_skip (c1_cons (Sm.at hSz3292 (by decide) (hMMz3208.2 145 (by decide) (by decide))) (c1_cons (Sm.at hSz3292 (by decide) (Sm.at hSz3209 (by decide) (Sm.at hSz3202 (by decide) (zat_set ez3199 (by decide) (zat_set ez3197 (by decide) (zat_self ez3195 (zat_set ez3193 (by decide) (zat_set ez3191 (by decide) (Sm.at hSz3038 (by decide) (hM.2 146 (by decide) (by decide))))))))))) (c1_cons (Sm.at hSz3292 (by decide) (hMMz3208.2 147 (by decide) (by decide))) c1_nil)))) (fs_k (fs_c (fs_c (fs_c fs_n))))), by omega, hbz3221, Dsame.of (S := [139, 145, 146, 147]) (fs_k (fs_c (fs_c (fs_c fs_n)))) (by decide)⟩⟩
          · skip
            obtain ⟨hAz3200, hMMz3201, hSz3202⟩ := hz3205.2 hz3205b
            rw [hAz3200]
            have hleThAz3200 := @sk_le tx (o 7) ((sk tx (o 7) (o 8)) + 1) (by omega)
            show Zw 4 zm_MO_readRule 105 [some (.ref 139), some (.int (nI (mv tx (o 7) (sk tx (o 7) (o 8))))), some (.int (nI i))] [.int 0] Mz3204 _
            refine zw_if rfl ?_
            show Zw 4 zm_MO_readRule 108 [some (.ref 139), some (.int (nI (mv tx (o 7) (sk tx (o 7) (o 8))))), some (.int (nI i))] [] Mz3204 _
            have hbD : ∀ q, (up (up (up (f 145) (1 + i) (hr tx (o 7) (sk tx (o 7) (o 8)))) (9 + i) 0) 0 (i + 1)) q < 2147483648 := up_lt (up_lt (up_lt hb0 (by omega)) (by decide)) (by omega)
            refine zw_n 1 rfl ?_
            refine zw_callV (as := []) (rest := []) rfl rfl rfl hMMz3201.1 rfl rfl rfl (by decide) (m_wrong Mz3204 (up o 8 ((sk tx (o 7) ((sk tx (o 7) (o 8)) + 1)) + 0)) (fset (fset f 146 (up (f 146) i (sk tx (o 7) (o 8)))) 145 (up (up (up (f 145) (1 + i) (hr tx (o 7) (sk tx (o 7) (o 8)))) (9 + i) 0) 0 (i + 1))) (MM.of (o' := up o 8 ((sk tx (o 7) ((sk tx (o 7) (o 8)) + 1)) + 0)) (f' := fset (fset f 146 (up (f 146) i (sk tx (o 7) (o 8)))) 145 (up (up (up (f 145) (1 + i) (hr tx (o 7) (sk tx (o 7) (o 8)))) (9 + i) 0) 0 (i + 1))) hM (Sm.tw (Sm.tset (Sm.tset (Sm.tset (Sm.tset (Sm.tset (Sm.tw Sm.rf hSz3038 (by decide)) ez3191 (by decide)) ez3193 (by decide)) ez3195 (by decide)) ez3197 (by decide)) ez3199 (by decide)) hSz3202 (by decide)) hMMz3201.1 (c1_skip (c1_cons (Sm.at hSz3202 (by decide) (zat_set ez3199 (by decide) (zat_self ez3197 (zat_set ez3195 (by decide) (zat_self ez3193 (zat_self ez3191 (Sm.at hSz3038 (by decide) (hM.2 145 (by decide) (by decide))))))))) (c1_cons (Sm.at hSz3202 (by decide) (zat_set ez3199 (by decide) (zat_set ez3197 (by decide) (zat_self ez3195 (zat_set ez3193 (by decide) (zat_set ez3191 (by decide) (Sm.at hSz3038 (by decide) (hM.2 146 (by decide) (by decide))))))))) (c1_cons (Sm.at hSz3202 (by decide) (zat_set ez3199 (by decide) (zat_set ez3197 (by decide) (zat_set ez3195 (by decide) (zat_set ez3193 (by decide) (zat_set ez3191 (by decide) (Sm.at hSz3038 (by decide) (hM.2 147 (by decide) (by decide))))))))) c1_nil)))) (fs_k (fs_c (fs_c (fs_k fs_n))))) hg) (fun rz3299 Mz3300 hz3301 => ?_)
            obtain ⟨hAz3296, hMMz3297, hSz3298⟩ := hz3301
            rw [hAz3296]
            show Zw 4 zm_MO_readRule 112 [some (.ref 139), some (.int (nI (mv tx (o 7) (sk tx (o 7) (o 8))))), some (.int (nI i))] [] Mz3300 _
            refine zw_vret rfl rfl ?_
            have hf9 : cF tx (o 7) i = sk tx (o 7) (sk tx (o 7) (o 8) + 1) + 0 := by rw [cF_ok hcd, if_neg (fun q9 => hz3205b (by rw [hpc]; exact q9))]; rw [hpc]; rfl
            exact ⟨rfl, Sm.tw (Sm.tw (Sm.tset (Sm.tset (Sm.tset (Sm.tset (Sm.tset (Sm.tw Sm.rf hSz3038 (by decide)) ez3191 (by decide)) ez3193 (by decide)) ez3195 (by decide)) ez3197 (by decide)) ez3199 (by decide)) hSz3202 (by decide)) hSz3298 (by decide), Or.inr ⟨by rw [hf9]; unfold NO; omega, (sk tx (o 7) ((sk tx (o 7) (o 8)) + 1)) + 0, fset (fset f 146 (up (f 146) i (sk tx (o 7) (o 8)))) 145 (up (up (up (f 145) (1 + i) (hr tx (o 7) (sk tx (o 7) (o 8)))) (9 + i) 0) 0 (i + 1)), by rw [hf9]; exact (MM.of (o' := up (up (up o 8 ((sk tx (o 7) ((sk tx (o 7) (o 8)) + 1)) + 0)) 9 ((sk tx (o 7) ((sk tx (o 7) (o 8)) + 1)) + 0)) 10 0) (f' := fset (fset f 146 (up (f 146) i (sk tx (o 7) (o 8)))) 145 (up (up (up (f 145) (1 + i) (hr tx (o 7) (sk tx (o 7) (o 8)))) (9 + i) 0) 0 (i + 1))) hM (Sm.tw (Sm.tw (Sm.tset (Sm.tset (Sm.tset (Sm.tset (Sm.tset (Sm.tw Sm.rf hSz3038 (by decide)) ez3191 (by decide)) ez3193 (by decide)) ez3195 (by decide)) ez3197 (by decide)) ez3199 (by decide)) hSz3202 (by decide)) hSz3298 (by decide)) hMMz3297.1 (c1_skip (c1_cons (Sm.at hSz3298 (by decide) (Sm.at hSz3202 (by decide) (zat_set ez3199 (by decide) (zat_self ez3197 (zat_set ez3195 (by decide) (zat_self ez3193 (zat_self ez3191 (Sm.at hSz3038 (by decide) (hM.2 145 (by decide) (by decide)))))))))) (c1_cons (Sm.at hSz3298 (by decide) (Sm.at hSz3202 (by decide) (zat_set ez3199 (by decide) (zat_set ez3197 (by decide) (zat_self ez3195 (zat_set ez3193 (by decide) (zat_set ez3191 (by decide) (Sm.at hSz3038 (by decide) (hM.2 146 (by decide) (by decide)))))))))) (c1_cons (Sm.at hSz3298 (by decide) (Sm.at hSz3202 (by decide) (zat_set ez3199 (by decide) (zat_set ez3197 (by decide) (zat_set ez3195 (by decide) (zat_set ez3193 (by decide) (zat_set ez3191 (by decide) (Sm.at hSz3038 (by decide) (hM.2 147 (by decide) (by decide)))))))))) c1_nil)))) (fs_k (fs_c (fs_c (fs_k fs_n))))), by omega, hbD, Dsame.of (S := [139, 145, 146, 147]) (fs_k (fs_c (fs_c (fs_k fs_n)))) (by decide)⟩⟩
        · -- 42 to 45
          have hbd : cD tx (o 7) i = true := by
            cases hc : cD tx (o 7) i with
            | true => rfl
            | false =>
              exfalso
              have h9 := (nOk_c (gn := fun q => f 145 (1 + q)) (fun q hq => hnm q hq)).mpr hc
              unfold nOk nQ at h9
              rw [← hpc] at h9
              first
                | exact ite_eq0 c33 h9.1
                | exact c42 h9.2.2
                | (have := h9.2.1; omega)
          refine zw_n 1 rfl ?_
          refine zw_callV (as := []) (rest := []) rfl rfl rfl hMMz3037.1 rfl rfl rfl (by decide) (m_wrong Mz3040 (up o 8 (sk tx (o 7) (o 8))) f (MM.of (o' := up o 8 (sk tx (o 7) (o 8))) (f' := f) hM (Sm.tw Sm.rf hSz3038 (by decide)) hMMz3037.1 (c1_skip (c1_cons (Sm.at hSz3038 (by decide) (hM.2 145 (by decide) (by decide))) (c1_cons (Sm.at hSz3038 (by decide) (hM.2 146 (by decide) (by decide))) (c1_cons (Sm.at hSz3038 (by decide) (hM.2 147 (by decide) (by decide))) c1_nil)))) (fs_k (fs_k (fs_k (fs_k fs_n))))) hg) (fun rz3305 Mz3306 hz3307 => ?_)
          obtain ⟨hAz3302, hMMz3303, hSz3304⟩ := hz3307
          rw [hAz3302]
          show Zw 4 zm_MO_readRule 49 [some (.ref 139), some (.int (nI (mv tx (o 7) (sk tx (o 7) (o 8))))), some (.int (nI i))] [] Mz3306 _
          refine zw_vret rfl rfl ?_
          have hf9 : cF tx (o 7) i = sk tx (o 7) (o 8) := by rw [cF_bad hbd, hpc]; rfl
          exact ⟨rfl, Sm.tw (Sm.tw Sm.rf hSz3038 (by decide)) hSz3304 (by decide), Or.inr ⟨by rw [hf9]; unfold NO; omega, sk tx (o 7) (o 8), f, by rw [hf9]; exact (MM.of (o' := up (up (up o 8 (sk tx (o 7) (o 8))) 9 (sk tx (o 7) (o 8))) 10 0) (f' := f) hM (Sm.tw (Sm.tw Sm.rf hSz3038 (by decide)) hSz3304 (by decide)) hMMz3303.1 (c1_skip (c1_cons (Sm.at hSz3304 (by decide) (Sm.at hSz3038 (by decide) (hM.2 145 (by decide) (by decide)))) (c1_cons (Sm.at hSz3304 (by decide) (Sm.at hSz3038 (by decide) (hM.2 146 (by decide) (by decide)))) (c1_cons (Sm.at hSz3304 (by decide) (Sm.at hSz3038 (by decide) (hM.2 147 (by decide) (by decide)))) c1_nil)))) (fs_k (fs_k (fs_k (fs_k fs_n))))), by omega, hb0, Dsame.of (S := [139, 145, 146, 147]) (fs_k (fs_k (fs_k (fs_k fs_n)))) (by decide)⟩⟩
