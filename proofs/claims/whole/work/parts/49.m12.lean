set_option maxHeartbeats 4000000 in
set_option maxRecDepth 100000 in
theorem c_addLet (Mq : zM) (n : Nat) (g : Nat → Nat) (h92 : Mq[92]? = some (.inr (5, [.int (nI n), .ref 93]))) (h93 : Mq[93]? = some (.inl (0, 820, .inl (ai g)))) (x : Nat) (hn : n < 820) : Zm 0 zm_Letters_add [.ref 92, .int (nI x)] Mq (fun r9 M1 => r9 = none ∧ M1[92]? = some (.inr (5, [.int (nI (n + 1)), .ref 93])) ∧ M1[93]? = some (.inl (0, 820, .inl (ai (up g n x)))) ∧ Sm Mq M1 [92, 93]) := by
  show Zw 0 zm_Letters_add 0 [some (.ref 92), some (.int (nI x))] [] Mq _
  refine zw_n 1 rfl ?_
  refine zw_get (v := .int (nI n)) rfl h92 rfl ?_
  refine zw_n 1 rfl ?_
  refine zw_igeN (a := n) (b := 820) rfl rfl rfl (by omega) (by omega) (fun c7 => ?_) (fun c7 => ?_)
  · -- 7 to 30
    exact zw_vret rfl rfl ((by omega))
  · -- 7 to 10
    refine zw_n 1 rfl ?_
    refine zw_get (v := .ref 93) rfl h92 rfl ?_
    refine zw_n 1 rfl ?_
    refine zw_get (v := .int (nI n)) rfl h92 rfl ?_
    refine zw_n 1 rfl ?_
    refine zw_iastN (g := g) (j := n) (v := x) rfl h93 rfl (by decide) (by omega) (rfl) ?_
    generalize ez1037 : List.set Mq 93 _ = Mz1036
    refine zw_n 2 rfl ?_
    refine zw_get (v := .int (nI n)) rfl (zat_set ez1037 (by decide) h92) rfl ?_
    refine zw_n 2 rfl ?_
    refine zw_top (na (a := n) (b := 1) rfl rfl) ?_
    refine zw_put rfl (zat_set ez1037 (by decide) h92) (rfl) (Nat.le_of_ble_eq_true rfl) ?_
    generalize ez1039 : List.set Mz1036 92 _ = Mz1038
    exact zw_vret rfl rfl (⟨rfl, zat_self ez1039 (zat_set ez1037 (by decide) h92), zat_set ez1039 (by decide) (zat_self ez1037 h93), Sm.tset (Sm.tset Sm.rf ez1037 (by decide)) ez1039 (by decide)⟩)

set_option maxHeartbeats 4000000 in
set_option maxRecDepth 100000 in
theorem c_writeAlt (Mq : zM) (n : Nat) (g : Nat → Nat) (h92 : Mq[92]? = some (.inr (5, [.int (nI n), .ref 93]))) (h93 : Mq[93]? = some (.inl (0, 820, .inl (ai g))))(kr : Nat) (n_ em : Nat) (gn al_ it pt tg bd fr af fb : Nat → Nat) (hR : Seg Mq kr (rulL kr (n_, gn, al_, it, pt, tg, bd, em, fr, af, fb))) (hG : SafeG n_ gn al_ it pt tg bd) (a : Nat) (ha : a < 32) (l : List Nat) (hl : Lt n g l) (hn : n + 15 ≤ 820) (hkr : kr + 9 < 92) : Zm 1 zm_Letters_writeAlt [.ref 92, .ref kr, .int (nI a)] Mq (fun r9 M1 => r9 = none ∧ ∃ n9 g9, M1[92]? = some (.inr (5, [.int (nI n9), .ref 93])) ∧ M1[93]? = some (.inl (0, 820, .inl (ai g9))) ∧ Sm Mq M1 [92, 93] ∧ Lt n9 g9 (l ++ wrA it pt tg bd a) ∧ n9 ≤ n + 15) := by
  show Zw 1 zm_Letters_writeAlt 0 [some (.ref 92), some (.ref kr), some (.int (nI a)), none, none] [] Mq _
  have hi5 := hG.2.2.2.1 a
  refine zw_n 2 (ls' := [some (.ref 92), some (.ref kr), some (.int (nI a)), some (.int 0), none]) rfl ?_
  have lp2 : ∀ (n2 : Nat) (k : Nat) (n1 : Nat) (g1 : Nat → Nat) (M_2 : zM), Sm Mq M_2 [92, 93] → M_2[92]? = some (.inr (5, [.int (nI n1), .ref 93])) → M_2[93]? = some (.inl (0, 820, .inl (ai g1))) → (k ≤ it a ∧ n1 ≤ n + 3 * k ∧ Lt n1 g1 (l ++ lc (fun k => wrI pt tg bd (a * 5 + k)) k)) → it a - k < n2 → Zw 1 zm_Letters_writeAlt 2 [some (.ref 92), some (.ref kr), some (.int (nI a)), some (.int (nI k)), none] [] M_2 (fun r9 M1 => r9 = none ∧ ∃ n9 g9, M1[92]? = some (.inr (5, [.int (nI n9), .ref 93])) ∧ M1[93]? = some (.inl (0, 820, .inl (ai g9))) ∧ Sm Mq M1 [92, 93] ∧ Lt n9 g9 (l ++ wrA it pt tg bd a) ∧ n9 ≤ n + 15) := by
    intro n2
    induction n2 with
    | zero => intro k n1 g1 M_2 _ _ _ _ h; exact absurd h (Nat.not_lt_zero _)
    | succ n2 ih2 =>
      intro k n1 g1 M_2 s_2 f2_0 f2_1 hi2 hm2
      refine zw_n 2 rfl ?_
      refine zw_get (v := .ref (kr + 3)) rfl (Sm.at s_2 (by simp <;> omega) (hR.get 0 rfl)) rfl ?_
      refine zw_n 1 rfl ?_
      refine zw_iald (f := ai it) (j := a) rfl (Sm.at s_2 (by simp <;> omega) (hR.get 3 rfl)) rfl (by decide) (by omega) ?_
      have bz1040 := hG.2.2.2.1 a
      refine zw_igeN (a := k) (b := it a) rfl rfl rfl (by omega) (by omega) (fun c9 => ?_) (fun c9 => ?_)
      · -- 9 to 74
        exact zw_vret rfl rfl (⟨rfl, n1, g1, f2_0, f2_1, s_2, by rw [wrA, ← show k = it a by omega]; exact hi2.2.2, by omega⟩)
      · -- 9 to 12
        refine zw_n 3 rfl ?_
        refine zw_top (nm (a := a) (b := 5) rfl rfl) ?_
        refine zw_n 2 rfl ?_
        refine zw_top (na (a := a * 5) (b := k) rfl rfl) ?_
        refine zw_n 2 (ls' := [some (.ref 92), some (.ref kr), some (.int (nI a)), some (.int (nI k)), some (.int (nI ((a * 5) + k)))]) rfl ?_
        refine zw_get (v := .ref (kr + 6)) rfl (Sm.at s_2 (by simp <;> omega) (hR.get 0 rfl)) rfl ?_
        refine zw_n 1 rfl ?_
        refine zw_iald (f := ai bd) (j := ((a * 5) + k)) rfl (Sm.at s_2 (by simp <;> omega) (hR.get 6 rfl)) rfl (by decide) (by omega) ?_
        have bz1041 := hG.2.2.2.2.2.2 ((a * 5) + k)
        refine zw_eq0N (a := bd ((a * 5) + k)) rfl rfl (by omega) (fun c26 => ?_) (fun c26 => ?_)
        · -- 26 to 40
          refine zw_n 1 rfl ?_
          refine zw_get (v := .ref (kr + 5)) rfl (Sm.at s_2 (by simp <;> omega) (hR.get 0 rfl)) rfl ?_
          refine zw_n 1 rfl ?_
          refine zw_iald (f := ai tg) (j := ((a * 5) + k)) rfl (Sm.at s_2 (by simp <;> omega) (hR.get 5 rfl)) rfl (by decide) (by omega) ?_
          have bz1042 := hG.2.2.2.2.2.1 ((a * 5) + k)
          refine zw_n 1 rfl ?_
          refine zw_ineM (a := tg ((a * 5) + k)) rfl rfl (by omega) (fun c48 => ?_) (fun c48 => ?_)
          · -- 48 to 57
            refine zw_n 2 rfl ?_
            refine zw_get (v := .ref (kr + 4)) rfl (Sm.at s_2 (by simp <;> omega) (hR.get 0 rfl)) rfl ?_
            refine zw_n 1 rfl ?_
            refine zw_iald (f := ai pt) (j := ((a * 5) + k)) rfl (Sm.at s_2 (by simp <;> omega) (hR.get 4 rfl)) rfl (by decide) (by omega) ?_
            have bz1043 := hG.2.2.2.2.1 ((a * 5) + k)
            refine zw_callV (as := [.int (nI (pt ((a * 5) + k)))]) (rest := []) rfl rfl rfl f2_0 rfl rfl rfl (by decide) (c_addLet M_2 n1 g1 f2_0 f2_1 (pt ((a * 5) + k)) (by omega)) (fun rz1048 Mz1049 hz1050 => ?_)
            obtain ⟨hAz1044, h2z1045, h3z1046, hSz1047⟩ := hz1050
            rw [hAz1044]
            show Zw 1 zm_Letters_writeAlt 68 [some (.ref 92), some (.ref kr), some (.int (nI a)), some (.int (nI k)), some (.int (nI ((a * 5) + k)))] [] Mz1049 _
            refine zw_inc rfl (x' := (nI (k + 1))) (ls' := [some (.ref 92), some (.ref kr), some (.int (nI a)), some (.int (nI (k + 1))), some (.int (nI ((a * 5) + k)))]) rfl (na (a := k) (b := 1) rfl rfl) rfl ?_
            refine zw_n 1 rfl ?_
            refine zw_ls (ls' := [some (.ref 92), some (.ref kr), some (.int (nI a)), some (.int (nI (k + 1))), none]) ⟨Or.inr rfl, Or.inr rfl, Or.inr rfl, Or.inr rfl, Or.inl rfl, trivial⟩ ?_
            exact ih2 (k + 1) (n1 + 1) (up g1 n1 (pt ((a * 5) + k))) Mz1049 (Sm.trans s_2 hSz1047) h2z1045 h3z1046 (⟨by omega, by omega, by rw [lc_s]; first | exact hi2.2.2.w1 c26 c48 | exact hi2.2.2.w2 c26 c48 | exact hi2.2.2.w3 c26 c48 | exact hi2.2.2.w4 c26 c48⟩) (by omega)
          · -- 48 to 51
            refine zw_n 2 rfl ?_
            refine zw_callV (as := [.int 39]) (rest := []) rfl rfl rfl f2_0 rfl rfl rfl (by decide) (c_addLet M_2 n1 g1 f2_0 f2_1 39 (by omega)) (fun rz1055 Mz1056 hz1057 => ?_)
            obtain ⟨hAz1051, h2z1052, h3z1053, hSz1054⟩ := hz1057
            rw [hAz1051]
            show Zw 1 zm_Letters_writeAlt 57 [some (.ref 92), some (.ref kr), some (.int (nI a)), some (.int (nI k)), some (.int (nI ((a * 5) + k)))] [] Mz1056 _
            refine zw_n 2 rfl ?_
            refine zw_get (v := .ref (kr + 4)) rfl (Sm.at hSz1054 (by simp <;> omega) (Sm.at s_2 (by simp <;> omega) (hR.get 0 rfl))) rfl ?_
            refine zw_n 1 rfl ?_
            refine zw_iald (f := ai pt) (j := ((a * 5) + k)) rfl (Sm.at hSz1054 (by simp <;> omega) (Sm.at s_2 (by simp <;> omega) (hR.get 4 rfl))) rfl (by decide) (by omega) ?_
            have bz1058 := hG.2.2.2.2.1 ((a * 5) + k)
            refine zw_callV (as := [.int (nI (pt ((a * 5) + k)))]) (rest := []) rfl rfl rfl h2z1052 rfl rfl rfl (by decide) (c_addLet Mz1056 (n1 + 1) (up g1 n1 39) h2z1052 h3z1053 (pt ((a * 5) + k)) (by omega)) (fun rz1063 Mz1064 hz1065 => ?_)
            obtain ⟨hAz1059, h2z1060, h3z1061, hSz1062⟩ := hz1065
            rw [hAz1059]
            show Zw 1 zm_Letters_writeAlt 68 [some (.ref 92), some (.ref kr), some (.int (nI a)), some (.int (nI k)), some (.int (nI ((a * 5) + k)))] [] Mz1064 _
            refine zw_inc rfl (x' := (nI (k + 1))) (ls' := [some (.ref 92), some (.ref kr), some (.int (nI a)), some (.int (nI (k + 1))), some (.int (nI ((a * 5) + k)))]) rfl (na (a := k) (b := 1) rfl rfl) rfl ?_
            refine zw_n 1 rfl ?_
            refine zw_ls (ls' := [some (.ref 92), some (.ref kr), some (.int (nI a)), some (.int (nI (k + 1))), none]) ⟨Or.inr rfl, Or.inr rfl, Or.inr rfl, Or.inr rfl, Or.inl rfl, trivial⟩ ?_
            exact ih2 (k + 1) (n1 + 1 + 1) (up (up g1 n1 39) (n1 + 1) (pt ((a * 5) + k))) Mz1064 (Sm.trans (Sm.trans s_2 hSz1054) hSz1062) h2z1060 h3z1061 (⟨by omega, by omega, by rw [lc_s]; first | exact hi2.2.2.w1 c26 c48 | exact hi2.2.2.w2 c26 c48 | exact hi2.2.2.w3 c26 c48 | exact hi2.2.2.w4 c26 c48⟩) (by omega)
        · -- 26 to 29
          refine zw_n 2 rfl ?_
          refine zw_get (v := .ref (kr + 6)) rfl (Sm.at s_2 (by simp <;> omega) (hR.get 0 rfl)) rfl ?_
          refine zw_n 1 rfl ?_
          refine zw_iald (f := ai bd) (j := ((a * 5) + k)) rfl (Sm.at s_2 (by simp <;> omega) (hR.get 6 rfl)) rfl (by decide) (by omega) ?_
          have bz1066 := hG.2.2.2.2.2.2 ((a * 5) + k)
          refine zw_callV (as := [.int (nI (bd ((a * 5) + k)))]) (rest := []) rfl rfl rfl f2_0 rfl rfl rfl (by decide) (c_addLet M_2 n1 g1 f2_0 f2_1 (bd ((a * 5) + k)) (by omega)) (fun rz1071 Mz1072 hz1073 => ?_)
          obtain ⟨hAz1067, h2z1068, h3z1069, hSz1070⟩ := hz1073
          rw [hAz1067]
          show Zw 1 zm_Letters_writeAlt 40 [some (.ref 92), some (.ref kr), some (.int (nI a)), some (.int (nI k)), some (.int (nI ((a * 5) + k)))] [] Mz1072 _
          refine zw_n 1 rfl ?_
          refine zw_get (v := .ref (kr + 5)) rfl (Sm.at hSz1070 (by simp <;> omega) (Sm.at s_2 (by simp <;> omega) (hR.get 0 rfl))) rfl ?_
          refine zw_n 1 rfl ?_
          refine zw_iald (f := ai tg) (j := ((a * 5) + k)) rfl (Sm.at hSz1070 (by simp <;> omega) (Sm.at s_2 (by simp <;> omega) (hR.get 5 rfl))) rfl (by decide) (by omega) ?_
          have bz1074 := hG.2.2.2.2.2.1 ((a * 5) + k)
          refine zw_n 1 rfl ?_
          refine zw_ineM (a := tg ((a * 5) + k)) rfl rfl (by omega) (fun c48 => ?_) (fun c48 => ?_)
          · -- 48 to 57
            refine zw_n 2 rfl ?_
            refine zw_get (v := .ref (kr + 4)) rfl (Sm.at hSz1070 (by simp <;> omega) (Sm.at s_2 (by simp <;> omega) (hR.get 0 rfl))) rfl ?_
            refine zw_n 1 rfl ?_
            refine zw_iald (f := ai pt) (j := ((a * 5) + k)) rfl (Sm.at hSz1070 (by simp <;> omega) (Sm.at s_2 (by simp <;> omega) (hR.get 4 rfl))) rfl (by decide) (by omega) ?_
            have bz1075 := hG.2.2.2.2.1 ((a * 5) + k)
            refine zw_callV (as := [.int (nI (pt ((a * 5) + k)))]) (rest := []) rfl rfl rfl h2z1068 rfl rfl rfl (by decide) (c_addLet Mz1072 (n1 + 1) (up g1 n1 (bd ((a * 5) + k))) h2z1068 h3z1069 (pt ((a * 5) + k)) (by omega)) (fun rz1080 Mz1081 hz1082 => ?_)
            obtain ⟨hAz1076, h2z1077, h3z1078, hSz1079⟩ := hz1082
            rw [hAz1076]
            show Zw 1 zm_Letters_writeAlt 68 [some (.ref 92), some (.ref kr), some (.int (nI a)), some (.int (nI k)), some (.int (nI ((a * 5) + k)))] [] Mz1081 _
            refine zw_inc rfl (x' := (nI (k + 1))) (ls' := [some (.ref 92), some (.ref kr), some (.int (nI a)), some (.int (nI (k + 1))), some (.int (nI ((a * 5) + k)))]) rfl (na (a := k) (b := 1) rfl rfl) rfl ?_
            refine zw_n 1 rfl ?_
            refine zw_ls (ls' := [some (.ref 92), some (.ref kr), some (.int (nI a)), some (.int (nI (k + 1))), none]) ⟨Or.inr rfl, Or.inr rfl, Or.inr rfl, Or.inr rfl, Or.inl rfl, trivial⟩ ?_
            exact ih2 (k + 1) (n1 + 1 + 1) (up (up g1 n1 (bd ((a * 5) + k))) (n1 + 1) (pt ((a * 5) + k))) Mz1081 (Sm.trans (Sm.trans s_2 hSz1070) hSz1079) h2z1077 h3z1078 (⟨by omega, by omega, by rw [lc_s]; first | exact hi2.2.2.w1 c26 c48 | exact hi2.2.2.w2 c26 c48 | exact hi2.2.2.w3 c26 c48 | exact hi2.2.2.w4 c26 c48⟩) (by omega)
          · -- 48 to 51
            refine zw_n 2 rfl ?_
            refine zw_callV (as := [.int 39]) (rest := []) rfl rfl rfl h2z1068 rfl rfl rfl (by decide) (c_addLet Mz1072 (n1 + 1) (up g1 n1 (bd ((a * 5) + k))) h2z1068 h3z1069 39 (by omega)) (fun rz1087 Mz1088 hz1089 => ?_)
            obtain ⟨hAz1083, h2z1084, h3z1085, hSz1086⟩ := hz1089
            rw [hAz1083]
            show Zw 1 zm_Letters_writeAlt 57 [some (.ref 92), some (.ref kr), some (.int (nI a)), some (.int (nI k)), some (.int (nI ((a * 5) + k)))] [] Mz1088 _
            refine zw_n 2 rfl ?_
            refine zw_get (v := .ref (kr + 4)) rfl (Sm.at hSz1086 (by simp <;> omega) (Sm.at hSz1070 (by simp <;> omega) (Sm.at s_2 (by simp <;> omega) (hR.get 0 rfl)))) rfl ?_
            refine zw_n 1 rfl ?_
            refine zw_iald (f := ai pt) (j := ((a * 5) + k)) rfl (Sm.at hSz1086 (by simp <;> omega) (Sm.at hSz1070 (by simp <;> omega) (Sm.at s_2 (by simp <;> omega) (hR.get 4 rfl)))) rfl (by decide) (by omega) ?_
            have bz1090 := hG.2.2.2.2.1 ((a * 5) + k)
            refine zw_callV (as := [.int (nI (pt ((a * 5) + k)))]) (rest := []) rfl rfl rfl h2z1084 rfl rfl rfl (by decide) (c_addLet Mz1088 (n1 + 1 + 1) (up (up g1 n1 (bd ((a * 5) + k))) (n1 + 1) 39) h2z1084 h3z1085 (pt ((a * 5) + k)) (by omega)) (fun rz1095 Mz1096 hz1097 => ?_)
            obtain ⟨hAz1091, h2z1092, h3z1093, hSz1094⟩ := hz1097
            rw [hAz1091]
            show Zw 1 zm_Letters_writeAlt 68 [some (.ref 92), some (.ref kr), some (.int (nI a)), some (.int (nI k)), some (.int (nI ((a * 5) + k)))] [] Mz1096 _
            refine zw_inc rfl (x' := (nI (k + 1))) (ls' := [some (.ref 92), some (.ref kr), some (.int (nI a)), some (.int (nI (k + 1))), some (.int (nI ((a * 5) + k)))]) rfl (na (a := k) (b := 1) rfl rfl) rfl ?_
            refine zw_n 1 rfl ?_
            refine zw_ls (ls' := [some (.ref 92), some (.ref kr), some (.int (nI a)), some (.int (nI (k + 1))), none]) ⟨Or.inr rfl, Or.inr rfl, Or.inr rfl, Or.inr rfl, Or.inl rfl, trivial⟩ ?_
            exact ih2 (k + 1) (n1 + 1 + 1 + 1) (up (up (up g1 n1 (bd ((a * 5) + k))) (n1 + 1) 39) (n1 + 1 + 1) (pt ((a * 5) + k))) Mz1096 (Sm.trans (Sm.trans (Sm.trans s_2 hSz1070) hSz1086) hSz1094) h2z1092 h3z1093 (⟨by omega, by omega, by rw [lc_s]; first | exact hi2.2.2.w1 c26 c48 | exact hi2.2.2.w2 c26 c48 | exact hi2.2.2.w3 c26 c48 | exact hi2.2.2.w4 c26 c48⟩) (by omega)
  exact lp2 _ 0 n g Mq Sm.rf h92 h93 (⟨Nat.zero_le _, Nat.le_refl _, by show Lt n g (l ++ []); rw [List.append_nil]; exact hl⟩) (Nat.lt_succ_self _)

set_option maxHeartbeats 4000000 in
set_option maxRecDepth 100000 in
theorem c_writeRules (Mq : zM) (n : Nat) (g : Nat → Nat) (h92 : Mq[92]? = some (.inr (5, [.int (nI n), .ref 93]))) (h93 : Mq[93]? = some (.inl (0, 820, .inl (ai g))))(kr : Nat) (n_ em : Nat) (gn al_ it pt tg bd fr af fb : Nat → Nat) (hR : Seg Mq kr (rulL kr (n_, gn, al_, it, pt, tg, bd, em, fr, af, fb))) (hG : SafeG n_ gn al_ it pt tg bd) (hkr : kr + 9 < 92) : Zm 2 zm_Letters_writeRules [.ref 92, .ref kr] Mq (fun r9 M1 => r9 = none ∧ ∃ n9 g9, M1[92]? = some (.inr (5, [.int (nI n9), .ref 93])) ∧ M1[93]? = some (.inl (0, 820, .inl (ai g9))) ∧ Sm Mq M1 [92, 93] ∧ Lt n9 g9 (wrG n_ gn al_ it pt tg bd) ∧ n9 ≤ 820) := by
  show Zw 2 zm_Letters_writeRules 0 [some (.ref 92), some (.ref kr), none, none] [] Mq _
  have hn8 := hG.1
  have hl0 := @Lt.nil g
  refine zw_n 2 rfl ?_
  refine zw_put rfl h92 (rfl) (Nat.le_of_ble_eq_true rfl) ?_
  generalize ez1099 : List.set Mq 92 _ = Mz1098
  refine zw_n 2 (ls' := [some (.ref 92), some (.ref kr), some (.int 0), none]) rfl ?_
  have lp7 : ∀ (n7 : Nat) (r : Nat) (n1 : Nat) (g1 : Nat → Nat) (M_7 : zM), Sm Mq M_7 [92, 93] → M_7[92]? = some (.inr (5, [.int (nI n1), .ref 93])) → M_7[93]? = some (.inl (0, 820, .inl (ai g1))) → (r ≤ n_ ∧ n1 ≤ 67 * r ∧ Lt n1 g1 (lc (wrR gn al_ it pt tg bd) r)) → n_ - r < n7 → Zw 2 zm_Letters_writeRules 7 [some (.ref 92), some (.ref kr), some (.int (nI r)), none] [] M_7 (fun r9 M1 => r9 = none ∧ ∃ n9 g9, M1[92]? = some (.inr (5, [.int (nI n9), .ref 93])) ∧ M1[93]? = some (.inl (0, 820, .inl (ai g9))) ∧ Sm Mq M1 [92, 93] ∧ Lt n9 g9 (wrG n_ gn al_ it pt tg bd) ∧ n9 ≤ 820) := by
    intro n7
    induction n7 with
    | zero => intro r n1 g1 M_7 _ _ _ _ h; exact absurd h (Nat.not_lt_zero _)
    | succ n7 ih7 =>
      intro r n1 g1 M_7 s_7 f7_0 f7_1 hi7 hm7
      refine zw_n 2 rfl ?_
      refine zw_get (v := .int (nI n_)) rfl (Sm.at s_7 (by simp <;> omega) (hR.get 0 rfl)) rfl ?_
      refine zw_igeN (a := r) (b := n_) rfl rfl rfl (by omega) (by omega) (fun c12 => ?_) (fun c12 => ?_)
      · -- 12 to 85
        exact zw_vret rfl rfl (⟨rfl, n1, g1, f7_0, f7_1, s_7, by rw [wrG, ← show r = n_ by omega]; exact hi7.2.2, by omega⟩)
      · -- 12 to 15
        refine zw_n 1 rfl ?_
        refine zw_le0N (a := r) rfl rfl (by omega) (fun c16 => ?_) (fun c16 => ?_)
        · -- 16 to 25
          refine zw_n 2 rfl ?_
          refine zw_get (v := .ref (kr + 1)) rfl (Sm.at s_7 (by simp <;> omega) (hR.get 0 rfl)) rfl ?_
          refine zw_n 1 rfl ?_
          refine zw_iald (f := ai gn) (j := r) rfl (Sm.at s_7 (by simp <;> omega) (hR.get 1 rfl)) rfl (by decide) (by omega) ?_
          have bz1100 := hG.2.1 r
          refine zw_callV (as := [.int (nI (gn r))]) (rest := []) rfl rfl rfl f7_0 rfl rfl rfl (by decide) (c_addLet M_7 n1 g1 f7_0 f7_1 (gn r) (by omega)) (fun rz1105 Mz1106 hz1107 => ?_)
          obtain ⟨hAz1101, h2z1102, h3z1103, hSz1104⟩ := hz1107
          rw [hAz1101]
          show Zw 2 zm_Letters_writeRules 35 [some (.ref 92), some (.ref kr), some (.int (nI r)), none] [] Mz1106 _
          refine zw_n 2 rfl ?_
          refine zw_callV (as := [.int 58]) (rest := []) rfl rfl rfl h2z1102 rfl rfl rfl (by decide) (c_addLet Mz1106 (n1 + 1) (up g1 n1 (gn r)) h2z1102 h3z1103 58 (by omega)) (fun rz1112 Mz1113 hz1114 => ?_)
          obtain ⟨hAz1108, h2z1109, h3z1110, hSz1111⟩ := hz1114
          rw [hAz1108]
          show Zw 2 zm_Letters_writeRules 41 [some (.ref 92), some (.ref kr), some (.int (nI r)), none] [] Mz1113 _
          refine zw_n 2 (ls' := [some (.ref 92), some (.ref kr), some (.int (nI r)), some (.int 0)]) rfl ?_
          have mz1115 : Mz1113[kr]? = some (.inr (8, [.int (nI n_), .ref (kr + 1), .ref (kr + 2), .ref (kr + 3), .ref (kr + 4), .ref (kr + 5), .ref (kr + 6), .int (nI em), .ref (kr + 7), .ref (kr + 8), .ref (kr + 9)])) := Sm.at hSz1111 (by simp <;> omega) (Sm.at hSz1104 (by simp <;> omega) (Sm.at s_7 (by simp <;> omega) (hR.get 0 rfl)))
          have mz1116 : Mz1113[kr + 1]? = some (.inl (0, 8, .inl (ai gn))) := Sm.at hSz1111 (by simp <;> omega) (Sm.at hSz1104 (by simp <;> omega) (Sm.at s_7 (by simp <;> omega) (hR.get 1 rfl)))
          have mz1117 : Mz1113[kr + 2]? = some (.inl (0, 8, .inl (ai al_))) := Sm.at hSz1111 (by simp <;> omega) (Sm.at hSz1104 (by simp <;> omega) (Sm.at s_7 (by simp <;> omega) (hR.get 2 rfl)))
          have mz1118 : Mz1113[kr + 3]? = some (.inl (0, 32, .inl (ai it))) := Sm.at hSz1111 (by simp <;> omega) (Sm.at hSz1104 (by simp <;> omega) (Sm.at s_7 (by simp <;> omega) (hR.get 3 rfl)))
          have mz1119 : Mz1113[kr + 4]? = some (.inl (0, 160, .inl (ai pt))) := Sm.at hSz1111 (by simp <;> omega) (Sm.at hSz1104 (by simp <;> omega) (Sm.at s_7 (by simp <;> omega) (hR.get 4 rfl)))
          have mz1120 : Mz1113[kr + 5]? = some (.inl (0, 160, .inl (ai tg))) := Sm.at hSz1111 (by simp <;> omega) (Sm.at hSz1104 (by simp <;> omega) (Sm.at s_7 (by simp <;> omega) (hR.get 5 rfl)))
          have mz1121 : Mz1113[kr + 6]? = some (.inl (0, 160, .inl (ai bd))) := Sm.at hSz1111 (by simp <;> omega) (Sm.at hSz1104 (by simp <;> omega) (Sm.at s_7 (by simp <;> omega) (hR.get 6 rfl)))
          have mz1122 : Mz1113[kr + 7]? = some (.inl (1, 8, .inr (.inl (al fr)))) := Sm.at hSz1111 (by simp <;> omega) (Sm.at hSz1104 (by simp <;> omega) (Sm.at s_7 (by simp <;> omega) (hR.get 7 rfl)))
          have mz1123 : Mz1113[kr + 8]? = some (.inl (1, 32, .inr (.inl (al af)))) := Sm.at hSz1111 (by simp <;> omega) (Sm.at hSz1104 (by simp <;> omega) (Sm.at s_7 (by simp <;> omega) (hR.get 8 rfl)))
          have mz1124 : Mz1113[kr + 9]? = some (.inl (1, 160, .inr (.inl (al fb)))) := Sm.at hSz1111 (by simp <;> omega) (Sm.at hSz1104 (by simp <;> omega) (Sm.at s_7 (by simp <;> omega) (hR.get 9 rfl)))
          have lp43 : ∀ (n43 : Nat) (a : Nat) (n2 : Nat) (g2 : Nat → Nat) (M_43 : zM), Sm Mq M_43 [92, 93] → M_43[92]? = some (.inr (5, [.int (nI n2), .ref 93])) → M_43[93]? = some (.inl (0, 820, .inl (ai g2))) → (a ≤ al_ r ∧ n2 ≤ 67 * r + 3 + 16 * a ∧ Lt n2 g2 (lc (wrR gn al_ it pt tg bd) r ++ [gn r] ++ [58] ++ lc (wrB it pt tg bd r) a)) → al_ r - a < n43 → Zw 2 zm_Letters_writeRules 43 [some (.ref 92), some (.ref kr), some (.int (nI r)), some (.int (nI a))] [] M_43 (fun r9 M1 => r9 = none ∧ ∃ n9 g9, M1[92]? = some (.inr (5, [.int (nI n9), .ref 93])) ∧ M1[93]? = some (.inl (0, 820, .inl (ai g9))) ∧ Sm Mq M1 [92, 93] ∧ Lt n9 g9 (wrG n_ gn al_ it pt tg bd) ∧ n9 ≤ 820) := by
            intro n43
            induction n43 with
            | zero => intro a n2 g2 M_43 _ _ _ _ h; exact absurd h (Nat.not_lt_zero _)
            | succ n43 ih43 =>
              intro a n2 g2 M_43 s_43 f43_0 f43_1 hi43 hm43
              have ha4 := hG.2.2.1 r
              refine zw_n 2 rfl ?_
              refine zw_get (v := .ref (kr + 2)) rfl (Sm.at s_43 (by simp <;> omega) (hR.get 0 rfl)) rfl ?_
              refine zw_n 1 rfl ?_
              refine zw_iald (f := ai al_) (j := r) rfl (Sm.at s_43 (by simp <;> omega) (hR.get 2 rfl)) rfl (by decide) (by omega) ?_
              have bz1125 := hG.2.2.1 r
              refine zw_igeN (a := a) (b := al_ r) rfl rfl rfl (by omega) (by omega) (fun c50 => ?_) (fun c50 => ?_)
              · -- 50 to 79
                refine zw_inc rfl (x' := (nI (r + 1))) (ls' := [some (.ref 92), some (.ref kr), some (.int (nI (r + 1))), some (.int (nI a))]) rfl (na (a := r) (b := 1) rfl rfl) rfl ?_
                refine zw_n 1 rfl ?_
                refine zw_ls (ls' := [some (.ref 92), some (.ref kr), some (.int (nI (r + 1))), none]) ⟨Or.inr rfl, Or.inr rfl, Or.inr rfl, Or.inl rfl, trivial⟩ ?_
                exact ih7 (r + 1) n2 g2 M_43 s_43 f43_0 f43_1 (⟨by omega, by omega, by rw [lc_s0, wrR, if_neg (by omega), ← show a = al_ r by omega]; simpa using hi43.2.2⟩) (by omega)
              · -- 50 to 53
                refine zw_n 1 rfl ?_
                refine zw_le0N (a := a) rfl rfl (by omega) (fun c54 => ?_) (fun c54 => ?_)
                · -- 54 to 63
                  refine zw_n 5 rfl ?_
                  refine zw_top (nm (a := r) (b := 4) rfl rfl) ?_
                  refine zw_n 2 rfl ?_
                  refine zw_top (na (a := r * 4) (b := a) rfl rfl) ?_
                  refine zw_callV (as := [.ref kr, .int (nI ((r * 4) + a))]) (rest := []) rfl rfl rfl f43_0 rfl rfl rfl (by decide) (c_writeAlt M_43 n2 g2 f43_0 f43_1 kr n_ em gn al_ it pt tg bd fr af fb (seg10 (Sm.at s_43 (by simp <;> omega) (hR.get 0 rfl)) (Sm.at s_43 (by simp <;> omega) (hR.get 1 rfl)) (Sm.at s_43 (by simp <;> omega) (hR.get 2 rfl)) (Sm.at s_43 (by simp <;> omega) (hR.get 3 rfl)) (Sm.at s_43 (by simp <;> omega) (hR.get 4 rfl)) (Sm.at s_43 (by simp <;> omega) (hR.get 5 rfl)) (Sm.at s_43 (by simp <;> omega) (hR.get 6 rfl)) (Sm.at s_43 (by simp <;> omega) (hR.get 7 rfl)) (Sm.at s_43 (by simp <;> omega) (hR.get 8 rfl)) (Sm.at s_43 (by simp <;> omega) (hR.get 9 rfl))) hG ((r * 4) + a) (by omega) _ hi43.2.2 (by omega) (by omega)) (fun rz1134 Mz1135 hz1136 => ?_)
                  obtain ⟨hAz1126, nz1127, gz1128, h2z1129, h3z1130, hSz1131, hLz1132, hbz1133⟩ := hz1136
                  rw [hAz1126]
                  show Zw 2 zm_Letters_writeRules 73 [some (.ref 92), some (.ref kr), some (.int (nI r)), some (.int (nI a))] [] Mz1135 _
                  refine zw_inc rfl (x' := (nI (a + 1))) (ls' := [some (.ref 92), some (.ref kr), some (.int (nI r)), some (.int (nI (a + 1)))]) rfl (na (a := a) (b := 1) rfl rfl) rfl ?_
                  refine zw_n 1 rfl ?_
                  exact ih43 (a + 1) nz1127 gz1128 Mz1135 (Sm.trans s_43 hSz1131) h2z1129 h3z1130 (⟨by omega, by omega, by rw [lc_s, wrB, if_neg (by omega), List.nil_append]; exact hLz1132⟩) (by omega)
                · -- 54 to 57
                  refine zw_n 2 rfl ?_
                  refine zw_callV (as := [.int 47]) (rest := []) rfl rfl rfl f43_0 rfl rfl rfl (by decide) (c_addLet M_43 n2 g2 f43_0 f43_1 47 (by omega)) (fun rz1141 Mz1142 hz1143 => ?_)
                  obtain ⟨hAz1137, h2z1138, h3z1139, hSz1140⟩ := hz1143
                  rw [hAz1137]
                  show Zw 2 zm_Letters_writeRules 63 [some (.ref 92), some (.ref kr), some (.int (nI r)), some (.int (nI a))] [] Mz1142 _
                  refine zw_n 5 rfl ?_
                  refine zw_top (nm (a := r) (b := 4) rfl rfl) ?_
                  refine zw_n 2 rfl ?_
                  refine zw_top (na (a := r * 4) (b := a) rfl rfl) ?_
                  refine zw_callV (as := [.ref kr, .int (nI ((r * 4) + a))]) (rest := []) rfl rfl rfl h2z1138 rfl rfl rfl (by decide) (c_writeAlt Mz1142 (n2 + 1) (up g2 n2 47) h2z1138 h3z1139 kr n_ em gn al_ it pt tg bd fr af fb (seg10 (Sm.at hSz1140 (by simp <;> omega) (Sm.at s_43 (by simp <;> omega) (hR.get 0 rfl))) (Sm.at hSz1140 (by simp <;> omega) (Sm.at s_43 (by simp <;> omega) (hR.get 1 rfl))) (Sm.at hSz1140 (by simp <;> omega) (Sm.at s_43 (by simp <;> omega) (hR.get 2 rfl))) (Sm.at hSz1140 (by simp <;> omega) (Sm.at s_43 (by simp <;> omega) (hR.get 3 rfl))) (Sm.at hSz1140 (by simp <;> omega) (Sm.at s_43 (by simp <;> omega) (hR.get 4 rfl))) (Sm.at hSz1140 (by simp <;> omega) (Sm.at s_43 (by simp <;> omega) (hR.get 5 rfl))) (Sm.at hSz1140 (by simp <;> omega) (Sm.at s_43 (by simp <;> omega) (hR.get 6 rfl))) (Sm.at hSz1140 (by simp <;> omega) (Sm.at s_43 (by simp <;> omega) (hR.get 7 rfl))) (Sm.at hSz1140 (by simp <;> omega) (Sm.at s_43 (by simp <;> omega) (hR.get 8 rfl))) (Sm.at hSz1140 (by simp <;> omega) (Sm.at s_43 (by simp <;> omega) (hR.get 9 rfl)))) hG ((r * 4) + a) (by omega) _ (hi43.2.2.add 47) (by omega) (by omega)) (fun rz1152 Mz1153 hz1154 => ?_)
                  obtain ⟨hAz1144, nz1145, gz1146, h2z1147, h3z1148, hSz1149, hLz1150, hbz1151⟩ := hz1154
                  rw [hAz1144]
                  show Zw 2 zm_Letters_writeRules 73 [some (.ref 92), some (.ref kr), some (.int (nI r)), some (.int (nI a))] [] Mz1153 _
                  refine zw_inc rfl (x' := (nI (a + 1))) (ls' := [some (.ref 92), some (.ref kr), some (.int (nI r)), some (.int (nI (a + 1)))]) rfl (na (a := a) (b := 1) rfl rfl) rfl ?_
                  refine zw_n 1 rfl ?_
                  exact ih43 (a + 1) nz1145 gz1146 Mz1153 (Sm.trans (Sm.trans s_43 hSz1140) hSz1149) h2z1147 h3z1148 (⟨by omega, by omega, by rw [lc_s, wrB, if_pos (by omega), ← List.append_assoc]; exact hLz1150⟩) (by omega)
          exact lp43 _ 0 (n1 + 1 + 1) (up (up g1 n1 (gn r)) (n1 + 1) 58) Mz1113 (Sm.trans (Sm.trans s_7 hSz1104) hSz1111) h2z1109 h3z1110 (⟨Nat.zero_le _, by omega, by show Lt _ _ (_ ++ []); rw [List.append_nil]; exact (hi7.2.2.add _).add _⟩) (Nat.lt_succ_self _)
        · -- 16 to 19
          refine zw_n 2 rfl ?_
          refine zw_callV (as := [.int 59]) (rest := []) rfl rfl rfl f7_0 rfl rfl rfl (by decide) (c_addLet M_7 n1 g1 f7_0 f7_1 59 (by omega)) (fun rz1159 Mz1160 hz1161 => ?_)
          obtain ⟨hAz1155, h2z1156, h3z1157, hSz1158⟩ := hz1161
          rw [hAz1155]
          show Zw 2 zm_Letters_writeRules 25 [some (.ref 92), some (.ref kr), some (.int (nI r)), none] [] Mz1160 _
          refine zw_n 2 rfl ?_
          refine zw_get (v := .ref (kr + 1)) rfl (Sm.at hSz1158 (by simp <;> omega) (Sm.at s_7 (by simp <;> omega) (hR.get 0 rfl))) rfl ?_
          refine zw_n 1 rfl ?_
          refine zw_iald (f := ai gn) (j := r) rfl (Sm.at hSz1158 (by simp <;> omega) (Sm.at s_7 (by simp <;> omega) (hR.get 1 rfl))) rfl (by decide) (by omega) ?_
          have bz1162 := hG.2.1 r
          refine zw_callV (as := [.int (nI (gn r))]) (rest := []) rfl rfl rfl h2z1156 rfl rfl rfl (by decide) (c_addLet Mz1160 (n1 + 1) (up g1 n1 59) h2z1156 h3z1157 (gn r) (by omega)) (fun rz1167 Mz1168 hz1169 => ?_)
          obtain ⟨hAz1163, h2z1164, h3z1165, hSz1166⟩ := hz1169
          rw [hAz1163]
          show Zw 2 zm_Letters_writeRules 35 [some (.ref 92), some (.ref kr), some (.int (nI r)), none] [] Mz1168 _
          refine zw_n 2 rfl ?_
          refine zw_callV (as := [.int 58]) (rest := []) rfl rfl rfl h2z1164 rfl rfl rfl (by decide) (c_addLet Mz1168 (n1 + 1 + 1) (up (up g1 n1 59) (n1 + 1) (gn r)) h2z1164 h3z1165 58 (by omega)) (fun rz1174 Mz1175 hz1176 => ?_)
          obtain ⟨hAz1170, h2z1171, h3z1172, hSz1173⟩ := hz1176
          rw [hAz1170]
          show Zw 2 zm_Letters_writeRules 41 [some (.ref 92), some (.ref kr), some (.int (nI r)), none] [] Mz1175 _
          refine zw_n 2 (ls' := [some (.ref 92), some (.ref kr), some (.int (nI r)), some (.int 0)]) rfl ?_
          have mz1177 : Mz1175[kr]? = some (.inr (8, [.int (nI n_), .ref (kr + 1), .ref (kr + 2), .ref (kr + 3), .ref (kr + 4), .ref (kr + 5), .ref (kr + 6), .int (nI em), .ref (kr + 7), .ref (kr + 8), .ref (kr + 9)])) := Sm.at hSz1173 (by simp <;> omega) (Sm.at hSz1166 (by simp <;> omega) (Sm.at hSz1158 (by simp <;> omega) (Sm.at s_7 (by simp <;> omega) (hR.get 0 rfl))))
          have mz1178 : Mz1175[kr + 1]? = some (.inl (0, 8, .inl (ai gn))) := Sm.at hSz1173 (by simp <;> omega) (Sm.at hSz1166 (by simp <;> omega) (Sm.at hSz1158 (by simp <;> omega) (Sm.at s_7 (by simp <;> omega) (hR.get 1 rfl))))
          have mz1179 : Mz1175[kr + 2]? = some (.inl (0, 8, .inl (ai al_))) := Sm.at hSz1173 (by simp <;> omega) (Sm.at hSz1166 (by simp <;> omega) (Sm.at hSz1158 (by simp <;> omega) (Sm.at s_7 (by simp <;> omega) (hR.get 2 rfl))))
          have mz1180 : Mz1175[kr + 3]? = some (.inl (0, 32, .inl (ai it))) := Sm.at hSz1173 (by simp <;> omega) (Sm.at hSz1166 (by simp <;> omega) (Sm.at hSz1158 (by simp <;> omega) (Sm.at s_7 (by simp <;> omega) (hR.get 3 rfl))))
          have mz1181 : Mz1175[kr + 4]? = some (.inl (0, 160, .inl (ai pt))) := Sm.at hSz1173 (by simp <;> omega) (Sm.at hSz1166 (by simp <;> omega) (Sm.at hSz1158 (by simp <;> omega) (Sm.at s_7 (by simp <;> omega) (hR.get 4 rfl))))
          have mz1182 : Mz1175[kr + 5]? = some (.inl (0, 160, .inl (ai tg))) := Sm.at hSz1173 (by simp <;> omega) (Sm.at hSz1166 (by simp <;> omega) (Sm.at hSz1158 (by simp <;> omega) (Sm.at s_7 (by simp <;> omega) (hR.get 5 rfl))))
          have mz1183 : Mz1175[kr + 6]? = some (.inl (0, 160, .inl (ai bd))) := Sm.at hSz1173 (by simp <;> omega) (Sm.at hSz1166 (by simp <;> omega) (Sm.at hSz1158 (by simp <;> omega) (Sm.at s_7 (by simp <;> omega) (hR.get 6 rfl))))
          have mz1184 : Mz1175[kr + 7]? = some (.inl (1, 8, .inr (.inl (al fr)))) := Sm.at hSz1173 (by simp <;> omega) (Sm.at hSz1166 (by simp <;> omega) (Sm.at hSz1158 (by simp <;> omega) (Sm.at s_7 (by simp <;> omega) (hR.get 7 rfl))))
          have mz1185 : Mz1175[kr + 8]? = some (.inl (1, 32, .inr (.inl (al af)))) := Sm.at hSz1173 (by simp <;> omega) (Sm.at hSz1166 (by simp <;> omega) (Sm.at hSz1158 (by simp <;> omega) (Sm.at s_7 (by simp <;> omega) (hR.get 8 rfl))))
          have mz1186 : Mz1175[kr + 9]? = some (.inl (1, 160, .inr (.inl (al fb)))) := Sm.at hSz1173 (by simp <;> omega) (Sm.at hSz1166 (by simp <;> omega) (Sm.at hSz1158 (by simp <;> omega) (Sm.at s_7 (by simp <;> omega) (hR.get 9 rfl))))
          have lp43 : ∀ (n43 : Nat) (a : Nat) (n2 : Nat) (g2 : Nat → Nat) (M_43 : zM), Sm Mq M_43 [92, 93] → M_43[92]? = some (.inr (5, [.int (nI n2), .ref 93])) → M_43[93]? = some (.inl (0, 820, .inl (ai g2))) → (a ≤ al_ r ∧ n2 ≤ 67 * r + 3 + 16 * a ∧ Lt n2 g2 (lc (wrR gn al_ it pt tg bd) r ++ [59] ++ [gn r] ++ [58] ++ lc (wrB it pt tg bd r) a)) → al_ r - a < n43 → Zw 2 zm_Letters_writeRules 43 [some (.ref 92), some (.ref kr), some (.int (nI r)), some (.int (nI a))] [] M_43 (fun r9 M1 => r9 = none ∧ ∃ n9 g9, M1[92]? = some (.inr (5, [.int (nI n9), .ref 93])) ∧ M1[93]? = some (.inl (0, 820, .inl (ai g9))) ∧ Sm Mq M1 [92, 93] ∧ Lt n9 g9 (wrG n_ gn al_ it pt tg bd) ∧ n9 ≤ 820) := by
            intro n43
            induction n43 with
            | zero => intro a n2 g2 M_43 _ _ _ _ h; exact absurd h (Nat.not_lt_zero _)
            | succ n43 ih43 =>
              intro a n2 g2 M_43 s_43 f43_0 f43_1 hi43 hm43
              have ha4 := hG.2.2.1 r
              refine zw_n 2 rfl ?_
              refine zw_get (v := .ref (kr + 2)) rfl (Sm.at s_43 (by simp <;> omega) (hR.get 0 rfl)) rfl ?_
              refine zw_n 1 rfl ?_
              refine zw_iald (f := ai al_) (j := r) rfl (Sm.at s_43 (by simp <;> omega) (hR.get 2 rfl)) rfl (by decide) (by omega) ?_
              have bz1187 := hG.2.2.1 r
              refine zw_igeN (a := a) (b := al_ r) rfl rfl rfl (by omega) (by omega) (fun c50 => ?_) (fun c50 => ?_)
              · -- 50 to 79
                refine zw_inc rfl (x' := (nI (r + 1))) (ls' := [some (.ref 92), some (.ref kr), some (.int (nI (r + 1))), some (.int (nI a))]) rfl (na (a := r) (b := 1) rfl rfl) rfl ?_
                refine zw_n 1 rfl ?_
                refine zw_ls (ls' := [some (.ref 92), some (.ref kr), some (.int (nI (r + 1))), none]) ⟨Or.inr rfl, Or.inr rfl, Or.inr rfl, Or.inl rfl, trivial⟩ ?_
                exact ih7 (r + 1) n2 g2 M_43 s_43 f43_0 f43_1 (⟨by omega, by omega, by rw [lc_s0, wrR, if_pos (by omega), ← show a = al_ r by omega]; simpa using hi43.2.2⟩) (by omega)
              · -- 50 to 53
                refine zw_n 1 rfl ?_
                refine zw_le0N (a := a) rfl rfl (by omega) (fun c54 => ?_) (fun c54 => ?_)
                · -- 54 to 63
                  refine zw_n 5 rfl ?_
                  refine zw_top (nm (a := r) (b := 4) rfl rfl) ?_
                  refine zw_n 2 rfl ?_
                  refine zw_top (na (a := r * 4) (b := a) rfl rfl) ?_
                  refine zw_callV (as := [.ref kr, .int (nI ((r * 4) + a))]) (rest := []) rfl rfl rfl f43_0 rfl rfl rfl (by decide) (c_writeAlt M_43 n2 g2 f43_0 f43_1 kr n_ em gn al_ it pt tg bd fr af fb (seg10 (Sm.at s_43 (by simp <;> omega) (hR.get 0 rfl)) (Sm.at s_43 (by simp <;> omega) (hR.get 1 rfl)) (Sm.at s_43 (by simp <;> omega) (hR.get 2 rfl)) (Sm.at s_43 (by simp <;> omega) (hR.get 3 rfl)) (Sm.at s_43 (by simp <;> omega) (hR.get 4 rfl)) (Sm.at s_43 (by simp <;> omega) (hR.get 5 rfl)) (Sm.at s_43 (by simp <;> omega) (hR.get 6 rfl)) (Sm.at s_43 (by simp <;> omega) (hR.get 7 rfl)) (Sm.at s_43 (by simp <;> omega) (hR.get 8 rfl)) (Sm.at s_43 (by simp <;> omega) (hR.get 9 rfl))) hG ((r * 4) + a) (by omega) _ hi43.2.2 (by omega) (by omega)) (fun rz1196 Mz1197 hz1198 => ?_)
                  obtain ⟨hAz1188, nz1189, gz1190, h2z1191, h3z1192, hSz1193, hLz1194, hbz1195⟩ := hz1198
                  rw [hAz1188]
                  show Zw 2 zm_Letters_writeRules 73 [some (.ref 92), some (.ref kr), some (.int (nI r)), some (.int (nI a))] [] Mz1197 _
                  refine zw_inc rfl (x' := (nI (a + 1))) (ls' := [some (.ref 92), some (.ref kr), some (.int (nI r)), some (.int (nI (a + 1)))]) rfl (na (a := a) (b := 1) rfl rfl) rfl ?_
                  refine zw_n 1 rfl ?_
                  exact ih43 (a + 1) nz1189 gz1190 Mz1197 (Sm.trans s_43 hSz1193) h2z1191 h3z1192 (⟨by omega, by omega, by rw [lc_s, wrB, if_neg (by omega), List.nil_append]; exact hLz1194⟩) (by omega)
                · -- 54 to 57
                  refine zw_n 2 rfl ?_
                  refine zw_callV (as := [.int 47]) (rest := []) rfl rfl rfl f43_0 rfl rfl rfl (by decide) (c_addLet M_43 n2 g2 f43_0 f43_1 47 (by omega)) (fun rz1203 Mz1204 hz1205 => ?_)
                  obtain ⟨hAz1199, h2z1200, h3z1201, hSz1202⟩ := hz1205
                  rw [hAz1199]
                  show Zw 2 zm_Letters_writeRules 63 [some (.ref 92), some (.ref kr), some (.int (nI r)), some (.int (nI a))] [] Mz1204 _
                  refine zw_n 5 rfl ?_
                  refine zw_top (nm (a := r) (b := 4) rfl rfl) ?_
                  refine zw_n 2 rfl ?_
                  refine zw_top (na (a := r * 4) (b := a) rfl rfl) ?_
                  refine zw_callV (as := [.ref kr, .int (nI ((r * 4) + a))]) (rest := []) rfl rfl rfl h2z1200 rfl rfl rfl (by decide) (c_writeAlt Mz1204 (n2 + 1) (up g2 n2 47) h2z1200 h3z1201 kr n_ em gn al_ it pt tg bd fr af fb (seg10 (Sm.at hSz1202 (by simp <;> omega) (Sm.at s_43 (by simp <;> omega) (hR.get 0 rfl))) (Sm.at hSz1202 (by simp <;> omega) (Sm.at s_43 (by simp <;> omega) (hR.get 1 rfl))) (Sm.at hSz1202 (by simp <;> omega) (Sm.at s_43 (by simp <;> omega) (hR.get 2 rfl))) (Sm.at hSz1202 (by simp <;> omega) (Sm.at s_43 (by simp <;> omega) (hR.get 3 rfl))) (Sm.at hSz1202 (by simp <;> omega) (Sm.at s_43 (by simp <;> omega) (hR.get 4 rfl))) (Sm.at hSz1202 (by simp <;> omega) (Sm.at s_43 (by simp <;> omega) (hR.get 5 rfl))) (Sm.at hSz1202 (by simp <;> omega) (Sm.at s_43 (by simp <;> omega) (hR.get 6 rfl))) (Sm.at hSz1202 (by simp <;> omega) (Sm.at s_43 (by simp <;> omega) (hR.get 7 rfl))) (Sm.at hSz1202 (by simp <;> omega) (Sm.at s_43 (by simp <;> omega) (hR.get 8 rfl))) (Sm.at hSz1202 (by simp <;> omega) (Sm.at s_43 (by simp <;> omega) (hR.get 9 rfl)))) hG ((r * 4) + a) (by omega) _ (hi43.2.2.add 47) (by omega) (by omega)) (fun rz1214 Mz1215 hz1216 => ?_)
                  obtain ⟨hAz1206, nz1207, gz1208, h2z1209, h3z1210, hSz1211, hLz1212, hbz1213⟩ := hz1216
                  rw [hAz1206]
                  show Zw 2 zm_Letters_writeRules 73 [some (.ref 92), some (.ref kr), some (.int (nI r)), some (.int (nI a))] [] Mz1215 _
                  refine zw_inc rfl (x' := (nI (a + 1))) (ls' := [some (.ref 92), some (.ref kr), some (.int (nI r)), some (.int (nI (a + 1)))]) rfl (na (a := a) (b := 1) rfl rfl) rfl ?_
                  refine zw_n 1 rfl ?_
                  exact ih43 (a + 1) nz1207 gz1208 Mz1215 (Sm.trans (Sm.trans s_43 hSz1202) hSz1211) h2z1209 h3z1210 (⟨by omega, by omega, by rw [lc_s, wrB, if_pos (by omega), ← List.append_assoc]; exact hLz1212⟩) (by omega)
          exact lp43 _ 0 (n1 + 1 + 1 + 1) (up (up (up g1 n1 59) (n1 + 1) (gn r)) (n1 + 1 + 1) 58) Mz1175 (Sm.trans (Sm.trans (Sm.trans s_7 hSz1158) hSz1166) hSz1173) h2z1171 h3z1172 (⟨Nat.zero_le _, by omega, by show Lt _ _ (_ ++ []); rw [List.append_nil]; exact ((hi7.2.2.add 59).add _).add _⟩) (Nat.lt_succ_self _)
  exact lp7 _ 0 0 g Mz1098 (Sm.tset Sm.rf ez1099 (by decide)) (zat_self ez1099 h92) (zat_set ez1099 (by decide) h93) (⟨Nat.zero_le _, Nat.zero_le _, Lt.nil⟩) (Nat.lt_succ_self _)

set_option maxHeartbeats 4000000 in
set_option maxRecDepth 100000 in
theorem c_printTokens (Mq : zM) (n : Nat) (g : Nat → Nat) (h92 : Mq[92]? = some (.inr (5, [.int (nI n), .ref 93]))) (h93 : Mq[93]? = some (.inl (0, 820, .inl (ai g))))(k_ : Nat) (c : Nat) (sg li co : Nat → Nat) (hT : Seg Mq k_ (tokL k_ (c, sg, li, co))) (hS : SafeT c sg li co) (hs : Srt c li co) (hkr : k_ + 3 < 92) : Zm 1 zm_Letters_printTokens [.ref 92, .ref k_] Mq (fun r9 M1 => r9 = none ∧ ∃ n9 g9, M1[92]? = some (.inr (5, [.int (nI n9), .ref 93])) ∧ M1[93]? = some (.inl (0, 820, .inl (ai g9))) ∧ Sm Mq M1 [92, 93] ∧ Lt n9 g9 (prT c sg li co) ∧ n9 ≤ 820) := by
  show Zw 1 zm_Letters_printTokens 0 [some (.ref 92), some (.ref k_), none, none] [] Mq _
  have hc20 := hS.1
  refine zw_n 2 rfl ?_
  refine zw_put rfl h92 (rfl) (Nat.le_of_ble_eq_true rfl) ?_
  generalize ez1218 : List.set Mq 92 _ = Mz1217
  refine zw_n 4 (ls' := [some (.ref 92), some (.ref k_), some (.int 0), some (.int 0)]) rfl ?_
  have lp9 : ∀ (n9 : Nat) (cl : Nat) (k : Nat) (n1 : Nat) (g1 : Nat → Nat) (M_9 : zM), Sm Mq M_9 [92, 93] → M_9[92]? = some (.inr (5, [.int (nI n1), .ref 93])) → M_9[93]? = some (.inl (0, 820, .inl (ai g1))) → (k ≤ c ∧ n1 ≤ 41 * k ∧ cl = (if k = 0 then 0 else co (k - 1) + 1) ∧ Lt n1 g1 (lc (prK sg li co) k)) → c - k < n9 → Zw 1 zm_Letters_printTokens 9 [some (.ref 92), some (.ref k_), some (.int (nI cl)), some (.int (nI k))] [] M_9 (fun r9 M1 => r9 = none ∧ ∃ n9 g9, M1[92]? = some (.inr (5, [.int (nI n9), .ref 93])) ∧ M1[93]? = some (.inl (0, 820, .inl (ai g9))) ∧ Sm Mq M1 [92, 93] ∧ Lt n9 g9 (prT c sg li co) ∧ n9 ≤ 820) := by
    intro n9
    induction n9 with
    | zero => intro cl k n1 g1 M_9 _ _ _ _ h; exact absurd h (Nat.not_lt_zero _)
    | succ n9 ih9 =>
      intro cl k n1 g1 M_9 s_9 f9_0 f9_1 hi9 hm9
      have hcl : (k = 0 → cl = 0) ∧ (0 < k → cl = co (k - 1) + 1) := ⟨fun q => by rw [hi9.2.2.1, if_pos q], fun q => by rw [hi9.2.2.1, if_neg (by omega)]⟩
      refine zw_n 2 rfl ?_
      refine zw_get (v := .int (nI c)) rfl (Sm.at s_9 (by simp <;> omega) (hT.get 0 rfl)) rfl ?_
      refine zw_igeN (a := k) (b := c) rfl rfl rfl (by omega) (by omega) (fun c14 => ?_) (fun c14 => ?_)
      · -- 14 to 78
        exact zw_vret rfl rfl (⟨rfl, n1, g1, f9_0, f9_1, s_9, by rw [prT, ← show k = c by omega]; exact hi9.2.2.2, by omega⟩)
      · -- 14 to 17
        refine zw_n 1 rfl ?_
        refine zw_le0N (a := k) rfl rfl (by omega) (fun c18 => ?_) (fun c18 => ?_)
        · -- 18 to 37
          have hb9 : k = 0 ∨ li (k - 1) = li k := by first | exact Or.inl (by omega) | (have := ite_eq0 c26; exact Or.inr (by omega))
          have lp37 : ∀ (n37 : Nat) (c2 : Nat) (n2 : Nat) (g2 : Nat → Nat) (M_37 : zM), Sm Mq M_37 [92, 93] → M_37[92]? = some (.inr (5, [.int (nI n2), .ref 93])) → M_37[93]? = some (.inl (0, 820, .inl (ai g2))) → (cl ≤ c2 ∧ c2 ≤ co k ∧ n2 ≤ 41 * k + 1 + (c2 - cl) ∧ Lt n2 g2 (lc (prK sg li co) k ++ [] ++ List.replicate (c2 - cl) 32)) → co k - c2 < n37 → Zw 1 zm_Letters_printTokens 37 [some (.ref 92), some (.ref k_), some (.int (nI c2)), some (.int (nI k))] [] M_37 (fun r9 M1 => r9 = none ∧ ∃ n9 g9, M1[92]? = some (.inr (5, [.int (nI n9), .ref 93])) ∧ M1[93]? = some (.inl (0, 820, .inl (ai g9))) ∧ Sm Mq M1 [92, 93] ∧ Lt n9 g9 (prT c sg li co) ∧ n9 ≤ 820) := by
            intro n37
            induction n37 with
            | zero => intro c2 n2 g2 M_37 _ _ _ _ h; exact absurd h (Nat.not_lt_zero _)
            | succ n37 ih37 =>
              intro c2 n2 g2 M_37 s_37 f37_0 f37_1 hi37 hm37
              refine zw_n 2 rfl ?_
              refine zw_get (v := .ref (k_ + 3)) rfl (Sm.at s_37 (by simp <;> omega) (hT.get 0 rfl)) rfl ?_
              refine zw_n 1 rfl ?_
              refine zw_iald (f := ai co) (j := k) rfl (Sm.at s_37 (by simp <;> omega) (hT.get 3 rfl)) rfl (by decide) (by omega) ?_
              have bz1219 := hS.2.2.2 k
              refine zw_igeN (a := c2) (b := co k) rfl rfl rfl (by omega) (by omega) (fun c44 => ?_) (fun c44 => ?_)
              · -- 44 to 59
                refine zw_n 2 rfl ?_
                refine zw_get (v := .ref (k_ + 1)) rfl (Sm.at s_37 (by simp <;> omega) (hT.get 0 rfl)) rfl ?_
                refine zw_n 1 rfl ?_
                refine zw_iald (f := ai sg) (j := k) rfl (Sm.at s_37 (by simp <;> omega) (hT.get 1 rfl)) rfl (by decide) (by omega) ?_
                have bz1220 := hS.2.1 k
                refine zw_callV (as := [.int (nI (sg k))]) (rest := []) rfl rfl rfl f37_0 rfl rfl rfl (by decide) (c_addLet M_37 n2 g2 f37_0 f37_1 (sg k) (by omega)) (fun rz1225 Mz1226 hz1227 => ?_)
                obtain ⟨hAz1221, h2z1222, h3z1223, hSz1224⟩ := hz1227
                rw [hAz1221]
                show Zw 1 zm_Letters_printTokens 69 [some (.ref 92), some (.ref k_), some (.int (nI c2)), some (.int (nI k))] [] Mz1226 _
                refine zw_inc rfl (x' := (nI (c2 + 1))) (ls' := [some (.ref 92), some (.ref k_), some (.int (nI (c2 + 1))), some (.int (nI k))]) rfl (na (a := c2) (b := 1) rfl rfl) rfl ?_
                refine zw_inc rfl (x' := (nI (k + 1))) (ls' := [some (.ref 92), some (.ref k_), some (.int (nI (c2 + 1))), some (.int (nI (k + 1)))]) rfl (na (a := k) (b := 1) rfl rfl) rfl ?_
                refine zw_n 1 rfl ?_
                exact ih9 (c2 + 1) (k + 1) (n2 + 1) (up g2 n2 (sg k)) Mz1226 (Sm.trans s_37 hSz1224) h2z1222 h3z1223 (⟨by omega, by omega, by rw [if_neg (by omega), Nat.add_sub_cancel]; omega, by rw [lc_s0]; rcases Nat.eq_zero_or_pos k with q | q; (rw [prK_B (s := cl) q (by omega), ← show c2 = co k by omega]; exact hi37.2.2.2.add _); (rw [prK_C (s := cl) q (by omega) (by omega), ← show c2 = co k by omega]; exact hi37.2.2.2.add _)⟩) (by omega)
              · -- 44 to 47
                refine zw_n 2 rfl ?_
                refine zw_callV (as := [.int 32]) (rest := []) rfl rfl rfl f37_0 rfl rfl rfl (by decide) (c_addLet M_37 n2 g2 f37_0 f37_1 32 (by omega)) (fun rz1232 Mz1233 hz1234 => ?_)
                obtain ⟨hAz1228, h2z1229, h3z1230, hSz1231⟩ := hz1234
                rw [hAz1228]
                show Zw 1 zm_Letters_printTokens 53 [some (.ref 92), some (.ref k_), some (.int (nI c2)), some (.int (nI k))] [] Mz1233 _
                refine zw_inc rfl (x' := (nI (c2 + 1))) (ls' := [some (.ref 92), some (.ref k_), some (.int (nI (c2 + 1))), some (.int (nI k))]) rfl (na (a := c2) (b := 1) rfl rfl) rfl ?_
                refine zw_n 1 rfl ?_
                exact ih37 (c2 + 1) (n2 + 1) (up g2 n2 32) Mz1233 (Sm.trans s_37 hSz1231) h2z1229 h3z1230 (⟨by omega, by omega, by omega, hi37.2.2.2.rep hi37.1⟩) (by omega)
          exact lp37 _ cl n1 g1 M_9 s_9 f9_0 f9_1 (⟨Nat.le_refl _, by rcases Nat.eq_zero_or_pos k with q | q <;> first | omega | (have := srt_col hs (show k < c by omega) q (by omega); omega), by omega, Lt.rep0 (by rw [List.append_nil]; exact hi9.2.2.2)⟩) (Nat.lt_succ_self _)
        · -- 18 to 21
          refine zw_n 2 rfl ?_
          refine zw_callV (as := [.int (nI k)]) (rest := []) rfl rfl rfl (Sm.at s_9 (by simp <;> omega) (hT.get 0 rfl)) rfl rfl rfl (by decide) (c_beginsLine M_9 k_ c sg li co (seg4 (Sm.at s_9 (by simp <;> omega) (hT.get 0 rfl)) (Sm.at s_9 (by simp <;> omega) (hT.get 1 rfl)) (Sm.at s_9 (by simp <;> omega) (hT.get 2 rfl)) (Sm.at s_9 (by simp <;> omega) (hT.get 3 rfl))) k (by omega) (fun q => Nat.lt_trans (hS.2.2.1 q) (by decide))) (fun rz1235 Mz1236 hz1237 => ?_)
          rw [hz1237.1, hz1237.2]
          show Zw 1 zm_Letters_printTokens 26 [some (.ref 92), some (.ref k_), some (.int (nI cl)), some (.int (nI k))] [.int (nI (if k = 0 ∨ li (k - 1) ≠ li k then 1 else 0))] M_9 _
          refine zw_eq0N (a := if k = 0 ∨ li (k - 1) ≠ li k then 1 else 0) rfl rfl (ite_b) (fun c26 => ?_) (fun c26 => ?_)
          · -- 26 to 37
            have hb9 : k = 0 ∨ li (k - 1) = li k := by first | exact Or.inl (by omega) | (have := ite_eq0 c26; exact Or.inr (by omega))
            have lp37 : ∀ (n37 : Nat) (c2 : Nat) (n2 : Nat) (g2 : Nat → Nat) (M_37 : zM), Sm Mq M_37 [92, 93] → M_37[92]? = some (.inr (5, [.int (nI n2), .ref 93])) → M_37[93]? = some (.inl (0, 820, .inl (ai g2))) → (cl ≤ c2 ∧ c2 ≤ co k ∧ n2 ≤ 41 * k + 1 + (c2 - cl) ∧ Lt n2 g2 (lc (prK sg li co) k ++ [] ++ List.replicate (c2 - cl) 32)) → co k - c2 < n37 → Zw 1 zm_Letters_printTokens 37 [some (.ref 92), some (.ref k_), some (.int (nI c2)), some (.int (nI k))] [] M_37 (fun r9 M1 => r9 = none ∧ ∃ n9 g9, M1[92]? = some (.inr (5, [.int (nI n9), .ref 93])) ∧ M1[93]? = some (.inl (0, 820, .inl (ai g9))) ∧ Sm Mq M1 [92, 93] ∧ Lt n9 g9 (prT c sg li co) ∧ n9 ≤ 820) := by
              intro n37
              induction n37 with
              | zero => intro c2 n2 g2 M_37 _ _ _ _ h; exact absurd h (Nat.not_lt_zero _)
              | succ n37 ih37 =>
                intro c2 n2 g2 M_37 s_37 f37_0 f37_1 hi37 hm37
                refine zw_n 2 rfl ?_
                refine zw_get (v := .ref (k_ + 3)) rfl (Sm.at s_37 (by simp <;> omega) (hT.get 0 rfl)) rfl ?_
                refine zw_n 1 rfl ?_
                refine zw_iald (f := ai co) (j := k) rfl (Sm.at s_37 (by simp <;> omega) (hT.get 3 rfl)) rfl (by decide) (by omega) ?_
                have bz1238 := hS.2.2.2 k
                refine zw_igeN (a := c2) (b := co k) rfl rfl rfl (by omega) (by omega) (fun c44 => ?_) (fun c44 => ?_)
                · -- 44 to 59
                  refine zw_n 2 rfl ?_
                  refine zw_get (v := .ref (k_ + 1)) rfl (Sm.at s_37 (by simp <;> omega) (hT.get 0 rfl)) rfl ?_
                  refine zw_n 1 rfl ?_
                  refine zw_iald (f := ai sg) (j := k) rfl (Sm.at s_37 (by simp <;> omega) (hT.get 1 rfl)) rfl (by decide) (by omega) ?_
                  have bz1239 := hS.2.1 k
                  refine zw_callV (as := [.int (nI (sg k))]) (rest := []) rfl rfl rfl f37_0 rfl rfl rfl (by decide) (c_addLet M_37 n2 g2 f37_0 f37_1 (sg k) (by omega)) (fun rz1244 Mz1245 hz1246 => ?_)
                  obtain ⟨hAz1240, h2z1241, h3z1242, hSz1243⟩ := hz1246
                  rw [hAz1240]
                  show Zw 1 zm_Letters_printTokens 69 [some (.ref 92), some (.ref k_), some (.int (nI c2)), some (.int (nI k))] [] Mz1245 _
                  refine zw_inc rfl (x' := (nI (c2 + 1))) (ls' := [some (.ref 92), some (.ref k_), some (.int (nI (c2 + 1))), some (.int (nI k))]) rfl (na (a := c2) (b := 1) rfl rfl) rfl ?_
                  refine zw_inc rfl (x' := (nI (k + 1))) (ls' := [some (.ref 92), some (.ref k_), some (.int (nI (c2 + 1))), some (.int (nI (k + 1)))]) rfl (na (a := k) (b := 1) rfl rfl) rfl ?_
                  refine zw_n 1 rfl ?_
                  exact ih9 (c2 + 1) (k + 1) (n2 + 1) (up g2 n2 (sg k)) Mz1245 (Sm.trans s_37 hSz1243) h2z1241 h3z1242 (⟨by omega, by omega, by rw [if_neg (by omega), Nat.add_sub_cancel]; omega, by rw [lc_s0]; rcases Nat.eq_zero_or_pos k with q | q; (rw [prK_B (s := cl) q (by omega), ← show c2 = co k by omega]; exact hi37.2.2.2.add _); (rw [prK_C (s := cl) q (by omega) (by omega), ← show c2 = co k by omega]; exact hi37.2.2.2.add _)⟩) (by omega)
                · -- 44 to 47
                  refine zw_n 2 rfl ?_
                  refine zw_callV (as := [.int 32]) (rest := []) rfl rfl rfl f37_0 rfl rfl rfl (by decide) (c_addLet M_37 n2 g2 f37_0 f37_1 32 (by omega)) (fun rz1251 Mz1252 hz1253 => ?_)
                  obtain ⟨hAz1247, h2z1248, h3z1249, hSz1250⟩ := hz1253
                  rw [hAz1247]
                  show Zw 1 zm_Letters_printTokens 53 [some (.ref 92), some (.ref k_), some (.int (nI c2)), some (.int (nI k))] [] Mz1252 _
                  refine zw_inc rfl (x' := (nI (c2 + 1))) (ls' := [some (.ref 92), some (.ref k_), some (.int (nI (c2 + 1))), some (.int (nI k))]) rfl (na (a := c2) (b := 1) rfl rfl) rfl ?_
                  refine zw_n 1 rfl ?_
                  exact ih37 (c2 + 1) (n2 + 1) (up g2 n2 32) Mz1252 (Sm.trans s_37 hSz1250) h2z1248 h3z1249 (⟨by omega, by omega, by omega, hi37.2.2.2.rep hi37.1⟩) (by omega)
            exact lp37 _ cl n1 g1 M_9 s_9 f9_0 f9_1 (⟨Nat.le_refl _, by rcases Nat.eq_zero_or_pos k with q | q <;> first | omega | (have := srt_col hs (show k < c by omega) q (by omega); omega), by omega, Lt.rep0 (by rw [List.append_nil]; exact hi9.2.2.2)⟩) (Nat.lt_succ_self _)
          · -- 26 to 29
            have hb9 : li (k - 1) ≠ li k := by rcases ite_ne c26 with q | q <;> first | exact q | omega
            refine zw_n 2 rfl ?_
            refine zw_callV (as := [.int 10]) (rest := []) rfl rfl rfl f9_0 rfl rfl rfl (by decide) (c_addLet M_9 n1 g1 f9_0 f9_1 10 (by omega)) (fun rz1258 Mz1259 hz1260 => ?_)
            obtain ⟨hAz1254, h2z1255, h3z1256, hSz1257⟩ := hz1260
            rw [hAz1254]
            show Zw 1 zm_Letters_printTokens 35 [some (.ref 92), some (.ref k_), some (.int (nI cl)), some (.int (nI k))] [] Mz1259 _
            refine zw_n 2 (ls' := [some (.ref 92), some (.ref k_), some (.int 0), some (.int (nI k))]) rfl ?_
            have mz1261 : Mz1259[k_]? = some (.inr (9, [.int (nI c), .ref (k_ + 1), .ref (k_ + 2), .ref (k_ + 3)])) := Sm.at hSz1257 (by simp <;> omega) (Sm.at s_9 (by simp <;> omega) (hT.get 0 rfl))
            have mz1262 : Mz1259[k_ + 1]? = some (.inl (0, 20, .inl (ai sg))) := Sm.at hSz1257 (by simp <;> omega) (Sm.at s_9 (by simp <;> omega) (hT.get 1 rfl))
            have mz1263 : Mz1259[k_ + 2]? = some (.inl (0, 20, .inl (ai li))) := Sm.at hSz1257 (by simp <;> omega) (Sm.at s_9 (by simp <;> omega) (hT.get 2 rfl))
            have mz1264 : Mz1259[k_ + 3]? = some (.inl (0, 20, .inl (ai co))) := Sm.at hSz1257 (by simp <;> omega) (Sm.at s_9 (by simp <;> omega) (hT.get 3 rfl))
            have lp37 : ∀ (n37 : Nat) (c2 : Nat) (n2 : Nat) (g2 : Nat → Nat) (M_37 : zM), Sm Mq M_37 [92, 93] → M_37[92]? = some (.inr (5, [.int (nI n2), .ref 93])) → M_37[93]? = some (.inl (0, 820, .inl (ai g2))) → (0 ≤ c2 ∧ c2 ≤ co k ∧ n2 ≤ 41 * k + 1 + (c2 - 0) ∧ Lt n2 g2 (lc (prK sg li co) k ++ [10] ++ List.replicate (c2 - 0) 32)) → co k - c2 < n37 → Zw 1 zm_Letters_printTokens 37 [some (.ref 92), some (.ref k_), some (.int (nI c2)), some (.int (nI k))] [] M_37 (fun r9 M1 => r9 = none ∧ ∃ n9 g9, M1[92]? = some (.inr (5, [.int (nI n9), .ref 93])) ∧ M1[93]? = some (.inl (0, 820, .inl (ai g9))) ∧ Sm Mq M1 [92, 93] ∧ Lt n9 g9 (prT c sg li co) ∧ n9 ≤ 820) := by
              intro n37
              induction n37 with
              | zero => intro c2 n2 g2 M_37 _ _ _ _ h; exact absurd h (Nat.not_lt_zero _)
              | succ n37 ih37 =>
                intro c2 n2 g2 M_37 s_37 f37_0 f37_1 hi37 hm37
                refine zw_n 2 rfl ?_
                refine zw_get (v := .ref (k_ + 3)) rfl (Sm.at s_37 (by simp <;> omega) (hT.get 0 rfl)) rfl ?_
                refine zw_n 1 rfl ?_
                refine zw_iald (f := ai co) (j := k) rfl (Sm.at s_37 (by simp <;> omega) (hT.get 3 rfl)) rfl (by decide) (by omega) ?_
                have bz1265 := hS.2.2.2 k
                refine zw_igeN (a := c2) (b := co k) rfl rfl rfl (by omega) (by omega) (fun c44 => ?_) (fun c44 => ?_)
                · -- 44 to 59
                  refine zw_n 2 rfl ?_
                  refine zw_get (v := .ref (k_ + 1)) rfl (Sm.at s_37 (by simp <;> omega) (hT.get 0 rfl)) rfl ?_
                  refine zw_n 1 rfl ?_
                  refine zw_iald (f := ai sg) (j := k) rfl (Sm.at s_37 (by simp <;> omega) (hT.get 1 rfl)) rfl (by decide) (by omega) ?_
                  have bz1266 := hS.2.1 k
                  refine zw_callV (as := [.int (nI (sg k))]) (rest := []) rfl rfl rfl f37_0 rfl rfl rfl (by decide) (c_addLet M_37 n2 g2 f37_0 f37_1 (sg k) (by omega)) (fun rz1271 Mz1272 hz1273 => ?_)
                  obtain ⟨hAz1267, h2z1268, h3z1269, hSz1270⟩ := hz1273
                  rw [hAz1267]
                  show Zw 1 zm_Letters_printTokens 69 [some (.ref 92), some (.ref k_), some (.int (nI c2)), some (.int (nI k))] [] Mz1272 _
                  refine zw_inc rfl (x' := (nI (c2 + 1))) (ls' := [some (.ref 92), some (.ref k_), some (.int (nI (c2 + 1))), some (.int (nI k))]) rfl (na (a := c2) (b := 1) rfl rfl) rfl ?_
                  refine zw_inc rfl (x' := (nI (k + 1))) (ls' := [some (.ref 92), some (.ref k_), some (.int (nI (c2 + 1))), some (.int (nI (k + 1)))]) rfl (na (a := k) (b := 1) rfl rfl) rfl ?_
                  refine zw_n 1 rfl ?_
                  exact ih9 (c2 + 1) (k + 1) (n2 + 1) (up g2 n2 (sg k)) Mz1272 (Sm.trans s_37 hSz1270) h2z1268 h3z1269 (⟨by omega, by omega, by rw [if_neg (by omega), Nat.add_sub_cancel]; omega, by rw [lc_s0, prK_A (by omega) hb9, ← show c2 = co k by omega]; exact hi37.2.2.2.add _⟩) (by omega)
                · -- 44 to 47
                  refine zw_n 2 rfl ?_
                  refine zw_callV (as := [.int 32]) (rest := []) rfl rfl rfl f37_0 rfl rfl rfl (by decide) (c_addLet M_37 n2 g2 f37_0 f37_1 32 (by omega)) (fun rz1278 Mz1279 hz1280 => ?_)
                  obtain ⟨hAz1274, h2z1275, h3z1276, hSz1277⟩ := hz1280
                  rw [hAz1274]
                  show Zw 1 zm_Letters_printTokens 53 [some (.ref 92), some (.ref k_), some (.int (nI c2)), some (.int (nI k))] [] Mz1279 _
                  refine zw_inc rfl (x' := (nI (c2 + 1))) (ls' := [some (.ref 92), some (.ref k_), some (.int (nI (c2 + 1))), some (.int (nI k))]) rfl (na (a := c2) (b := 1) rfl rfl) rfl ?_
                  refine zw_n 1 rfl ?_
                  exact ih37 (c2 + 1) (n2 + 1) (up g2 n2 32) Mz1279 (Sm.trans s_37 hSz1277) h2z1275 h3z1276 (⟨by omega, by omega, by omega, hi37.2.2.2.rep hi37.1⟩) (by omega)
            exact lp37 _ 0 (n1 + 1) (up g1 n1 10) Mz1259 (Sm.trans s_9 hSz1257) h2z1255 h3z1256 (⟨Nat.le_refl _, Nat.zero_le _, by omega, Lt.rep0 (hi9.2.2.2.add 10)⟩) (Nat.lt_succ_self _)
  exact lp9 _ 0 0 0 g Mz1217 (Sm.tset Sm.rf ez1218 (by decide)) (zat_self ez1218 h92) (zat_set ez1218 (by decide) h93) (⟨Nat.zero_le _, Nat.zero_le _, rfl, Lt.nil⟩) (Nat.lt_succ_self _)

set_option maxHeartbeats 4000000 in
set_option maxRecDepth 100000 in
theorem c_print (Mq : zM) (f : Nat → Nat → Nat) (L : Nat) (hC : CC Mq f) (hI : CInv L f) : Zm 3 zm_CG_print [.ref 0] Mq (fun r9 M1 => r9 = some (.int (nI (prT (f 26 0) (f 27) (f 28) (f 29)).length)) ∧ ∃ f9, CC M1 f9 ∧ Smc Mq M1 ∧ CInv L f9 ∧ Lt (f9 92 0) (f9 93) (prT (f 26 0) (f 27) (f 28) (f 29)) ∧ ∀ a, a ≠ 92 → a ≠ 93 → f9 a = f a) := by
  show Zw 3 zm_CG_print 0 [some (.ref 0)] [] Mq _
  refine zw_n 1 rfl ?_
  refine zw_get (v := .ref 92) rfl (hC.1 0 (by decide) (by decide) (by decide)) rfl ?_
  refine zw_n 1 rfl ?_
  refine zw_get (v := .ref 26) rfl (hC.1 0 (by decide) (by decide) (by decide)) rfl ?_
  refine zw_callV (as := [.ref 26]) (rest := []) rfl rfl rfl (hC.1 92 (by decide) (by decide) (by decide)) rfl rfl rfl (by decide) (c_printTokens Mq (f 92 0) (f 93) (hC.1 92 (by decide) (by decide) (by decide)) (hC.1 93 (by decide) (by decide) (by decide)) 26 (f 26 0) (f 27) (f 28) (f 29) (seg4 (hC.1 26 (by decide) (by decide) (by decide)) (hC.1 27 (by decide) (by decide) (by decide)) (hC.1 28 (by decide) (by decide) (by decide)) (hC.1 29 (by decide) (by decide) (by decide))) hI.tok.safe hI.tok.srt (by decide)) (fun rz1289 Mz1290 hz1291 => ?_)
  obtain ⟨hAz1281, nz1282, gz1283, h2z1284, h3z1285, hSz1286, hLz1287, hbz1288⟩ := hz1291
  rw [hAz1281]
  show Zw 3 zm_CG_print 11 [some (.ref 0)] [] Mz1290 _
  refine zw_n 1 rfl ?_
  refine zw_get (v := .ref 92) rfl (Sm.at hSz1286 (by decide) (hC.1 0 (by decide) (by decide) (by decide))) rfl ?_
  refine zw_get (v := .int (nI nz1282)) rfl h2z1284 rfl ?_
  exact zw_iret rfl rfl (⟨by rw [← hLz1287.1], fset (fset f 93 gz1283) 92 (up (f 92) 0 nz1282), (CC.of (f' := fset (fset f 93 gz1283) 92 (up (f 92) 0 nz1282)) hC (Sm.trans Sm.rf hSz1286) ⟨by decide, by decide⟩ (d1_cons h2z1284 (d1_cons h3z1285 d1_nil)) (fs_c (fs_c fs_n))), (Smc.of (S := [92, 93]) (Sm.trans Sm.rf hSz1286) (by decide)), ⟨⟨hI.tl, hI.tx, hI.gram, hI.tok, hI.bef, hI.grn, hI.mvd, hI.hsz, hI.hen, hI.past, hbz1288, hI.kh, hI.kg, hI.kt, hI.cst, hI.csw, hI.csr, hI.ost, hI.osw, hI.osr, hI.tst, hI.rkn, hI.fnd, hI.ofs⟩, hI.cok, hI.blm, hI.tre, hI.rep⟩, hLz1287, fun a h1 h2 => (fs_c (fs_c fs_n)) a (by simp; omega)⟩)

set_option maxHeartbeats 4000000 in
set_option maxRecDepth 100000 in
theorem c_writeNo (Mq : zM) (f : Nat → Nat → Nat) (L : Nat) (hC : CC Mq f) (hI : CInv L f) (hx : f 16 0 = 0) : Zm 3 zm_CG_write [.ref 0] Mq (fun r9 M1 => r9 = some (.int (-1)) ∧ M1 = Mq) := by
  show Zw 3 zm_CG_write 0 [some (.ref 0)] [] Mq _
  have hG : SafeG (f 16 0) (f 17) (f 18) (f 19) (f 20) (f 21) (f 22) := hI.gram.safe
  have hS : SafeT (f 26 0) (f 27) (f 28) (f 29) := hI.tok.safe
  have hn8 := hG.1
  have hc20 := hS.1
  refine zw_n 1 rfl ?_
  refine zw_get (v := .ref 16) rfl (hC.1 0 (by decide) (by decide) (by decide)) rfl ?_
  refine zw_get (v := .int (nI (f 16 0))) rfl (hC.1 16 (by decide) (by decide) (by decide)) rfl ?_
  refine zw_ne0N (a := f 16 0) rfl rfl (by omega) (fun c7 => ?_) (fun c7 => ?_)
  · -- 7 to 12
    exfalso
    omega
  · -- 7 to 10
    refine zw_n 1 rfl ?_
    exact zw_iret rfl rfl (⟨rfl, rfl⟩)

set_option maxHeartbeats 4000000 in
set_option maxRecDepth 100000 in
theorem c_writeOk (Mq : zM) (f : Nat → Nat → Nat) (L : Nat) (hC : CC Mq f) (hI : CInv L f) (hx : 0 < f 16 0) : Zm 3 zm_CG_write [.ref 0] Mq (fun r9 M1 => r9 = some (.int (nI (wrG (f 16 0) (f 17) (f 18) (f 19) (f 20) (f 21) (f 22)).length)) ∧ ∃ f9, CC M1 f9 ∧ Smc Mq M1 ∧ CInv L f9 ∧ Lt (f9 92 0) (f9 93) (wrG (f 16 0) (f 17) (f 18) (f 19) (f 20) (f 21) (f 22)) ∧ ∀ a, a ≠ 92 → a ≠ 93 → f9 a = f a) := by
  show Zw 3 zm_CG_write 0 [some (.ref 0)] [] Mq _
  have hG : SafeG (f 16 0) (f 17) (f 18) (f 19) (f 20) (f 21) (f 22) := hI.gram.safe
  have hS : SafeT (f 26 0) (f 27) (f 28) (f 29) := hI.tok.safe
  have hn8 := hG.1
  have hc20 := hS.1
  refine zw_n 1 rfl ?_
  refine zw_get (v := .ref 16) rfl (hC.1 0 (by decide) (by decide) (by decide)) rfl ?_
  refine zw_get (v := .int (nI (f 16 0))) rfl (hC.1 16 (by decide) (by decide) (by decide)) rfl ?_
  refine zw_ne0N (a := f 16 0) rfl rfl (by omega) (fun c7 => ?_) (fun c7 => ?_)
  · -- 7 to 12
    refine zw_n 1 rfl ?_
    refine zw_get (v := .ref 92) rfl (hC.1 0 (by decide) (by decide) (by decide)) rfl ?_
    refine zw_n 1 rfl ?_
    refine zw_get (v := .ref 16) rfl (hC.1 0 (by decide) (by decide) (by decide)) rfl ?_
    refine zw_callV (as := [.ref 16]) (rest := []) rfl rfl rfl (hC.1 92 (by decide) (by decide) (by decide)) rfl rfl rfl (by decide) (c_writeRules Mq (f 92 0) (f 93) (hC.1 92 (by decide) (by decide) (by decide)) (hC.1 93 (by decide) (by decide) (by decide)) 16 (f 16 0) (f 16 7) (f 17) (f 18) (f 19) (f 20) (f 21) (f 22) (f 23) (f 24) (f 25) (seg10 (hC.1 16 (by decide) (by decide) (by decide)) (hC.1 17 (by decide) (by decide) (by decide)) (hC.1 18 (by decide) (by decide) (by decide)) (hC.1 19 (by decide) (by decide) (by decide)) (hC.1 20 (by decide) (by decide) (by decide)) (hC.1 21 (by decide) (by decide) (by decide)) (hC.1 22 (by decide) (by decide) (by decide)) (hC.1 23 (by decide) (by decide) (by decide)) (hC.1 24 (by decide) (by decide) (by decide)) (hC.1 25 (by decide) (by decide) (by decide))) hI.gram.safe (by decide)) (fun rz1300 Mz1301 hz1302 => ?_)
    obtain ⟨hAz1292, nz1293, gz1294, h2z1295, h3z1296, hSz1297, hLz1298, hbz1299⟩ := hz1302
    rw [hAz1292]
    show Zw 3 zm_CG_write 23 [some (.ref 0)] [] Mz1301 _
    refine zw_n 1 rfl ?_
    refine zw_get (v := .ref 92) rfl (Sm.at hSz1297 (by decide) (hC.1 0 (by decide) (by decide) (by decide))) rfl ?_
    refine zw_get (v := .int (nI nz1293)) rfl h2z1295 rfl ?_
    exact zw_iret rfl rfl (⟨by rw [← hLz1298.1], fset (fset f 93 gz1294) 92 (up (f 92) 0 nz1293), (CC.of (f' := fset (fset f 93 gz1294) 92 (up (f 92) 0 nz1293)) hC (Sm.trans Sm.rf hSz1297) ⟨by decide, by decide⟩ (d1_cons h2z1295 (d1_cons h3z1296 d1_nil)) (fs_c (fs_c fs_n))), (Smc.of (S := [92, 93]) (Sm.trans Sm.rf hSz1297) (by decide)), ⟨⟨hI.tl, hI.tx, hI.gram, hI.tok, hI.bef, hI.grn, hI.mvd, hI.hsz, hI.hen, hI.past, hbz1299, hI.kh, hI.kg, hI.kt, hI.cst, hI.csw, hI.csr, hI.ost, hI.osw, hI.osr, hI.tst, hI.rkn, hI.fnd, hI.ofs⟩, hI.cok, hI.blm, hI.tre, hI.rep⟩, hLz1298, fun a h1 h2 => (fs_c (fs_c fs_n)) a (by simp; omega)⟩)
  · -- 7 to 10
    exfalso
    omega
