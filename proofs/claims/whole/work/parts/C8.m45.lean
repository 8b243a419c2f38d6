set_option maxHeartbeats 4000000 in
set_option maxRecDepth 100000 in
theorem m_blamed (Mq : zM) (o : Nat → Nat) (f : Nat → Nat → Nat) (hM : MM Mq o f)(n : Nat) (gn al_ it pt tg bd : Nat → Nat) (hg : RelG f n gn al_ it pt tg bd) (hG : SafeG n gn al_ it pt tg bd) (hF : SafeF f) (c : Nat) (sg li co : Nat → Nat) (ht : RelT f c sg li co) (hS : SafeT c sg li co) (emp : Nat → Prop) (rk : Nat → Nat) (hA : Acyc (gE al_ it tg pt bd sg co) n emp rk) (h4 : SafeM (f 154)) (h5 : SafeM (f 155)) (hSO : SafeM (f 161)) (hL : IsLfp n (frR al_ it tg bd) (f 154)) (hsg : ∀ q, q < c → 33 ≤ sg q) : Zm 8 zm_MO_blamed [.ref 139] Mq (fun r9 M1 => ∃ k f9, r9 = some (.int (nI k)) ∧ MM M1 o f9 ∧ Sm Mq M1 [156, 157, 158, 159, 160, 161] ∧ Fsame f f9 [156, 157, 158, 159, 160, 161] ∧ SafeF f9 ∧ SafeM (f9 161) ∧ BlK (gE al_ it tg pt bd sg co) n (f 154) c k) := by
  show Zw 8 zm_MO_blamed 0 [some (.ref 139), none] [] Mq _
  have hc20 := hS.1
  refine zw_n 1 rfl ?_
  refine zw_callV (as := []) (rest := []) rfl rfl rfl hM.1 rfl rfl rfl (by decide) (m_isGrammar Mq o f hM n gn al_ it pt tg bd hg hG hF) (fun rz4062 Mz4063 hz4064 => ?_)
  rw [hz4064.1, hz4064.2]
  show Zw 8 zm_MO_blamed 4 [some (.ref 139), none] [.int (nI (if 0 < n then 1 else 0))] Mq _
  refine zw_eq0N (a := if 0 < n then 1 else 0) rfl rfl (ite_b) (fun c4 => ?_) (fun c4 => ?_)
  · -- 4 to 14
    refine zw_n 1 rfl ?_
    exact zw_iret rfl rfl (⟨NO, f, by decide, hM, Sm.rf, fs_k (fs_k (fs_k (fs_k (fs_k (fs_k fs_n))))), hF, hSO, ⟨fun _ => rfl, fun q1 q2 => by first | exact absurd q1 (ite_eq0 c4) | exact absurd q2 (ite_ne c11)⟩⟩)
  · -- 4 to 7
    have hn := ite_ne c4
    refine zw_n 1 rfl ?_
    refine zw_callV (as := []) (rest := []) rfl rfl rfl hM.1 rfl rfl rfl (by decide) (m_isFitting Mq o f hM n gn al_ it pt tg bd hg hG hF c sg li co ht hS emp rk hA (by omega)) (fun rz4073 Mz4074 hz4075 => ?_)
    obtain ⟨hAz4066, fz4065, hMMz4067, hSz4068, hFsz4069, hSFz4070, hz4071, hz4072⟩ := hz4075
    rw [hAz4066]
    show Zw 8 zm_MO_blamed 11 [some (.ref 139), none] [.int (nI (if wh (gE al_ it tg pt bd sg co) n 0 0 c ≠ 0 then 1 else 0))] Mz4074 _
    refine zw_eq0N (a := if wh (gE al_ it tg pt bd sg co) n 0 0 c ≠ 0 then 1 else 0) rfl rfl (ite_b) (fun c11 => ?_) (fun c11 => ?_)
    · -- 11 to 16
      refine zw_n 2 (ls' := [some (.ref 139), some (.int 1)]) rfl ?_
      have lp18 : ∀ (n18 : Nat) (t : Nat) (A1b : Nat → Nat) (B1b : Nat → Nat) (O1b : Nat → Nat) (M_18 : zM), Sm Mq M_18 [156, 157, 158, 159, 160, 161] → M_18[159]? = some (.inl (1, 22, .inr (.inl (al A1b)))) → M_18[160]? = some (.inl (1, 22, .inr (.inl (al B1b)))) → M_18[161]? = some (.inl (1, 176, .inr (.inl (al O1b)))) → M_18[156]? = some (.inl (0, 21, .inl (ai (fz4065 156)))) → M_18[157]? = some (.inl (0, 21, .inl (ai (fz4065 157)))) → M_18[158]? = some (.inl (1, 3872, .inr (.inl (al (fz4065 158))))) → (t ≤ c ∧ (SafeM A1b ∧ SafeM B1b ∧ SafeM O1b) ∧ ∀ t9, t9 < t → Fnd (gE al_ it tg pt bd sg co) n (f 154) t9 (sg t9) 0 (co t9)) → c - t < n18 → Zw 8 zm_MO_blamed 18 [some (.ref 139), some (.int (nI (t + 1)))] [] M_18 (fun r9 M1 => ∃ k f9, r9 = some (.int (nI k)) ∧ MM M1 o f9 ∧ Sm Mq M1 [156, 157, 158, 159, 160, 161] ∧ Fsame f f9 [156, 157, 158, 159, 160, 161] ∧ SafeF f9 ∧ SafeM (f9 161) ∧ BlK (gE al_ it tg pt bd sg co) n (f 154) c k) := by
        intro n18
        induction n18 with
        | zero => intro t A1b B1b O1b M_18 _ _ _ _ _ _ _ _ h; exact absurd h (Nat.not_lt_zero _)
        | succ n18 ih18 =>
          intro t A1b B1b O1b M_18 s_18 f18_0 f18_1 f18_2 f18_3 f18_4 f18_5 hi18 hm18
          refine zw_n 2 rfl ?_
          refine zw_callV (as := []) (rest := [.int (nI (t + 1))]) rfl rfl rfl (Sm.at s_18 (by decide) hM.1) rfl rfl rfl (by decide) (m_tok1 M_18 o (fset (fset (fset (fset (fset (fset f 161 O1b) 160 B1b) 159 A1b) 158 (fz4065 158)) 157 (fz4065 157)) 156 (fz4065 156)) (MM.of (o' := o) (f' := fset (fset (fset (fset (fset (fset f 161 O1b) 160 B1b) 159 A1b) 158 (fz4065 158)) 157 (fz4065 157)) 156 (fz4065 156)) hM s_18 (Sm.at s_18 (by decide) hM.1) (c1_cons f18_3 (c1_cons f18_4 (c1_cons f18_5 (c1_cons f18_0 (c1_cons f18_1 (c1_cons f18_2 c1_nil)))))) (fs_c (fs_c (fs_c (fs_c (fs_c (fs_c fs_n))))))) c ht.1) (fun rz4076 Mz4077 hz4078 => ?_)
          rw [hz4078.1, hz4078.2]
          show Zw 8 zm_MO_blamed 23 [some (.ref 139), some (.int (nI (t + 1)))] [.int (nI c), .int (nI (t + 1))] M_18 _
          refine zw_igtN (a := t + 1) (b := c) rfl rfl rfl (by omega) (by omega) (fun c23 => ?_) (fun c23 => ?_)
          · -- 23 to 44
            refine zw_n 1 rfl ?_
            refine zw_callV (as := []) (rest := []) rfl rfl rfl (Sm.at s_18 (by decide) hM.1) rfl rfl rfl (by decide) (m_tok1 M_18 o (fset (fset (fset (fset (fset (fset f 161 O1b) 160 B1b) 159 A1b) 158 (fz4065 158)) 157 (fz4065 157)) 156 (fz4065 156)) (MM.of (o' := o) (f' := fset (fset (fset (fset (fset (fset f 161 O1b) 160 B1b) 159 A1b) 158 (fz4065 158)) 157 (fz4065 157)) 156 (fz4065 156)) hM s_18 (Sm.at s_18 (by decide) hM.1) (c1_cons f18_3 (c1_cons f18_4 (c1_cons f18_5 (c1_cons f18_0 (c1_cons f18_1 (c1_cons f18_2 c1_nil)))))) (fs_c (fs_c (fs_c (fs_c (fs_c (fs_c fs_n))))))) c ht.1) (fun rz4079 Mz4080 hz4081 => ?_)
            rw [hz4081.1, hz4081.2]
            show Zw 8 zm_MO_blamed 48 [some (.ref 139), some (.int (nI (t + 1)))] [.int (nI c)] M_18 _
            exact zw_iret rfl rfl (⟨c, fset (fset (fset (fset (fset (fset f 161 O1b) 160 B1b) 159 A1b) 158 (fz4065 158)) 157 (fz4065 157)) 156 (fz4065 156), rfl, (MM.of (o' := o) (f' := fset (fset (fset (fset (fset (fset f 161 O1b) 160 B1b) 159 A1b) 158 (fz4065 158)) 157 (fz4065 157)) 156 (fz4065 156)) hM s_18 (Sm.at s_18 (by decide) hM.1) (c1_cons f18_3 (c1_cons f18_4 (c1_cons f18_5 (c1_cons f18_0 (c1_cons f18_1 (c1_cons f18_2 c1_nil)))))) (fs_c (fs_c (fs_c (fs_c (fs_c (fs_c fs_n))))))), s_18, fs_c (fs_c (fs_c (fs_c (fs_c (fs_c fs_n))))), ⟨hF.1, hSFz4070.2.1, hSFz4070.2.2.1, hSFz4070.2.2.2.1, hi18.2.1.1, hi18.2.1.2.1⟩, hi18.2.1.2.2, ⟨fun q => by rcases q with q | q; omega; exact absurd q (ite_eq0 c11), fun _ _ => ⟨Nat.le_refl _, fun t9 h9 => hi18.2.2 t9 (by omega), fun q => absurd q (Nat.lt_irrefl _)⟩⟩⟩)
          · -- 23 to 26
            refine zw_n 2 rfl ?_
            refine zw_callV (as := [.int (nI (t + 1))]) (rest := []) rfl rfl rfl (Sm.at s_18 (by decide) hM.1) rfl rfl rfl (by decide) (m_goes M_18 o (fset (fset (fset (fset (fset (fset f 161 O1b) 160 B1b) 159 A1b) 158 (fz4065 158)) 157 (fz4065 157)) 156 (fz4065 156)) (MM.of (o' := o) (f' := fset (fset (fset (fset (fset (fset f 161 O1b) 160 B1b) 159 A1b) 158 (fz4065 158)) 157 (fz4065 157)) 156 (fz4065 156)) hM s_18 (Sm.at s_18 (by decide) hM.1) (c1_cons f18_3 (c1_cons f18_4 (c1_cons f18_5 (c1_cons f18_0 (c1_cons f18_1 (c1_cons f18_2 c1_nil)))))) (fs_c (fs_c (fs_c (fs_c (fs_c (fs_c fs_n))))))) n gn al_ it pt tg bd hg hG (⟨hF.1, hSFz4070.2.1, hSFz4070.2.2.1, hSFz4070.2.2.2.1, hi18.2.1.1, hi18.2.1.2.1⟩) h4 h5 hi18.2.1.2.2 hn hA.1 (t + 1) (by omega) (VAll.congE (Q := t + 1) (fun t2 p q h1 h2 h3 => hz4072 t2 p q h1 h2 (by omega)) (fun p hp => ⟨(hz4071 p (by omega)).1.symm, (hz4071 p (by omega)).2.symm⟩))) (fun rz4094 Mz4095 hz4096 => ?_)
            obtain ⟨bz4082, Az4083, Bz4084, OPz4085, hAz4086, hMMz4087, hSz4088, sAz4089, sBz4090, sOz4091, hb1z4092, hbz4093⟩ := hz4096
            rw [hAz4086]
            show Zw 8 zm_MO_blamed 31 [some (.ref 139), some (.int (nI (t + 1)))] [.int (nI bz4082)] Mz4095 _
            have hfn : bz4082 = 1 ↔ Fnd (gE al_ it tg pt bd sg co) n (f 154) t (sg t) 0 (co t) := hbz4093.trans ((fnd_bk (E := (gE al_ it tg pt bd sg co)) (E' := gE al_ it tg pt bd (fz4065 156) (fz4065 157)) (m := t) ⟨⟨emp, rk, hA⟩, hSFz4070.2.2.1, h4, hL.1⟩ hA.1 gE_0 (fun p hp => ⟨(hz4071 p (by omega)).1.symm, (hz4071 p (by omega)).2.symm⟩) (hz4071 t (by omega)).2 (fun w => by rw [show (gE al_ it tg pt bd (fz4065 156) (fz4065 157)) 5 t = sg t from (hz4071 t (by omega)).1]; have := hsg t (by omega); omega)).symm)
            refine zw_ne0N (a := bz4082) rfl rfl (by omega) (fun c31 => ?_) (fun c31 => ?_)
            · -- 31 to 38
              refine zw_inc rfl (x' := (nI (t + 1 + 1))) (ls' := [some (.ref 139), some (.int (nI (t + 1 + 1)))]) rfl (na (a := (t + 1)) (b := 1) rfl rfl) rfl ?_
              refine zw_n 1 rfl ?_
              exact ih18 (t + 1) Az4083 Bz4084 OPz4085 Mz4095 (Sm.tw s_18 hSz4088 (by decide)) (hMMz4087.2 159 (by decide) (by decide)) (hMMz4087.2 160 (by decide) (by decide)) (hMMz4087.2 161 (by decide) (by decide)) (Sm.at hSz4088 (by decide) f18_3) (Sm.at hSz4088 (by decide) f18_4) (Sm.at hSz4088 (by decide) f18_5) (⟨by omega, ⟨sAz4089, sBz4090, sOz4091⟩, fun t9 h9 => if e9 : t9 = t then e9 ▸ hfn.mp (by omega) else hi18.2.2 t9 (by omega)⟩) (by omega)
            · -- 31 to 34
              refine zw_n 3 rfl ?_
              refine zw_top (ns (a := t + 1) (b := 1) rfl rfl (by omega)) ?_
              exact zw_iret rfl rfl (⟨t, fset (fset (fset (fset (fset (fset f 161 OPz4085) 160 Bz4084) 159 Az4083) 158 (fz4065 158)) 157 (fz4065 157)) 156 (fz4065 156), rfl, (MM.of (o' := o) (f' := fset (fset (fset (fset (fset (fset f 161 OPz4085) 160 Bz4084) 159 Az4083) 158 (fz4065 158)) 157 (fz4065 157)) 156 (fz4065 156)) hM (Sm.tw s_18 hSz4088 (by decide)) (Sm.at hSz4088 (by decide) (Sm.at s_18 (by decide) hM.1)) (c1_cons (Sm.at hSz4088 (by decide) f18_3) (c1_cons (Sm.at hSz4088 (by decide) f18_4) (c1_cons (Sm.at hSz4088 (by decide) f18_5) (c1_cons (hMMz4087.2 159 (by decide) (by decide)) (c1_cons (hMMz4087.2 160 (by decide) (by decide)) (c1_cons (hMMz4087.2 161 (by decide) (by decide)) c1_nil)))))) (fs_c (fs_c (fs_c (fs_c (fs_c (fs_c fs_n))))))), Sm.tw s_18 hSz4088 (by decide), fs_c (fs_c (fs_c (fs_c (fs_c (fs_c fs_n))))), ⟨hF.1, hSFz4070.2.1, hSFz4070.2.2.1, hSFz4070.2.2.2.1, sAz4089, sBz4090⟩, sOz4091, ⟨fun q => by rcases q with q | q; omega; exact absurd q (ite_eq0 c11), fun _ _ => ⟨by omega, hi18.2.2, fun _ q9 => by have := hfn.mpr q9; omega⟩⟩⟩)
      exact lp18 _ 0 (fz4065 159) (fz4065 160) (f 161) Mz4074 (Sm.tw Sm.rf hSz4068 (by decide)) (hMMz4067.2 159 (by decide) (by decide)) (hMMz4067.2 160 (by decide) (by decide)) (Sm.at hSz4068 (by decide) (hM.2 161 (by decide) (by decide))) (hMMz4067.2 156 (by decide) (by decide)) (hMMz4067.2 157 (by decide) (by decide)) (hMMz4067.2 158 (by decide) (by decide)) (⟨Nat.zero_le _, ⟨hSFz4070.2.2.2.2.1, hSFz4070.2.2.2.2.2, hSO⟩, fun t9 h9 => absurd h9 (Nat.not_lt_zero _)⟩) (Nat.lt_succ_self _)
    · -- 11 to 14
      refine zw_n 1 rfl ?_
      exact zw_iret rfl rfl (⟨NO, fset (fset (fset (fset (fset f 160 (fz4065 160)) 159 (fz4065 159)) 158 (fz4065 158)) 157 (fz4065 157)) 156 (fz4065 156), by decide, (MM.of (o' := o) (f' := fset (fset (fset (fset (fset f 160 (fz4065 160)) 159 (fz4065 159)) 158 (fz4065 158)) 157 (fz4065 157)) 156 (fz4065 156)) hM (Sm.tw Sm.rf hSz4068 (by decide)) (Sm.at hSz4068 (by decide) hM.1) (c1_cons (hMMz4067.2 156 (by decide) (by decide)) (c1_cons (hMMz4067.2 157 (by decide) (by decide)) (c1_cons (hMMz4067.2 158 (by decide) (by decide)) (c1_cons (hMMz4067.2 159 (by decide) (by decide)) (c1_cons (hMMz4067.2 160 (by decide) (by decide)) (c1_cons (Sm.at hSz4068 (by decide) (hM.2 161 (by decide) (by decide))) c1_nil)))))) (fs_c (fs_c (fs_c (fs_c (fs_c (fs_k fs_n))))))), Sm.tw Sm.rf hSz4068 (by decide), fs_c (fs_c (fs_c (fs_c (fs_c (fs_k fs_n))))), ⟨hF.1, hSFz4070.2.1, hSFz4070.2.2.1, hSFz4070.2.2.2.1, hSFz4070.2.2.2.2.1, hSFz4070.2.2.2.2.2⟩, hSO, ⟨fun _ => rfl, fun q1 q2 => by first | exact absurd q1 (ite_eq0 c4) | exact absurd q2 (ite_ne c11)⟩⟩)

set_option maxHeartbeats 4000000 in
set_option maxRecDepth 100000 in
theorem m_blame (Mq : zM) (o : Nat → Nat) (f : Nat → Nat → Nat) (hM : MM Mq o f)(n : Nat) (gn al_ it pt tg bd : Nat → Nat) (hg : RelG f n gn al_ it pt tg bd) (hG : SafeG n gn al_ it pt tg bd) (hF : SafeF f) (c : Nat) (sg li co : Nat → Nat) (ht : RelT f c sg li co) (hS : SafeT c sg li co) (emp : Nat → Prop) (rk : Nat → Nat) (hA : Acyc (gE al_ it tg pt bd sg co) n emp rk) (h4 : SafeM (f 154)) (h5 : SafeM (f 155)) (hSO : SafeM (f 161)) (hL : IsLfp n (frR al_ it tg bd) (f 154)) (hsg : ∀ q, q < c → 33 ≤ sg q) (w : Int32) : Zm 9 zm_MO_blame [.ref 139, .int w] Mq (fun r9 M1 => ∃ k f9, r9 = some (.int (blV w k c li)) ∧ MM M1 (up o 0 0) f9 ∧ Sm Mq M1 [139, 156, 157, 158, 159, 160, 161] ∧ Fsame f f9 [139, 156, 157, 158, 159, 160, 161] ∧ SafeF f9 ∧ SafeM (f9 161) ∧ (w = nI 0 ∨ w = nI 1 → BlK (gE al_ it tg pt bd sg co) n (f 154) c k)) := by
  show Zw 9 zm_MO_blame 0 [some (.ref 139), some (.int w), none] [] Mq _
  have hc20 := hS.1
  refine zw_n 2 rfl ?_
  refine zw_put rfl hM.1 (rfl) (Nat.le_of_ble_eq_true rfl) ?_
  generalize ez4098 : List.set Mq 139 _ = Mz4097
  refine zw_n 4 rfl ?_
  refine zw_callS (as := [.long (Int32.toInt64 w), .long 0, .long 1]) (rest := []) rfl rfl rfl rfl rfl rfl (by decide) (m_in Mz4097 (Int32.toInt64 w) 0 1 w.toInt 0 1 (Int32.toInt_toInt64 _) (by decide) (by decide)) (fun rz4099 Mz4100 hz4101 => ?_)
  rw [hz4101.1, hz4101.2]
  show Zw 9 zm_MO_blame 12 [some (.ref 139), some (.int w), none] [.int (nI (if 0 ≤ w.toInt ∧ w.toInt ≤ 1 then 1 else 0))] Mz4097 _
  refine zw_eq0N (a := if 0 ≤ w.toInt ∧ w.toInt ≤ 1 then 1 else 0) rfl rfl (ite_b) (fun c12 => ?_) (fun c12 => ?_)
  · -- 12 to 22
    have hw9 : ¬ (0 ≤ w.toInt ∧ w.toInt ≤ 1) := ite_eq0 c12
    refine zw_n 4 (ls' := [some (.ref 139), some (.int w), some (.int (-1))]) rfl ?_
    refine zw_ic rfl ?_
    show Zw 9 zm_MO_blame 33 [some (.ref 139), some (.int w), some (.int (-1))] [] Mz4097 _
    refine zw_n 1 rfl ?_
    exact zw_iret rfl rfl (⟨0, f, by unfold blV; rw [if_neg (fun q9 => hw9 (by rw [q9]; decide)), if_neg (fun q9 => hw9 (by rw [q9]; decide))], (MM.of (o' := up o 0 0) (f' := f) hM (Sm.tset Sm.rf ez4098 (by decide)) (zat_self ez4098 hM.1) (c1_skip (c1_cons (zat_set ez4098 (by decide) (hM.2 156 (by decide) (by decide))) (c1_cons (zat_set ez4098 (by decide) (hM.2 157 (by decide) (by decide))) (c1_cons (zat_set ez4098 (by decide) (hM.2 158 (by decide) (by decide))) (c1_cons (zat_set ez4098 (by decide) (hM.2 159 (by decide) (by decide))) (c1_cons (zat_set ez4098 (by decide) (hM.2 160 (by decide) (by decide))) (c1_cons (zat_set ez4098 (by decide) (hM.2 161 (by decide) (by decide))) c1_nil))))))) (fs_k (fs_k (fs_k (fs_k (fs_k (fs_k (fs_k fs_n)))))))), Sm.tset Sm.rf ez4098 (by decide), fs_k (fs_k (fs_k (fs_k (fs_k (fs_k (fs_k fs_n)))))), hF, hSO, fun q9 => absurd (by rcases q9 with q9 | q9 <;> (rw [q9]; decide)) hw9⟩)
  · -- 12 to 15
    refine zw_n 1 rfl ?_
    refine zw_callV (as := []) (rest := []) rfl rfl rfl (zat_self ez4098 hM.1) rfl rfl rfl (by decide) (m_blamed Mz4097 (up o 0 0) f (MM.of (o' := up o 0 0) (f' := f) hM (Sm.tset Sm.rf ez4098 (by decide)) (zat_self ez4098 hM.1) (c1_skip (c1_cons (zat_set ez4098 (by decide) (hM.2 156 (by decide) (by decide))) (c1_cons (zat_set ez4098 (by decide) (hM.2 157 (by decide) (by decide))) (c1_cons (zat_set ez4098 (by decide) (hM.2 158 (by decide) (by decide))) (c1_cons (zat_set ez4098 (by decide) (hM.2 159 (by decide) (by decide))) (c1_cons (zat_set ez4098 (by decide) (hM.2 160 (by decide) (by decide))) (c1_cons (zat_set ez4098 (by decide) (hM.2 161 (by decide) (by decide))) c1_nil))))))) (fs_k (fs_k (fs_k (fs_k (fs_k (fs_k (fs_k fs_n)))))))) n gn al_ it pt tg bd hg hG hF c sg li co ht hS emp rk hA h4 h5 hSO hL hsg) (fun rz4111 Mz4112 hz4113 => ?_)
    obtain ⟨kz4102, fz4103, hAz4104, hMMz4105, hSz4106, hFsz4107, hSFz4108, hSOz4109, hBz4110⟩ := hz4113
    rw [hAz4104]
    have hk9 := BlK.lt hBz4110
    show Zw 9 zm_MO_blame 19 [some (.ref 139), some (.int w), none] [.int (nI kz4102)] Mz4112 _
    refine zw_n 4 (ls' := [some (.ref 139), some (.int w), some (.int (nI kz4102))]) rfl ?_
    refine zw_ieqM (a := kz4102) rfl rfl (by rcases hk9 with q9 | q9; (rw [q9]; decide); omega) (fun c26 => ?_) (fun c26 => ?_)
    · -- 26 to 33
      refine zw_n 1 rfl ?_
      exact zw_iret rfl rfl (⟨kz4102, fset (fset (fset (fset (fset (fset f 161 (fz4103 161)) 160 (fz4103 160)) 159 (fz4103 159)) 158 (fz4103 158)) 157 (fz4103 157)) 156 (fz4103 156), by unfold blV; first | rw [if_pos (show w = nI 0 from wz_eq c30)] | (by_cases q9 : w = nI 0; rw [if_pos q9]; rw [if_neg q9]; by_cases q8 : w = nI 1; (rw [if_pos q8, if_pos c26, c26]; rfl); exact absurd (w01 (ite_ne c12)) (fun q7 => q7.elim q9 q8)), (MM.of (o' := up o 0 0) (f' := fset (fset (fset (fset (fset (fset f 161 (fz4103 161)) 160 (fz4103 160)) 159 (fz4103 159)) 158 (fz4103 158)) 157 (fz4103 157)) 156 (fz4103 156)) hM (Sm.tw (Sm.tset Sm.rf ez4098 (by decide)) hSz4106 (by decide)) (Sm.at hSz4106 (by decide) (zat_self ez4098 hM.1)) (c1_skip (c1_cons (hMMz4105.2 156 (by decide) (by decide)) (c1_cons (hMMz4105.2 157 (by decide) (by decide)) (c1_cons (hMMz4105.2 158 (by decide) (by decide)) (c1_cons (hMMz4105.2 159 (by decide) (by decide)) (c1_cons (hMMz4105.2 160 (by decide) (by decide)) (c1_cons (hMMz4105.2 161 (by decide) (by decide)) c1_nil))))))) (fs_k (fs_c (fs_c (fs_c (fs_c (fs_c (fs_c fs_n)))))))), Sm.tw (Sm.tset Sm.rf ez4098 (by decide)) hSz4106 (by decide), fs_k (fs_c (fs_c (fs_c (fs_c (fs_c (fs_c fs_n)))))), ⟨hF.1, hSFz4108.2.1, hSFz4108.2.2.1, hSFz4108.2.2.2.1, hSFz4108.2.2.2.2.1, hSFz4108.2.2.2.2.2⟩, hSOz4109, fun _ => hBz4110⟩)
    · -- 26 to 29
      refine zw_n 1 rfl ?_
      refine zw_ne0Z (a := w.toInt) rfl (rfl) (fun c30 => ?_) (fun c30 => ?_)
      · -- 30 to 35
        refine zw_n 2 rfl ?_
        refine zw_callV (as := []) (rest := [.int (nI kz4102)]) rfl rfl rfl (Sm.at hSz4106 (by decide) (zat_self ez4098 hM.1)) rfl rfl rfl (by decide) (m_tok1 Mz4112 (up o 0 0) (fset (fset (fset (fset (fset (fset f 161 (fz4103 161)) 160 (fz4103 160)) 159 (fz4103 159)) 158 (fz4103 158)) 157 (fz4103 157)) 156 (fz4103 156)) (MM.of (o' := up o 0 0) (f' := fset (fset (fset (fset (fset (fset f 161 (fz4103 161)) 160 (fz4103 160)) 159 (fz4103 159)) 158 (fz4103 158)) 157 (fz4103 157)) 156 (fz4103 156)) hM (Sm.tw (Sm.tset Sm.rf ez4098 (by decide)) hSz4106 (by decide)) (Sm.at hSz4106 (by decide) (zat_self ez4098 hM.1)) (c1_skip (c1_cons (hMMz4105.2 156 (by decide) (by decide)) (c1_cons (hMMz4105.2 157 (by decide) (by decide)) (c1_cons (hMMz4105.2 158 (by decide) (by decide)) (c1_cons (hMMz4105.2 159 (by decide) (by decide)) (c1_cons (hMMz4105.2 160 (by decide) (by decide)) (c1_cons (hMMz4105.2 161 (by decide) (by decide)) c1_nil))))))) (fs_k (fs_c (fs_c (fs_c (fs_c (fs_c (fs_c fs_n)))))))) c ht.1) (fun rz4114 Mz4115 hz4116 => ?_)
        rw [hz4116.1, hz4116.2]
        show Zw 9 zm_MO_blame 40 [some (.ref 139), some (.int w), some (.int (nI kz4102))] [.int (nI c), .int (nI kz4102)] Mz4112 _
        refine zw_igeN (a := kz4102) (b := c) rfl rfl rfl (by first | omega | (rcases hk9 with q9 | q9; exact absurd q9 c26; omega)) (by first | omega | (rcases hk9 with q9 | q9; exact absurd q9 c26; omega)) (fun c40 => ?_) (fun c40 => ?_)
        · -- 40 to 56
          refine zw_n 1 rfl ?_
          refine zw_callV (as := []) (rest := []) rfl rfl rfl (Sm.at hSz4106 (by decide) (zat_self ez4098 hM.1)) rfl rfl rfl (by decide) (m_tok1 Mz4112 (up o 0 0) (fset (fset (fset (fset (fset (fset f 161 (fz4103 161)) 160 (fz4103 160)) 159 (fz4103 159)) 158 (fz4103 158)) 157 (fz4103 157)) 156 (fz4103 156)) (MM.of (o' := up o 0 0) (f' := fset (fset (fset (fset (fset (fset f 161 (fz4103 161)) 160 (fz4103 160)) 159 (fz4103 159)) 158 (fz4103 158)) 157 (fz4103 157)) 156 (fz4103 156)) hM (Sm.tw (Sm.tset Sm.rf ez4098 (by decide)) hSz4106 (by decide)) (Sm.at hSz4106 (by decide) (zat_self ez4098 hM.1)) (c1_skip (c1_cons (hMMz4105.2 156 (by decide) (by decide)) (c1_cons (hMMz4105.2 157 (by decide) (by decide)) (c1_cons (hMMz4105.2 158 (by decide) (by decide)) (c1_cons (hMMz4105.2 159 (by decide) (by decide)) (c1_cons (hMMz4105.2 160 (by decide) (by decide)) (c1_cons (hMMz4105.2 161 (by decide) (by decide)) c1_nil))))))) (fs_k (fs_c (fs_c (fs_c (fs_c (fs_c (fs_c fs_n)))))))) c ht.1) (fun rz4117 Mz4118 hz4119 => ?_)
          rw [hz4119.1, hz4119.2]
          show Zw 9 zm_MO_blame 60 [some (.ref 139), some (.int w), some (.int (nI kz4102))] [.int (nI c)] Mz4112 _
          refine zw_ne0N (a := c) rfl rfl (by omega) (fun c60 => ?_) (fun c60 => ?_)
          · -- 60 to 67
            refine zw_n 1 rfl ?_
            refine zw_get (v := .ref 140) rfl (Sm.at hSz4106 (by decide) (zat_self ez4098 hM.1)) rfl ?_
            refine zw_n 2 rfl ?_
            refine zw_callV (as := []) (rest := [.int 550, .ref 140]) rfl rfl rfl (Sm.at hSz4106 (by decide) (zat_self ez4098 hM.1)) rfl rfl rfl (by decide) (m_tok1 Mz4112 (up o 0 0) (fset (fset (fset (fset (fset (fset f 161 (fz4103 161)) 160 (fz4103 160)) 159 (fz4103 159)) 158 (fz4103 158)) 157 (fz4103 157)) 156 (fz4103 156)) (MM.of (o' := up o 0 0) (f' := fset (fset (fset (fset (fset (fset f 161 (fz4103 161)) 160 (fz4103 160)) 159 (fz4103 159)) 158 (fz4103 158)) 157 (fz4103 157)) 156 (fz4103 156)) hM (Sm.tw (Sm.tset Sm.rf ez4098 (by decide)) hSz4106 (by decide)) (Sm.at hSz4106 (by decide) (zat_self ez4098 hM.1)) (c1_skip (c1_cons (hMMz4105.2 156 (by decide) (by decide)) (c1_cons (hMMz4105.2 157 (by decide) (by decide)) (c1_cons (hMMz4105.2 158 (by decide) (by decide)) (c1_cons (hMMz4105.2 159 (by decide) (by decide)) (c1_cons (hMMz4105.2 160 (by decide) (by decide)) (c1_cons (hMMz4105.2 161 (by decide) (by decide)) c1_nil))))))) (fs_k (fs_c (fs_c (fs_c (fs_c (fs_c (fs_c fs_n)))))))) c ht.1) (fun rz4120 Mz4121 hz4122 => ?_)
            rw [hz4122.1, hz4122.2]
            show Zw 9 zm_MO_blame 78 [some (.ref 139), some (.int w), some (.int (nI kz4102))] [.int (nI c), .int 550, .ref 140] Mz4112 _
            refine zw_n 1 rfl ?_
            refine zw_top (na (a := 550) (b := c) rfl rfl) ?_
            refine zw_n 2 rfl ?_
            refine zw_top (ns (a := 550 + c) (b := 1) rfl rfl (by omega)) ?_
            refine zw_iald (f := ai (f 140)) (j := ((550 + c) - 1)) rfl (Sm.at hSz4106 (by decide) (zat_set ez4098 (by decide) (hM.2 140 (by decide) (by decide)))) rfl (by decide) (by omega) ?_
            refine zw_top (x' := (nI (li (c - 1)))) (congrArg nI (by rw [show 550 + c - 1 = 550 + (c - 1) by omega]; exact (ht.2 (c - 1) (by omega)).2.1)) ?_
            exact zw_iret rfl rfl (⟨kz4102, fset (fset (fset (fset (fset (fset f 161 (fz4103 161)) 160 (fz4103 160)) 159 (fz4103 159)) 158 (fz4103 158)) 157 (fz4103 157)) 156 (fz4103 156), by unfold blV; rw [if_neg (show ¬ w = nI 0 from fun q9 => c30 (by rw [q9]; decide)), if_pos ((w01 (ite_ne c12)).resolve_left (fun q9 => c30 (by rw [q9]; decide))), if_neg c26]; first | rw [if_pos (show kz4102 < c from c40)] | (rw [if_neg (show ¬ kz4102 < c by omega)]; first | rw [if_pos c60] | rw [if_neg c60]), (MM.of (o' := up o 0 0) (f' := fset (fset (fset (fset (fset (fset f 161 (fz4103 161)) 160 (fz4103 160)) 159 (fz4103 159)) 158 (fz4103 158)) 157 (fz4103 157)) 156 (fz4103 156)) hM (Sm.tw (Sm.tset Sm.rf ez4098 (by decide)) hSz4106 (by decide)) (Sm.at hSz4106 (by decide) (zat_self ez4098 hM.1)) (c1_skip (c1_cons (hMMz4105.2 156 (by decide) (by decide)) (c1_cons (hMMz4105.2 157 (by decide) (by decide)) (c1_cons (hMMz4105.2 158 (by decide) (by decide)) (c1_cons (hMMz4105.2 159 (by decide) (by decide)) (c1_cons (hMMz4105.2 160 (by decide) (by decide)) (c1_cons (hMMz4105.2 161 (by decide) (by decide)) c1_nil))))))) (fs_k (fs_c (fs_c (fs_c (fs_c (fs_c (fs_c fs_n)))))))), Sm.tw (Sm.tset Sm.rf ez4098 (by decide)) hSz4106 (by decide), fs_k (fs_c (fs_c (fs_c (fs_c (fs_c (fs_c fs_n)))))), ⟨hF.1, hSFz4108.2.1, hSFz4108.2.2.1, hSFz4108.2.2.2.1, hSFz4108.2.2.2.2.1, hSFz4108.2.2.2.2.2⟩, hSOz4109, fun _ => hBz4110⟩)
          · -- 60 to 63
            refine zw_n 2 rfl ?_
            refine zw_top (x' := nI 0) (by decide) ?_
            exact zw_iret rfl rfl (⟨kz4102, fset (fset (fset (fset (fset (fset f 161 (fz4103 161)) 160 (fz4103 160)) 159 (fz4103 159)) 158 (fz4103 158)) 157 (fz4103 157)) 156 (fz4103 156), by unfold blV; rw [if_neg (show ¬ w = nI 0 from fun q9 => c30 (by rw [q9]; decide)), if_pos ((w01 (ite_ne c12)).resolve_left (fun q9 => c30 (by rw [q9]; decide))), if_neg c26]; first | rw [if_pos (show kz4102 < c from c40)] | (rw [if_neg (show ¬ kz4102 < c by omega)]; first | rw [if_pos c60] | rw [if_neg c60]), (MM.of (o' := up o 0 0) (f' := fset (fset (fset (fset (fset (fset f 161 (fz4103 161)) 160 (fz4103 160)) 159 (fz4103 159)) 158 (fz4103 158)) 157 (fz4103 157)) 156 (fz4103 156)) hM (Sm.tw (Sm.tset Sm.rf ez4098 (by decide)) hSz4106 (by decide)) (Sm.at hSz4106 (by decide) (zat_self ez4098 hM.1)) (c1_skip (c1_cons (hMMz4105.2 156 (by decide) (by decide)) (c1_cons (hMMz4105.2 157 (by decide) (by decide)) (c1_cons (hMMz4105.2 158 (by decide) (by decide)) (c1_cons (hMMz4105.2 159 (by decide) (by decide)) (c1_cons (hMMz4105.2 160 (by decide) (by decide)) (c1_cons (hMMz4105.2 161 (by decide) (by decide)) c1_nil))))))) (fs_k (fs_c (fs_c (fs_c (fs_c (fs_c (fs_c fs_n)))))))), Sm.tw (Sm.tset Sm.rf ez4098 (by decide)) hSz4106 (by decide), fs_k (fs_c (fs_c (fs_c (fs_c (fs_c (fs_c fs_n)))))), ⟨hF.1, hSFz4108.2.1, hSFz4108.2.2.1, hSFz4108.2.2.2.1, hSFz4108.2.2.2.2.1, hSFz4108.2.2.2.2.2⟩, hSOz4109, fun _ => hBz4110⟩)
        · -- 40 to 43
          refine zw_n 1 rfl ?_
          refine zw_get (v := .ref 140) rfl (Sm.at hSz4106 (by decide) (zat_self ez4098 hM.1)) rfl ?_
          refine zw_n 3 rfl ?_
          refine zw_top (na (a := 550) (b := kz4102) rfl rfl) ?_
          refine zw_iald (f := ai (f 140)) (j := (550 + kz4102)) rfl (Sm.at hSz4106 (by decide) (zat_set ez4098 (by decide) (hM.2 140 (by decide) (by decide)))) rfl (by decide) (by omega) ?_
          refine zw_top (x' := (nI (li kz4102))) (congrArg nI (ht.2 kz4102 (by omega)).2.1) ?_
          refine zw_n 1 rfl ?_
          exact zw_iret rfl rfl (⟨kz4102, fset (fset (fset (fset (fset (fset f 161 (fz4103 161)) 160 (fz4103 160)) 159 (fz4103 159)) 158 (fz4103 158)) 157 (fz4103 157)) 156 (fz4103 156), by unfold blV; rw [if_neg (show ¬ w = nI 0 from fun q9 => c30 (by rw [q9]; decide)), if_pos ((w01 (ite_ne c12)).resolve_left (fun q9 => c30 (by rw [q9]; decide))), if_neg c26]; first | rw [if_pos (show kz4102 < c from c40)] | (rw [if_neg (show ¬ kz4102 < c by omega)]; first | rw [if_pos c60] | rw [if_neg c60]), (MM.of (o' := up o 0 0) (f' := fset (fset (fset (fset (fset (fset f 161 (fz4103 161)) 160 (fz4103 160)) 159 (fz4103 159)) 158 (fz4103 158)) 157 (fz4103 157)) 156 (fz4103 156)) hM (Sm.tw (Sm.tset Sm.rf ez4098 (by decide)) hSz4106 (by decide)) (Sm.at hSz4106 (by decide) (zat_self ez4098 hM.1)) (c1_skip (c1_cons (hMMz4105.2 156 (by decide) (by decide)) (c1_cons (hMMz4105.2 157 (by decide) (by decide)) (c1_cons (hMMz4105.2 158 (by decide) (by decide)) (c1_cons (hMMz4105.2 159 (by decide) (by decide)) (c1_cons (hMMz4105.2 160 (by decide) (by decide)) (c1_cons (hMMz4105.2 161 (by decide) (by decide)) c1_nil))))))) (fs_k (fs_c (fs_c (fs_c (fs_c (fs_c (fs_c fs_n)))))))), Sm.tw (Sm.tset Sm.rf ez4098 (by decide)) hSz4106 (by decide), fs_k (fs_c (fs_c (fs_c (fs_c (fs_c (fs_c fs_n)))))), ⟨hF.1, hSFz4108.2.1, hSFz4108.2.2.1, hSFz4108.2.2.2.1, hSFz4108.2.2.2.2.1, hSFz4108.2.2.2.2.2⟩, hSOz4109, fun _ => hBz4110⟩)
      · -- 30 to 33
        refine zw_n 1 rfl ?_
        exact zw_iret rfl rfl (⟨kz4102, fset (fset (fset (fset (fset (fset f 161 (fz4103 161)) 160 (fz4103 160)) 159 (fz4103 159)) 158 (fz4103 158)) 157 (fz4103 157)) 156 (fz4103 156), by unfold blV; first | rw [if_pos (show w = nI 0 from wz_eq c30)] | (by_cases q9 : w = nI 0; rw [if_pos q9]; rw [if_neg q9]; by_cases q8 : w = nI 1; (rw [if_pos q8, if_pos c26, c26]; rfl); exact absurd (w01 (ite_ne c12)) (fun q7 => q7.elim q9 q8)), (MM.of (o' := up o 0 0) (f' := fset (fset (fset (fset (fset (fset f 161 (fz4103 161)) 160 (fz4103 160)) 159 (fz4103 159)) 158 (fz4103 158)) 157 (fz4103 157)) 156 (fz4103 156)) hM (Sm.tw (Sm.tset Sm.rf ez4098 (by decide)) hSz4106 (by decide)) (Sm.at hSz4106 (by decide) (zat_self ez4098 hM.1)) (c1_skip (c1_cons (hMMz4105.2 156 (by decide) (by decide)) (c1_cons (hMMz4105.2 157 (by decide) (by decide)) (c1_cons (hMMz4105.2 158 (by decide) (by decide)) (c1_cons (hMMz4105.2 159 (by decide) (by decide)) (c1_cons (hMMz4105.2 160 (by decide) (by decide)) (c1_cons (hMMz4105.2 161 (by decide) (by decide)) c1_nil))))))) (fs_k (fs_c (fs_c (fs_c (fs_c (fs_c (fs_c fs_n)))))))), Sm.tw (Sm.tset Sm.rf ez4098 (by decide)) hSz4106 (by decide), fs_k (fs_c (fs_c (fs_c (fs_c (fs_c (fs_c fs_n)))))), ⟨hF.1, hSFz4108.2.1, hSFz4108.2.2.1, hSFz4108.2.2.2.1, hSFz4108.2.2.2.2.1, hSFz4108.2.2.2.2.2⟩, hSOz4109, fun _ => hBz4110⟩)

set_option maxHeartbeats 4000000 in
set_option maxRecDepth 100000 in
theorem m_goesOnNo (Mq : zM) (o : Nat → Nat) (f : Nat → Nat → Nat) (hM : MM Mq o f)(n : Nat) (gn al_ it pt tg bd : Nat → Nat) (hg : RelG f n gn al_ it pt tg bd) (hG : SafeG n gn al_ it pt tg bd) (hF : SafeF f) (c : Nat) (sg li co : Nat → Nat) (ht : RelT f c sg li co) (hS : SafeT c sg li co) (emp : Nat → Prop) (rk : Nat → Nat) (hA : Acyc (gE al_ it tg pt bd sg co) n emp rk) (x : Int32) (hx : ¬ (0 < n ∧ 0 ≤ x.toInt ∧ x.toInt ≤ c)) : Zm 8 zm_MO_goesOn [.ref 139, .int x] Mq (fun r9 M1 => r9 = some (.int (-1)) ∧ MM M1 (up o 0 0) f ∧ Sm Mq M1 [139]) := by
  show Zw 8 zm_MO_goesOn 0 [some (.ref 139), some (.int x)] [] Mq _
  have hc20 := hS.1
  refine zw_n 2 rfl ?_
  refine zw_put rfl hM.1 (rfl) (Nat.le_of_ble_eq_true rfl) ?_
  generalize ez4124 : List.set Mq 139 _ = Mz4123
  refine zw_n 1 rfl ?_
  refine zw_callV (as := []) (rest := []) rfl rfl rfl (zat_self ez4124 hM.1) rfl rfl rfl (by decide) (m_isGrammar Mz4123 (up o 0 0) f (MM.of (o' := up o 0 0) (f' := f) hM (Sm.tset Sm.rf ez4124 (by decide)) (zat_self ez4124 hM.1) (c1_skip c1_nil) (fs_k fs_n)) n gn al_ it pt tg bd hg hG hF) (fun rz4125 Mz4126 hz4127 => ?_)
  rw [hz4127.1, hz4127.2]
  show Zw 8 zm_MO_goesOn 9 [some (.ref 139), some (.int x)] [.int (nI (if 0 < n then 1 else 0))] Mz4123 _
  refine zw_eq0N (a := if 0 < n then 1 else 0) rfl rfl (ite_b) (fun c9 => ?_) (fun c9 => ?_)
  · -- 9 to 26
    refine zw_n 1 rfl ?_
    exact zw_iret rfl rfl (⟨rfl, (MM.of (o' := up o 0 0) (f' := f) hM (Sm.tset Sm.rf ez4124 (by decide)) (zat_self ez4124 hM.1) (c1_skip c1_nil) (fs_k fs_n)), Sm.tset Sm.rf ez4124 (by decide)⟩)
  · -- 9 to 12
    refine zw_n 4 rfl ?_
    refine zw_callV (as := []) (rest := [.long 0, .long (Int32.toInt64 x)]) rfl rfl rfl (zat_self ez4124 hM.1) rfl rfl rfl (by decide) (m_tok1 Mz4123 (up o 0 0) f (MM.of (o' := up o 0 0) (f' := f) hM (Sm.tset Sm.rf ez4124 (by decide)) (zat_self ez4124 hM.1) (c1_skip c1_nil) (fs_k fs_n)) c ht.1) (fun rz4128 Mz4129 hz4130 => ?_)
    rw [hz4130.1, hz4130.2]
    show Zw 8 zm_MO_goesOn 19 [some (.ref 139), some (.int x)] [.int (nI c), .long 0, .long (Int32.toInt64 x)] Mz4123 _
    refine zw_n 1 rfl ?_
    refine zw_callS (as := [.long (Int32.toInt64 x), .long 0, .long (Int32.toInt64 (nI c))]) (rest := []) rfl rfl rfl rfl rfl rfl (by decide) (m_in Mz4123 (Int32.toInt64 x) 0 (Int32.toInt64 (nI c)) x.toInt 0 ((c : Nat) : Int) (Int32.toInt_toInt64 _) (by decide) (l_nI (by omega))) (fun rz4131 Mz4132 hz4133 => ?_)
    rw [hz4133.1, hz4133.2]
    show Zw 8 zm_MO_goesOn 23 [some (.ref 139), some (.int x)] [.int (nI (if 0 ≤ x.toInt ∧ x.toInt ≤ ((c : Nat) : Int) then 1 else 0))] Mz4123 _
    refine zw_ne0N (a := if 0 ≤ x.toInt ∧ x.toInt ≤ ((c : Nat) : Int) then 1 else 0) rfl rfl (ite_b) (fun c23 => ?_) (fun c23 => ?_)
    · -- 23 to 28
      exfalso
      exact hx ⟨ite_ne c9, ite_ne c23⟩
    · -- 23 to 26
      refine zw_n 1 rfl ?_
      exact zw_iret rfl rfl (⟨rfl, (MM.of (o' := up o 0 0) (f' := f) hM (Sm.tset Sm.rf ez4124 (by decide)) (zat_self ez4124 hM.1) (c1_skip c1_nil) (fs_k fs_n)), Sm.tset Sm.rf ez4124 (by decide)⟩)

set_option maxHeartbeats 4000000 in
set_option maxRecDepth 100000 in
theorem m_goesOnOk (Mq : zM) (o : Nat → Nat) (f : Nat → Nat → Nat) (hM : MM Mq o f)(n : Nat) (gn al_ it pt tg bd : Nat → Nat) (hg : RelG f n gn al_ it pt tg bd) (hG : SafeG n gn al_ it pt tg bd) (hF : SafeF f) (c : Nat) (sg li co : Nat → Nat) (ht : RelT f c sg li co) (hS : SafeT c sg li co) (emp : Nat → Prop) (rk : Nat → Nat) (hA : Acyc (gE al_ it tg pt bd sg co) n emp rk) (h4 : SafeM (f 154)) (h5 : SafeM (f 155)) (hSO : SafeM (f 161)) (hL : IsLfp n (frR al_ it tg bd) (f 154)) (hsg : ∀ q, q < c → 33 ≤ sg q) (hn : 0 < n) (m : Nat) (hm : m ≤ c) : Zm 8 zm_MO_goesOn [.ref 139, .int (nI m)] Mq (fun r9 M1 => ∃ b f9, r9 = some (.int (nI b)) ∧ MM M1 (up o 0 0) f9 ∧ Sm Mq M1 [139, 156, 157, 158, 159, 160, 161] ∧ Fsame f f9 [139, 156, 157, 158, 159, 160, 161] ∧ SafeF f9 ∧ SafeM (f9 161) ∧ b ≤ 1 ∧ (b = 1 ↔ GoN (gE al_ it tg pt bd sg co) n (f 154) m)) := by
  show Zw 8 zm_MO_goesOn 0 [some (.ref 139), some (.int (nI m))] [] Mq _
  have hc20 := hS.1
  refine zw_n 2 rfl ?_
  refine zw_put rfl hM.1 (rfl) (Nat.le_of_ble_eq_true rfl) ?_
  generalize ez4135 : List.set Mq 139 _ = Mz4134
  refine zw_n 1 rfl ?_
  refine zw_callV (as := []) (rest := []) rfl rfl rfl (zat_self ez4135 hM.1) rfl rfl rfl (by decide) (m_isGrammar Mz4134 (up o 0 0) f (MM.of (o' := up o 0 0) (f' := f) hM (Sm.tset Sm.rf ez4135 (by decide)) (zat_self ez4135 hM.1) (c1_skip (c1_cons (zat_set ez4135 (by decide) (hM.2 156 (by decide) (by decide))) (c1_cons (zat_set ez4135 (by decide) (hM.2 157 (by decide) (by decide))) (c1_cons (zat_set ez4135 (by decide) (hM.2 158 (by decide) (by decide))) (c1_cons (zat_set ez4135 (by decide) (hM.2 159 (by decide) (by decide))) (c1_cons (zat_set ez4135 (by decide) (hM.2 160 (by decide) (by decide))) (c1_cons (zat_set ez4135 (by decide) (hM.2 161 (by decide) (by decide))) c1_nil))))))) (fs_k (fs_k (fs_k (fs_k (fs_k (fs_k (fs_k fs_n)))))))) n gn al_ it pt tg bd hg hG hF) (fun rz4136 Mz4137 hz4138 => ?_)
  rw [hz4138.1, hz4138.2]
  show Zw 8 zm_MO_goesOn 9 [some (.ref 139), some (.int (nI m))] [.int (nI (if 0 < n then 1 else 0))] Mz4134 _
  refine zw_eq0N (a := if 0 < n then 1 else 0) rfl rfl (ite_b) (fun c9 => ?_) (fun c9 => ?_)
  · -- 9 to 26
    exfalso
    first | exact ite_eq0 c9 hn | exact ite_eq0 c23 (by omega)
  · -- 9 to 12
    refine zw_n 4 rfl ?_
    refine zw_callV (as := []) (rest := [.long 0, .long (Int32.toInt64 (nI m))]) rfl rfl rfl (zat_self ez4135 hM.1) rfl rfl rfl (by decide) (m_tok1 Mz4134 (up o 0 0) f (MM.of (o' := up o 0 0) (f' := f) hM (Sm.tset Sm.rf ez4135 (by decide)) (zat_self ez4135 hM.1) (c1_skip (c1_cons (zat_set ez4135 (by decide) (hM.2 156 (by decide) (by decide))) (c1_cons (zat_set ez4135 (by decide) (hM.2 157 (by decide) (by decide))) (c1_cons (zat_set ez4135 (by decide) (hM.2 158 (by decide) (by decide))) (c1_cons (zat_set ez4135 (by decide) (hM.2 159 (by decide) (by decide))) (c1_cons (zat_set ez4135 (by decide) (hM.2 160 (by decide) (by decide))) (c1_cons (zat_set ez4135 (by decide) (hM.2 161 (by decide) (by decide))) c1_nil))))))) (fs_k (fs_k (fs_k (fs_k (fs_k (fs_k (fs_k fs_n)))))))) c ht.1) (fun rz4139 Mz4140 hz4141 => ?_)
    rw [hz4141.1, hz4141.2]
    show Zw 8 zm_MO_goesOn 19 [some (.ref 139), some (.int (nI m))] [.int (nI c), .long 0, .long (Int32.toInt64 (nI m))] Mz4134 _
    refine zw_n 1 rfl ?_
    refine zw_callS (as := [.long (Int32.toInt64 (nI m)), .long 0, .long (Int32.toInt64 (nI c))]) (rest := []) rfl rfl rfl rfl rfl rfl (by decide) (m_in Mz4134 (Int32.toInt64 (nI m)) 0 (Int32.toInt64 (nI c)) ((m : Nat) : Int) 0 ((c : Nat) : Int) (l_nI (by omega)) (by decide) (l_nI (by omega))) (fun rz4142 Mz4143 hz4144 => ?_)
    rw [hz4144.1, hz4144.2]
    show Zw 8 zm_MO_goesOn 23 [some (.ref 139), some (.int (nI m))] [.int (nI (if 0 ≤ ((m : Nat) : Int) ∧ ((m : Nat) : Int) ≤ ((c : Nat) : Int) then 1 else 0))] Mz4134 _
    refine zw_ne0N (a := if 0 ≤ ((m : Nat) : Int) ∧ ((m : Nat) : Int) ≤ ((c : Nat) : Int) then 1 else 0) rfl rfl (ite_b) (fun c23 => ?_) (fun c23 => ?_)
    · -- 23 to 28
      refine zw_n 1 rfl ?_
      refine zw_callV (as := []) (rest := []) rfl rfl rfl (zat_self ez4135 hM.1) rfl rfl rfl (by decide) (m_layAll Mz4134 (up o 0 0) f (MM.of (o' := up o 0 0) (f' := f) hM (Sm.tset Sm.rf ez4135 (by decide)) (zat_self ez4135 hM.1) (c1_skip (c1_cons (zat_set ez4135 (by decide) (hM.2 156 (by decide) (by decide))) (c1_cons (zat_set ez4135 (by decide) (hM.2 157 (by decide) (by decide))) (c1_cons (zat_set ez4135 (by decide) (hM.2 158 (by decide) (by decide))) (c1_cons (zat_set ez4135 (by decide) (hM.2 159 (by decide) (by decide))) (c1_cons (zat_set ez4135 (by decide) (hM.2 160 (by decide) (by decide))) (c1_cons (zat_set ez4135 (by decide) (hM.2 161 (by decide) (by decide))) c1_nil))))))) (fs_k (fs_k (fs_k (fs_k (fs_k (fs_k (fs_k fs_n)))))))) n gn al_ it pt tg bd hg hG hF c sg li co ht hS emp rk hA) (fun rz4153 Mz4154 hz4155 => ?_)
      obtain ⟨hAz4146, fz4145, hMMz4147, hSz4148, hFsz4149, hSFz4150, hz4151, hz4152⟩ := hz4155
      rw [hAz4146]
      show Zw 8 zm_MO_goesOn 32 [some (.ref 139), some (.int (nI m))] [] Mz4154 _
      refine zw_n 2 rfl ?_
      refine zw_callV (as := [.int (nI m)]) (rest := []) rfl rfl rfl (Sm.at hSz4148 (by decide) (zat_self ez4135 hM.1)) rfl rfl rfl (by decide) (m_goes Mz4154 (up o 0 0) (fset (fset (fset (fset (fset f 160 (fz4145 160)) 159 (fz4145 159)) 158 (fz4145 158)) 157 (fz4145 157)) 156 (fz4145 156)) (MM.of (o' := up o 0 0) (f' := fset (fset (fset (fset (fset f 160 (fz4145 160)) 159 (fz4145 159)) 158 (fz4145 158)) 157 (fz4145 157)) 156 (fz4145 156)) hM (Sm.tw (Sm.tset Sm.rf ez4135 (by decide)) hSz4148 (by decide)) (Sm.at hSz4148 (by decide) (zat_self ez4135 hM.1)) (c1_skip (c1_cons (hMMz4147.2 156 (by decide) (by decide)) (c1_cons (hMMz4147.2 157 (by decide) (by decide)) (c1_cons (hMMz4147.2 158 (by decide) (by decide)) (c1_cons (hMMz4147.2 159 (by decide) (by decide)) (c1_cons (hMMz4147.2 160 (by decide) (by decide)) (c1_cons (Sm.at hSz4148 (by decide) (zat_set ez4135 (by decide) (hM.2 161 (by decide) (by decide)))) c1_nil))))))) (fs_k (fs_c (fs_c (fs_c (fs_c (fs_c (fs_k fs_n)))))))) n gn al_ it pt tg bd hg hG (⟨hF.1, hSFz4150.2.1, hSFz4150.2.2.1, hSFz4150.2.2.2.1, hSFz4150.2.2.2.2.1, hSFz4150.2.2.2.2.2⟩) h4 h5 hSO hn hA.1 m (by omega) (VAll.congE (Q := m) (fun t2 p q h1 h2 h3 => hz4152 t2 p q h1 h2 (by omega)) (fun p hp => ⟨(hz4151 p (by omega)).1.symm, (hz4151 p (by omega)).2.symm⟩))) (fun rz4168 Mz4169 hz4170 => ?_)
      obtain ⟨bz4156, Az4157, Bz4158, OPz4159, hAz4160, hMMz4161, hSz4162, sAz4163, sBz4164, sOz4165, hb1z4166, hbz4167⟩ := hz4170
      rw [hAz4160]
      show Zw 8 zm_MO_goesOn 37 [some (.ref 139), some (.int (nI m))] [.int (nI bz4156)] Mz4169 _
      have hfn : bz4156 = 1 ↔ GoN (gE al_ it tg pt bd sg co) n (f 154) m := by
        unfold GoN
        by_cases q9 : m = 0
        · subst q9; rw [if_pos rfl]
          exact hbz4167.trans ⟨fun ⟨c9, _, h9⟩ => bit_ne0 (h9 : (f 154 0).testBit c9 = true), fun h9 => by obtain ⟨c9, h8⟩ := Nat.exists_testBit_of_ne_zero h9; exact ⟨c9, bit_lt40 (h4 0) h8, h8⟩⟩
        · rw [if_neg q9]
          have hm1 : m = (m - 1) + 1 := by omega
          rw [hm1] at hbz4167
          exact hbz4167.trans ((fnd_bk (E := (gE al_ it tg pt bd sg co)) (E' := gE al_ it tg pt bd (fz4145 156) (fz4145 157)) (m := m - 1) ⟨⟨emp, rk, hA⟩, hSFz4150.2.2.1, h4, hL.1⟩ hA.1 gE_0 (fun p hp => ⟨(hz4151 p (by omega)).1.symm, (hz4151 p (by omega)).2.symm⟩) (hz4151 (m - 1) (by omega)).2 (fun w => by rw [show (gE al_ it tg pt bd (fz4145 156) (fz4145 157)) 5 (m - 1) = sg (m - 1) from (hz4151 (m - 1) (by omega)).1]; show (sg (m - 1) = 0 ∨ w = sg (m - 1)) ↔ _; have := hsg (m - 1) (by omega); omega)).symm)
      refine zw_eq0N (a := bz4156) rfl rfl (by omega) (fun c37 => ?_) (fun c37 => ?_)
      · -- 37 to 44
        refine zw_n 1 rfl ?_
        refine zw_top (x' := nI 0) (by decide) ?_
        exact zw_iret rfl rfl (⟨0, fset (fset (fset (fset (fset (fset f 161 OPz4159) 160 Bz4158) 159 Az4157) 158 (fz4145 158)) 157 (fz4145 157)) 156 (fz4145 156), rfl, (MM.of (o' := up o 0 0) (f' := fset (fset (fset (fset (fset (fset f 161 OPz4159) 160 Bz4158) 159 Az4157) 158 (fz4145 158)) 157 (fz4145 157)) 156 (fz4145 156)) hM (Sm.tw (Sm.tw (Sm.tset Sm.rf ez4135 (by decide)) hSz4148 (by decide)) hSz4162 (by decide)) (Sm.at hSz4162 (by decide) (Sm.at hSz4148 (by decide) (zat_self ez4135 hM.1))) (c1_skip (c1_cons (Sm.at hSz4162 (by decide) (hMMz4147.2 156 (by decide) (by decide))) (c1_cons (Sm.at hSz4162 (by decide) (hMMz4147.2 157 (by decide) (by decide))) (c1_cons (Sm.at hSz4162 (by decide) (hMMz4147.2 158 (by decide) (by decide))) (c1_cons (hMMz4161.2 159 (by decide) (by decide)) (c1_cons (hMMz4161.2 160 (by decide) (by decide)) (c1_cons (hMMz4161.2 161 (by decide) (by decide)) c1_nil))))))) (fs_k (fs_c (fs_c (fs_c (fs_c (fs_c (fs_c fs_n)))))))), Sm.tw (Sm.tw (Sm.tset Sm.rf ez4135 (by decide)) hSz4148 (by decide)) hSz4162 (by decide), fs_k (fs_c (fs_c (fs_c (fs_c (fs_c (fs_c fs_n)))))), ⟨hF.1, hSFz4150.2.1, hSFz4150.2.2.1, hSFz4150.2.2.2.1, sAz4163, sBz4164⟩, sOz4165, by decide, iff_of_false (by decide) (fun q9 => by have := hfn.mpr q9; omega)⟩)
      · -- 37 to 40
        refine zw_n 2 rfl ?_
        refine zw_top (x' := nI 1) (by decide) ?_
        exact zw_iret rfl rfl (⟨1, fset (fset (fset (fset (fset (fset f 161 OPz4159) 160 Bz4158) 159 Az4157) 158 (fz4145 158)) 157 (fz4145 157)) 156 (fz4145 156), rfl, (MM.of (o' := up o 0 0) (f' := fset (fset (fset (fset (fset (fset f 161 OPz4159) 160 Bz4158) 159 Az4157) 158 (fz4145 158)) 157 (fz4145 157)) 156 (fz4145 156)) hM (Sm.tw (Sm.tw (Sm.tset Sm.rf ez4135 (by decide)) hSz4148 (by decide)) hSz4162 (by decide)) (Sm.at hSz4162 (by decide) (Sm.at hSz4148 (by decide) (zat_self ez4135 hM.1))) (c1_skip (c1_cons (Sm.at hSz4162 (by decide) (hMMz4147.2 156 (by decide) (by decide))) (c1_cons (Sm.at hSz4162 (by decide) (hMMz4147.2 157 (by decide) (by decide))) (c1_cons (Sm.at hSz4162 (by decide) (hMMz4147.2 158 (by decide) (by decide))) (c1_cons (hMMz4161.2 159 (by decide) (by decide)) (c1_cons (hMMz4161.2 160 (by decide) (by decide)) (c1_cons (hMMz4161.2 161 (by decide) (by decide)) c1_nil))))))) (fs_k (fs_c (fs_c (fs_c (fs_c (fs_c (fs_c fs_n)))))))), Sm.tw (Sm.tw (Sm.tset Sm.rf ez4135 (by decide)) hSz4148 (by decide)) hSz4162 (by decide), fs_k (fs_c (fs_c (fs_c (fs_c (fs_c (fs_c fs_n)))))), ⟨hF.1, hSFz4150.2.1, hSFz4150.2.2.1, hSFz4150.2.2.2.1, sAz4163, sBz4164⟩, sOz4165, by decide, iff_of_true rfl (hfn.mp (by have := hb1z4166; omega))⟩)
    · -- 23 to 26
      exfalso
      first | exact ite_eq0 c9 hn | exact ite_eq0 c23 (by omega)

set_option maxHeartbeats 4000000 in
set_option maxRecDepth 100000 in
theorem m_nextNo (Mq : zM) (o : Nat → Nat) (f : Nat → Nat → Nat) (hM : MM Mq o f)(n : Nat) (gn al_ it pt tg bd : Nat → Nat) (hg : RelG f n gn al_ it pt tg bd) (hG : SafeG n gn al_ it pt tg bd) (hF : SafeF f) (c : Nat) (sg li co : Nat → Nat) (ht : RelT f c sg li co) (hS : SafeT c sg li co) (emp : Nat → Prop) (rk : Nat → Nat) (hA : Acyc (gE al_ it tg pt bd sg co) n emp rk) (x z : Int32) (hx : ¬ (0 < n ∧ (0 ≤ x.toInt ∧ x.toInt ≤ c) ∧ 33 ≤ z.toInt ∧ z.toInt ≤ 126)) : Zm 8 zm_MO_next2 [.ref 139, .int x, .int z] Mq (fun r9 M1 => r9 = some (.long (lN 0)) ∧ MM M1 (up o 0 0) f ∧ Sm Mq M1 [139]) := by
  show Zw 8 zm_MO_next2 0 [some (.ref 139), some (.int x), some (.int z)] [] Mq _
  have hc20 := hS.1
  refine zw_n 2 rfl ?_
  refine zw_put rfl hM.1 (rfl) (Nat.le_of_ble_eq_true rfl) ?_
  generalize ez4172 : List.set Mq 139 _ = Mz4171
  refine zw_n 1 rfl ?_
  refine zw_callV (as := []) (rest := []) rfl rfl rfl (zat_self ez4172 hM.1) rfl rfl rfl (by decide) (m_isGrammar Mz4171 (up o 0 0) f (MM.of (o' := up o 0 0) (f' := f) hM (Sm.tset Sm.rf ez4172 (by decide)) (zat_self ez4172 hM.1) (c1_skip c1_nil) (fs_k fs_n)) n gn al_ it pt tg bd hg hG hF) (fun rz4173 Mz4174 hz4175 => ?_)
  rw [hz4175.1, hz4175.2]
  show Zw 8 zm_MO_next2 9 [some (.ref 139), some (.int x), some (.int z)] [.int (nI (if 0 < n then 1 else 0))] Mz4171 _
  refine zw_eq0N (a := if 0 < n then 1 else 0) rfl rfl (ite_b) (fun c9 => ?_) (fun c9 => ?_)
  · -- 9 to 42
    refine zw_n 1 rfl ?_
    refine zw_topl (x' := lN 0) (by decide) ?_
    exact zw_lret rfl rfl (⟨rfl, (MM.of (o' := up o 0 0) (f' := f) hM (Sm.tset Sm.rf ez4172 (by decide)) (zat_self ez4172 hM.1) (c1_skip c1_nil) (fs_k fs_n)), Sm.tset Sm.rf ez4172 (by decide)⟩)
  · -- 9 to 12
    refine zw_n 4 rfl ?_
    refine zw_callV (as := []) (rest := [.long 0, .long (Int32.toInt64 x)]) rfl rfl rfl (zat_self ez4172 hM.1) rfl rfl rfl (by decide) (m_tok1 Mz4171 (up o 0 0) f (MM.of (o' := up o 0 0) (f' := f) hM (Sm.tset Sm.rf ez4172 (by decide)) (zat_self ez4172 hM.1) (c1_skip c1_nil) (fs_k fs_n)) c ht.1) (fun rz4176 Mz4177 hz4178 => ?_)
    rw [hz4178.1, hz4178.2]
    show Zw 8 zm_MO_next2 19 [some (.ref 139), some (.int x), some (.int z)] [.int (nI c), .long 0, .long (Int32.toInt64 x)] Mz4171 _
    refine zw_n 1 rfl ?_
    refine zw_callS (as := [.long (Int32.toInt64 x), .long 0, .long (Int32.toInt64 (nI c))]) (rest := []) rfl rfl rfl rfl rfl rfl (by decide) (m_in Mz4171 (Int32.toInt64 x) 0 (Int32.toInt64 (nI c)) x.toInt 0 ((c : Nat) : Int) (Int32.toInt_toInt64 _) (by decide) (l_nI (by omega))) (fun rz4179 Mz4180 hz4181 => ?_)
    rw [hz4181.1, hz4181.2]
    show Zw 8 zm_MO_next2 23 [some (.ref 139), some (.int x), some (.int z)] [.int (nI (if 0 ≤ x.toInt ∧ x.toInt ≤ ((c : Nat) : Int) then 1 else 0))] Mz4171 _
    refine zw_eq0N (a := if 0 ≤ x.toInt ∧ x.toInt ≤ ((c : Nat) : Int) then 1 else 0) rfl rfl (ite_b) (fun c23 => ?_) (fun c23 => ?_)
    · -- 23 to 42
      refine zw_n 1 rfl ?_
      refine zw_topl (x' := lN 0) (by decide) ?_
      exact zw_lret rfl rfl (⟨rfl, (MM.of (o' := up o 0 0) (f' := f) hM (Sm.tset Sm.rf ez4172 (by decide)) (zat_self ez4172 hM.1) (c1_skip c1_nil) (fs_k fs_n)), Sm.tset Sm.rf ez4172 (by decide)⟩)
    · -- 23 to 26
      refine zw_n 1 rfl ?_
      refine zw_callS (as := [.int z]) (rest := []) rfl rfl rfl rfl rfl rfl (by decide) (m_isSign _ z) (fun rz4182 Mz4183 hz4184 => ?_)
      rw [hz4184.1, hz4184.2]
      show Zw 8 zm_MO_next2 30 [some (.ref 139), some (.int x), some (.int z)] [.int (nI (if 33 ≤ z.toInt ∧ z.toInt ≤ 126 then 1 else 0))] Mz4171 _
      refine zw_eq0N (a := if 33 ≤ z.toInt ∧ z.toInt ≤ 126 then 1 else 0) rfl rfl (ite_b) (fun c30 => ?_) (fun c30 => ?_)
      · -- 30 to 42
        refine zw_n 1 rfl ?_
        refine zw_topl (x' := lN 0) (by decide) ?_
        exact zw_lret rfl rfl (⟨rfl, (MM.of (o' := up o 0 0) (f' := f) hM (Sm.tset Sm.rf ez4172 (by decide)) (zat_self ez4172 hM.1) (c1_skip c1_nil) (fs_k fs_n)), Sm.tset Sm.rf ez4172 (by decide)⟩)
      · -- 30 to 33
        exfalso
        exact hx ⟨ite_ne c9, ite_ne c23, ite_ne c30⟩

set_option maxHeartbeats 4000000 in
set_option maxRecDepth 100000 in
theorem m_nextOk (Mq : zM) (o : Nat → Nat) (f : Nat → Nat → Nat) (hM : MM Mq o f)(n : Nat) (gn al_ it pt tg bd : Nat → Nat) (hg : RelG f n gn al_ it pt tg bd) (hG : SafeG n gn al_ it pt tg bd) (hF : SafeF f) (c : Nat) (sg li co : Nat → Nat) (ht : RelT f c sg li co) (hS : SafeT c sg li co) (emp : Nat → Prop) (rk : Nat → Nat) (hA : Acyc (gE al_ it tg pt bd sg co) n emp rk) (h4 : SafeM (f 154)) (h5 : SafeM (f 155)) (hSO : SafeM (f 161)) (hL : IsLfp n (frR al_ it tg bd) (f 154)) (hsg : ∀ q, q < c → 33 ≤ sg q) (hn : 0 < n) (m z : Nat) (hm : m ≤ c) (hz : 33 ≤ z ∧ z ≤ 126) : Zm 8 zm_MO_next2 [.ref 139, .int (nI m), .int (nI z)] Mq (fun r9 M1 => ∃ F f9, r9 = some (.long (lN F)) ∧ MM M1 (up o 0 0) f9 ∧ Sm Mq M1 [139, 156, 157, 158, 159, 160, 161] ∧ Fsame f f9 [139, 156, 157, 158, 159, 160, 161] ∧ SafeF f9 ∧ SafeM (f9 161) ∧ F < 1099511627776 ∧ ∀ d, F.testBit d = true ↔ Fnd (gE al_ it tg pt bd sg co) n (f 154) m z 0 d) := by
  show Zw 8 zm_MO_next2 0 [some (.ref 139), some (.int (nI m)), some (.int (nI z))] [] Mq _
  have hc20 := hS.1
  refine zw_n 2 rfl ?_
  refine zw_put rfl hM.1 (rfl) (Nat.le_of_ble_eq_true rfl) ?_
  generalize ez4186 : List.set Mq 139 _ = Mz4185
  refine zw_n 1 rfl ?_
  refine zw_callV (as := []) (rest := []) rfl rfl rfl (zat_self ez4186 hM.1) rfl rfl rfl (by decide) (m_isGrammar Mz4185 (up o 0 0) f (MM.of (o' := up o 0 0) (f' := f) hM (Sm.tset Sm.rf ez4186 (by decide)) (zat_self ez4186 hM.1) (c1_skip (c1_cons (zat_set ez4186 (by decide) (hM.2 156 (by decide) (by decide))) (c1_cons (zat_set ez4186 (by decide) (hM.2 157 (by decide) (by decide))) (c1_cons (zat_set ez4186 (by decide) (hM.2 158 (by decide) (by decide))) (c1_cons (zat_set ez4186 (by decide) (hM.2 159 (by decide) (by decide))) (c1_cons (zat_set ez4186 (by decide) (hM.2 160 (by decide) (by decide))) (c1_cons (zat_set ez4186 (by decide) (hM.2 161 (by decide) (by decide))) c1_nil))))))) (fs_k (fs_k (fs_k (fs_k (fs_k (fs_k (fs_k fs_n)))))))) n gn al_ it pt tg bd hg hG hF) (fun rz4187 Mz4188 hz4189 => ?_)
  rw [hz4189.1, hz4189.2]
  show Zw 8 zm_MO_next2 9 [some (.ref 139), some (.int (nI m)), some (.int (nI z))] [.int (nI (if 0 < n then 1 else 0))] Mz4185 _
  refine zw_eq0N (a := if 0 < n then 1 else 0) rfl rfl (ite_b) (fun c9 => ?_) (fun c9 => ?_)
  · -- 9 to 42
    exfalso
    first | exact ite_eq0 c9 hn | exact ite_eq0 c23 (by omega) | exact ite_eq0 c30 (by omega) | exact ite_eq0 c30 (by rw [nI_toInt (by omega)]; omega)
  · -- 9 to 12
    refine zw_n 4 rfl ?_
    refine zw_callV (as := []) (rest := [.long 0, .long (Int32.toInt64 (nI m))]) rfl rfl rfl (zat_self ez4186 hM.1) rfl rfl rfl (by decide) (m_tok1 Mz4185 (up o 0 0) f (MM.of (o' := up o 0 0) (f' := f) hM (Sm.tset Sm.rf ez4186 (by decide)) (zat_self ez4186 hM.1) (c1_skip (c1_cons (zat_set ez4186 (by decide) (hM.2 156 (by decide) (by decide))) (c1_cons (zat_set ez4186 (by decide) (hM.2 157 (by decide) (by decide))) (c1_cons (zat_set ez4186 (by decide) (hM.2 158 (by decide) (by decide))) (c1_cons (zat_set ez4186 (by decide) (hM.2 159 (by decide) (by decide))) (c1_cons (zat_set ez4186 (by decide) (hM.2 160 (by decide) (by decide))) (c1_cons (zat_set ez4186 (by decide) (hM.2 161 (by decide) (by decide))) c1_nil))))))) (fs_k (fs_k (fs_k (fs_k (fs_k (fs_k (fs_k fs_n)))))))) c ht.1) (fun rz4190 Mz4191 hz4192 => ?_)
    rw [hz4192.1, hz4192.2]
    show Zw 8 zm_MO_next2 19 [some (.ref 139), some (.int (nI m)), some (.int (nI z))] [.int (nI c), .long 0, .long (Int32.toInt64 (nI m))] Mz4185 _
    refine zw_n 1 rfl ?_
    refine zw_callS (as := [.long (Int32.toInt64 (nI m)), .long 0, .long (Int32.toInt64 (nI c))]) (rest := []) rfl rfl rfl rfl rfl rfl (by decide) (m_in Mz4185 (Int32.toInt64 (nI m)) 0 (Int32.toInt64 (nI c)) ((m : Nat) : Int) 0 ((c : Nat) : Int) (l_nI (by omega)) (by decide) (l_nI (by omega))) (fun rz4193 Mz4194 hz4195 => ?_)
    rw [hz4195.1, hz4195.2]
    show Zw 8 zm_MO_next2 23 [some (.ref 139), some (.int (nI m)), some (.int (nI z))] [.int (nI (if 0 ≤ ((m : Nat) : Int) ∧ ((m : Nat) : Int) ≤ ((c : Nat) : Int) then 1 else 0))] Mz4185 _
    refine zw_eq0N (a := if 0 ≤ ((m : Nat) : Int) ∧ ((m : Nat) : Int) ≤ ((c : Nat) : Int) then 1 else 0) rfl rfl (ite_b) (fun c23 => ?_) (fun c23 => ?_)
    · -- 23 to 42
      exfalso
      first | exact ite_eq0 c9 hn | exact ite_eq0 c23 (by omega) | exact ite_eq0 c30 (by omega) | exact ite_eq0 c30 (by rw [nI_toInt (by omega)]; omega)
    · -- 23 to 26
      refine zw_n 1 rfl ?_
      refine zw_callS (as := [.int (nI z)]) (rest := []) rfl rfl rfl rfl rfl rfl (by decide) (m_isSign _ (nI z)) (fun rz4196 Mz4197 hz4198 => ?_)
      rw [hz4198.1, hz4198.2]
      show Zw 8 zm_MO_next2 30 [some (.ref 139), some (.int (nI m)), some (.int (nI z))] [.int (nI (if 33 ≤ (nI z).toInt ∧ (nI z).toInt ≤ 126 then 1 else 0))] Mz4185 _
      refine zw_eq0N (a := if 33 ≤ (nI z).toInt ∧ (nI z).toInt ≤ 126 then 1 else 0) rfl rfl (ite_b) (fun c30 => ?_) (fun c30 => ?_)
      · -- 30 to 42
        exfalso
        first | exact ite_eq0 c9 hn | exact ite_eq0 c23 (by omega) | exact ite_eq0 c30 (by omega) | exact ite_eq0 c30 (by rw [nI_toInt (by omega)]; omega)
      · -- 30 to 33
        refine zw_n 3 rfl ?_
        refine zw_callV (as := [.int (nI m), .int (nI z)]) (rest := []) rfl rfl rfl (zat_self ez4186 hM.1) rfl rfl rfl (by decide) (m_columnsFor Mz4185 (up o 0 0) f (MM.of (o' := up o 0 0) (f' := f) hM (Sm.tset Sm.rf ez4186 (by decide)) (zat_self ez4186 hM.1) (c1_skip (c1_cons (zat_set ez4186 (by decide) (hM.2 156 (by decide) (by decide))) (c1_cons (zat_set ez4186 (by decide) (hM.2 157 (by decide) (by decide))) (c1_cons (zat_set ez4186 (by decide) (hM.2 158 (by decide) (by decide))) (c1_cons (zat_set ez4186 (by decide) (hM.2 159 (by decide) (by decide))) (c1_cons (zat_set ez4186 (by decide) (hM.2 160 (by decide) (by decide))) (c1_cons (zat_set ez4186 (by decide) (hM.2 161 (by decide) (by decide))) c1_nil))))))) (fs_k (fs_k (fs_k (fs_k (fs_k (fs_k (fs_k fs_n)))))))) n gn al_ it pt tg bd hg hG hF c sg li co ht hS emp rk hA h4 h5 hSO hn hL m z z hm (by omega) (fun w => by omega)) (fun rz4209 Mz4210 hz4211 => ?_)
        obtain ⟨Fz4199, fz4200, hAz4201, hMMz4202, hSz4203, hFsz4204, hSFz4205, hSOz4206, hFlz4207, hFz4208⟩ := hz4211
        rw [hAz4201]
        show Zw 8 zm_MO_next2 39 [some (.ref 139), some (.int (nI m)), some (.int (nI z))] [.long (lN Fz4199)] Mz4210 _
        refine zw_n 1 rfl ?_
        exact zw_lret rfl rfl (⟨Fz4199, fset (fset (fset (fset (fset (fset f 161 (fz4200 161)) 160 (fz4200 160)) 159 (fz4200 159)) 158 (fz4200 158)) 157 (fz4200 157)) 156 (fz4200 156), rfl, (MM.of (o' := up o 0 0) (f' := fset (fset (fset (fset (fset (fset f 161 (fz4200 161)) 160 (fz4200 160)) 159 (fz4200 159)) 158 (fz4200 158)) 157 (fz4200 157)) 156 (fz4200 156)) hM (Sm.tw (Sm.tset Sm.rf ez4186 (by decide)) hSz4203 (by decide)) (Sm.at hSz4203 (by decide) (zat_self ez4186 hM.1)) (c1_skip (c1_cons (hMMz4202.2 156 (by decide) (by decide)) (c1_cons (hMMz4202.2 157 (by decide) (by decide)) (c1_cons (hMMz4202.2 158 (by decide) (by decide)) (c1_cons (hMMz4202.2 159 (by decide) (by decide)) (c1_cons (hMMz4202.2 160 (by decide) (by decide)) (c1_cons (hMMz4202.2 161 (by decide) (by decide)) c1_nil))))))) (fs_k (fs_c (fs_c (fs_c (fs_c (fs_c (fs_c fs_n)))))))), Sm.tw (Sm.tset Sm.rf ez4186 (by decide)) hSz4203 (by decide), fs_k (fs_c (fs_c (fs_c (fs_c (fs_c (fs_c fs_n)))))), ⟨hF.1, hSFz4205.2.1, hSFz4205.2.2.1, hSFz4205.2.2.2.1, hSFz4205.2.2.2.2.1, hSFz4205.2.2.2.2.2⟩, hSOz4206, hFlz4207, hFz4208⟩)

set_option maxHeartbeats 4000000 in
set_option maxRecDepth 100000 in
theorem m_roomNo (Mq : zM) (o : Nat → Nat) (f : Nat → Nat → Nat) (hM : MM Mq o f)(n : Nat) (gn al_ it pt tg bd : Nat → Nat) (hg : RelG f n gn al_ it pt tg bd) (hG : SafeG n gn al_ it pt tg bd) (hF : SafeF f) (c : Nat) (sg li co : Nat → Nat) (ht : RelT f c sg li co) (hS : SafeT c sg li co) (emp : Nat → Prop) (rk : Nat → Nat) (hA : Acyc (gE al_ it tg pt bd sg co) n emp rk) (x : Int32) (hx : ¬ (0 < n ∧ 0 ≤ x.toInt ∧ x.toInt ≤ c)) : Zm 8 zm_MO_room [.ref 139, .int x] Mq (fun r9 M1 => r9 = some (.int (-1)) ∧ MM M1 (up o 0 0) f ∧ Sm Mq M1 [139]) := by
  show Zw 8 zm_MO_room 0 [some (.ref 139), some (.int x)] [] Mq _
  have hc20 := hS.1
  refine zw_n 2 rfl ?_
  refine zw_put rfl hM.1 (rfl) (Nat.le_of_ble_eq_true rfl) ?_
  generalize ez4213 : List.set Mq 139 _ = Mz4212
  refine zw_n 1 rfl ?_
  refine zw_callV (as := []) (rest := []) rfl rfl rfl (zat_self ez4213 hM.1) rfl rfl rfl (by decide) (m_isGrammar Mz4212 (up o 0 0) f (MM.of (o' := up o 0 0) (f' := f) hM (Sm.tset Sm.rf ez4213 (by decide)) (zat_self ez4213 hM.1) (c1_skip c1_nil) (fs_k fs_n)) n gn al_ it pt tg bd hg hG hF) (fun rz4214 Mz4215 hz4216 => ?_)
  rw [hz4216.1, hz4216.2]
  show Zw 8 zm_MO_room 9 [some (.ref 139), some (.int x)] [.int (nI (if 0 < n then 1 else 0))] Mz4212 _
  refine zw_eq0N (a := if 0 < n then 1 else 0) rfl rfl (ite_b) (fun c9 => ?_) (fun c9 => ?_)
  · -- 9 to 38
    refine zw_n 1 rfl ?_
    exact zw_iret rfl rfl (⟨rfl, (MM.of (o' := up o 0 0) (f' := f) hM (Sm.tset Sm.rf ez4213 (by decide)) (zat_self ez4213 hM.1) (c1_skip c1_nil) (fs_k fs_n)), Sm.tset Sm.rf ez4213 (by decide)⟩)
  · -- 9 to 12
    refine zw_n 4 rfl ?_
    refine zw_callV (as := []) (rest := [.long 0, .long (Int32.toInt64 x)]) rfl rfl rfl (zat_self ez4213 hM.1) rfl rfl rfl (by decide) (m_tok1 Mz4212 (up o 0 0) f (MM.of (o' := up o 0 0) (f' := f) hM (Sm.tset Sm.rf ez4213 (by decide)) (zat_self ez4213 hM.1) (c1_skip c1_nil) (fs_k fs_n)) c ht.1) (fun rz4217 Mz4218 hz4219 => ?_)
    rw [hz4219.1, hz4219.2]
    show Zw 8 zm_MO_room 19 [some (.ref 139), some (.int x)] [.int (nI c), .long 0, .long (Int32.toInt64 x)] Mz4212 _
    refine zw_n 1 rfl ?_
    refine zw_callS (as := [.long (Int32.toInt64 x), .long 0, .long (Int32.toInt64 (nI c))]) (rest := []) rfl rfl rfl rfl rfl rfl (by decide) (m_in Mz4212 (Int32.toInt64 x) 0 (Int32.toInt64 (nI c)) x.toInt 0 ((c : Nat) : Int) (Int32.toInt_toInt64 _) (by decide) (l_nI (by omega))) (fun rz4220 Mz4221 hz4222 => ?_)
    rw [hz4222.1, hz4222.2]
    show Zw 8 zm_MO_room 23 [some (.ref 139), some (.int x)] [.int (nI (if 0 ≤ x.toInt ∧ x.toInt ≤ ((c : Nat) : Int) then 1 else 0))] Mz4212 _
    refine zw_eq0N (a := if 0 ≤ x.toInt ∧ x.toInt ≤ ((c : Nat) : Int) then 1 else 0) rfl rfl (ite_b) (fun c23 => ?_) (fun c23 => ?_)
    · -- 23 to 38
      refine zw_n 1 rfl ?_
      exact zw_iret rfl rfl (⟨rfl, (MM.of (o' := up o 0 0) (f' := f) hM (Sm.tset Sm.rf ez4213 (by decide)) (zat_self ez4213 hM.1) (c1_skip c1_nil) (fs_k fs_n)), Sm.tset Sm.rf ez4213 (by decide)⟩)
    · -- 23 to 26
      exfalso
      exact hx ⟨ite_ne c9, ite_ne c23⟩

set_option maxHeartbeats 4000000 in
set_option maxRecDepth 100000 in
theorem m_roomOk (Mq : zM) (o : Nat → Nat) (f : Nat → Nat → Nat) (hM : MM Mq o f)(n : Nat) (gn al_ it pt tg bd : Nat → Nat) (hg : RelG f n gn al_ it pt tg bd) (hG : SafeG n gn al_ it pt tg bd) (hF : SafeF f) (c : Nat) (sg li co : Nat → Nat) (ht : RelT f c sg li co) (hS : SafeT c sg li co) (emp : Nat → Prop) (rk : Nat → Nat) (hA : Acyc (gE al_ it tg pt bd sg co) n emp rk) (h4 : SafeM (f 154)) (h5 : SafeM (f 155)) (hSO : SafeM (f 161)) (hL : IsLfp n (frR al_ it tg bd) (f 154)) (hsg : ∀ q, q < c → 33 ≤ sg q) (hn : 0 < n) (m : Nat) (hm : m ≤ c) : Zm 8 zm_MO_room [.ref 139, .int (nI m)] Mq (fun r9 M1 => ∃ F f9, r9 = some (.int (nI (bc F))) ∧ MM M1 (up o 0 0) f9 ∧ Sm Mq M1 [139, 156, 157, 158, 159, 160, 161] ∧ Fsame f f9 [139, 156, 157, 158, 159, 160, 161] ∧ SafeF f9 ∧ SafeM (f9 161) ∧ F < 1099511627776 ∧ ∀ d, F.testBit d = true ↔ Fnd (gE al_ it tg pt bd sg co) n (f 154) m 0 0 d) := by
  show Zw 8 zm_MO_room 0 [some (.ref 139), some (.int (nI m))] [] Mq _
  have hc20 := hS.1
  refine zw_n 2 rfl ?_
  refine zw_put rfl hM.1 (rfl) (Nat.le_of_ble_eq_true rfl) ?_
  generalize ez4224 : List.set Mq 139 _ = Mz4223
  refine zw_n 1 rfl ?_
  refine zw_callV (as := []) (rest := []) rfl rfl rfl (zat_self ez4224 hM.1) rfl rfl rfl (by decide) (m_isGrammar Mz4223 (up o 0 0) f (MM.of (o' := up o 0 0) (f' := f) hM (Sm.tset Sm.rf ez4224 (by decide)) (zat_self ez4224 hM.1) (c1_skip (c1_cons (zat_set ez4224 (by decide) (hM.2 156 (by decide) (by decide))) (c1_cons (zat_set ez4224 (by decide) (hM.2 157 (by decide) (by decide))) (c1_cons (zat_set ez4224 (by decide) (hM.2 158 (by decide) (by decide))) (c1_cons (zat_set ez4224 (by decide) (hM.2 159 (by decide) (by decide))) (c1_cons (zat_set ez4224 (by decide) (hM.2 160 (by decide) (by decide))) (c1_cons (zat_set ez4224 (by decide) (hM.2 161 (by decide) (by decide))) c1_nil))))))) (fs_k (fs_k (fs_k (fs_k (fs_k (fs_k (fs_k fs_n)))))))) n gn al_ it pt tg bd hg hG hF) (fun rz4225 Mz4226 hz4227 => ?_)
  rw [hz4227.1, hz4227.2]
  show Zw 8 zm_MO_room 9 [some (.ref 139), some (.int (nI m))] [.int (nI (if 0 < n then 1 else 0))] Mz4223 _
  refine zw_eq0N (a := if 0 < n then 1 else 0) rfl rfl (ite_b) (fun c9 => ?_) (fun c9 => ?_)
  · -- 9 to 38
    exfalso
    first | exact ite_eq0 c9 hn | exact ite_eq0 c23 (by omega)
  · -- 9 to 12
    refine zw_n 4 rfl ?_
    refine zw_callV (as := []) (rest := [.long 0, .long (Int32.toInt64 (nI m))]) rfl rfl rfl (zat_self ez4224 hM.1) rfl rfl rfl (by decide) (m_tok1 Mz4223 (up o 0 0) f (MM.of (o' := up o 0 0) (f' := f) hM (Sm.tset Sm.rf ez4224 (by decide)) (zat_self ez4224 hM.1) (c1_skip (c1_cons (zat_set ez4224 (by decide) (hM.2 156 (by decide) (by decide))) (c1_cons (zat_set ez4224 (by decide) (hM.2 157 (by decide) (by decide))) (c1_cons (zat_set ez4224 (by decide) (hM.2 158 (by decide) (by decide))) (c1_cons (zat_set ez4224 (by decide) (hM.2 159 (by decide) (by decide))) (c1_cons (zat_set ez4224 (by decide) (hM.2 160 (by decide) (by decide))) (c1_cons (zat_set ez4224 (by decide) (hM.2 161 (by decide) (by decide))) c1_nil))))))) (fs_k (fs_k (fs_k (fs_k (fs_k (fs_k (fs_k fs_n)))))))) c ht.1) (fun rz4228 Mz4229 hz4230 => ?_)
    rw [hz4230.1, hz4230.2]
    show Zw 8 zm_MO_room 19 [some (.ref 139), some (.int (nI m))] [.int (nI c), .long 0, .long (Int32.toInt64 (nI m))] Mz4223 _
    refine zw_n 1 rfl ?_
    refine zw_callS (as := [.long (Int32.toInt64 (nI m)), .long 0, .long (Int32.toInt64 (nI c))]) (rest := []) rfl rfl rfl rfl rfl rfl (by decide) (m_in Mz4223 (Int32.toInt64 (nI m)) 0 (Int32.toInt64 (nI c)) ((m : Nat) : Int) 0 ((c : Nat) : Int) (l_nI (by omega)) (by decide) (l_nI (by omega))) (fun rz4231 Mz4232 hz4233 => ?_)
    rw [hz4233.1, hz4233.2]
    show Zw 8 zm_MO_room 23 [some (.ref 139), some (.int (nI m))] [.int (nI (if 0 ≤ ((m : Nat) : Int) ∧ ((m : Nat) : Int) ≤ ((c : Nat) : Int) then 1 else 0))] Mz4223 _
    refine zw_eq0N (a := if 0 ≤ ((m : Nat) : Int) ∧ ((m : Nat) : Int) ≤ ((c : Nat) : Int) then 1 else 0) rfl rfl (ite_b) (fun c23 => ?_) (fun c23 => ?_)
    · -- 23 to 38
      exfalso
      first | exact ite_eq0 c9 hn | exact ite_eq0 c23 (by omega)
    · -- 23 to 26
      refine zw_n 3 rfl ?_
      refine zw_callV (as := [.int (nI m), .int 1]) (rest := []) rfl rfl rfl (zat_self ez4224 hM.1) rfl rfl rfl (by decide) (m_columnsFor Mz4223 (up o 0 0) f (MM.of (o' := up o 0 0) (f' := f) hM (Sm.tset Sm.rf ez4224 (by decide)) (zat_self ez4224 hM.1) (c1_skip (c1_cons (zat_set ez4224 (by decide) (hM.2 156 (by decide) (by decide))) (c1_cons (zat_set ez4224 (by decide) (hM.2 157 (by decide) (by decide))) (c1_cons (zat_set ez4224 (by decide) (hM.2 158 (by decide) (by decide))) (c1_cons (zat_set ez4224 (by decide) (hM.2 159 (by decide) (by decide))) (c1_cons (zat_set ez4224 (by decide) (hM.2 160 (by decide) (by decide))) (c1_cons (zat_set ez4224 (by decide) (hM.2 161 (by decide) (by decide))) c1_nil))))))) (fs_k (fs_k (fs_k (fs_k (fs_k (fs_k (fs_k fs_n)))))))) n gn al_ it pt tg bd hg hG hF c sg li co ht hS emp rk hA h4 h5 hSO hn hL m 1 0 hm (by decide) (fun w => by omega)) (fun rz4244 Mz4245 hz4246 => ?_)
      obtain ⟨Fz4234, fz4235, hAz4236, hMMz4237, hSz4238, hFsz4239, hSFz4240, hSOz4241, hFlz4242, hFz4243⟩ := hz4246
      rw [hAz4236]
      show Zw 8 zm_MO_room 32 [some (.ref 139), some (.int (nI m))] [.long (lN Fz4234)] Mz4245 _
      refine zw_callS (as := [.long (lN Fz4234)]) (rest := []) rfl rfl rfl rfl rfl rfl (by decide) (m_ones _ _ hFlz4242) (fun rz4247 Mz4248 hz4249 => ?_)
      rw [hz4249.1, hz4249.2]
      show Zw 8 zm_MO_room 35 [some (.ref 139), some (.int (nI m))] [.int (nI (bc Fz4234))] Mz4245 _
      refine zw_n 1 rfl ?_
      exact zw_iret rfl rfl (⟨Fz4234, fset (fset (fset (fset (fset (fset f 161 (fz4235 161)) 160 (fz4235 160)) 159 (fz4235 159)) 158 (fz4235 158)) 157 (fz4235 157)) 156 (fz4235 156), rfl, (MM.of (o' := up o 0 0) (f' := fset (fset (fset (fset (fset (fset f 161 (fz4235 161)) 160 (fz4235 160)) 159 (fz4235 159)) 158 (fz4235 158)) 157 (fz4235 157)) 156 (fz4235 156)) hM (Sm.tw (Sm.tset Sm.rf ez4224 (by decide)) hSz4238 (by decide)) (Sm.at hSz4238 (by decide) (zat_self ez4224 hM.1)) (c1_skip (c1_cons (hMMz4237.2 156 (by decide) (by decide)) (c1_cons (hMMz4237.2 157 (by decide) (by decide)) (c1_cons (hMMz4237.2 158 (by decide) (by decide)) (c1_cons (hMMz4237.2 159 (by decide) (by decide)) (c1_cons (hMMz4237.2 160 (by decide) (by decide)) (c1_cons (hMMz4237.2 161 (by decide) (by decide)) c1_nil))))))) (fs_k (fs_c (fs_c (fs_c (fs_c (fs_c (fs_c fs_n)))))))), Sm.tw (Sm.tset Sm.rf ez4224 (by decide)) hSz4238 (by decide), fs_k (fs_c (fs_c (fs_c (fs_c (fs_c (fs_c fs_n)))))), ⟨hF.1, hSFz4240.2.1, hSFz4240.2.2.1, hSFz4240.2.2.2.1, hSFz4240.2.2.2.2.1, hSFz4240.2.2.2.2.2⟩, hSOz4241, hFlz4242, hFz4243⟩)

set_option maxHeartbeats 4000000 in
set_option maxRecDepth 100000 in
theorem m_hint (Mq : zM) (o : Nat → Nat) (f : Nat → Nat → Nat) (hM : MM Mq o f)(n : Nat) (gn al_ it pt tg bd : Nat → Nat) (hg : RelG f n gn al_ it pt tg bd) (hG : SafeG n gn al_ it pt tg bd) (hF : SafeF f) (c : Nat) (sg li co : Nat → Nat) (ht : RelT f c sg li co) (hS : SafeT c sg li co) (emp : Nat → Prop) (rk : Nat → Nat) (hA : Acyc (gE al_ it tg pt bd sg co) n emp rk) (h4 : SafeM (f 154)) (h5 : SafeM (f 155)) (hSO : SafeM (f 161)) (hL : IsLfp n (frR al_ it tg bd) (f 154)) (hsg : ∀ q, q < c → 33 ≤ sg q) (w : Int32) : Zm 9 zm_MO_hint [.ref 139, .int w] Mq (fun r9 M1 => ∃ k F v f9, r9 = some (.int (if w = nI 0 then (if k = NO ∨ k = c then -1 else nI v) else if w = nI 1 then (if k = NO ∨ k = c then -1 else nI (bc F)) else -1)) ∧ MM M1 (up o 0 0) f9 ∧ Sm Mq M1 [139, 156, 157, 158, 159, 160, 161] ∧ Fsame f f9 [139, 156, 157, 158, 159, 160, 161] ∧ SafeF f9 ∧ SafeM (f9 161) ∧ (w = nI 0 ∨ w = nI 1 → BlK (gE al_ it tg pt bd sg co) n (f 154) c k ∧ (k < c → F < 1099511627776 ∧ (∀ d, F.testBit d = true ↔ Fnd (gE al_ it tg pt bd sg co) n (f 154) k (sg k) 0 d) ∧ NrS F (co k) v))) := by
  show Zw 9 zm_MO_hint 0 [some (.ref 139), some (.int w), none, none, none, none, none, none, none, none] [] Mq _
  have hc20 := hS.1
  refine zw_n 2 rfl ?_
  refine zw_put rfl hM.1 (rfl) (Nat.le_of_ble_eq_true rfl) ?_
  generalize ez4251 : List.set Mq 139 _ = Mz4250
  refine zw_n 4 rfl ?_
  refine zw_callS (as := [.long (Int32.toInt64 w), .long 0, .long 1]) (rest := []) rfl rfl rfl rfl rfl rfl (by decide) (m_in Mz4250 (Int32.toInt64 w) 0 1 w.toInt 0 1 (Int32.toInt_toInt64 _) (by decide) (by decide)) (fun rz4252 Mz4253 hz4254 => ?_)
  rw [hz4254.1, hz4254.2]
  show Zw 9 zm_MO_hint 12 [some (.ref 139), some (.int w), none, none, none, none, none, none, none, none] [.int (nI (if 0 ≤ w.toInt ∧ w.toInt ≤ 1 then 1 else 0))] Mz4250 _
  refine zw_eq0N (a := if 0 ≤ w.toInt ∧ w.toInt ≤ 1 then 1 else 0) rfl rfl (ite_b) (fun c12 => ?_) (fun c12 => ?_)
  · -- 12 to 22
    have hw9 : ¬ (0 ≤ w.toInt ∧ w.toInt ≤ 1) := ite_eq0 c12
    refine zw_n 4 (ls' := [some (.ref 139), some (.int w), some (.int (-1)), none, none, none, none, none, none, none]) rfl ?_
    refine zw_ic rfl ?_
    show Zw 9 zm_MO_hint 37 [some (.ref 139), some (.int w), some (.int (-1)), none, none, none, none, none, none, none] [] Mz4250 _
    refine zw_n 1 rfl ?_
    exact zw_iret rfl rfl (⟨0, 0, 0, f, by rw [if_neg (fun q9 => hw9 (by rw [q9]; decide)), if_neg (fun q9 => hw9 (by rw [q9]; decide))], (MM.of (o' := up o 0 0) (f' := f) hM (Sm.tset Sm.rf ez4251 (by decide)) (zat_self ez4251 hM.1) (c1_skip (c1_cons (zat_set ez4251 (by decide) (hM.2 156 (by decide) (by decide))) (c1_cons (zat_set ez4251 (by decide) (hM.2 157 (by decide) (by decide))) (c1_cons (zat_set ez4251 (by decide) (hM.2 158 (by decide) (by decide))) (c1_cons (zat_set ez4251 (by decide) (hM.2 159 (by decide) (by decide))) (c1_cons (zat_set ez4251 (by decide) (hM.2 160 (by decide) (by decide))) (c1_cons (zat_set ez4251 (by decide) (hM.2 161 (by decide) (by decide))) c1_nil))))))) (fs_k (fs_k (fs_k (fs_k (fs_k (fs_k (fs_k fs_n)))))))), Sm.tset Sm.rf ez4251 (by decide), fs_k (fs_k (fs_k (fs_k (fs_k (fs_k (fs_k fs_n)))))), hF, hSO, fun q9 => absurd (by rcases q9 with q9 | q9 <;> (rw [q9]; decide)) hw9⟩)
  · -- 12 to 15
    refine zw_n 1 rfl ?_
    refine zw_callV (as := []) (rest := []) rfl rfl rfl (zat_self ez4251 hM.1) rfl rfl rfl (by decide) (m_blamed Mz4250 (up o 0 0) f (MM.of (o' := up o 0 0) (f' := f) hM (Sm.tset Sm.rf ez4251 (by decide)) (zat_self ez4251 hM.1) (c1_skip (c1_cons (zat_set ez4251 (by decide) (hM.2 156 (by decide) (by decide))) (c1_cons (zat_set ez4251 (by decide) (hM.2 157 (by decide) (by decide))) (c1_cons (zat_set ez4251 (by decide) (hM.2 158 (by decide) (by decide))) (c1_cons (zat_set ez4251 (by decide) (hM.2 159 (by decide) (by decide))) (c1_cons (zat_set ez4251 (by decide) (hM.2 160 (by decide) (by decide))) (c1_cons (zat_set ez4251 (by decide) (hM.2 161 (by decide) (by decide))) c1_nil))))))) (fs_k (fs_k (fs_k (fs_k (fs_k (fs_k (fs_k fs_n)))))))) n gn al_ it pt tg bd hg hG hF c sg li co ht hS emp rk hA h4 h5 hSO hL hsg) (fun rz4264 Mz4265 hz4266 => ?_)
    obtain ⟨kz4255, fz4256, hAz4257, hMMz4258, hSz4259, hFsz4260, hSFz4261, hSOz4262, hBz4263⟩ := hz4266
    rw [hAz4257]
    have hk9 := BlK.lt hBz4263
    show Zw 9 zm_MO_hint 19 [some (.ref 139), some (.int w), none, none, none, none, none, none, none, none] [.int (nI kz4255)] Mz4265 _
    refine zw_n 4 (ls' := [some (.ref 139), some (.int w), some (.int (nI kz4255)), none, none, none, none, none, none, none]) rfl ?_
    refine zw_ieqM (a := kz4255) rfl rfl (by rcases hk9 with q9 | q9; (rw [q9]; decide); omega) (fun c26 => ?_) (fun c26 => ?_)
    · -- 26 to 37
      refine zw_n 1 rfl ?_
      exact zw_iret rfl rfl (⟨kz4255, 0, 0, fset (fset (fset (fset (fset (fset f 161 (fz4256 161)) 160 (fz4256 160)) 159 (fz4256 159)) 158 (fz4256 158)) 157 (fz4256 157)) 156 (fz4256 156), by rcases w01 (ite_ne c12) with q9 | q9; (rw [if_pos q9, if_pos (by first | exact Or.inl c26 | exact Or.inr c34)]); (rw [if_neg (by rw [q9]; decide), if_pos q9, if_pos (by first | exact Or.inl c26 | exact Or.inr c34)]), (MM.of (o' := up o 0 0) (f' := fset (fset (fset (fset (fset (fset f 161 (fz4256 161)) 160 (fz4256 160)) 159 (fz4256 159)) 158 (fz4256 158)) 157 (fz4256 157)) 156 (fz4256 156)) hM (Sm.tw (Sm.tset Sm.rf ez4251 (by decide)) hSz4259 (by decide)) (Sm.at hSz4259 (by decide) (zat_self ez4251 hM.1)) (c1_skip (c1_cons (hMMz4258.2 156 (by decide) (by decide)) (c1_cons (hMMz4258.2 157 (by decide) (by decide)) (c1_cons (hMMz4258.2 158 (by decide) (by decide)) (c1_cons (hMMz4258.2 159 (by decide) (by decide)) (c1_cons (hMMz4258.2 160 (by decide) (by decide)) (c1_cons (hMMz4258.2 161 (by decide) (by decide)) c1_nil))))))) (fs_k (fs_c (fs_c (fs_c (fs_c (fs_c (fs_c fs_n)))))))), Sm.tw (Sm.tset Sm.rf ez4251 (by decide)) hSz4259 (by decide), fs_k (fs_c (fs_c (fs_c (fs_c (fs_c (fs_c fs_n)))))), ⟨hF.1, hSFz4261.2.1, hSFz4261.2.2.1, hSFz4261.2.2.2.1, hSFz4261.2.2.2.2.1, hSFz4261.2.2.2.2.2⟩, hSOz4262, fun _ => ⟨hBz4263, fun q9 => by first | omega | (rw [c26] at q9; unfold NO at q9; omega)⟩⟩)
    · -- 26 to 29
      refine zw_n 2 rfl ?_
      refine zw_callV (as := []) (rest := [.int (nI kz4255)]) rfl rfl rfl (Sm.at hSz4259 (by decide) (zat_self ez4251 hM.1)) rfl rfl rfl (by decide) (m_tok1 Mz4265 (up o 0 0) (fset (fset (fset (fset (fset (fset f 161 (fz4256 161)) 160 (fz4256 160)) 159 (fz4256 159)) 158 (fz4256 158)) 157 (fz4256 157)) 156 (fz4256 156)) (MM.of (o' := up o 0 0) (f' := fset (fset (fset (fset (fset (fset f 161 (fz4256 161)) 160 (fz4256 160)) 159 (fz4256 159)) 158 (fz4256 158)) 157 (fz4256 157)) 156 (fz4256 156)) hM (Sm.tw (Sm.tset Sm.rf ez4251 (by decide)) hSz4259 (by decide)) (Sm.at hSz4259 (by decide) (zat_self ez4251 hM.1)) (c1_skip (c1_cons (hMMz4258.2 156 (by decide) (by decide)) (c1_cons (hMMz4258.2 157 (by decide) (by decide)) (c1_cons (hMMz4258.2 158 (by decide) (by decide)) (c1_cons (hMMz4258.2 159 (by decide) (by decide)) (c1_cons (hMMz4258.2 160 (by decide) (by decide)) (c1_cons (hMMz4258.2 161 (by decide) (by decide)) c1_nil))))))) (fs_k (fs_c (fs_c (fs_c (fs_c (fs_c (fs_c fs_n)))))))) c ht.1) (fun rz4267 Mz4268 hz4269 => ?_)
      rw [hz4269.1, hz4269.2]
      show Zw 9 zm_MO_hint 34 [some (.ref 139), some (.int w), some (.int (nI kz4255)), none, none, none, none, none, none, none] [.int (nI c), .int (nI kz4255)] Mz4265 _
      refine zw_ineN (a := kz4255) (b := c) rfl rfl rfl (by first | omega | (rcases hk9 with q9 | q9; exact absurd q9 c26; omega)) (by first | omega | (rcases hk9 with q9 | q9; exact absurd q9 c26; omega)) (fun c34 => ?_) (fun c34 => ?_)
      · -- 34 to 39
        have hkc : kz4255 < c := by rcases hk9 with q9 | q9; exact absurd q9 c26; omega
        have hn9 : 0 < n := Classical.byContradiction fun q9 => c26 (hBz4263.1 (Or.inl (by omega)))
        have hsk := hS.2.1 kz4255
        have hck := hS.2.2.2 kz4255
        have hgk := hsg kz4255 hkc
        refine zw_n 3 rfl ?_
        refine zw_get (v := .ref 140) rfl (Sm.at hSz4259 (by decide) (zat_self ez4251 hM.1)) rfl ?_
        refine zw_n 3 rfl ?_
        refine zw_top (na (a := 530) (b := kz4255) rfl rfl) ?_
        refine zw_iald (f := ai (f 140)) (j := (530 + kz4255)) rfl (Sm.at hSz4259 (by decide) (zat_set ez4251 (by decide) (hM.2 140 (by decide) (by decide)))) rfl (by decide) (by omega) ?_
        refine zw_top (x' := (nI (sg kz4255))) (congrArg nI (ht.2 kz4255 hkc).1) ?_
        refine zw_callV (as := [.int (nI kz4255), .int (nI (sg kz4255))]) (rest := []) rfl rfl rfl (Sm.at hSz4259 (by decide) (zat_self ez4251 hM.1)) rfl rfl rfl (by decide) (m_columnsFor Mz4265 (up o 0 0) (fset (fset (fset (fset (fset (fset f 161 (fz4256 161)) 160 (fz4256 160)) 159 (fz4256 159)) 158 (fz4256 158)) 157 (fz4256 157)) 156 (fz4256 156)) (MM.of (o' := up o 0 0) (f' := fset (fset (fset (fset (fset (fset f 161 (fz4256 161)) 160 (fz4256 160)) 159 (fz4256 159)) 158 (fz4256 158)) 157 (fz4256 157)) 156 (fz4256 156)) hM (Sm.tw (Sm.tset Sm.rf ez4251 (by decide)) hSz4259 (by decide)) (Sm.at hSz4259 (by decide) (zat_self ez4251 hM.1)) (c1_skip (c1_cons (hMMz4258.2 156 (by decide) (by decide)) (c1_cons (hMMz4258.2 157 (by decide) (by decide)) (c1_cons (hMMz4258.2 158 (by decide) (by decide)) (c1_cons (hMMz4258.2 159 (by decide) (by decide)) (c1_cons (hMMz4258.2 160 (by decide) (by decide)) (c1_cons (hMMz4258.2 161 (by decide) (by decide)) c1_nil))))))) (fs_k (fs_c (fs_c (fs_c (fs_c (fs_c (fs_c fs_n)))))))) n gn al_ it pt tg bd hg hG (⟨hF.1, hSFz4261.2.1, hSFz4261.2.2.1, hSFz4261.2.2.2.1, hSFz4261.2.2.2.2.1, hSFz4261.2.2.2.2.2⟩) c sg li co ht hS emp rk hA h4 h5 hSOz4262 hn9 hL kz4255 (sg kz4255) (sg kz4255) (by omega) (by omega) (fun w => by omega)) (fun rz4280 Mz4281 hz4282 => ?_)
        obtain ⟨Fz4270, fz4271, hAz4272, hMMz4273, hSz4274, hFsz4275, hSFz4276, hSOz4277, hFlz4278, hFz4279⟩ := hz4282
        rw [hAz4272]
        show Zw 9 zm_MO_hint 54 [some (.ref 139), some (.int w), some (.int (nI kz4255)), none, none, none, none, none, none, none] [.long (lN Fz4270)] Mz4281 _
        refine zw_n 3 (ls' := [some (.ref 139), some (.int w), some (.int (nI kz4255)), some (.long (lN Fz4270)), none, none, none, none, none, none]) rfl ?_
        refine zw_ine rfl (fun c57 => ?_) (fun c57 => ?_)
        · -- 57 to 65
          refine zw_n 1 rfl ?_
          refine zw_get (v := .ref 140) rfl (Sm.at hSz4274 (by decide) (Sm.at hSz4259 (by decide) (zat_self ez4251 hM.1))) rfl ?_
          refine zw_n 3 rfl ?_
          refine zw_top (na (a := 570) (b := kz4255) rfl rfl) ?_
          refine zw_iald (f := ai (f 140)) (j := (570 + kz4255)) rfl (Sm.at hSz4274 (by decide) (Sm.at hSz4259 (by decide) (zat_set ez4251 (by decide) (hM.2 140 (by decide) (by decide))))) rfl (by decide) (by omega) ?_
          refine zw_top (x' := (nI (co kz4255))) (congrArg nI (ht.2 kz4255 hkc).2.2) ?_
          refine zw_n 7 (ls' := [some (.ref 139), some (.int w), some (.int (nI kz4255)), some (.long (lN Fz4270)), none, some (.int (nI (co kz4255))), some (.int (-1)), some (.int 40), some (.int 0), none]) rfl ?_
          have lp87 : ∀ (n87 : Nat) (b9 : Nat) (l9 : Nat) (d9 : Nat), (nrI Fz4270 (co kz4255) d9 b9 l9) → 40 - d9 < n87 → Zw 9 zm_MO_hint 87 [some (.ref 139), some (.int w), some (.int (nI kz4255)), some (.long (lN Fz4270)), none, some (.int (nI (co kz4255))), some (.int (nI b9)), some (.int (nI l9)), some (.int (nI d9)), none] [] Mz4281 (fun r9 M1 => ∃ k F v f9, r9 = some (.int (if w = nI 0 then (if k = NO ∨ k = c then -1 else nI v) else if w = nI 1 then (if k = NO ∨ k = c then -1 else nI (bc F)) else -1)) ∧ MM M1 (up o 0 0) f9 ∧ Sm Mq M1 [139, 156, 157, 158, 159, 160, 161] ∧ Fsame f f9 [139, 156, 157, 158, 159, 160, 161] ∧ SafeF f9 ∧ SafeM (f9 161) ∧ (w = nI 0 ∨ w = nI 1 → BlK (gE al_ it tg pt bd sg co) n (f 154) c k ∧ (k < c → F < 1099511627776 ∧ (∀ d, F.testBit d = true ↔ Fnd (gE al_ it tg pt bd sg co) n (f 154) k (sg k) 0 d) ∧ NrS F (co k) v))) := by
            intro n87
            induction n87 with
            | zero => intro b9 l9 d9 _ h; exact absurd h (Nat.not_lt_zero _)
            | succ n87 ih87 =>
              intro b9 l9 d9 hi87 hm87
              have hd9 := hi87.1
              have hl9 : l9 ≤ 40 := by rcases hi87.2 with q9 | q9; omega; (have h8 := q9.2.2.1; rw [h8]; unfold dst; split <;> omega)
              refine zw_n 2 rfl ?_
              refine zw_igtN (a := d9) (b := 39) rfl rfl rfl (by omega) (by omega) (fun c91 => ?_) (fun c91 => ?_)
              · -- 91 to 148
                refine zw_n 1 rfl ?_
                exact zw_iret rfl rfl (⟨kz4255, Fz4270, b9, fset (fset (fset (fset (fset (fset f 161 (fz4271 161)) 160 (fz4271 160)) 159 (fz4271 159)) 158 (fz4271 158)) 157 (fz4271 157)) 156 (fz4271 156), by rw [if_pos ((w01 (ite_ne c12)).resolve_right c57), if_neg (fun q9 => q9.elim c26 c34)], (MM.of (o' := up o 0 0) (f' := fset (fset (fset (fset (fset (fset f 161 (fz4271 161)) 160 (fz4271 160)) 159 (fz4271 159)) 158 (fz4271 158)) 157 (fz4271 157)) 156 (fz4271 156)) hM (Sm.tw (Sm.tw (Sm.tset Sm.rf ez4251 (by decide)) hSz4259 (by decide)) hSz4274 (by decide)) (Sm.at hSz4274 (by decide) (Sm.at hSz4259 (by decide) (zat_self ez4251 hM.1))) (c1_skip (c1_cons (hMMz4273.2 156 (by decide) (by decide)) (c1_cons (hMMz4273.2 157 (by decide) (by decide)) (c1_cons (hMMz4273.2 158 (by decide) (by decide)) (c1_cons (hMMz4273.2 159 (by decide) (by decide)) (c1_cons (hMMz4273.2 160 (by decide) (by decide)) (c1_cons (hMMz4273.2 161 (by decide) (by decide)) c1_nil))))))) (fs_k (fs_c (fs_c (fs_c (fs_c (fs_c (fs_c fs_n)))))))), Sm.tw (Sm.tw (Sm.tset Sm.rf ez4251 (by decide)) hSz4259 (by decide)) hSz4274 (by decide), fs_k (fs_c (fs_c (fs_c (fs_c (fs_c (fs_c fs_n)))))), ⟨hF.1, hSFz4276.2.1, hSFz4276.2.2.1, hSFz4276.2.2.2.1, hSFz4276.2.2.2.2.1, hSFz4276.2.2.2.2.2⟩, hSOz4277, fun _ => ⟨hBz4263, fun _ => ⟨hFlz4278, hFz4279, hi87.fin (by omega)⟩⟩⟩)
              · -- 91 to 94
                refine zw_n 2 rfl ?_
                refine zw_igeN (a := d9) (b := co kz4255) rfl rfl rfl (by omega) (by omega) (fun c98 => ?_) (fun c98 => ?_)
                · -- 98 to 109
                  refine zw_n 3 rfl ?_
                  refine zw_top (ns (a := d9) (b := co kz4255) rfl rfl (by omega)) ?_
                  refine zw_n 1 (ls' := [some (.ref 139), some (.int w), some (.int (nI kz4255)), some (.long (lN Fz4270)), none, some (.int (nI (co kz4255))), some (.int (nI b9)), some (.int (nI l9)), some (.int (nI d9)), some (.int (nI (d9 - (co kz4255))))]) rfl ?_
                  have hds9 : dst (co kz4255) d9 = d9 - (co kz4255) := by unfold dst; first | rw [if_pos (by omega)] | rw [if_neg (by omega)]
                  refine zw_n 3 rfl ?_
                  refine zw_topl (x' := (lN (Fz4270 / 2 ^ d9))) (lsr rfl rfl (Nat.lt_trans hFlz4278 (by decide)) (by omega)) ?_
                  refine zw_n 2 rfl ?_
                  refine zw_topl (lan (a := Fz4270 / 2 ^ d9) (b := 1) rfl rfl) ?_
                  refine zw_topl (x' := (lN (Fz4270 / 2 ^ d9 % 2))) (congrArg lN (Nat.and_one_is_mod _)) ?_
                  refine zw_n 2 rfl ?_
                  refine zw_lneN (a := Fz4270 / 2 ^ d9 % 2) (b := 1) rfl rfl rfl (by omega) (by omega) (fun c124 => ?_) (fun c124 => ?_)
                  · -- 124 to 142
                    have hb9 : Fz4270.testBit d9 = false := by rw [bit_and1] at c124; cases h9 : Fz4270.testBit d9 with | false => rfl | true => exact absurd (if_pos h9) c124
                    refine zw_inc rfl (x' := (nI (d9 + 1))) (ls' := [some (.ref 139), some (.int w), some (.int (nI kz4255)), some (.long (lN Fz4270)), none, some (.int (nI (co kz4255))), some (.int (nI b9)), some (.int (nI l9)), some (.int (nI (d9 + 1))), some (.int (nI (d9 - (co kz4255))))]) rfl (na (a := d9) (b := 1) rfl rfl) rfl ?_
                    refine zw_n 1 rfl ?_
                    refine zw_ls (ls' := [some (.ref 139), some (.int w), some (.int (nI kz4255)), some (.long (lN Fz4270)), none, some (.int (nI (co kz4255))), some (.int (nI b9)), some (.int (nI l9)), some (.int (nI (d9 + 1))), none]) ⟨Or.inr rfl, Or.inr rfl, Or.inr rfl, Or.inr rfl, Or.inl rfl, Or.inr rfl, Or.inr rfl, Or.inr rfl, Or.inr rfl, Or.inl rfl, trivial⟩ ?_
                    exact ih87 b9 l9 (d9 + 1) (hi87.no (by omega) (by first | exact Or.inl hb9 | exact Or.inr (by rw [hds9]; omega)) (hS.2.2.2 _)) (by omega)
                  · -- 124 to 127
                    have hb9 : Fz4270.testBit d9 = true := by rw [bit_and1] at c124; revert c124; split <;> simp_all
                    refine zw_n 2 rfl ?_
                    refine zw_igeN (a := d9 - (co kz4255)) (b := l9) rfl rfl rfl (by omega) (by omega) (fun c131 => ?_) (fun c131 => ?_)
                    · -- 131 to 142
                      refine zw_inc rfl (x' := (nI (d9 + 1))) (ls' := [some (.ref 139), some (.int w), some (.int (nI kz4255)), some (.long (lN Fz4270)), none, some (.int (nI (co kz4255))), some (.int (nI b9)), some (.int (nI l9)), some (.int (nI (d9 + 1))), some (.int (nI (d9 - (co kz4255))))]) rfl (na (a := d9) (b := 1) rfl rfl) rfl ?_
                      refine zw_n 1 rfl ?_
                      refine zw_ls (ls' := [some (.ref 139), some (.int w), some (.int (nI kz4255)), some (.long (lN Fz4270)), none, some (.int (nI (co kz4255))), some (.int (nI b9)), some (.int (nI l9)), some (.int (nI (d9 + 1))), none]) ⟨Or.inr rfl, Or.inr rfl, Or.inr rfl, Or.inr rfl, Or.inl rfl, Or.inr rfl, Or.inr rfl, Or.inr rfl, Or.inr rfl, Or.inl rfl, trivial⟩ ?_
                      exact ih87 b9 l9 (d9 + 1) (hi87.no (by omega) (by first | exact Or.inl hb9 | exact Or.inr (by rw [hds9]; omega)) (hS.2.2.2 _)) (by omega)
                    · -- 131 to 134
                      refine zw_n 4 (ls' := [some (.ref 139), some (.int w), some (.int (nI kz4255)), some (.long (lN Fz4270)), none, some (.int (nI (co kz4255))), some (.int (nI d9)), some (.int (nI (d9 - (co kz4255)))), some (.int (nI d9)), some (.int (nI (d9 - (co kz4255))))]) rfl ?_
                      refine zw_inc rfl (x' := (nI (d9 + 1))) (ls' := [some (.ref 139), some (.int w), some (.int (nI kz4255)), some (.long (lN Fz4270)), none, some (.int (nI (co kz4255))), some (.int (nI d9)), some (.int (nI (d9 - (co kz4255)))), some (.int (nI (d9 + 1))), some (.int (nI (d9 - (co kz4255))))]) rfl (na (a := d9) (b := 1) rfl rfl) rfl ?_
                      refine zw_n 1 rfl ?_
                      refine zw_ls (ls' := [some (.ref 139), some (.int w), some (.int (nI kz4255)), some (.long (lN Fz4270)), none, some (.int (nI (co kz4255))), some (.int (nI d9)), some (.int (nI (d9 - (co kz4255)))), some (.int (nI (d9 + 1))), none]) ⟨Or.inr rfl, Or.inr rfl, Or.inr rfl, Or.inr rfl, Or.inl rfl, Or.inr rfl, Or.inr rfl, Or.inr rfl, Or.inr rfl, Or.inl rfl, trivial⟩ ?_
                      exact ih87 d9 (d9 - (co kz4255)) (d9 + 1) ((by have h8 := hi87.yes (show d9 < 40 by omega) hb9 (by rw [hds9]; omega); rw [hds9] at h8; exact h8)) (by omega)
                · -- 98 to 101
                  refine zw_n 3 rfl ?_
                  refine zw_top (ns (a := co kz4255) (b := d9) rfl rfl (by omega)) ?_
                  refine zw_n 2 (ls' := [some (.ref 139), some (.int w), some (.int (nI kz4255)), some (.long (lN Fz4270)), none, some (.int (nI (co kz4255))), some (.int (nI b9)), some (.int (nI l9)), some (.int (nI d9)), some (.int (nI ((co kz4255) - d9)))]) rfl ?_
                  have hds9 : dst (co kz4255) d9 = (co kz4255) - d9 := by unfold dst; first | rw [if_pos (by omega)] | rw [if_neg (by omega)]
                  refine zw_n 3 rfl ?_
                  refine zw_topl (x' := (lN (Fz4270 / 2 ^ d9))) (lsr rfl rfl (Nat.lt_trans hFlz4278 (by decide)) (by omega)) ?_
                  refine zw_n 2 rfl ?_
                  refine zw_topl (lan (a := Fz4270 / 2 ^ d9) (b := 1) rfl rfl) ?_
                  refine zw_topl (x' := (lN (Fz4270 / 2 ^ d9 % 2))) (congrArg lN (Nat.and_one_is_mod _)) ?_
                  refine zw_n 2 rfl ?_
                  refine zw_lneN (a := Fz4270 / 2 ^ d9 % 2) (b := 1) rfl rfl rfl (by omega) (by omega) (fun c124 => ?_) (fun c124 => ?_)
                  · -- 124 to 142
                    have hb9 : Fz4270.testBit d9 = false := by rw [bit_and1] at c124; cases h9 : Fz4270.testBit d9 with | false => rfl | true => exact absurd (if_pos h9) c124
                    refine zw_inc rfl (x' := (nI (d9 + 1))) (ls' := [some (.ref 139), some (.int w), some (.int (nI kz4255)), some (.long (lN Fz4270)), none, some (.int (nI (co kz4255))), some (.int (nI b9)), some (.int (nI l9)), some (.int (nI (d9 + 1))), some (.int (nI ((co kz4255) - d9)))]) rfl (na (a := d9) (b := 1) rfl rfl) rfl ?_
                    refine zw_n 1 rfl ?_
                    refine zw_ls (ls' := [some (.ref 139), some (.int w), some (.int (nI kz4255)), some (.long (lN Fz4270)), none, some (.int (nI (co kz4255))), some (.int (nI b9)), some (.int (nI l9)), some (.int (nI (d9 + 1))), none]) ⟨Or.inr rfl, Or.inr rfl, Or.inr rfl, Or.inr rfl, Or.inl rfl, Or.inr rfl, Or.inr rfl, Or.inr rfl, Or.inr rfl, Or.inl rfl, trivial⟩ ?_
                    exact ih87 b9 l9 (d9 + 1) (hi87.no (by omega) (by first | exact Or.inl hb9 | exact Or.inr (by rw [hds9]; omega)) (hS.2.2.2 _)) (by omega)
                  · -- 124 to 127
                    have hb9 : Fz4270.testBit d9 = true := by rw [bit_and1] at c124; revert c124; split <;> simp_all
                    refine zw_n 2 rfl ?_
                    refine zw_igeN (a := (co kz4255) - d9) (b := l9) rfl rfl rfl (by omega) (by omega) (fun c131 => ?_) (fun c131 => ?_)
                    · -- 131 to 142
                      refine zw_inc rfl (x' := (nI (d9 + 1))) (ls' := [some (.ref 139), some (.int w), some (.int (nI kz4255)), some (.long (lN Fz4270)), none, some (.int (nI (co kz4255))), some (.int (nI b9)), some (.int (nI l9)), some (.int (nI (d9 + 1))), some (.int (nI ((co kz4255) - d9)))]) rfl (na (a := d9) (b := 1) rfl rfl) rfl ?_
                      refine zw_n 1 rfl ?_
                      refine zw_ls (ls' := [some (.ref 139), some (.int w), some (.int (nI kz4255)), some (.long (lN Fz4270)), none, some (.int (nI (co kz4255))), some (.int (nI b9)), some (.int (nI l9)), some (.int (nI (d9 + 1))), none]) ⟨Or.inr rfl, Or.inr rfl, Or.inr rfl, Or.inr rfl, Or.inl rfl, Or.inr rfl, Or.inr rfl, Or.inr rfl, Or.inr rfl, Or.inl rfl, trivial⟩ ?_
                      exact ih87 b9 l9 (d9 + 1) (hi87.no (by omega) (by first | exact Or.inl hb9 | exact Or.inr (by rw [hds9]; omega)) (hS.2.2.2 _)) (by omega)
                    · -- 131 to 134
                      refine zw_n 4 (ls' := [some (.ref 139), some (.int w), some (.int (nI kz4255)), some (.long (lN Fz4270)), none, some (.int (nI (co kz4255))), some (.int (nI d9)), some (.int (nI ((co kz4255) - d9))), some (.int (nI d9)), some (.int (nI ((co kz4255) - d9)))]) rfl ?_
                      refine zw_inc rfl (x' := (nI (d9 + 1))) (ls' := [some (.ref 139), some (.int w), some (.int (nI kz4255)), some (.long (lN Fz4270)), none, some (.int (nI (co kz4255))), some (.int (nI d9)), some (.int (nI ((co kz4255) - d9))), some (.int (nI (d9 + 1))), some (.int (nI ((co kz4255) - d9)))]) rfl (na (a := d9) (b := 1) rfl rfl) rfl ?_
                      refine zw_n 1 rfl ?_
                      refine zw_ls (ls' := [some (.ref 139), some (.int w), some (.int (nI kz4255)), some (.long (lN Fz4270)), none, some (.int (nI (co kz4255))), some (.int (nI d9)), some (.int (nI ((co kz4255) - d9))), some (.int (nI (d9 + 1))), none]) ⟨Or.inr rfl, Or.inr rfl, Or.inr rfl, Or.inr rfl, Or.inl rfl, Or.inr rfl, Or.inr rfl, Or.inr rfl, Or.inr rfl, Or.inl rfl, trivial⟩ ?_
                      exact ih87 d9 ((co kz4255) - d9) (d9 + 1) ((by have h8 := hi87.yes (show d9 < 40 by omega) hb9 (by rw [hds9]; omega); rw [hds9] at h8; exact h8)) (by omega)
          exact lp87 _ NO 40 0 (⟨by decide, Or.inl ⟨rfl, rfl, fun e he => absurd he (Nat.not_lt_zero _)⟩⟩) (Nat.lt_succ_self _)
        · -- 57 to 60
          refine zw_n 1 rfl ?_
          refine zw_callS (as := [.long (lN Fz4270)]) (rest := []) rfl rfl rfl rfl rfl rfl (by decide) (m_ones _ _ hFlz4278) (fun rz4283 Mz4284 hz4285 => ?_)
          rw [hz4285.1, hz4285.2]
          show Zw 9 zm_MO_hint 64 [some (.ref 139), some (.int w), some (.int (nI kz4255)), some (.long (lN Fz4270)), none, none, none, none, none, none] [.int (nI (bc Fz4270))] Mz4281 _
          refine zw_iret rfl rfl ?_
          obtain ⟨v9, hv9⟩ := NrS.ex Fz4270 (co kz4255)
          exact ⟨kz4255, Fz4270, v9, fset (fset (fset (fset (fset (fset f 161 (fz4271 161)) 160 (fz4271 160)) 159 (fz4271 159)) 158 (fz4271 158)) 157 (fz4271 157)) 156 (fz4271 156), by rw [if_neg (by rw [c57]; decide), if_pos (show w = nI 1 from c57), if_neg (fun q9 => q9.elim c26 c34)], (MM.of (o' := up o 0 0) (f' := fset (fset (fset (fset (fset (fset f 161 (fz4271 161)) 160 (fz4271 160)) 159 (fz4271 159)) 158 (fz4271 158)) 157 (fz4271 157)) 156 (fz4271 156)) hM (Sm.tw (Sm.tw (Sm.tset Sm.rf ez4251 (by decide)) hSz4259 (by decide)) hSz4274 (by decide)) (Sm.at hSz4274 (by decide) (Sm.at hSz4259 (by decide) (zat_self ez4251 hM.1))) (c1_skip (c1_cons (hMMz4273.2 156 (by decide) (by decide)) (c1_cons (hMMz4273.2 157 (by decide) (by decide)) (c1_cons (hMMz4273.2 158 (by decide) (by decide)) (c1_cons (hMMz4273.2 159 (by decide) (by decide)) (c1_cons (hMMz4273.2 160 (by decide) (by decide)) (c1_cons (hMMz4273.2 161 (by decide) (by decide)) c1_nil))))))) (fs_k (fs_c (fs_c (fs_c (fs_c (fs_c (fs_c fs_n)))))))), Sm.tw (Sm.tw (Sm.tset Sm.rf ez4251 (by decide)) hSz4259 (by decide)) hSz4274 (by decide), fs_k (fs_c (fs_c (fs_c (fs_c (fs_c (fs_c fs_n)))))), ⟨hF.1, hSFz4276.2.1, hSFz4276.2.2.1, hSFz4276.2.2.2.1, hSFz4276.2.2.2.2.1, hSFz4276.2.2.2.2.2⟩, hSOz4277, fun _ => ⟨hBz4263, fun _ => ⟨hFlz4278, hFz4279, hv9⟩⟩⟩
      · -- 34 to 37
        refine zw_n 1 rfl ?_
        exact zw_iret rfl rfl (⟨kz4255, 0, 0, fset (fset (fset (fset (fset (fset f 161 (fz4256 161)) 160 (fz4256 160)) 159 (fz4256 159)) 158 (fz4256 158)) 157 (fz4256 157)) 156 (fz4256 156), by rcases w01 (ite_ne c12) with q9 | q9; (rw [if_pos q9, if_pos (by first | exact Or.inl c26 | exact Or.inr c34)]); (rw [if_neg (by rw [q9]; decide), if_pos q9, if_pos (by first | exact Or.inl c26 | exact Or.inr c34)]), (MM.of (o' := up o 0 0) (f' := fset (fset (fset (fset (fset (fset f 161 (fz4256 161)) 160 (fz4256 160)) 159 (fz4256 159)) 158 (fz4256 158)) 157 (fz4256 157)) 156 (fz4256 156)) hM (Sm.tw (Sm.tset Sm.rf ez4251 (by decide)) hSz4259 (by decide)) (Sm.at hSz4259 (by decide) (zat_self ez4251 hM.1)) (c1_skip (c1_cons (hMMz4258.2 156 (by decide) (by decide)) (c1_cons (hMMz4258.2 157 (by decide) (by decide)) (c1_cons (hMMz4258.2 158 (by decide) (by decide)) (c1_cons (hMMz4258.2 159 (by decide) (by decide)) (c1_cons (hMMz4258.2 160 (by decide) (by decide)) (c1_cons (hMMz4258.2 161 (by decide) (by decide)) c1_nil))))))) (fs_k (fs_c (fs_c (fs_c (fs_c (fs_c (fs_c fs_n)))))))), Sm.tw (Sm.tset Sm.rf ez4251 (by decide)) hSz4259 (by decide), fs_k (fs_c (fs_c (fs_c (fs_c (fs_c (fs_c fs_n)))))), ⟨hF.1, hSFz4261.2.1, hSFz4261.2.2.1, hSFz4261.2.2.2.1, hSFz4261.2.2.2.2.1, hSFz4261.2.2.2.2.2⟩, hSOz4262, fun _ => ⟨hBz4263, fun q9 => by first | omega | (rw [c26] at q9; unfold NO at q9; omega)⟩⟩)
