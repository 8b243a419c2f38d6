/-! MORE ROWS: numbers, longs, stores of numbers, switches, built-in methods -/
section ZR2
variable {d : Nat} {y : zY} {pc nx : Nat} {ls : zL} {st : List Value} {M : zM} {post : Option Value → zM → Prop} {ax : List Nat} {cI : Int32} {z : Int64}
theorem nsc {x c : Int32} {a n : Nat} (hc : c = -nI n) (hx : x = nI a) (h : n ≤ a) : x + c = nI (a - n) := by rw [hc, hx, ← pk_sub h, Int32.sub_eq_add_neg]
theorem zw_inc {k : Nat} {off : Int} {x x' : Int32} {ls' : zL} (h : z_at y.2.2.2.2.2 pc = some (.iinc k off, nx, ax, cI, z)) (hl : ls[k]? = some (some (.int x))) (hx : x + cI = x') (hls : z_s1 ls k (.int x') = ls') (kk : Zw d y nx ls' st M post) : Zw d y pc ls st M post := by
  refine zw_1 ?_ kk
  subst hls; subst hx
  unfold z_st
  rw [h]
  simp only
  have e : z_ldi ls k = some x := by unfold z_ldi; rw [hl]
  have hk : k < ls.length := (List.getElem?_eq_some_iff.mp hl).1
  show z_iinc nx ls st k cI = _
  unfold z_iinc
  rw [e]
  simp only
  rw [show Nat.blt k ls.length = true from Nat.ble_eq_true_of_le hk]
  rfl
theorem z_nlt0 {a : Nat} (h : a < 2147483648) : ¬ nI a < 0 := nI_pos h
theorem zw_lt0N {off : Int} {tgt a : Nat} {x : Int32} (h : z_at y.2.2.2.2.2 pc = some (.ifCond .lt off, nx, tgt :: ax, cI, z)) (hx : x = nI a) (ha : a < 2147483648) (h2 : Zw d y nx ls st M post) : Zw d y pc ls (.int x :: st) M post := by
  subst hx
  exact zw_lt0 h (fun q => absurd q (nI_pos ha)) (fun _ => h2)
theorem zw_ge0N {off : Int} {tgt a : Nat} {x : Int32} (h : z_at y.2.2.2.2.2 pc = some (.ifCond .ge off, nx, tgt :: ax, cI, z)) (hx : x = nI a) (ha : a < 2147483648) (h2 : Zw d y tgt ls st M post) : Zw d y pc ls (.int x :: st) M post := by
  subst hx
  exact zw_ge0 h (fun _ => h2) (fun q => absurd (nI_pos' ha) q)
theorem z_eq0 {a : Nat} (h : a < 2147483648) : nI a = 0 ↔ a = 0 := by
  rw [show (0 : Int32) = nI 0 from rfl]
  exact nI_eq h (by decide)
theorem zw_eq0N {off : Int} {tgt a : Nat} {x : Int32} (h : z_at y.2.2.2.2.2 pc = some (.ifCond .eq off, nx, tgt :: ax, cI, z)) (hx : x = nI a) (ha : a < 2147483648) (h1 : a = 0 → Zw d y tgt ls st M post) (h2 : ¬ a = 0 → Zw d y nx ls st M post) : Zw d y pc ls (.int x :: st) M post := by
  subst hx
  exact zw_eq0 h (fun q => h1 ((z_eq0 ha).mp q)) (fun q => h2 (fun e => q ((z_eq0 ha).mpr e)))
theorem zw_ne0N {off : Int} {tgt a : Nat} {x : Int32} (h : z_at y.2.2.2.2.2 pc = some (.ifCond .ne off, nx, tgt :: ax, cI, z)) (hx : x = nI a) (ha : a < 2147483648) (h1 : ¬ a = 0 → Zw d y tgt ls st M post) (h2 : a = 0 → Zw d y nx ls st M post) : Zw d y pc ls (.int x :: st) M post := by
  subst hx
  exact zw_ne0 h (fun q => h1 (fun e => q ((z_eq0 ha).mpr e))) (fun q => h2 ((z_eq0 ha).mp q))
theorem zw_gt0N {off : Int} {tgt a : Nat} {x : Int32} (h : z_at y.2.2.2.2.2 pc = some (.ifCond .gt off, nx, tgt :: ax, cI, z)) (hx : x = nI a) (ha : a < 2147483648) (h1 : 0 < a → Zw d y tgt ls st M post) (h2 : a = 0 → Zw d y nx ls st M post) : Zw d y pc ls (.int x :: st) M post := by
  subst hx
  refine zw_gt0 h (fun q => h1 ?_) (fun q => h2 ?_)
  · exact (nI_ltI (a := 0) (by decide) ha).mp q
  · rcases Nat.eq_zero_or_pos a with e | e
    · exact e
    · exact absurd ((nI_ltI (a := 0) (by decide) ha).mpr e) q
theorem zw_le0N {off : Int} {tgt a : Nat} {x : Int32} (h : z_at y.2.2.2.2.2 pc = some (.ifCond .le off, nx, tgt :: ax, cI, z)) (hx : x = nI a) (ha : a < 2147483648) (h1 : a = 0 → Zw d y tgt ls st M post) (h2 : 0 < a → Zw d y nx ls st M post) : Zw d y pc ls (.int x :: st) M post := by
  subst hx
  refine zw_le0 h (fun q => h1 ?_) (fun q => h2 ?_)
  · have := (nI_leI (b := 0) ha (by decide)).mp q
    omega
  · rcases Nat.eq_zero_or_pos a with e | e
    · subst e
      exact absurd (nI_pos' (n := 0) (by decide)) q
    · exact e
theorem z_none {a : Nat} (h : a < 4294967296) : nI a = -1 ↔ a = 4294967295 := by
  constructor
  · intro q
    have h1 : (nI a).toBitVec.toNat = (-1 : Int32).toBitVec.toNat := by rw [q]
    rw [pk_tn h] at h1
    rw [h1]
    decide
  · intro q
    rw [q]
    decide
theorem zw_ieqM {off : Int} {tgt a : Nat} {x : Int32} (h : z_at y.2.2.2.2.2 pc = some (.if_icmp .eq off, nx, tgt :: ax, cI, z)) (hx : x = nI a) (ha : a < 4294967296) (h1 : a = 4294967295 → Zw d y tgt ls st M post) (h2 : ¬ a = 4294967295 → Zw d y nx ls st M post) : Zw d y pc ls (.int (-1) :: .int x :: st) M post := by
  subst hx
  exact zw_ieq h (fun q => h1 ((z_none ha).mp q)) (fun q => h2 (fun e => q ((z_none ha).mpr e)))
theorem zw_ineM {off : Int} {tgt a : Nat} {x : Int32} (h : z_at y.2.2.2.2.2 pc = some (.if_icmp .ne off, nx, tgt :: ax, cI, z)) (hx : x = nI a) (ha : a < 4294967296) (h1 : ¬ a = 4294967295 → Zw d y tgt ls st M post) (h2 : a = 4294967295 → Zw d y nx ls st M post) : Zw d y pc ls (.int (-1) :: .int x :: st) M post := by
  subst hx
  exact zw_ine h (fun q => h1 (fun e => q ((z_none ha).mpr e))) (fun q => h2 ((z_none ha).mp q))
/-! longs -/
theorem z_lc0 (x v : Int64) : lg_cmp x v = 0 ↔ x = v := lg_cmp_eq x v
theorem z_lclt (x v : Int64) : lg_cmp x v < 0 ↔ x < v := lg_cmp_lt x v
theorem z_lcgt (x v : Int64) : 0 < lg_cmp x v ↔ v < x := lg_cmp_gt x v
theorem zw_leq {off : Int} {tgt : Nat} {x v : Int64} (h : z_at y.2.2.2.2.2 pc = some (.ifCond .eq off, nx, tgt :: ax, cI, z)) (h1 : x = v → Zw d y tgt ls st M post) (h2 : ¬ x = v → Zw d y nx ls st M post) : Zw d y pc ls (.int (lg_cmp x v) :: st) M post := zw_eq0 h (fun q => h1 ((z_lc0 x v).mp q)) (fun q => h2 (fun e => q ((z_lc0 x v).mpr e)))
theorem zw_lne {off : Int} {tgt : Nat} {x v : Int64} (h : z_at y.2.2.2.2.2 pc = some (.ifCond .ne off, nx, tgt :: ax, cI, z)) (h1 : ¬ x = v → Zw d y tgt ls st M post) (h2 : x = v → Zw d y nx ls st M post) : Zw d y pc ls (.int (lg_cmp x v) :: st) M post := zw_ne0 h (fun q => h1 (fun e => q ((z_lc0 x v).mpr e))) (fun q => h2 ((z_lc0 x v).mp q))
theorem zw_leqN {off : Int} {tgt a b : Nat} {x v : Int64} (h : z_at y.2.2.2.2.2 pc = some (.ifCond .eq off, nx, tgt :: ax, cI, z)) (hx : x = lN a) (hv : v = lN b) (ha : a < 9223372036854775808) (hb : b < 9223372036854775808) (h1 : a = b → Zw d y tgt ls st M post) (h2 : ¬ a = b → Zw d y nx ls st M post) : Zw d y pc ls (.int (lg_cmp x v) :: st) M post := by
  subst hx; subst hv
  exact zw_leq h (fun q => h1 ((pk_lEQ ha hb).mp q)) (fun q => h2 (fun e => q (by rw [e])))
theorem zw_lneN {off : Int} {tgt a b : Nat} {x v : Int64} (h : z_at y.2.2.2.2.2 pc = some (.ifCond .ne off, nx, tgt :: ax, cI, z)) (hx : x = lN a) (hv : v = lN b) (ha : a < 9223372036854775808) (hb : b < 9223372036854775808) (h1 : ¬ a = b → Zw d y tgt ls st M post) (h2 : a = b → Zw d y nx ls st M post) : Zw d y pc ls (.int (lg_cmp x v) :: st) M post := by
  subst hx; subst hv
  exact zw_lne h (fun q => h1 (fun e => q (by rw [e]))) (fun q => h2 ((pk_lEQ ha hb).mp q))
theorem zw_llt {off : Int} {tgt : Nat} {x v : Int64} (h : z_at y.2.2.2.2.2 pc = some (.ifCond .lt off, nx, tgt :: ax, cI, z)) (h1 : x < v → Zw d y tgt ls st M post) (h2 : ¬ x < v → Zw d y nx ls st M post) : Zw d y pc ls (.int (lg_cmp x v) :: st) M post := zw_lt0 h (fun q => h1 ((z_lclt x v).mp q)) (fun q => h2 (fun e => q ((z_lclt x v).mpr e)))
theorem zw_lge {off : Int} {tgt : Nat} {x v : Int64} (h : z_at y.2.2.2.2.2 pc = some (.ifCond .ge off, nx, tgt :: ax, cI, z)) (h1 : ¬ x < v → Zw d y tgt ls st M post) (h2 : x < v → Zw d y nx ls st M post) : Zw d y pc ls (.int (lg_cmp x v) :: st) M post := zw_ge0 h (fun q => h1 (fun e => absurd ((z_lclt x v).mpr e) (Int32.not_lt.mpr q))) (fun q => h2 ((z_lclt x v).mp (Int32.not_le.mp q)))
theorem zw_lgt {off : Int} {tgt : Nat} {x v : Int64} (h : z_at y.2.2.2.2.2 pc = some (.ifCond .gt off, nx, tgt :: ax, cI, z)) (h1 : v < x → Zw d y tgt ls st M post) (h2 : ¬ v < x → Zw d y nx ls st M post) : Zw d y pc ls (.int (lg_cmp x v) :: st) M post := zw_gt0 h (fun q => h1 ((z_lcgt x v).mp q)) (fun q => h2 (fun e => q ((z_lcgt x v).mpr e)))
theorem zw_lle {off : Int} {tgt : Nat} {x v : Int64} (h : z_at y.2.2.2.2.2 pc = some (.ifCond .le off, nx, tgt :: ax, cI, z)) (h1 : ¬ v < x → Zw d y tgt ls st M post) (h2 : v < x → Zw d y nx ls st M post) : Zw d y pc ls (.int (lg_cmp x v) :: st) M post := zw_le0 h (fun q => h1 (fun e => absurd ((z_lcgt x v).mpr e) (Int32.not_lt.mpr q))) (fun q => h2 ((z_lcgt x v).mp (Int32.not_le.mp q)))
theorem lan {x v : Int64} {a b : Nat} (h1 : x = lN a) (h2 : v = lN b) : x &&& v = lN (a &&& b) := by
  rw [h1, h2]
  apply Int64.toBitVec_inj.mp
  rw [Int64.toBitVec_and]
  show BitVec.ofNat 64 a &&& BitVec.ofNat 64 b = BitVec.ofNat 64 (a &&& b)
  rw [BitVec.ofNat_and]
theorem lo {x v : Int64} {a b : Nat} (h1 : x = lN a) (h2 : v = lN b) : x ||| v = lN (a ||| b) := by
  rw [h1, h2]
  apply Int64.toBitVec_inj.mp
  rw [Int64.toBitVec_or]
  show BitVec.ofNat 64 a ||| BitVec.ofNat 64 b = BitVec.ofNat 64 (a ||| b)
  rw [BitVec.ofNat_or]
/-! stores of numbers -/
theorem zw_iastN {a n j v : Nat} {g : Nat → Nat} {i x : Int32} (h : z_at y.2.2.2.2.2 pc = some (.iastore, nx, ax, cI, z)) (hM : M[a]? = some (.inl (0, n, .inl (ai g)))) (hi : i = nI j) (hn : n < 2147483648) (hj : j < n) (hx : x = nI v) (kk : Zw d y nx ls st (M.set a (.inl (0, n, .inl (ai (up g j v))))) post) : Zw d y pc ls (.int x :: .int i :: .ref a :: st) M post := by
  subst hx
  refine zw_iast h hM hi hn hj ?_
  rw [ai_upd]
  exact kk
theorem zw_lastN {a n j v : Nat} {g : Nat → Nat} {i : Int32} {x : Int64} (h : z_at y.2.2.2.2.2 pc = some (.lastore, nx, ax, cI, z)) (hM : M[a]? = some (.inl (1, n, .inr (.inl (al g))))) (hi : i = nI j) (hn : n < 2147483648) (hj : j < n) (hx : x = lN v) (kk : Zw d y nx ls st (M.set a (.inl (1, n, .inr (.inl (al (up g j v)))))) post) : Zw d y pc ls (.long x :: .int i :: .ref a :: st) M post := by
  subst hx
  refine zw_last h hM hi hn hj ?_
  rw [al_upd]
  exact kk
theorem zw_zastN {a n j v : Nat} {g : Nat → Nat} {i x : Int32} (h : z_at y.2.2.2.2.2 pc = some (.bastore, nx, ax, cI, z)) (hM : M[a]? = some (.inl (3, n, .inl (ai g)))) (hi : i = nI j) (hn : n < 2147483648) (hj : j < n) (hx : x = nI v) (hv : v ≤ 1) (kk : Zw d y nx ls st (M.set a (.inl (3, n, .inl (ai (up g j v))))) post) : Zw d y pc ls (.int x :: .int i :: .ref a :: st) M post := by
  subst hx
  refine zw_zast h hM hi hn hj ?_ ?_
  · rcases (show v = 0 ∨ v = 1 by omega) with rfl | rfl
    · exact Or.inl rfl
    · exact Or.inr rfl
  · rw [ai_upd]
    exact kk
theorem zw_bastN {a n j v : Nat} {g : Nat → Nat} {i x : Int32} (h : z_at y.2.2.2.2.2 pc = some (.bastore, nx, ax, cI, z)) (hM : M[a]? = some (.inl (2, n, .inl (ai g)))) (hi : i = nI j) (hn : n < 2147483648) (hj : j < n) (hx : vp_nar .byte x = nI v) (kk : Zw d y nx ls st (M.set a (.inl (2, n, .inl (ai (up g j v))))) post) : Zw d y pc ls (.int x :: .int i :: .ref a :: st) M post := by
  refine zw_bast h hM hi hn hj ?_
  rw [hx, ai_upd]
  exact kk
/-! switches -/
theorem zw_sw {dd lo hi : Int} {offs : Array Int} {t : Nat} {ts : List Nat} {x : Int32} (h : z_at y.2.2.2.2.2 pc = some (.tableswitch dd lo hi offs, nx, t :: ts, cI, z)) (k1 : ∀ k, k < ts.length → x = nI k → Zw d y (ts.getD k t) ls st M post) (k2 : (∀ k, k < ts.length → ¬ x = nI k) → Zw d y t ls st M post) (hl : ts.length < 1000 := by decide) : Zw d y pc ls (.int x :: st) M post := by
  have e : z_st y pc ls (.int x :: st) = some (z_swt ts t x, ls, st) := by
    unfold z_st
    rw [h]
    rfl
  refine zw_1 e ?_
  unfold z_swt
  refine zw_ite (fun q => k2 (fun k hk e => ?_)) (fun q => ?_)
  · rw [e, nI_toInt (by omega)] at q
    omega
  · have h0 : x.toInt = ((x.toInt.toNat : Nat) : Int) := by omega
    refine k1 x.toInt.toNat (by omega) (Int32.toInt_inj.mp ?_)
    rw [nI_toInt (by omega)]
    exact h0
theorem zw_lsw {dd : Int} {ps : Array (Int × Int)} {t : Nat} {ts : List Nat} {x : Int32} (h : z_at y.2.2.2.2.2 pc = some (.lookupswitch dd ps, nx, t :: ts, cI, z)) (k : Zw d y (z_lkt ts t x) ls st M post) : Zw d y pc ls (.int x :: st) M post := by
  have e : z_st y pc ls (.int x :: st) = some (z_lkt ts t x, ls, st) := by
    unfold z_st
    rw [h]
    rfl
  exact zw_1 e k
/-! built-in methods -/
theorem zw_max {ix : Nat} {x v : Int32} (h : z_at y.2.2.2.2.2 pc = some (.invokestatic ix, nx, 3 :: ax, cI, z)) (hd : 0 < d) (hc : Nat.ble (z_cat st) 8 = true) (kk : Zw d y nx ls (.int (if x < v then v else x) :: st) M post) : Zw d y pc ls (.int v :: .int x :: st) M post := by
  match d, hd with
  | d + 1, _ =>
    refine zw_m h rfl ?_ kk
    show z_max (.int v :: .int x :: st) M = _
    unfold z_max
    simp only
    rw [hc]
    rfl
theorem zw_min {ix : Nat} {x v : Int32} (h : z_at y.2.2.2.2.2 pc = some (.invokestatic ix, nx, 4 :: ax, cI, z)) (hd : 0 < d) (hc : Nat.ble (z_cat st) 8 = true) (kk : Zw d y nx ls (.int (if v < x then v else x) :: st) M post) : Zw d y pc ls (.int v :: .int x :: st) M post := by
  match d, hd with
  | d + 1, _ =>
    refine zw_m h rfl ?_ kk
    show z_min (.int v :: .int x :: st) M = _
    unfold z_min
    simp only
    rw [hc]
    rfl
theorem zw_maxN {ix a b : Nat} {x v : Int32} (h : z_at y.2.2.2.2.2 pc = some (.invokestatic ix, nx, 3 :: ax, cI, z)) (hd : 0 < d) (hc : Nat.ble (z_cat st) 8 = true) (hx : x = nI a) (hv : v = nI b) (ha : a < 2147483648) (hb : b < 2147483648) (kk : Zw d y nx ls (.int (nI (max a b)) :: st) M post) : Zw d y pc ls (.int v :: .int x :: st) M post := by
  subst hx; subst hv
  refine zw_max h hd hc ?_
  have e : (if nI a < nI b then nI b else nI a) = nI (max a b) := by
    by_cases q : a < b
    · rw [if_pos ((nI_ltI ha hb).mpr q), Nat.max_eq_right (by omega)]
    · rw [if_neg (fun r => q ((nI_ltI ha hb).mp r)), Nat.max_eq_left (by omega)]
  rw [e]
  exact kk
theorem zw_minN {ix a b : Nat} {x v : Int32} (h : z_at y.2.2.2.2.2 pc = some (.invokestatic ix, nx, 4 :: ax, cI, z)) (hd : 0 < d) (hc : Nat.ble (z_cat st) 8 = true) (hx : x = nI a) (hv : v = nI b) (ha : a < 2147483648) (hb : b < 2147483648) (kk : Zw d y nx ls (.int (nI (min a b)) :: st) M post) : Zw d y pc ls (.int v :: .int x :: st) M post := by
  subst hx; subst hv
  refine zw_min h hd hc ?_
  have e : (if nI b < nI a then nI b else nI a) = nI (min a b) := by
    by_cases q : b < a
    · rw [if_pos ((nI_ltI hb ha).mpr q), Nat.min_eq_right (by omega)]
    · rw [if_neg (fun r => q ((nI_ltI hb ha).mp r)), Nat.min_eq_left (by omega)]
  rw [e]
  exact kk
theorem zw_cpyi {ix a0 a1 n0 n1 n sp dp : Nat} {f g : Nat → Int32} {xn xs xd : Int32} (h : z_at y.2.2.2.2.2 pc = some (.invokestatic ix, nx, 2 :: ax, cI, z)) (hd : 0 < d) (hM0 : M[a0]? = some (.inl (0, n0, .inl f))) (hM1 : M[a1]? = some (.inl (0, n1, .inl g))) (hn : xn = nI n) (hs : xs = nI sp) (hdp : xd = nI dp) (b0 : sp + n ≤ n0) (b1 : dp + n ≤ n1) (hc : Nat.ble (z_cat st) 8 = true) (kk : Zw d y nx ls st (M.set a1 (.inl (0, n1, .inl (z_cp f g sp dp n n1)))) post) (q0 : n0 < 2147483648 := by decide) (q1 : n1 < 2147483648 := by decide) : Zw d y pc ls (.int xn :: .int xd :: .ref a1 :: .int xs :: .ref a0 :: st) M post := by
  subst hn; subst hs; subst hdp
  match d, hd with
  | d + 1, _ =>
    refine zw_m h rfl ?_ kk
    show z_cpy (.int (nI n) :: .int (nI dp) :: .ref a1 :: .int (nI sp) :: .ref a0 :: st) M = _
    unfold z_cpy
    simp only
    rw [hc, cond_true, hM0, hM1]
    simp only
    rw [nI_clamp (show n < 2 ^ 31 by omega), nI_clamp (show sp < 2 ^ 31 by omega), nI_clamp (show dp < 2 ^ 31 by omega), if_neg]
    · rfl
    · rintro (q | q | q | q | q)
      · exact nI_pos (show sp < 2 ^ 31 by omega) q
      · exact nI_pos (show dp < 2 ^ 31 by omega) q
      · exact nI_pos (show n < 2 ^ 31 by omega) q
      · omega
      · omega
theorem zw_cpyl {ix a0 a1 n0 n1 n sp dp : Nat} {f g : Nat → Int64} {xn xs xd : Int32} (h : z_at y.2.2.2.2.2 pc = some (.invokestatic ix, nx, 2 :: ax, cI, z)) (hd : 0 < d) (hM0 : M[a0]? = some (.inl (1, n0, .inr (.inl f)))) (hM1 : M[a1]? = some (.inl (1, n1, .inr (.inl g)))) (hn : xn = nI n) (hs : xs = nI sp) (hdp : xd = nI dp) (b0 : sp + n ≤ n0) (b1 : dp + n ≤ n1) (hc : Nat.ble (z_cat st) 8 = true) (kk : Zw d y nx ls st (M.set a1 (.inl (1, n1, .inr (.inl (z_cp f g sp dp n n1))))) post) (q0 : n0 < 2147483648 := by decide) (q1 : n1 < 2147483648 := by decide) : Zw d y pc ls (.int xn :: .int xd :: .ref a1 :: .int xs :: .ref a0 :: st) M post := by
  subst hn; subst hs; subst hdp
  match d, hd with
  | d + 1, _ =>
    refine zw_m h rfl ?_ kk
    show z_cpy (.int (nI n) :: .int (nI dp) :: .ref a1 :: .int (nI sp) :: .ref a0 :: st) M = _
    unfold z_cpy
    simp only
    rw [hc, cond_true, hM0, hM1]
    simp only
    rw [nI_clamp (show n < 2 ^ 31 by omega), nI_clamp (show sp < 2 ^ 31 by omega), nI_clamp (show dp < 2 ^ 31 by omega), if_neg]
    · rfl
    · rintro (q | q | q | q | q)
      · exact nI_pos (show sp < 2 ^ 31 by omega) q
      · exact nI_pos (show dp < 2 ^ 31 by omega) q
      · exact nI_pos (show n < 2 ^ 31 by omega) q
      · omega
      · omega
theorem z_cp_all {α : Type} (f g : Nat → α) (n : Nat) : z_cp f g 0 0 n n = f := by
  funext k
  unfold z_cp
  rw [if_pos ⟨Nat.zero_le _, by omega⟩]
  congr 1
  omega
theorem ai_cp (f g : Nat → Nat) (sp dp n n1 : Nat) : z_cp (ai f) (ai g) sp dp n n1 = ai (z_cp f g sp dp n n1) := by
  funext k
  unfold z_cp ai
  simp only
  split <;> rfl
theorem al_cp (f g : Nat → Nat) (sp dp n n1 : Nat) : z_cp (al f) (al g) sp dp n n1 = al (z_cp f g sp dp n n1) := by
  funext k
  unfold z_cp al
  simp only
  split <;> rfl
end ZR2
/-! whole numbers -/
section ZR3
variable {d : Nat} {y : zY} {pc nx : Nat} {ls : zL} {st : List Value} {M : zM} {post : Option Value → zM → Prop} {ax : List Nat} {cI : Int32} {z : Int64}
theorem zw_iltZ {off : Int} {tgt : Nat} {a b : Int} {x v : Int32} (h : z_at y.2.2.2.2.2 pc = some (.if_icmp .lt off, nx, tgt :: ax, cI, z)) (hx : x.toInt = a) (hv : v.toInt = b) (h1 : a < b → Zw d y tgt ls st M post) (h2 : b ≤ a → Zw d y nx ls st M post) : Zw d y pc ls (.int v :: .int x :: st) M post := by
  subst hx; subst hv
  exact zw_ilt h (fun q => h1 (Int32.lt_iff_toInt_lt.mp q)) (fun q => h2 (Int32.le_iff_toInt_le.mp (Int32.not_lt.mp q)))
theorem zw_igeZ {off : Int} {tgt : Nat} {a b : Int} {x v : Int32} (h : z_at y.2.2.2.2.2 pc = some (.if_icmp .ge off, nx, tgt :: ax, cI, z)) (hx : x.toInt = a) (hv : v.toInt = b) (h1 : b ≤ a → Zw d y tgt ls st M post) (h2 : a < b → Zw d y nx ls st M post) : Zw d y pc ls (.int v :: .int x :: st) M post := by
  subst hx; subst hv
  exact zw_ige h (fun q => h1 (Int32.le_iff_toInt_le.mp q)) (fun q => h2 (Int32.lt_iff_toInt_lt.mp (Int32.not_le.mp q)))
theorem zw_igtZ {off : Int} {tgt : Nat} {a b : Int} {x v : Int32} (h : z_at y.2.2.2.2.2 pc = some (.if_icmp .gt off, nx, tgt :: ax, cI, z)) (hx : x.toInt = a) (hv : v.toInt = b) (h1 : b < a → Zw d y tgt ls st M post) (h2 : a ≤ b → Zw d y nx ls st M post) : Zw d y pc ls (.int v :: .int x :: st) M post := by
  subst hx; subst hv
  exact zw_igt h (fun q => h1 (Int32.lt_iff_toInt_lt.mp q)) (fun q => h2 (Int32.le_iff_toInt_le.mp (Int32.not_lt.mp q)))
theorem zw_ileZ {off : Int} {tgt : Nat} {a b : Int} {x v : Int32} (h : z_at y.2.2.2.2.2 pc = some (.if_icmp .le off, nx, tgt :: ax, cI, z)) (hx : x.toInt = a) (hv : v.toInt = b) (h1 : a ≤ b → Zw d y tgt ls st M post) (h2 : b < a → Zw d y nx ls st M post) : Zw d y pc ls (.int v :: .int x :: st) M post := by
  subst hx; subst hv
  exact zw_ile h (fun q => h1 (Int32.le_iff_toInt_le.mp q)) (fun q => h2 (Int32.lt_iff_toInt_lt.mp (Int32.not_le.mp q)))
theorem zw_ieqZ {off : Int} {tgt : Nat} {a b : Int} {x v : Int32} (h : z_at y.2.2.2.2.2 pc = some (.if_icmp .eq off, nx, tgt :: ax, cI, z)) (hx : x.toInt = a) (hv : v.toInt = b) (h1 : a = b → Zw d y tgt ls st M post) (h2 : ¬ a = b → Zw d y nx ls st M post) : Zw d y pc ls (.int v :: .int x :: st) M post := by
  subst hx; subst hv
  exact zw_ieq h (fun q => h1 (by rw [q])) (fun q => h2 (fun e => q (Int32.toInt_inj.mp e)))
theorem zw_ineZ {off : Int} {tgt : Nat} {a b : Int} {x v : Int32} (h : z_at y.2.2.2.2.2 pc = some (.if_icmp .ne off, nx, tgt :: ax, cI, z)) (hx : x.toInt = a) (hv : v.toInt = b) (h1 : ¬ a = b → Zw d y tgt ls st M post) (h2 : a = b → Zw d y nx ls st M post) : Zw d y pc ls (.int v :: .int x :: st) M post := by
  subst hx; subst hv
  exact zw_ine h (fun q => h1 (fun e => q (Int32.toInt_inj.mp e))) (fun q => h2 (by rw [q]))
theorem z_0I : (0 : Int32).toInt = 0 := by decide
theorem zw_lt0Z {off : Int} {tgt : Nat} {a : Int} {x : Int32} (h : z_at y.2.2.2.2.2 pc = some (.ifCond .lt off, nx, tgt :: ax, cI, z)) (hx : x.toInt = a) (h1 : a < 0 → Zw d y tgt ls st M post) (h2 : 0 ≤ a → Zw d y nx ls st M post) : Zw d y pc ls (.int x :: st) M post := by
  subst hx
  exact zw_lt0 h (fun q => h1 (by have := Int32.lt_iff_toInt_lt.mp q; rwa [z_0I] at this)) (fun q => h2 (by have := Int32.le_iff_toInt_le.mp (Int32.not_lt.mp q); rwa [z_0I] at this))
theorem zw_ge0Z {off : Int} {tgt : Nat} {a : Int} {x : Int32} (h : z_at y.2.2.2.2.2 pc = some (.ifCond .ge off, nx, tgt :: ax, cI, z)) (hx : x.toInt = a) (h1 : 0 ≤ a → Zw d y tgt ls st M post) (h2 : a < 0 → Zw d y nx ls st M post) : Zw d y pc ls (.int x :: st) M post := by
  subst hx
  exact zw_ge0 h (fun q => h1 (by have := Int32.le_iff_toInt_le.mp q; rwa [z_0I] at this)) (fun q => h2 (by have := Int32.lt_iff_toInt_lt.mp (Int32.not_le.mp q); rwa [z_0I] at this))
theorem zw_gt0Z {off : Int} {tgt : Nat} {a : Int} {x : Int32} (h : z_at y.2.2.2.2.2 pc = some (.ifCond .gt off, nx, tgt :: ax, cI, z)) (hx : x.toInt = a) (h1 : 0 < a → Zw d y tgt ls st M post) (h2 : a ≤ 0 → Zw d y nx ls st M post) : Zw d y pc ls (.int x :: st) M post := by
  subst hx
  exact zw_gt0 h (fun q => h1 (by have := Int32.lt_iff_toInt_lt.mp q; rwa [z_0I] at this)) (fun q => h2 (by have := Int32.le_iff_toInt_le.mp (Int32.not_lt.mp q); rwa [z_0I] at this))
theorem zw_le0Z {off : Int} {tgt : Nat} {a : Int} {x : Int32} (h : z_at y.2.2.2.2.2 pc = some (.ifCond .le off, nx, tgt :: ax, cI, z)) (hx : x.toInt = a) (h1 : a ≤ 0 → Zw d y tgt ls st M post) (h2 : 0 < a → Zw d y nx ls st M post) : Zw d y pc ls (.int x :: st) M post := by
  subst hx
  exact zw_le0 h (fun q => h1 (by have := Int32.le_iff_toInt_le.mp q; rwa [z_0I] at this)) (fun q => h2 (by have := Int32.lt_iff_toInt_lt.mp (Int32.not_le.mp q); rwa [z_0I] at this))
theorem zw_eq0Z {off : Int} {tgt : Nat} {a : Int} {x : Int32} (h : z_at y.2.2.2.2.2 pc = some (.ifCond .eq off, nx, tgt :: ax, cI, z)) (hx : x.toInt = a) (h1 : a = 0 → Zw d y tgt ls st M post) (h2 : ¬ a = 0 → Zw d y nx ls st M post) : Zw d y pc ls (.int x :: st) M post := by
  subst hx
  exact zw_eq0 h (fun q => h1 (by rw [q]; rfl)) (fun q => h2 (fun e => q (Int32.toInt_inj.mp (by rw [e]; rfl))))
theorem zw_ne0Z {off : Int} {tgt : Nat} {a : Int} {x : Int32} (h : z_at y.2.2.2.2.2 pc = some (.ifCond .ne off, nx, tgt :: ax, cI, z)) (hx : x.toInt = a) (h1 : ¬ a = 0 → Zw d y tgt ls st M post) (h2 : a = 0 → Zw d y nx ls st M post) : Zw d y pc ls (.int x :: st) M post := by
  subst hx
  exact zw_ne0 h (fun q => h1 (fun e => q (Int32.toInt_inj.mp (by rw [e]; rfl)))) (fun q => h2 (by rw [q]; rfl))
end ZR3
theorem zat_self {M M2 : zM} {b : Nat} {c x : va_E} (e : M.set b c = M2) (old : M[b]? = some x) : M2[b]? = some c := by
  rw [← e]
  exact List.getElem?_set_self (List.getElem?_eq_some_iff.mp old).1
theorem zat_set {M M2 : zM} {a b : Nat} {c x : va_E} (e : M.set b c = M2) (h : b ≠ a) (old : M[a]? = some x) : M2[a]? = some x := by
  rw [← e, List.getElem?_set_ne h]
  exact old
theorem Sm.tset {M0 M M2 : zM} {b : Nat} {c : va_E} {S : List Nat} (h : Sm M0 M S) (e : M.set b c = M2) (hb : b ∈ S) : Sm M0 M2 S := h.trans (by rw [← e]; exact Sm.set _ hb)
theorem Sm.tw {M0 M M2 : zM} {S S' : List Nat} (h : Sm M0 M S) (h2 : Sm M M2 S') (hs : ∀ a ∈ S', a ∈ S) : Sm M0 M2 S := h.trans (h2.wide hs)
