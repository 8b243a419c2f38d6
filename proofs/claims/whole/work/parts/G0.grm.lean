/-! GROWING: how it stands in the cells of the reference -/
theorem zw_lrem {d : Nat} {y : zY} {pc nx : Nat} {ls : zL} {st : List Value} {M : zM} {post : Option Value → zM → Prop} {ax : List Nat} {cI : Int32} {z : Int64} {x w : Int64} (h : z_at y.2.2.2.2.2 pc = some (.lrem, nx, ax, cI, z)) (hw : ¬ w = 0) (k : Zw d y nx ls (.long (x - x / w * w) :: st) M post) : Zw d y pc ls (.long w :: .long x :: st) M post := by
  have e : z_st y pc ls (.long w :: .long x :: st) = some (nx, ls, .long (x - x / w * w) :: st) := by
    unfold z_st
    rw [h]
    show (if w = 0 then none else some (nx, ls, Value.long (x - x / w * w) :: st)) = _
    rw [if_neg hw]
  exact zw_1 e k
theorem lN_toI9 {a : Nat} (h : a < 9223372036854775808) : (lN a).toInt = (a : Int) := by
  unfold lN
  rw [Int64.toInt_ofNat_of_lt h]
theorem lN_ne0 {m : Nat} (h : 0 < m) (hm : m < 9223372036854775808) : ¬ lN m = 0 := fun e => by
  have h1 := lN_toI9 hm
  rw [e] at h1
  have h2 : (0 : Int64).toInt = 0 := rfl
  omega
theorem lremN {a b : Nat} (ha : a < 9223372036854775808) (h0 : 0 < b) (hb : b < 9223372036854775808) : lN a - lN a / lN b * lN b = lN (a % b) := by
  apply Int64.toInt.inj
  have hd : (lN a / lN b).toInt = ((a / b : Nat) : Int) := by
    rw [Int64.toInt_div, lN_toI9 ha, lN_toI9 hb]
    have hq : (a : Int).tdiv (b : Int) = ((a / b : Nat) : Int) := rfl
    rw [hq]
    have h9 : a / b ≤ a := Nat.div_le_self _ _
    revert h9
    generalize a / b = q9
    intro h9
    exact Int.bmod_eq_of_le (by omega) (by omega)
  have hm : a / b * b ≤ a := Nat.div_mul_le_self a b
  have hp : (lN a / lN b * lN b).toInt = ((a / b * b : Nat) : Int) := by
    rw [Int64.toInt_mul, hd, lN_toI9 hb, ← Int.natCast_mul]
    exact Int.bmod_eq_of_le (by omega) (by omega)
  have hr : a % b = a - a / b * b := by
    have := Nat.div_add_mod a b
    rw [Nat.mul_comm b] at this
    omega
  rw [Int64.toInt_sub, lN_toI9 ha, hp, lN_toI9 (by have := Nat.mod_le a b; omega), hr]
  rw [Int.bmod_eq_of_le (by omega) (by omega)]
  omega
theorem lmulN {a b : Nat} : lN a * lN b = lN (a * b) := by
  unfold lN
  rw [Int64.ofNat_mul]
theorem i2lN {m : Nat} (h : m < 2147483648) : Int32.toInt64 (nI m) = lN m := by
  apply Int64.toInt.inj
  rw [Int32.toInt_toInt64, nI_toInt h, lN_toI9 (by omega)]
def mgS (o : Nat → Nat) (f : Nat → Nat → Nat) (s : gS) : Prop := o 48 = s.1 ∧ o 46 = s.2.1 ∧ (∀ q, q < s.2.1 → f 150 q = s.2.2.1 q ∧ f 151 q = s.2.2.2.1 q ∧ f 152 q = s.2.2.2.2 q) ∧ grW s
/-- a node that stands to be filled -/
def mgF (G : Nat → Nat → Nat) (n : Nat) (R A D K : Nat → Nat) (j : Nat) : Prop := R j < n ∧ A j < G 0 (R j) ∧ D j < 40 ∧ (G 6 (R j * 4 + A j)).testBit (D j) = true ∧ K j ≤ G 1 (R j * 4 + A j)
def mgK (G : Nat → Nat → Nat) (n : Nat) (R A D K : Nat → Nat) (o : Nat) : Prop := o ≤ 31 ∧ ∀ j, j < o → mgF G n R A D K j
/-- what becomes of all that stand to be filled -/
def mgG (G : Nat → Nat → Nat) (R A D K : Nat → Nat) : Nat → gS → Option gS
  | 0, s => some s
  | o + 1, s => (grK (fun k t => grI G (grN G (30 - o)) ((R o * 4 + A o) * 5 + k) (D o) t) (K o) (G 1 (R o * 4 + A o) - K o) s).bind (fun t => mgG G R A D K o t)
def mgM (K : Nat → Nat) : Nat → Nat
  | 0 => 0
  | o + 1 => mgM K o + (6 - K o) * 7 ^ (31 - o)
theorem mgG_cg {G : Nat → Nat → Nat} {R A D K R2 A2 D2 K2 : Nat → Nat} : ∀ {o : Nat}, (∀ j, j < o → R2 j = R j ∧ A2 j = A j ∧ D2 j = D j ∧ K2 j = K j) → ∀ s, mgG G R2 A2 D2 K2 o s = mgG G R A D K o s
  | 0, _, s => by rw [mgG, mgG]
  | o + 1, h, s => by
    obtain ⟨h1, h2, h3, h4⟩ := h o (by omega)
    have hi : mgG G R2 A2 D2 K2 o = mgG G R A D K o := funext (mgG_cg (fun j hj => h j (by omega)))
    rw [mgG, mgG, h1, h2, h3, h4, hi]
theorem mgM_cg {K K2 : Nat → Nat} : ∀ {o : Nat}, (∀ j, j < o → K2 j = K j) → mgM K2 o = mgM K o
  | 0, _ => rfl
  | o + 1, h => by rw [mgM, mgM, mgM_cg (fun j hj => h j (by omega)), h o (by omega)]
theorem mgG_pop {G : Nat → Nat → Nat} {R A D K : Nat → Nat} {o : Nat} {s : gS} (h : K o = G 1 (R o * 4 + A o)) : mgG G R A D K (o + 1) s = mgG G R A D K o s := by
  rw [mgG, grK_0 (by omega)]; rfl
theorem mgG_no {G : Nat → Nat → Nat} {R A D K : Nat → Nat} {o : Nat} {s : gS} (h : K o < G 1 (R o * 4 + A o)) (h1 : grI G (grN G (30 - o)) ((R o * 4 + A o) * 5 + K o) (D o) s = none) : mgG G R A D K (o + 1) s = none := by
  rw [mgG, grK_no (f := fun k t => grI G (grN G (30 - o)) ((R o * 4 + A o) * 5 + k) (D o) t) (by omega) h1]; rfl
theorem mgG_item {G : Nat → Nat → Nat} {R A D K : Nat → Nat} {o : Nat} {s t : gS} (h : K o < G 1 (R o * 4 + A o)) (h1 : grI G (grN G (30 - o)) ((R o * 4 + A o) * 5 + K o) (D o) s = some t) : mgG G R A D (up K o (K o + 1)) (o + 1) t = mgG G R A D K (o + 1) s := by
  have hi : mgG G R A D (up K o (K o + 1)) o = mgG G R A D K o := funext (mgG_cg (fun j hj => ⟨rfl, rfl, rfl, up_n (by omega)⟩))
  rw [mgG, mgG, grK_s (f := fun k t => grI G (grN G (30 - o)) ((R o * 4 + A o) * 5 + k) (D o) t) (by omega) h1, up_s, hi, Nat.sub_sub]
theorem mgG_push {G : Nat → Nat → Nat} {R A D K : Nat → Nat} {o r c : Nat} {s s1 : gS} (ho : o ≤ 29) (h : K o < G 1 (R o * 4 + A o)) (h1 : grI G (grN G (30 - o)) ((R o * 4 + A o) * 5 + K o) (D o) s = grN G (30 - o) r c s1) : mgG G (up R (o + 1) r) (up A (o + 1) (grA G r c s1.1)) (up D (o + 1) c) (up (up K o (K o + 1)) (o + 1) 0) (o + 1 + 1) (drN s1.1, s1.2) = mgG G R A D K (o + 1) s := by
  have hi : mgG G (up R (o + 1) r) (up A (o + 1) (grA G r c s1.1)) (up D (o + 1) c) (up (up K o (K o + 1)) (o + 1) 0) (o + 1) = mgG G R A D (up K o (K o + 1)) (o + 1) := funext (mgG_cg (fun j hj => ⟨up_n (by omega), up_n (by omega), up_n (by omega), up_n (by omega)⟩))
  rw [mgG, up_s, up_s, up_s, up_s, hi, Nat.sub_zero]
  have e : grN G (30 - o) r c s1 = grK (fun k t => grI G (grN G (30 - (o + 1))) ((r * 4 + grA G r c s1.1) * 5 + k) c t) 0 (G 1 (r * 4 + grA G r c s1.1)) (drN s1.1, s1.2) := by
    rw [show 30 - o = (30 - (o + 1)) + 1 by omega, grN]
  rw [← e, ← h1]
  cases hg : grI G (grN G (30 - o)) ((R o * 4 + A o) * 5 + K o) (D o) s with
  | none => rw [mgG_no h hg]; rfl
  | some t => rw [← mgG_item h hg]; rfl
theorem mgM_pop {K : Nat → Nat} {o : Nat} (h : K o ≤ 5) : mgM K o < mgM K (o + 1) := by
  rw [mgM]
  have h1 : 0 < (6 - K o) * 7 ^ (31 - o) := Nat.mul_pos (by omega) (Nat.pow_pos (by decide))
  omega
theorem mgM_item {K : Nat → Nat} {o : Nat} (h : K o ≤ 4) : mgM (up K o (K o + 1)) (o + 1) < mgM K (o + 1) := by
  rw [mgM, mgM, mgM_cg (K := K) (K2 := up K o (K o + 1)) (fun j hj => up_n (by omega)), up_s]
  have h0 : 0 < 7 ^ (31 - o) := Nat.pow_pos (by decide)
  have h1 : 6 - K o = (6 - (K o + 1)) + 1 := by omega
  rw [h1, Nat.add_mul]
  omega
theorem mgM_push {K : Nat → Nat} {o : Nat} (ho : o ≤ 29) (h : K o ≤ 4) : mgM (up (up K o (K o + 1)) (o + 1) 0) (o + 1 + 1) < mgM K (o + 1) := by
  rw [mgM, up_s, mgM_cg (K := up K o (K o + 1)) (K2 := up (up K o (K o + 1)) (o + 1) 0) (fun j hj => up_n (by omega)), mgM, mgM, mgM_cg (K := K) (K2 := up K o (K o + 1)) (fun j hj => up_n (by omega)), up_s]
  have h0 : 0 < 7 ^ (31 - (o + 1)) := Nat.pow_pos (by decide)
  have h1 : 6 - K o = (6 - (K o + 1)) + 1 := by omega
  have h2 : 7 ^ (31 - o) = 7 * 7 ^ (31 - (o + 1)) := by rw [show 31 - o = (31 - (o + 1)) + 1 by omega, Nat.pow_succ, Nat.mul_comm]
  rw [h1, Nat.add_mul, h2]
  omega
/-- a step of it -/
def mgP (G : Nat → Nat → Nat) (n : Nat) (o : Nat → Nat) (f : Nat → Nat → Nat) (s : gS) (Mq M1 : zM) : Prop := ∃ o9 f9, MM M1 o9 f9 ∧ Sm Mq M1 [139, 150, 151, 152, 172, 173, 174, 175] ∧ (∀ a, a ∉ [139, 150, 151, 152, 172, 173, 174, 175] → f9 a = f a) ∧ (∀ j, j ≠ 45 → j ≠ 46 → j ≠ 47 → j ≠ 48 → o9 j = o j) ∧ ((o9 47 = 1 ∧ mgK G n (f9 172) (f9 173) (f9 174) (f9 175) (o9 45) ∧ (∃ s9, mgS o9 f9 s9 ∧ mgG G (f9 172) (f9 173) (f9 174) (f9 175) (o9 45) s9 = mgG G (f 172) (f 173) (f 174) (f 175) (o 45) s) ∧ mgM (f9 175) (o9 45) < mgM (f 175) (o 45)) ∨ (o9 47 = 0 ∧ mgG G (f 172) (f 173) (f 174) (f 175) (o 45) s = none))
/-- where the walk stands: the item that comes next -/
abbrev mgX (f : Nat → Nat → Nat) (p : Nat) : Nat := (f 172 p * 4 + f 173 p) * 5 + f 175 p
def mgE (o o9 : Nat → Nat) (f f9 : Nat → Nat → Nat) : Prop := o9 47 = 1 ∧ o9 47 = o 47 ∧ f9 172 = f 172
theorem mg_pop {G : Nat → Nat → Nat} {n p : Nat} {o o9 : Nat → Nat} {f : Nat → Nat → Nat} {s : gS} (hS : mgS o f s) (hK : mgK G n (f 172) (f 173) (f 174) (f 175) (o 45)) (hp : o 45 = p + 1) (h5 : G 1 (f 172 p * 4 + f 173 p) ≤ 5) (hx : f 175 p = G 1 (f 172 p * 4 + f 173 p)) (e45 : o9 45 = p) (e46 : o9 46 = o 46) (e47 : o9 47 = 1) (e48 : o9 48 = o 48) : o9 47 = 1 ∧ mgK G n (f 172) (f 173) (f 174) (f 175) (o9 45) ∧ (∃ s9, mgS o9 f s9 ∧ mgG G (f 172) (f 173) (f 174) (f 175) (o9 45) s9 = mgG G (f 172) (f 173) (f 174) (f 175) (o 45) s) ∧ mgM (f 175) (o9 45) < mgM (f 175) (o 45) := by
  obtain ⟨k1, k2⟩ := hK
  obtain ⟨s1, s2, s3, s4⟩ := hS
  rw [e45, hp]
  rw [hp] at k1 k2
  exact ⟨e47, ⟨by omega, fun j hj => k2 j (by omega)⟩, ⟨s, ⟨e48.trans s1, e46.trans s2, s3, s4⟩, (mgG_pop hx).symm⟩, mgM_pop (by omega)⟩
theorem mg_tok {G : Nat → Nat → Nat} {n p : Nat} {o o9 : Nat → Nat} {f f9 : Nat → Nat → Nat} {s : gS} {ch d : Nat} (hS : mgS o f s) (hK : mgK G n (f 172) (f 173) (f 174) (f 175) (o 45)) (hp : o 45 = p + 1) (h5 : G 1 (f 172 p * 4 + f 173 p) ≤ 5) (hx : ¬ f 175 p = G 1 (f 172 p * 4 + f 173 p)) (ht : G 2 (mgX f p) = NO) (hch : 33 ≤ ch ∧ ch ≤ 126) (ec : ch = G 3 (mgX f p)) (ed : d = grC (grM G (mgX f p) (f 174 p)) (o 48)) (h20 : o 46 < 20) (e45 : o9 45 = o 45) (e46 : o9 46 = o 46 + 1) (e47 : o9 47 = 1) (e48 : o9 48 = drN (o 48)) (e2 : f9 172 = f 172) (e3 : f9 173 = f 173) (e4 : f9 174 = f 174) (e5 : f9 175 = up (f 175) p (f 175 p + 1)) (e150 : f9 150 = up (f 150) (o 46) ch) (e151 : f9 151 = up (f 151) (o 46) (if o 46 = 0 then 0 else f 151 (o 46 - 1) + if f 152 (o 46 - 1) < d then 0 else 1)) (e152 : f9 152 = up (f 152) (o 46) d) : o9 47 = 1 ∧ mgK G n (f9 172) (f9 173) (f9 174) (f9 175) (o9 45) ∧ (∃ s9, mgS o9 f9 s9 ∧ mgG G (f9 172) (f9 173) (f9 174) (f9 175) (o9 45) s9 = mgG G (f 172) (f 173) (f 174) (f 175) (o 45) s) ∧ mgM (f9 175) (o9 45) < mgM (f 175) (o 45) := by
  obtain ⟨k1, k2⟩ := hK
  obtain ⟨s1, s2, s3, s4⟩ := hS
  have hk := k2 p (by omega)
  have hk5 := hk.2.2.2.2
  have hd : d < 40 := by rw [ed]; exact grC_lt _ _
  have hl : (if o 46 = 0 then 0 else f 151 (o 46 - 1) + if f 152 (o 46 - 1) < d then 0 else 1) = grL d (drN s.1, s.2) := by
    unfold grL
    show _ = if s.2.1 = 0 then 0 else s.2.2.2.1 (s.2.1 - 1) + if s.2.2.2.2 (s.2.1 - 1) < d then 0 else 1
    rw [s2]
    by_cases e0 : s.2.1 = 0
    · rw [if_pos e0, if_pos e0]
    · rw [if_neg e0, if_neg e0, (s3 (s.2.1 - 1) (by omega)).2.1, (s3 (s.2.1 - 1) (by omega)).2.2]
  have hT : grT ch d (drN s.1, s.2) = some (drN s.1, s.2.1 + 1, up s.2.2.1 s.2.1 ch, up s.2.2.2.1 s.2.1 (grL d (drN s.1, s.2)), up s.2.2.2.2 s.2.1 d) := by
    unfold grT
    rw [if_neg (show ¬ s.2.1 = 20 by omega)]
  have hI : grI G (grN G (30 - p)) ((f 172 p * 4 + f 173 p) * 5 + f 175 p) (f 174 p) s = some (drN s.1, s.2.1 + 1, up s.2.2.1 s.2.1 ch, up s.2.2.2.1 s.2.1 (grL d (drN s.1, s.2)), up s.2.2.2.2 s.2.1 d) := by
    unfold grI
    rw [if_pos ht, ← s1, ← ed, ← ec, s1]
    exact hT
  rw [e45, hp, e2, e3, e4, e5]
  rw [hp] at k1 k2
  refine ⟨e47, ⟨k1, fun j hj => ?_⟩, ⟨_, ⟨by rw [e48, s1], by rw [e46, s2], fun q hq => ?_, grT_w s4.dr hch hd hT⟩, mgG_item (by omega) hI⟩, mgM_item (by omega)⟩
  · have h9 := k2 j hj
    by_cases ej : j = p
    · rw [ej]; exact ⟨hk.1, hk.2.1, hk.2.2.1, hk.2.2.2.1, by rw [up_s]; omega⟩
    · exact ⟨h9.1, h9.2.1, h9.2.2.1, h9.2.2.2.1, by rw [up_n ej]; exact h9.2.2.2.2⟩
  · have hq2 : q < s.2.1 + 1 := hq
    show f9 150 q = up s.2.2.1 s.2.1 ch q ∧ f9 151 q = up s.2.2.2.1 s.2.1 (grL d (drN s.1, s.2)) q ∧ f9 152 q = up s.2.2.2.2 s.2.1 d q
    rw [e150, e151, e152, hl, s2]
    by_cases eq : q = s.2.1
    · rw [eq, up_s, up_s, up_s, up_s, up_s, up_s]; exact ⟨rfl, rfl, rfl⟩
    · rw [up_n eq, up_n eq, up_n eq, up_n eq, up_n eq, up_n eq]; exact s3 q (by omega)
theorem mg_full {G : Nat → Nat → Nat} {n p : Nat} {o : Nat → Nat} {f : Nat → Nat → Nat} {s : gS} (hS : mgS o f s) (hK : mgK G n (f 172) (f 173) (f 174) (f 175) (o 45)) (hp : o 45 = p + 1) (hx : ¬ f 175 p = G 1 (f 172 p * 4 + f 173 p)) (ht : G 2 (mgX f p) = NO) (h20 : o 46 = 20) : mgG G (f 172) (f 173) (f 174) (f 175) (o 45) s = none := by
  have hk := (hK.2 p (by omega)).2.2.2.2
  rw [hp]
  refine mgG_no (by omega) ?_
  unfold grI
  rw [if_pos ht]
  unfold grT
  rw [if_pos (show s.2.1 = 20 from hS.2.1.symm.trans h20)]
theorem mg_deep {G : Nat → Nat → Nat} {n p : Nat} {o : Nat → Nat} {f : Nat → Nat → Nat} {s : gS} (hK : mgK G n (f 172) (f 173) (f 174) (f 175) (o 45)) (hp : o 45 = p + 1) (hx : ¬ f 175 p = G 1 (f 172 p * 4 + f 173 p)) (ht : ¬ G 2 (mgX f p) = NO) (h30 : ¬ o 45 ≤ 30) : mgG G (f 172) (f 173) (f 174) (f 175) (o 45) s = none := by
  have hk := (hK.2 p (by omega)).2.2.2.2
  have hk1 := hK.1
  rw [hp]
  refine mgG_no (by omega) ?_
  unfold grI
  rw [if_neg ht, show 30 - p = 0 by omega, grN]
theorem mg_push {G : Nat → Nat → Nat} {n p : Nat} {o o9 : Nat → Nat} {f f9 : Nat → Nat → Nat} {s : gS} {r d : Nat} (hS : mgS o f s) (hK : mgK G n (f 172) (f 173) (f 174) (f 175) (o 45)) (hp : o 45 = p + 1) (h5 : G 1 (f 172 p * 4 + f 173 p) ≤ 5) (hx : ¬ f 175 p = G 1 (f 172 p * 4 + f 173 p)) (ht : ¬ G 2 (mgX f p) = NO) (er : r = G 2 (mgX f p)) (ed : d = grC (grM G (mgX f p) (f 174 p)) (o 48)) (h30 : o 45 ≤ 30) (hr : r < n) (hga : grA G r d (drN (o 48)) < G 0 r) (hgb : (G 6 (r * 4 + grA G r d (drN (o 48)))).testBit d = true) (e45 : o9 45 = o 45 + 1) (e46 : o9 46 = o 46) (e47 : o9 47 = 1) (e48 : o9 48 = drN (drN (o 48))) (e2 : f9 172 = up (f 172) (o 45) r) (e3 : f9 173 = up (f 173) (o 45) (grA G r d (drN (o 48)))) (e4 : f9 174 = up (f 174) (o 45) d) (e5 : f9 175 = up (up (f 175) p (f 175 p + 1)) (o 45) 0) (e150 : f9 150 = f 150) (e151 : f9 151 = f 151) (e152 : f9 152 = f 152) : o9 47 = 1 ∧ mgK G n (f9 172) (f9 173) (f9 174) (f9 175) (o9 45) ∧ (∃ s9, mgS o9 f9 s9 ∧ mgG G (f9 172) (f9 173) (f9 174) (f9 175) (o9 45) s9 = mgG G (f 172) (f 173) (f 174) (f 175) (o 45) s) ∧ mgM (f9 175) (o9 45) < mgM (f 175) (o 45) := by
  obtain ⟨k1, k2⟩ := hK
  obtain ⟨s1, s2, s3, s4⟩ := hS
  have hk := k2 p (by omega)
  have hk5 := hk.2.2.2.2
  have hd : d < 40 := by rw [ed]; exact grC_lt _ _
  have hI : grI G (grN G (30 - p)) ((f 172 p * 4 + f 173 p) * 5 + f 175 p) (f 174 p) s = grN G (30 - p) r d (drN s.1, s.2) := by
    unfold grI
    rw [if_neg ht, er, ed, s1]
  rw [e45, hp, e2, e3, e4, e5, hp]
  rw [hp] at k1 k2
  have hP := mgG_push (G := G) (R := f 172) (A := f 173) (D := f 174) (K := f 175) (o := p) (r := r) (c := d) (s := s) (s1 := (drN s.1, s.2)) (by omega) (by omega) hI
  rw [s1] at e48 hga hgb
  rw [s1]
  refine ⟨e47, ⟨by omega, fun j hj => ?_⟩, ⟨(drN (drN s.1), s.2), ⟨by rw [e48], e46.trans s2, fun q hq => by rw [e150, e151, e152]; exact s3 q hq, s4.dr.dr⟩, hP⟩, mgM_push (by omega) (by omega)⟩
  by_cases ej : j = p + 1
  · rw [ej]
    unfold mgF
    rw [up_s, up_s, up_s, up_s]
    exact ⟨hr, hga, hd, hgb, Nat.zero_le _⟩
  · have h9 := k2 j (by omega)
    unfold mgF
    rw [up_n ej, up_n ej, up_n ej, up_n ej]
    by_cases ep : j = p
    · rw [ep]; exact ⟨hk.1, hk.2.1, hk.2.2.1, hk.2.2.2.1, by rw [up_s]; omega⟩
    · rw [up_n ep]; exact h9
theorem mg_begin {G : Nat → Nat → Nat} {n x : Nat} {R A D K : Nat → Nat} (hn : 0 < n) (h0 : ¬ G 5 0 = 0) : mgG G (up R 0 0) (up A 0 (grA G 0 (grC (G 5 0) x) (drN x))) (up D 0 (grC (G 5 0) x)) (up K 0 0) (0 + 1) (drN (drN x), 0, fun _ => 0, fun _ => 0, fun _ => 0) = grR G n x := by
  unfold grR
  rw [if_neg (fun q => q.elim (by omega) h0), mgG, up_s, up_s, up_s, up_s, Nat.sub_zero]
  have he : ∀ (r d : Nat) (s : gS), grN G 31 r d s = grK (fun k t => grI G (grN G 30) ((r * 4 + grA G r d s.1) * 5 + k) d t) 0 (G 1 (r * 4 + grA G r d s.1)) (drN s.1, s.2) := fun r d s => by rw [show grN G 31 = grN G (30 + 1) from rfl, grN]
  have hb : ∀ o9 : Option gS, o9.bind (fun t => mgG G (up R 0 0) (up A 0 (grA G 0 (grC (G 5 0) x) (drN x))) (up D 0 (grC (G 5 0) x)) (up K 0 0) 0 t) = o9 := fun o9 => by cases o9 <;> rfl
  rw [hb, he, Nat.sub_zero]
def mgQ (c : Nat) (A B C R0 : Nat → Nat) (j q : Nat) : Nat := if q = 529 then c else if 530 ≤ q ∧ q < 530 + j then A (q - 530) else if 550 ≤ q ∧ q < 550 + j then B (q - 550) else if 570 ≤ q ∧ q < 570 + j then C (q - 570) else R0 q
theorem mg_r0 {c : Nat} {A B C R0 : Nat → Nat} (q : Nat) : up R0 529 c q = if q = 529 then c else if 530 ≤ q ∧ q < 530 + 0 then A (q - 530) else if 550 ≤ q ∧ q < 550 + 0 then B (q - 550) else if 570 ≤ q ∧ q < 570 + 0 then C (q - 570) else R0 q := by
  rw [if_neg (show ¬ (530 ≤ q ∧ q < 530 + 0) by omega), if_neg (show ¬ (550 ≤ q ∧ q < 550 + 0) by omega), if_neg (show ¬ (570 ≤ q ∧ q < 570 + 0) by omega)]
  rfl
theorem mg_rs {c j : Nat} {A B C R0 R : Nat → Nat} (hj : j < 20) (h : ∀ q, R q = if q = 529 then c else if 530 ≤ q ∧ q < 530 + j then A (q - 530) else if 550 ≤ q ∧ q < 550 + j then B (q - 550) else if 570 ≤ q ∧ q < 570 + j then C (q - 570) else R0 q) (q : Nat) : up (up (up R (530 + j) (A j)) (550 + j) (B j)) (570 + j) (C j) q = if q = 529 then c else if 530 ≤ q ∧ q < 530 + (j + 1) then A (q - 530) else if 550 ≤ q ∧ q < 550 + (j + 1) then B (q - 550) else if 570 ≤ q ∧ q < 570 + (j + 1) then C (q - 570) else R0 q := by
  by_cases e1 : q = 570 + j
  · rw [e1, up_s, if_neg (by omega), if_neg (by omega), if_neg (by omega), if_pos (by omega), show 570 + j - 570 = j by omega]
  · rw [up_n e1]
    by_cases e2 : q = 550 + j
    · rw [e2, up_s, if_neg (by omega), if_neg (by omega), if_pos (by omega), show 550 + j - 550 = j by omega]
    · rw [up_n e2]
      by_cases e3 : q = 530 + j
      · rw [e3, up_s, if_neg (by omega), if_pos (by omega), show 530 + j - 530 = j by omega]
      · rw [up_n e3, h q]
        by_cases f0 : q = 529
        · rw [if_pos f0, if_pos f0]
        · rw [if_neg f0, if_neg f0]
          by_cases f1 : 530 ≤ q ∧ q < 530 + j
          · rw [if_pos f1, if_pos (show 530 ≤ q ∧ q < 530 + (j + 1) by omega)]
          · rw [if_neg f1, if_neg (show ¬ (530 ≤ q ∧ q < 530 + (j + 1)) by omega)]
            by_cases f2 : 550 ≤ q ∧ q < 550 + j
            · rw [if_pos f2, if_pos (show 550 ≤ q ∧ q < 550 + (j + 1) by omega)]
            · rw [if_neg f2, if_neg (show ¬ (550 ≤ q ∧ q < 550 + (j + 1)) by omega)]
              by_cases f3 : 570 ≤ q ∧ q < 570 + j
              · rw [if_pos f3, if_pos (show 570 ≤ q ∧ q < 570 + (j + 1) by omega)]
              · rw [if_neg f3, if_neg (show ¬ (570 ≤ q ∧ q < 570 + (j + 1)) by omega)]
theorem mg_relT {o : Nat → Nat} {f : Nat → Nat → Nat} {s : gS} {j : Nat} {R : Nat → Nat} (h : ∀ q, R q = if q = 529 then o 46 else if 530 ≤ q ∧ q < 530 + j then f 150 (q - 530) else if 550 ≤ q ∧ q < 550 + j then f 151 (q - 550) else if 570 ≤ q ∧ q < 570 + j then f 152 (q - 570) else f 140 q) (hj : j = o 46) (hS : mgS o f s) : RelT (fset f 140 R) s.2.1 s.2.2.1 s.2.2.2.1 s.2.2.2.2 := by
  obtain ⟨s1, s2, s3, s4⟩ := hS
  have h20 := s4.2.1
  refine ⟨?_, fun k hk => ?_⟩
  · show R 529 = _
    rw [h 529, if_pos rfl, s2]
  · have h3 := s3 k hk
    show R (530 + k) = _ ∧ R (550 + k) = _ ∧ R (570 + k) = _
    rw [h (530 + k), h (550 + k), h (570 + k), if_neg (by omega), if_pos (by omega), if_neg (by omega), if_neg (by omega), if_pos (by omega), if_neg (by omega), if_neg (by omega), if_neg (by omega), if_pos (by omega), show 530 + k - 530 = k by omega, show 550 + k - 550 = k by omega, show 570 + k - 570 = k by omega]
    exact h3
theorem mg_lt {o : Nat → Nat} {f : Nat → Nat → Nat} {s : gS} {j : Nat} {R : Nat → Nat} (h : ∀ q, R q = if q = 529 then o 46 else if 530 ≤ q ∧ q < 530 + j then f 150 (q - 530) else if 550 ≤ q ∧ q < 550 + j then f 151 (q - 550) else if 570 ≤ q ∧ q < 570 + j then f 152 (q - 570) else f 140 q) (hj : j = o 46) (hS : mgS o f s) (h0 : ∀ q, f 140 q < 2147483648) (q : Nat) : R q < 2147483648 := by
  obtain ⟨s1, s2, s3, s4⟩ := hS
  have h20 := s4.2.1
  rw [h q]
  by_cases f0 : q = 529
  · rw [if_pos f0]; omega
  · rw [if_neg f0]
    by_cases f1 : 530 ≤ q ∧ q < 530 + j
    · rw [if_pos f1, (s3 (q - 530) (by omega)).1]; have := (s4.2.2.1 (q - 530) (by omega)).1; omega
    · rw [if_neg f1]
      by_cases f2 : 550 ≤ q ∧ q < 550 + j
      · rw [if_pos f2, (s3 (q - 550) (by omega)).2.1]; have := (s4.2.2.1 (q - 550) (by omega)).2.1; omega
      · rw [if_neg f2]
        by_cases f3 : 570 ≤ q ∧ q < 570 + j
        · rw [if_pos f3, (s3 (q - 570) (by omega)).2.2]; have := (s4.2.2.1 (q - 570) (by omega)).2.2; omega
        · rw [if_neg f3]; exact h0 q
