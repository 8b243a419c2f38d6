/-! GOING THROUGH THE PROGRAM: from any place the small machine comes to the method's end with post -/
theorem z_m_d {i : Instr} {ax : List Nat} {d d' : Nat} {st : List Value} {M : zM} {o : List Value × zM} (h : z_m i ax d st M = some o) (hd : d ≤ d') : z_m i ax d' st M = some o := by
  cases i with
  | invokespecial ix =>
    match d, d', ax, h with
    | _ + 1, _ + 1, 1 :: _, h => exact h
    | d + 1, 0, _, h => omega
    | 0, _, ax, h => cases h
    | d + 1, _ + 1, [], h => cases h
    | d + 1, _ + 1, 0 :: _, h => cases h
    | d + 1, _ + 1, (n + 2) :: _, h => cases h
  | invokestatic ix =>
    match d, d', ax, h with
    | _ + 1, _ + 1, 2 :: _, h => exact h
    | _ + 1, _ + 1, 3 :: _, h => exact h
    | _ + 1, _ + 1, 4 :: _, h => exact h
    | d + 1, 0, _, h => omega
    | 0, _, ax, h => cases h
    | d + 1, _ + 1, [], h => cases h
    | d + 1, _ + 1, 0 :: _, h => cases h
    | d + 1, _ + 1, 1 :: _, h => cases h
    | d + 1, _ + 1, (n + 5) :: _, h => cases h
  | _ => exact h
theorem z_go_mono (P : List zY) : ∀ (n d : Nat) (y : zY) (pc : Nat) (ls : zL) (st : List Value) (M : zM) (o : Option Value × zM), z_go P n d y pc ls st M = some o → ∀ (n' d' : Nat), n ≤ n' → d ≤ d' → z_go P n' d' y pc ls st M = some o := by
  intro n
  induction n with
  | zero => intro d y pc ls st M o h; cases h
  | succ n ih =>
    intro d y pc ls st M o h n' d' hn hd
    match n', hn with
    | n' + 1, hn =>
      have hn' : n ≤ n' := by omega
      cases hat : z_at y.2.2.2.2.2 pc with
      | none => simp only [z_go, hat] at h; cases h
      | some q =>
        obtain ⟨i, nx, ax, c, z⟩ := q
        simp only [z_go, hat] at h ⊢
        match hk : z_k i ax with
        | 0 =>
          simp only [hk] at h ⊢
          cases hs : z_s i nx ax c z ls st with
          | none => simp only [hs] at h; cases h
          | some w =>
            obtain ⟨pc', ls', st'⟩ := w
            simp only [hs] at h ⊢
            exact ih _ _ _ _ _ _ _ h _ _ hn' hd
        | 1 =>
          simp only [hk] at h ⊢
          cases hs : z_m i ax d st M with
          | none => simp only [hs] at h; cases h
          | some w =>
            obtain ⟨st', M'⟩ := w
            simp only [hs] at h
            simp only [z_m_d hs hd]
            exact ih _ _ _ _ _ _ _ h _ _ hn' hd
        | 2 =>
          simp only [hk] at h ⊢
          exact h
        | kk + 3 =>
          simp only [hk] at h ⊢
          cases hc : z_c i ax st M with
          | none =>
            simp only [hc] at h
            cases d <;> cases h
          | some w =>
            obtain ⟨k, as, rest⟩ := w
            simp only [hc] at h ⊢
            match d, d', hd, h with
            | 0, d', hd, h => cases h
            | d1 + 1, 0, hd, h => omega
            | d1 + 1, d' + 1, hd, h =>
              simp only at h ⊢
              cases hy : P[k]? with
              | none => simp only [hy] at h; cases h
              | some y' =>
                simp only [hy] at h ⊢
                cases hb : Nat.ble (z_args as).length y'.2.2.1 with
                | false => rw [hb] at h; cases h
                | true =>
                  rw [hb, cond_true] at h
                  rw [cond_true]
                  cases hg : z_go P n d1 y' 0 (z_ent y' as) [] M with
                  | none => simp only [hg] at h; cases h
                  | some w =>
                    obtain ⟨r', M'⟩ := w
                    simp only [hg] at h
                    simp only [ih _ _ _ _ _ _ _ hg n' d' hn' (by omega)]
                    exact ih _ _ _ _ _ _ _ h _ _ hn' hd
def Zw (d : Nat) (y : zY) (pc : Nat) (ls : zL) (st : List Value) (M : zM) (post : Option Value → zM → Prop) : Prop := ∃ n r M', z_go zprog n d y pc ls st M = some (r, M') ∧ post r M'
/-- a method, called -/
def Zm (d : Nat) (y : zY) (as : List Value) (M : zM) (post : Option Value → zM → Prop) : Prop := Zw d y 0 (z_ent y as) [] M post
theorem Zw.mono {d d' : Nat} {y : zY} {pc : Nat} {ls : zL} {st : List Value} {M : zM} {post post' : Option Value → zM → Prop} (h : Zw d y pc ls st M post) (hd : d ≤ d') (hp : ∀ r M', post r M' → post' r M') : Zw d' y pc ls st M post' := by
  obtain ⟨n, r, M', h1, h2⟩ := h
  exact ⟨n, r, M', z_go_mono _ _ _ _ _ _ _ _ _ h1 _ _ (Nat.le_refl _) hd, hp _ _ h2⟩
theorem Zm.mono {d d' : Nat} {y : zY} {as : List Value} {M : zM} {post post' : Option Value → zM → Prop} (h : Zm d y as M post) (hd : d ≤ d') (hp : ∀ r M', post r M' → post' r M') : Zm d' y as M post' := Zw.mono h hd hp
def z_st (y : zY) (pc : Nat) (ls : zL) (st : List Value) : zO := match z_at y.2.2.2.2.2 pc with
  | some (i, nx, ax, c, z) => (bif Nat.beq (z_k i ax) 0 then z_s i nx ax c z ls st else none)
  | none => none
def z_sn : Nat → zY → Nat → zL → List Value → zO
  | 0, _, pc, ls, st => some (pc, ls, st)
  | n + 1, y, pc, ls, st => match z_st y pc ls st with
    | some (pc', ls', st') => z_sn n y pc' ls' st'
    | none => none
section ZR
variable {d : Nat} {y : zY} {pc nx : Nat} {ls : zL} {st : List Value} {M : zM} {post : Option Value → zM → Prop} {ax : List Nat} {cI : Int32} {z : Int64}
theorem zw_1 {pc' : Nat} {ls' : zL} {st' : List Value} (h : z_st y pc ls st = some (pc', ls', st')) (k : Zw d y pc' ls' st' M post) : Zw d y pc ls st M post := by
  obtain ⟨n, r, M', h1, h2⟩ := k
  refine ⟨n + 1, r, M', ?_, h2⟩
  unfold z_st at h
  split at h
  · rename_i i nx ax c z hat
    rw [z_go, hat]
    simp only
    cases hb : Nat.beq (z_k i ax) 0 with
    | false => rw [hb] at h; cases h
    | true =>
      rw [hb, cond_true] at h
      rw [Nat.eq_of_beq_eq_true hb, h]
      exact h1
  · cases h
theorem zw_n (n : Nat) {pc' : Nat} {ls' : zL} {st' : List Value} (h : z_sn n y pc ls st = some (pc', ls', st')) (k : Zw d y pc' ls' st' M post) : Zw d y pc ls st M post := by
  induction n generalizing pc ls st with
  | zero => cases h; exact k
  | succ n ih =>
    rw [z_sn] at h
    split at h
    · rename_i p1 l1 s1 hs
      exact zw_1 hs (ih h)
    · cases h
theorem zw_m {i : Instr} {st' : List Value} {M' : zM} (h : z_at y.2.2.2.2.2 pc = some (i, nx, ax, cI, z)) (hk : z_k i ax = 1) (hm : z_m i ax d st M = some (st', M')) (k : Zw d y nx ls st' M' post) : Zw d y pc ls st M post := by
  obtain ⟨n, r, M1, h1, h2⟩ := k
  refine ⟨n + 1, r, M1, ?_, h2⟩
  rw [z_go, h]
  simp only
  rw [hk, hm]
  exact h1
theorem zw_ret {i : Instr} {r : Option Value} (h : z_at y.2.2.2.2.2 pc = some (i, nx, ax, cI, z)) (hk : z_k i ax = 2) (hr : z_r y.2.2.2.1 i st = some r) (hp : post r M) : Zw d y pc ls st M post := by
  refine ⟨1, r, M, ?_, hp⟩
  simp only [z_go, h, hk, hr]
theorem zw_iret {v : Int32} (h : z_at y.2.2.2.2.2 pc = some (.ireturn, nx, ax, cI, z)) (hr : y.2.2.2.1 = some .int) (hp : post (some (.int v)) M) : Zw d y pc ls [.int v] M post := zw_ret h rfl (by rw [hr]; rfl) hp
theorem zw_zret {v : Int32} (h : z_at y.2.2.2.2.2 pc = some (.ireturn, nx, ax, cI, z)) (hr : y.2.2.2.1 = some .boolean) (hv : v = 0 ∨ v = 1) (hp : post (some (.int v)) M) : Zw d y pc ls [.int v] M post := zw_ret h rfl (by rw [hr]; exact if_pos hv) hp
theorem zw_lret {v : Int64} (h : z_at y.2.2.2.2.2 pc = some (.lreturn, nx, ax, cI, z)) (hr : y.2.2.2.1 = some .long) (hp : post (some (.long v)) M) : Zw d y pc ls [.long v] M post := zw_ret h rfl (by rw [hr]; rfl) hp
theorem zw_vret (h : z_at y.2.2.2.2.2 pc = some (.return_, nx, ax, cI, z)) (hr : y.2.2.2.1 = none) (hp : post none M) : Zw d y pc ls [] M post := zw_ret h rfl (by rw [hr]; rfl) hp
theorem zw_get {ix ci k a : Nat} {fs : List Value} {v : Value} (h : z_at y.2.2.2.2.2 pc = some (.getfield ix, nx, ci :: k :: ax, cI, z)) (hM : M[a]? = some (.inr (ci, fs))) (hv : fs[k]? = some v) (kk : Zw d y nx ls (v :: st) M post) : Zw d y pc ls (.ref a :: st) M post := by
  refine zw_m h rfl ?_ kk
  show z_gf ci k (.ref a :: st) M = _
  unfold z_gf
  simp only
  rw [hM]
  simp only
  rw [show Nat.beq ci ci = true from Nat.beq_refl ci, cond_true, hv]
theorem zw_put {ix ci k a : Nat} {fs : List Value} {v : Value} (h : z_at y.2.2.2.2.2 pc = some (.putfield ix, nx, ci :: k :: ax, cI, z)) (hM : M[a]? = some (.inr (ci, fs))) (hf : z_fit (z_ty ci k) v = true) (hk : k < fs.length) (kk : Zw d y nx ls st (M.set a (.inr (ci, fs.set k v))) post) : Zw d y pc ls (v :: .ref a :: st) M post := by
  refine zw_m h rfl ?_ kk
  show z_pf ci k (v :: .ref a :: st) M = _
  unfold z_pf
  simp only
  rw [hM]
  simp only
  rw [show Nat.beq ci ci = true from Nat.beq_refl ci, hf, show Nat.blt k fs.length = true from Nat.ble_eq_true_of_le hk]
  rfl
theorem z_inN {j n : Nat} (hj : j < n) (hn : n < 2147483648) : ¬ (nI j < 0 ∨ n ≤ (nI j).toNatClampNeg) := nI_in hj hn
theorem zw_iald {a n j : Nat} {f : Nat → Int32} {i : Int32} (h : z_at y.2.2.2.2.2 pc = some (.iaload, nx, ax, cI, z)) (hM : M[a]? = some (.inl (0, n, .inl f))) (hi : i = nI j) (hn : n < 2147483648) (hj : j < n) (kk : Zw d y nx ls (.int (f j) :: st) M post) : Zw d y pc ls (.int i :: .ref a :: st) M post := by
  subst hi
  refine zw_m h rfl ?_ kk
  show z_ial (.int (nI j) :: .ref a :: st) M = _
  unfold z_ial
  simp only
  rw [hM]
  simp only
  rw [show Nat.beq 0 0 = true from rfl, cond_true, if_neg (z_inN hj hn), nI_clamp (by omega)]
theorem zw_bald {a n j t : Nat} {f : Nat → Int32} {i : Int32} (h : z_at y.2.2.2.2.2 pc = some (.baload, nx, ax, cI, z)) (hM : M[a]? = some (.inl (t, n, .inl f))) (ht : (Nat.beq t 2 || Nat.beq t 3) = true) (hi : i = nI j) (hn : n < 2147483648) (hj : j < n) (kk : Zw d y nx ls (.int (f j) :: st) M post) : Zw d y pc ls (.int i :: .ref a :: st) M post := by
  subst hi
  refine zw_m h rfl ?_ kk
  show z_bal (.int (nI j) :: .ref a :: st) M = _
  unfold z_bal
  simp only
  rw [hM]
  simp only
  rw [ht, cond_true, if_neg (z_inN hj hn), nI_clamp (by omega)]
theorem zw_lald {a n j : Nat} {f : Nat → Int64} {i : Int32} (h : z_at y.2.2.2.2.2 pc = some (.laload, nx, ax, cI, z)) (hM : M[a]? = some (.inl (1, n, .inr (.inl f)))) (hi : i = nI j) (hn : n < 2147483648) (hj : j < n) (kk : Zw d y nx ls (.long (f j) :: st) M post) : Zw d y pc ls (.int i :: .ref a :: st) M post := by
  subst hi
  refine zw_m h rfl ?_ kk
  show z_lal (.int (nI j) :: .ref a :: st) M = _
  unfold z_lal
  simp only
  rw [hM]
  simp only
  rw [show Nat.beq 1 1 = true from rfl, cond_true, if_neg (z_inN hj hn), nI_clamp (by omega)]
theorem zw_aald {a n j t k : Nat} {f : Nat → Option Nat} {i : Int32} (h : z_at y.2.2.2.2.2 pc = some (.aaload, nx, ax, cI, z)) (hM : M[a]? = some (.inl (t, n, .inr (.inr (.inr (.inr f)))))) (ht : (Nat.beq t 4 || Nat.beq t 5) = true) (hi : i = nI j) (hn : n < 2147483648) (hj : j < n) (hk : f j = some k) (kk : Zw d y nx ls (.ref k :: st) M post) : Zw d y pc ls (.int i :: .ref a :: st) M post := by
  subst hi
  refine zw_m h rfl ?_ kk
  show z_aal (.int (nI j) :: .ref a :: st) M = _
  unfold z_aal
  simp only
  rw [hM]
  simp only
  rw [ht, cond_true, if_neg (z_inN hj hn), nI_clamp (by omega), hk]
theorem zw_iast {a n j : Nat} {f : Nat → Int32} {i x : Int32} (h : z_at y.2.2.2.2.2 pc = some (.iastore, nx, ax, cI, z)) (hM : M[a]? = some (.inl (0, n, .inl f))) (hi : i = nI j) (hn : n < 2147483648) (hj : j < n) (kk : Zw d y nx ls st (M.set a (.inl (0, n, .inl (upd f j x)))) post) : Zw d y pc ls (.int x :: .int i :: .ref a :: st) M post := by
  subst hi
  refine zw_m h rfl ?_ kk
  show z_ias (.int x :: .int (nI j) :: .ref a :: st) M = _
  unfold z_ias
  simp only
  rw [hM]
  simp only
  rw [show Nat.beq 0 0 = true from rfl, cond_true, if_neg (z_inN hj hn), nI_clamp (by omega)]
theorem zw_last {a n j : Nat} {f : Nat → Int64} {i : Int32} {x : Int64} (h : z_at y.2.2.2.2.2 pc = some (.lastore, nx, ax, cI, z)) (hM : M[a]? = some (.inl (1, n, .inr (.inl f)))) (hi : i = nI j) (hn : n < 2147483648) (hj : j < n) (kk : Zw d y nx ls st (M.set a (.inl (1, n, .inr (.inl (vp_updL f j x))))) post) : Zw d y pc ls (.long x :: .int i :: .ref a :: st) M post := by
  subst hi
  refine zw_m h rfl ?_ kk
  show z_las (.long x :: .int (nI j) :: .ref a :: st) M = _
  unfold z_las
  simp only
  rw [hM]
  simp only
  rw [show Nat.beq 1 1 = true from rfl, cond_true, if_neg (z_inN hj hn), nI_clamp (by omega)]
theorem zw_bast {a n j : Nat} {f : Nat → Int32} {i x : Int32} (h : z_at y.2.2.2.2.2 pc = some (.bastore, nx, ax, cI, z)) (hM : M[a]? = some (.inl (2, n, .inl f))) (hi : i = nI j) (hn : n < 2147483648) (hj : j < n) (kk : Zw d y nx ls st (M.set a (.inl (2, n, .inl (upd f j (vp_nar .byte x))))) post) : Zw d y pc ls (.int x :: .int i :: .ref a :: st) M post := by
  subst hi
  refine zw_m h rfl ?_ kk
  show z_bas (.int x :: .int (nI j) :: .ref a :: st) M = _
  unfold z_bas
  simp only
  rw [hM]
  simp only
  rw [if_neg (z_inN hj hn), nI_clamp (by omega)]
  rfl
theorem zw_zast {a n j : Nat} {f : Nat → Int32} {i x : Int32} (h : z_at y.2.2.2.2.2 pc = some (.bastore, nx, ax, cI, z)) (hM : M[a]? = some (.inl (3, n, .inl f))) (hi : i = nI j) (hn : n < 2147483648) (hj : j < n) (hx : x = 0 ∨ x = 1) (kk : Zw d y nx ls st (M.set a (.inl (3, n, .inl (upd f j x)))) post) : Zw d y pc ls (.int x :: .int i :: .ref a :: st) M post := by
  subst hi
  have e : vp_nar .boolean x = x := by rcases hx with rfl | rfl <;> decide
  refine zw_m h rfl ?_ kk
  show z_bas (.int x :: .int (nI j) :: .ref a :: st) M = _
  unfold z_bas
  simp only
  rw [hM]
  simp only
  rw [if_neg (z_inN hj hn), nI_clamp (by omega), e]
  rfl
theorem zw_alen {a n t : Nat} {x : (Nat → Int32) ⊕ (Nat → Int64) ⊕ (Nat → UInt32) ⊕ (Nat → UInt64) ⊕ (Nat → Option Nat)} (h : z_at y.2.2.2.2.2 pc = some (.arraylength, nx, ax, cI, z)) (hM : M[a]? = some (.inl (t, n, x))) (ht : Nat.blt t 6 = true) (kk : Zw d y nx ls (.int (nI n) :: st) M post) : Zw d y pc ls (.ref a :: st) M post := by
  refine zw_m h rfl ?_ kk
  show z_aln (.ref a :: st) M = _
  unfold z_aln
  simp only
  rw [hM]
  simp only
  rw [ht]
  rfl
/-! branches -/
theorem zw_if {cd : Jvm.ClassFile.Cond} {off : Int} {tgt : Nat} {x : Int32} (h : z_at y.2.2.2.2.2 pc = some (.ifCond cd off, nx, tgt :: ax, cI, z)) (k : Zw d y (z_c0 cd x tgt nx) ls st M post) : Zw d y pc ls (.int x :: st) M post := by
  refine zw_1 ?_ k
  unfold z_st
  rw [h]
  rfl
theorem zw_ic {cd : Jvm.ClassFile.Cond} {off : Int} {tgt : Nat} {x v : Int32} (h : z_at y.2.2.2.2.2 pc = some (.if_icmp cd off, nx, tgt :: ax, cI, z)) (k : Zw d y (z_c2 cd x v tgt nx) ls st M post) : Zw d y pc ls (.int v :: .int x :: st) M post := by
  refine zw_1 ?_ k
  unfold z_st
  rw [h]
  rfl
theorem zw_ite {c : Prop} [Decidable c] {a b : Nat} (h1 : c → Zw d y a ls st M post) (h2 : ¬ c → Zw d y b ls st M post) : Zw d y (if c then a else b) ls st M post := by
  by_cases h : c
  · rw [if_pos h]; exact h1 h
  · rw [if_neg h]; exact h2 h
theorem zw_eq0 {off : Int} {tgt : Nat} {x : Int32} (h : z_at y.2.2.2.2.2 pc = some (.ifCond .eq off, nx, tgt :: ax, cI, z)) (h1 : x = 0 → Zw d y tgt ls st M post) (h2 : ¬ x = 0 → Zw d y nx ls st M post) : Zw d y pc ls (.int x :: st) M post := zw_if h (zw_ite h1 h2)
theorem zw_ne0 {off : Int} {tgt : Nat} {x : Int32} (h : z_at y.2.2.2.2.2 pc = some (.ifCond .ne off, nx, tgt :: ax, cI, z)) (h1 : ¬ x = 0 → Zw d y tgt ls st M post) (h2 : x = 0 → Zw d y nx ls st M post) : Zw d y pc ls (.int x :: st) M post := zw_if h (zw_ite h1 (fun q => h2 (Decidable.not_not.mp q)))
theorem zw_lt0 {off : Int} {tgt : Nat} {x : Int32} (h : z_at y.2.2.2.2.2 pc = some (.ifCond .lt off, nx, tgt :: ax, cI, z)) (h1 : x < 0 → Zw d y tgt ls st M post) (h2 : ¬ x < 0 → Zw d y nx ls st M post) : Zw d y pc ls (.int x :: st) M post := zw_if h (zw_ite h1 h2)
theorem zw_ge0 {off : Int} {tgt : Nat} {x : Int32} (h : z_at y.2.2.2.2.2 pc = some (.ifCond .ge off, nx, tgt :: ax, cI, z)) (h1 : 0 ≤ x → Zw d y tgt ls st M post) (h2 : ¬ 0 ≤ x → Zw d y nx ls st M post) : Zw d y pc ls (.int x :: st) M post := zw_if h (zw_ite h1 h2)
theorem zw_gt0 {off : Int} {tgt : Nat} {x : Int32} (h : z_at y.2.2.2.2.2 pc = some (.ifCond .gt off, nx, tgt :: ax, cI, z)) (h1 : 0 < x → Zw d y tgt ls st M post) (h2 : ¬ 0 < x → Zw d y nx ls st M post) : Zw d y pc ls (.int x :: st) M post := zw_if h (zw_ite h1 h2)
theorem zw_le0 {off : Int} {tgt : Nat} {x : Int32} (h : z_at y.2.2.2.2.2 pc = some (.ifCond .le off, nx, tgt :: ax, cI, z)) (h1 : x ≤ 0 → Zw d y tgt ls st M post) (h2 : ¬ x ≤ 0 → Zw d y nx ls st M post) : Zw d y pc ls (.int x :: st) M post := zw_if h (zw_ite h1 h2)
theorem zw_ieq {off : Int} {tgt : Nat} {x v : Int32} (h : z_at y.2.2.2.2.2 pc = some (.if_icmp .eq off, nx, tgt :: ax, cI, z)) (h1 : x = v → Zw d y tgt ls st M post) (h2 : ¬ x = v → Zw d y nx ls st M post) : Zw d y pc ls (.int v :: .int x :: st) M post := zw_ic h (zw_ite h1 h2)
theorem zw_ine {off : Int} {tgt : Nat} {x v : Int32} (h : z_at y.2.2.2.2.2 pc = some (.if_icmp .ne off, nx, tgt :: ax, cI, z)) (h1 : ¬ x = v → Zw d y tgt ls st M post) (h2 : x = v → Zw d y nx ls st M post) : Zw d y pc ls (.int v :: .int x :: st) M post := zw_ic h (zw_ite h1 (fun q => h2 (Decidable.not_not.mp q)))
theorem zw_ilt {off : Int} {tgt : Nat} {x v : Int32} (h : z_at y.2.2.2.2.2 pc = some (.if_icmp .lt off, nx, tgt :: ax, cI, z)) (h1 : x < v → Zw d y tgt ls st M post) (h2 : ¬ x < v → Zw d y nx ls st M post) : Zw d y pc ls (.int v :: .int x :: st) M post := zw_ic h (zw_ite h1 h2)
theorem zw_ige {off : Int} {tgt : Nat} {x v : Int32} (h : z_at y.2.2.2.2.2 pc = some (.if_icmp .ge off, nx, tgt :: ax, cI, z)) (h1 : v ≤ x → Zw d y tgt ls st M post) (h2 : ¬ v ≤ x → Zw d y nx ls st M post) : Zw d y pc ls (.int v :: .int x :: st) M post := zw_ic h (zw_ite h1 h2)
theorem zw_igt {off : Int} {tgt : Nat} {x v : Int32} (h : z_at y.2.2.2.2.2 pc = some (.if_icmp .gt off, nx, tgt :: ax, cI, z)) (h1 : v < x → Zw d y tgt ls st M post) (h2 : ¬ v < x → Zw d y nx ls st M post) : Zw d y pc ls (.int v :: .int x :: st) M post := zw_ic h (zw_ite h1 h2)
theorem zw_ile {off : Int} {tgt : Nat} {x v : Int32} (h : z_at y.2.2.2.2.2 pc = some (.if_icmp .le off, nx, tgt :: ax, cI, z)) (h1 : x ≤ v → Zw d y tgt ls st M post) (h2 : ¬ x ≤ v → Zw d y nx ls st M post) : Zw d y pc ls (.int v :: .int x :: st) M post := zw_ic h (zw_ite h1 h2)
/-! the same of numbers from 0 on -/
theorem zw_ieqN {off : Int} {tgt a b : Nat} {x v : Int32} (h : z_at y.2.2.2.2.2 pc = some (.if_icmp .eq off, nx, tgt :: ax, cI, z)) (hx : x = nI a) (hv : v = nI b) (ha : a < 2147483648) (hb : b < 2147483648) (h1 : a = b → Zw d y tgt ls st M post) (h2 : ¬ a = b → Zw d y nx ls st M post) : Zw d y pc ls (.int v :: .int x :: st) M post := by
  subst hx; subst hv
  exact zw_ieq h (fun q => h1 ((nI_eq ha hb).mp q)) (fun q => h2 (fun e => q (by rw [e])))
theorem zw_ineN {off : Int} {tgt a b : Nat} {x v : Int32} (h : z_at y.2.2.2.2.2 pc = some (.if_icmp .ne off, nx, tgt :: ax, cI, z)) (hx : x = nI a) (hv : v = nI b) (ha : a < 2147483648) (hb : b < 2147483648) (h1 : ¬ a = b → Zw d y tgt ls st M post) (h2 : a = b → Zw d y nx ls st M post) : Zw d y pc ls (.int v :: .int x :: st) M post := by
  subst hx; subst hv
  exact zw_ine h (fun q => h1 (fun e => q (by rw [e]))) (fun q => h2 ((nI_eq ha hb).mp q))
theorem zw_iltN {off : Int} {tgt a b : Nat} {x v : Int32} (h : z_at y.2.2.2.2.2 pc = some (.if_icmp .lt off, nx, tgt :: ax, cI, z)) (hx : x = nI a) (hv : v = nI b) (ha : a < 2147483648) (hb : b < 2147483648) (h1 : a < b → Zw d y tgt ls st M post) (h2 : b ≤ a → Zw d y nx ls st M post) : Zw d y pc ls (.int v :: .int x :: st) M post := by
  subst hx; subst hv
  exact zw_ilt h (fun q => h1 ((nI_ltI ha hb).mp q)) (fun q => h2 (Nat.not_lt.mp (fun e => q ((nI_ltI ha hb).mpr e))))
theorem zw_igeN {off : Int} {tgt a b : Nat} {x v : Int32} (h : z_at y.2.2.2.2.2 pc = some (.if_icmp .ge off, nx, tgt :: ax, cI, z)) (hx : x = nI a) (hv : v = nI b) (ha : a < 2147483648) (hb : b < 2147483648) (h1 : b ≤ a → Zw d y tgt ls st M post) (h2 : a < b → Zw d y nx ls st M post) : Zw d y pc ls (.int v :: .int x :: st) M post := by
  subst hx; subst hv
  exact zw_ige h (fun q => h1 ((nI_leI hb ha).mp q)) (fun q => h2 (Nat.not_le.mp (fun e => q ((nI_leI hb ha).mpr e))))
theorem zw_igtN {off : Int} {tgt a b : Nat} {x v : Int32} (h : z_at y.2.2.2.2.2 pc = some (.if_icmp .gt off, nx, tgt :: ax, cI, z)) (hx : x = nI a) (hv : v = nI b) (ha : a < 2147483648) (hb : b < 2147483648) (h1 : b < a → Zw d y tgt ls st M post) (h2 : a ≤ b → Zw d y nx ls st M post) : Zw d y pc ls (.int v :: .int x :: st) M post := by
  subst hx; subst hv
  exact zw_igt h (fun q => h1 ((nI_ltI hb ha).mp q)) (fun q => h2 (Nat.not_lt.mp (fun e => q ((nI_ltI hb ha).mpr e))))
theorem zw_ileN {off : Int} {tgt a b : Nat} {x v : Int32} (h : z_at y.2.2.2.2.2 pc = some (.if_icmp .le off, nx, tgt :: ax, cI, z)) (hx : x = nI a) (hv : v = nI b) (ha : a < 2147483648) (hb : b < 2147483648) (h1 : a ≤ b → Zw d y tgt ls st M post) (h2 : b < a → Zw d y nx ls st M post) : Zw d y pc ls (.int v :: .int x :: st) M post := by
  subst hx; subst hv
  exact zw_ile h (fun q => h1 ((nI_leI ha hb).mp q)) (fun q => h2 (Nat.not_le.mp (fun e => q ((nI_leI ha hb).mpr e))))
/-! calls -/
theorem zw_call {d' : Nat} {i : Instr} {k : Nat} {as rest : List Value} {y' : zY} {post1 : Option Value → zM → Prop} (h : z_at y.2.2.2.2.2 pc = some (i, nx, 0 :: ax, cI, z)) (hk : z_k i (0 :: ax) = 3) (hc : z_c i (0 :: ax) st M = some (k, as, rest)) (hy : zprog[k]? = some y') (hb : Nat.ble (z_args as).length y'.2.2.1 = true) (hd : d' < d) (hm : Zm d' y' as M post1) (kk : ∀ r M', post1 r M' → Zw d y nx ls (r.toList ++ rest) M' post) : Zw d y pc ls st M post := by
  obtain ⟨n, r, M', h1, h2⟩ := hm
  obtain ⟨n2, r2, M2, h3, h4⟩ := kk r M' h2
  match d, hd with
  | d + 1, hd =>
    refine ⟨n + n2 + 1, r2, M2, ?_, h4⟩
    rw [z_go, h]
    simp only
    rw [hk]
    simp only
    rw [hc]
    simp only
    rw [hy]
    simp only
    rw [hb, cond_true, z_go_mono _ _ _ _ _ _ _ _ _ h1 (n + n2) d (by omega) (by omega)]
    exact z_go_mono _ _ _ _ _ _ _ _ _ h3 (n + n2) (d + 1) (by omega) (Nat.le_refl _)
theorem zw_callS {d' ix n k : Nat} {ax' : List Nat} {y' : zY} {as rest : List Value} {post1 : Option Value → zM → Prop} (h : z_at y.2.2.2.2.2 pc = some (.invokestatic ix, nx, 0 :: k :: n :: ax', cI, z)) (hs : st = as.reverse ++ rest) (hn : as.length = n) (hcat : Nat.ble (z_cat rest) 8 = true) (hy : zprog[k]? = some y') (hb : Nat.ble (z_args as).length y'.2.2.1 = true) (hd : d' < d) (hm : Zm d' y' as M post1) (kk : ∀ r M', post1 r M' → Zw d y nx ls (r.toList ++ rest) M' post) : Zw d y pc ls st M post := by
  refine zw_call h rfl ?_ hy hb hd hm kk
  subst hs; subst hn
  have e1 : (as.reverse ++ rest).drop as.length = rest := by
    rw [List.drop_append_of_le_length (by simp), List.drop_of_length_le (by simp)]
    rfl
  have e2 : (as.reverse ++ rest).take as.length = as.reverse := by
    rw [List.take_append_of_le_length (by simp), List.take_of_length_le (by simp)]
  show (bif Nat.ble as.length (as.reverse ++ rest).length && Nat.ble (z_cat ((as.reverse ++ rest).drop as.length)) 8 then some (k, ((as.reverse ++ rest).take as.length).reverse, (as.reverse ++ rest).drop as.length) else none) = _
  rw [e1, e2, hcat, show Nat.ble as.length (as.reverse ++ rest).length = true from Nat.ble_eq_true_of_le (by simp), List.reverse_reverse]
  rfl
theorem zw_callV {d' ix n k ci b : Nat} {ax' : List Nat} {y' : zY} {fs as rest : List Value} {post1 : Option Value → zM → Prop} (h : z_at y.2.2.2.2.2 pc = some (.invokevirtual ix, nx, 0 :: k :: n :: ci :: ax', cI, z)) (hs : st = as.reverse ++ .ref b :: rest) (hn : as.length = n) (hM : M[b]? = some (.inr (ci, fs))) (hcat : Nat.ble (z_cat rest) 8 = true) (hy : zprog[k]? = some y') (hb : Nat.ble (z_args (.ref b :: as)).length y'.2.2.1 = true) (hd : d' < d) (hm : Zm d' y' (.ref b :: as) M post1) (kk : ∀ r M', post1 r M' → Zw d y nx ls (r.toList ++ rest) M' post) : Zw d y pc ls st M post := by
  refine zw_call h rfl ?_ hy hb hd hm kk
  subst hs; subst hn
  have e1 : (as.reverse ++ Value.ref b :: rest).drop as.length = .ref b :: rest := by
    rw [List.drop_append_of_le_length (by simp), List.drop_of_length_le (by simp)]
    rfl
  have e2 : (as.reverse ++ Value.ref b :: rest).take as.length = as.reverse := by
    rw [List.take_append_of_le_length (by simp), List.take_of_length_le (by simp)]
  have e3 : Nat.ble as.length (as.reverse ++ Value.ref b :: rest).length = true := Nat.ble_eq_true_of_le (by simp)
  simp only [z_c, e1, e2, e3, hM, hcat, Nat.beq_refl, List.reverse_reverse, Bool.and_self, cond_true]
end ZR
/-! numbers -/
theorem na {x y : Int32} {a b : Nat} (h1 : x = nI a) (h2 : y = nI b) : x + y = nI (a + b) := by rw [h1, h2, nI_add]
theorem nm {x y : Int32} {a b : Nat} (h1 : x = nI a) (h2 : y = nI b) : x * y = nI (a * b) := by rw [h1, h2, pk_mul]
theorem ns {x y : Int32} {a b : Nat} (h1 : x = nI a) (h2 : y = nI b) (h : b ≤ a) : x - y = nI (a - b) := by rw [h1, h2, pk_sub h]
theorem zw_top {d : Nat} {y : zY} {pc : Nat} {ls : zL} {st : List Value} {M : zM} {post : Option Value → zM → Prop} {x x' : Int32} (h : x = x') (k : Zw d y pc ls (.int x' :: st) M post) : Zw d y pc ls (.int x :: st) M post := by rw [h]; exact k
theorem zw_topl {d : Nat} {y : zY} {pc : Nat} {ls : zL} {st : List Value} {M : zM} {post : Option Value → zM → Prop} {x x' : Int64} (h : x = x') (k : Zw d y pc ls (.long x' :: st) M post) : Zw d y pc ls (.long x :: st) M post := by rw [h]; exact k
/-! pieces of the cells -/
def Seg (M : zM) (k : Nat) (L : List va_E) : Prop := ∀ (j : Nat) (e : va_E), L[j]? = some e → M[k + j]? = some e
def Sm (M M' : zM) (S : List Nat) : Prop := M'.length = M.length ∧ ∀ a, a ∉ S → M'[a]? = M[a]?
theorem Sm.rf {M : zM} {S : List Nat} : Sm M M S := ⟨rfl, fun _ _ => rfl⟩
theorem Sm.trans {M M1 M2 : zM} {S : List Nat} (h1 : Sm M M1 S) (h2 : Sm M1 M2 S) : Sm M M2 S := ⟨h2.1.trans h1.1, fun a ha => (h2.2 a ha).trans (h1.2 a ha)⟩
theorem Sm.wide {M M1 : zM} {S S' : List Nat} (h1 : Sm M M1 S) (hs : ∀ a ∈ S, a ∈ S') : Sm M M1 S' := ⟨h1.1, fun a ha => h1.2 a (fun q => ha (hs a q))⟩
theorem Sm.set {M : zM} {a : Nat} {S : List Nat} (e : va_E) (h : a ∈ S) : Sm M (M.set a e) S := ⟨List.length_set .., fun b hb => List.getElem?_set_ne (fun (q : a = b) => hb (q ▸ h))⟩
theorem Sm.at {M M1 : zM} {S : List Nat} (h : Sm M M1 S) {a : Nat} (ha : a ∉ S) {e : va_E} (hM : M[a]? = some e) : M1[a]? = some e := (h.2 a ha).trans hM
def Same (M M' : zM) (lo hi : Nat) : Prop := M'.length = M.length ∧ ∀ a, (a < lo ∨ hi ≤ a) → M'[a]? = M[a]?
theorem Seg.get {M : zM} {k : Nat} {L : List va_E} (h : Seg M k L) (j : Nat) {e : va_E} (hj : L[j]? = some e) : M[k + j]? = some e := h j e hj
theorem Seg.set {M : zM} {k : Nat} {L : List va_E} (h : Seg M k L) (j : Nat) (hj : j < L.length) (e : va_E) : Seg (M.set (k + j) e) k (L.set j e) := by
  intro i e' hi
  have hl : k + j < M.length := (List.getElem?_eq_some_iff.mp (h j _ (List.getElem?_eq_getElem hj))).1
  by_cases hij : j = i
  · subst hij
    rw [List.getElem?_set_self hj] at hi
    rw [List.getElem?_set_self hl, hi]
  · rw [List.getElem?_set_ne hij] at hi
    rw [List.getElem?_set_ne (by omega)]
    exact h i e' hi
theorem Seg.off {M : zM} {k a : Nat} {L : List va_E} (h : Seg M k L) (e : va_E) (ha : a < k ∨ k + L.length ≤ a) : Seg (M.set a e) k L := by
  intro i e' hi
  have hl := (List.getElem?_eq_some_iff.mp hi).1
  rw [List.getElem?_set_ne (by omega)]
  exact h i e' hi
theorem Seg.same {M M' : zM} {k lo hi : Nat} {L : List va_E} (h : Seg M k L) (hs : Same M M' lo hi) (hd : k + L.length ≤ lo ∨ hi ≤ k) : Seg M' k L := by
  intro i e' hi
  have hl := (List.getElem?_eq_some_iff.mp hi).1
  rw [hs.2 _ (by omega)]
  exact h i e' hi
theorem Seg.sm {M M' : zM} {k : Nat} {S : List Nat} {L : List va_E} (h : Seg M k L) (hs : Sm M M' S) (hd : ∀ a ∈ S, a < k ∨ k + L.length ≤ a) : Seg M' k L := by
  intro i e' hi
  have hl := (List.getElem?_eq_some_iff.mp hi).1
  exact hs.at (fun q => by have := hd _ q; omega) (h i e' hi)
theorem Same.rf {M : zM} {lo hi : Nat} : Same M M lo hi := ⟨rfl, fun _ _ => rfl⟩
theorem Same.trans {M M1 M2 : zM} {lo hi : Nat} (h1 : Same M M1 lo hi) (h2 : Same M1 M2 lo hi) : Same M M2 lo hi := ⟨h2.1.trans h1.1, fun a ha => (h2.2 a ha).trans (h1.2 a ha)⟩
theorem Same.wide {M M1 : zM} {lo hi lo' hi' : Nat} (h1 : Same M M1 lo hi) (hl : lo' ≤ lo) (hh : hi ≤ hi') : Same M M1 lo' hi' := ⟨h1.1, fun a ha => h1.2 a (by omega)⟩
theorem Same.set {M : zM} {a lo hi : Nat} (e : va_E) (h1 : lo ≤ a) (h2 : a < hi) : Same M (M.set a e) lo hi := ⟨List.length_set .., fun b hb => List.getElem?_set_ne (by omega)⟩
/-! rows of numbers as arrays -/
def ai (g : Nat → Nat) : Nat → Int32 := fun j => nI (g j)
def al (g : Nat → Nat) : Nat → Int64 := fun j => lN (g j)
def up (g : Nat → Nat) (k v : Nat) : Nat → Nat := fun j => if j = k then v else g j
theorem ai_upd (g : Nat → Nat) (k v : Nat) : upd (ai g) k (nI v) = ai (up g k v) := by
  funext j
  unfold upd ai up
  by_cases h : j = k
  · rw [if_pos h, if_pos h]
  · rw [if_neg h, if_neg h]
theorem al_upd (g : Nat → Nat) (k v : Nat) : vp_updL (al g) k (lN v) = al (up g k v) := by
  funext j
  unfold vp_updL al up
  by_cases h : j = k
  · rw [if_pos h, if_pos h]
  · rw [if_neg h, if_neg h]
theorem up_s (g : Nat → Nat) (k v : Nat) : up g k v k = v := if_pos rfl
theorem up_n {g : Nat → Nat} {k v j : Nat} (h : j ≠ k) : up g k v j = g j := if_neg h
