section ZM3
variable {p : Program} {l : Launch} {e : Env} {R : Room} {s : State} {m : MethodId} {args : Array Value} {below : List Frame} {meth : Method} {c : Code} {H : Heap} {locs : List Loc} {cells slots : Nat} {Q : State → Prop}
theorem z_ca {D : va_G} {ca : Nat → ClassId} {t : Nat} (hC : z_Cx D ca s) (ht : t < 4) {cA : ClassId} (h : s.vm.findClass ("[" ++ (z_aty t).toString) = some cA) : cA = ca t := by
  have h2 := (hC.1.2 t _ (z_tys_at (by omega))).2
  match t, ht with
  | 0, _ => exact Option.some.inj (h.symm.trans h2)
  | 1, _ => exact Option.some.inj (h.symm.trans h2)
  | 2, _ => exact Option.some.inj (h.symm.trans h2)
  | 3, _ => exact Option.some.inj (h.symm.trans h2)
/-- a cell is put behind the others -/
theorem z_push {N0 : Nat} {D : va_G} {ca : Nat → ClassId} {M : zM} {e1 : va_E} {H0 H1 : Heap} {g : JFrame} {k : Nat} (hH : z_H N0 D ca M H) (hS : va_S (z_A N0) H0 H locs) (hz : H.size = N0 + M.length) (hk : z_sl e1 = k)
    (z1 : H1.size = H.size + 1) (o1 : ∀ q, q < H.size → H1[q]? = H[q]?) (he : va_at D z_cl (N0 + M.length, z_e N0 ca e1) H1)
    (kk : ∀ (H1 : Heap) (locs1 : List Loc), z_H N0 D ca (M ++ [e1]) H1 → va_S (z_A N0) H0 H1 locs1 → W p l e R s m args below meth c H1 locs1 (cells + ((M ++ [e1]).length - M.length)) (slots + (z_sz (M ++ [e1]) - z_sz M)) Q g) : W p l e R s m args below meth c H1 locs (cells + 1) (slots + k) Q g := by
  have h := kk H1 locs (by
    unfold z_H
    rw [z_ws_push]
    refine va_P.app (fun j x hx => (hH j x hx).kept (o1 x.1 ((hH j x hx).lt))) (fun j x hx => ?_)
    have hj : j < 1 := (List.getElem?_eq_some_iff.mp hx).1
    rw [show j = 0 by omega] at hx
    cases hx
    exact he) ⟨Nat.le_trans hS.1 (by omega), fun x h1 h2 => (o1 x (Nat.lt_of_lt_of_le h1 hS.1)).trans (hS.2.1 x h1 h2), hS.2.2⟩
  rw [z_sz_push, hk] at h
  have e1 : (M ++ [e1]).length - M.length = 1 := by simp
  have e2 : z_sz M + k - z_sz M = k := by omega
  rw [e1, e2] at h
  exact h
theorem z_band2 {a b : Bool} (h : (a && b) = true) : a = true ∧ b = true := by
  cases a <;> cases b <;> simp_all
theorem z_band4 {a b d f : Bool} (h : (a && b && d && f) = true) : a = true ∧ b = true ∧ d = true ∧ f = true := by
  cases a <;> cases b <;> cases d <;> cases f <;> simp_all
theorem z_n10 {n : Int32} {α : Type} {x : Option α} {y : α} (h : (if n < 0 ∨ 10000 < n.toNatClampNeg then none else x) = some y) : ¬ n < 0 ∧ n.toNatClampNeg ≤ 10000 ∧ x = some y := by
  by_cases q : n < 0 ∨ 10000 < n.toNatClampNeg
  · rw [if_pos q] at h; cases h
  · rw [if_neg q] at h
    exact ⟨fun r => q (Or.inl r), by rcases Nat.lt_or_ge 10000 n.toNatClampNeg with r | r; exact absurd (Or.inr r) q; exact r, h⟩
theorem z_arrV (cA : ClassId) (n : Nat) {f g : Nat → Value} (h : ∀ j, j < n → f j = g j) : arrV cA n f = arrV cA n g := by
  unfold arrV
  congr 1
  congr 1
  funext j
  exact h j.val j.isLt
theorem z_cp_lo {α : Type} (f g : Nat → α) {sp dp n n1 j : Nat} (h : j < n1) : va_cpy f g sp dp n j = z_cp f g sp dp n n1 j := by
  unfold va_cpy z_cp
  by_cases q : dp ≤ j ∧ j < dp + n
  · rw [if_pos q, if_pos ⟨q.1, Or.inl q.2⟩]
  · rw [if_neg q, if_neg (fun r => q ⟨r.1, by rcases r.2 with r | r; exact r; omega⟩)]
theorem z_cell_i (cA : ClassId) (f g : Nat → Int32) (sp dp n n1 : Nat) : vp_cell cA (n1, .inl (va_cpy f g sp dp n)) = vp_cell cA (n1, .inl (z_cp f g sp dp n n1)) := by
  rw [vp_cell_i, vp_cell_i]
  exact z_arrV _ _ (fun j hj => by rw [z_cp_lo f g hj])
theorem z_cell_l (cA : ClassId) (f g : Nat → Int64) (sp dp n n1 : Nat) : vp_cell cA (n1, .inr (.inl (va_cpy f g sp dp n))) = vp_cell cA (n1, .inr (.inl (z_cp f g sp dp n n1))) := by
  rw [vp_cell_l, vp_cell_l]
  exact z_arrV _ _ (fun j hj => by rw [z_cp_lo f g hj])
theorem z_atswap {D : va_G} {cl : List vw_C} {ws : va_W} {p a : Nat} {e1 e2 : va_E} {H : Heap} (h : va_P D cl (ws.set p (a, e1)) H) (hp : p < ws.length) (he : va_at D cl (a, e1) H → va_at D cl (a, e2) H) : va_P D cl (ws.set p (a, e2)) H := by
  intro k q hk
  by_cases e : p = k
  · subst e
    rw [List.getElem?_set_self hp] at hk
    cases hk
    exact he (h p _ (List.getElem?_set_self hp))
  · rw [List.getElem?_set_ne e] at hk
    exact h k q (by rw [List.getElem?_set_ne e]; exact hk)
/-- System.arraycopy of ints or longs -/
theorem z_cpy_eq {st st' : List Value} {M M' : zM} (h : z_cpy st M = some (st', M')) : ∃ (a0 a1 : Nat) (n sp dp : Int32) (r : List Value) (n0 n1 : Nat), st = .int n :: .int dp :: .ref a1 :: .int sp :: .ref a0 :: r ∧ st' = r ∧ z_cat r ≤ 8 ∧ ¬ sp < 0 ∧ ¬ dp < 0 ∧ ¬ n < 0 ∧ sp.toNatClampNeg + n.toNatClampNeg ≤ n0 ∧ dp.toNatClampNeg + n.toNatClampNeg ≤ n1 ∧
    ((∃ f g : Nat → Int32, M[a0]? = some (.inl (0, n0, .inl f)) ∧ M[a1]? = some (.inl (0, n1, .inl g)) ∧ M' = M.set a1 (.inl (0, n1, .inl (z_cp f g sp.toNatClampNeg dp.toNatClampNeg n.toNatClampNeg n1)))) ∨
     (∃ f g : Nat → Int64, M[a0]? = some (.inl (1, n0, .inr (.inl f))) ∧ M[a1]? = some (.inl (1, n1, .inr (.inl g))) ∧ M' = M.set a1 (.inl (1, n1, .inr (.inl (z_cp f g sp.toNatClampNeg dp.toNatClampNeg n.toNatClampNeg n1)))))) := by
  unfold z_cpy at h
  split at h
  · rename_i n dp a1 sp a0 r
    cases hb : Nat.ble (z_cat r) 8 with
    | false => rw [hb] at h; cases h
    | true =>
      rw [hb, cond_true] at h
      have hr : z_cat r ≤ 8 := Nat.le_of_ble_eq_true hb
      split at h
      · rename_i t0 n0 f t1 n1 g h0 h1
        cases hb2 : (Nat.beq t0 0 && Nat.beq t1 0) with
        | false => rw [hb2] at h; cases h
        | true =>
          rw [hb2, cond_true] at h
          obtain ⟨q1, q2⟩ := z_band2 hb2
          have e1 := Nat.eq_of_beq_eq_true q1
          have e2 := Nat.eq_of_beq_eq_true q2
          subst e1; subst e2
          by_cases q : sp < 0 ∨ dp < 0 ∨ n < 0 ∨ n0 < sp.toNatClampNeg + n.toNatClampNeg ∨ n1 < dp.toNatClampNeg + n.toNatClampNeg
          · rw [if_pos q] at h; cases h
          · rw [if_neg q] at h
            cases h
            exact ⟨a0, a1, n, sp, dp, _, n0, n1, rfl, rfl, hr, fun z => q (Or.inl z), fun z => q (Or.inr (Or.inl z)), fun z => q (Or.inr (Or.inr (Or.inl z))), Nat.not_lt.mp fun z => q (Or.inr (Or.inr (Or.inr (Or.inl z)))), Nat.not_lt.mp fun z => q (Or.inr (Or.inr (Or.inr (Or.inr z)))), Or.inl ⟨f, g, h0, h1, rfl⟩⟩
      · rename_i t0 n0 f t1 n1 g h0 h1
        cases hb2 : (Nat.beq t0 1 && Nat.beq t1 1) with
        | false => rw [hb2] at h; cases h
        | true =>
          rw [hb2, cond_true] at h
          obtain ⟨q1, q2⟩ := z_band2 hb2
          have e1 := Nat.eq_of_beq_eq_true q1
          have e2 := Nat.eq_of_beq_eq_true q2
          subst e1; subst e2
          by_cases q : sp < 0 ∨ dp < 0 ∨ n < 0 ∨ n0 < sp.toNatClampNeg + n.toNatClampNeg ∨ n1 < dp.toNatClampNeg + n.toNatClampNeg
          · rw [if_pos q] at h; cases h
          · rw [if_neg q] at h
            cases h
            exact ⟨a0, a1, n, sp, dp, _, n0, n1, rfl, rfl, hr, fun z => q (Or.inl z), fun z => q (Or.inr (Or.inl z)), fun z => q (Or.inr (Or.inr (Or.inl z))), Nat.not_lt.mp fun z => q (Or.inr (Or.inr (Or.inr (Or.inl z)))), Nat.not_lt.mp fun z => q (Or.inr (Or.inr (Or.inr (Or.inr z)))), Or.inr ⟨f, g, h0, h1, rfl⟩⟩
      · cases h
  · cases h
theorem z_nwa_eq {t : Nat} {st : List Value} {M : zM} {o : List Value × zM} (h : z_nwa t st M = some o) : ∃ (n : Int32) (r : List Value), st = .int n :: r ∧ ¬ n < 0 ∧ n.toNatClampNeg ≤ 10000 ∧ z_nwc t n.toNatClampNeg r M = some o := by
  unfold z_nwa at h
  split at h
  · rename_i n r
    obtain ⟨g1, g2, g3⟩ := z_n10 h
    exact ⟨n, r, rfl, g1, g2, g3⟩
  · cases h
theorem z_ana_eq {t : Nat} {st : List Value} {M : zM} {o : List Value × zM} (h : z_ana t st M = some o) : ∃ (n : Int32) (r : List Value), st = .int n :: r ∧ ¬ n < 0 ∧ n.toNatClampNeg ≤ 10000 ∧ (t = 4 ∨ t = 5) ∧ o = (.ref M.length :: r, M ++ [.inl (t, n.toNatClampNeg, .inr (.inr (.inr (.inr (fun _ => none)))))]) := by
  unfold z_ana at h
  split at h
  · rename_i n r
    obtain ⟨g1, g2, g3⟩ := z_n10 h
    cases hb : (Nat.beq t 4 || Nat.beq t 5) with
    | false => rw [hb] at g3; cases g3
    | true =>
      rw [hb, cond_true] at g3
      exact ⟨n, r, rfl, g1, g2, z_t45 hb, (Option.some.inj g3).symm⟩
  · cases h
theorem z_oin_eq {st : List Value} {M : zM} {o : List Value × zM} (h : z_oin st M = some o) : ∃ (a : Nat) (r : List Value), st = .ref a :: r ∧ z_cat r ≤ 8 ∧ o = (r, M) := by
  unfold z_oin at h
  split at h
  · rename_i a r
    cases hb2 : Nat.ble (z_cat r) 8 with
    | false => rw [hb2] at h; cases h
    | true =>
      rw [hb2, cond_true] at h
      exact ⟨a, r, rfl, Nat.le_of_ble_eq_true hb2, (Option.some.inj h).symm⟩
  · cases h
theorem z_max_eq {st : List Value} {M : zM} {o : List Value × zM} (h : z_max st M = some o) : ∃ (x y : Int32) (r : List Value), st = .int y :: .int x :: r ∧ z_cat r ≤ 8 ∧ o = (.int (if x < y then y else x) :: r, M) := by
  unfold z_max at h
  split at h
  · rename_i y x r
    cases hb2 : Nat.ble (z_cat r) 8 with
    | false => rw [hb2] at h; cases h
    | true =>
      rw [hb2, cond_true] at h
      exact ⟨x, y, r, rfl, Nat.le_of_ble_eq_true hb2, (Option.some.inj h).symm⟩
  · cases h
theorem z_min_eq {st : List Value} {M : zM} {o : List Value × zM} (h : z_min st M = some o) : ∃ (x y : Int32) (r : List Value), st = .int y :: .int x :: r ∧ z_cat r ≤ 8 ∧ o = (.int (if y < x then y else x) :: r, M) := by
  unfold z_min at h
  split at h
  · rename_i y x r
    cases hb2 : Nat.ble (z_cat r) 8 with
    | false => rw [hb2] at h; cases h
    | true =>
      rw [hb2, cond_true] at h
      exact ⟨x, y, r, rfl, Nat.le_of_ble_eq_true hb2, (Option.some.inj h).symm⟩
  · cases h
theorem z_upm {N0 v i : Nat} (f : Nat → Option Nat) : va_up (fun j => (f j).map (fun k => N0 + k)) i (some (N0 + v)) = fun j => (va_up f i (some v) j).map (fun k => N0 + k) := by
  funext j
  by_cases hj : j = i
  · simp [va_up, hj]
  · simp [va_up, hj]
set_option maxHeartbeats 4000000 in
set_option maxRecDepth 100000 in
theorem z_m_sound {cc : ByteArray} {own nm : String} (hx : p.tables.exec = Jvm.exec) (hb : c.code = cc) (hown : s.vm.findClass own = some m.cls) (hnm : meth.name = nm) (hts : ∀ w ∈ zG, w.before args s = true)
    {N0 pc nx d : Nat} {D : va_G} {ca : Nat → ClassId} (hC : z_Cx D ca s) {i : Instr} {ax : List Nat} {st st' : List Value} {M M' : zM} {rls : Array Slot} {H0 : Heap}
    (hml : c.maxLocals = rls.size) (hd : decode cc pc = .ok (i, nx - pc)) (hln : z_len i = 0 ∨ pc + z_len i = nx) (hk : z_ckm own nm i ax = true) (hs : z_m i ax d st M = some (st', M'))
    (hH : z_H N0 D ca M H) (hS : va_S (z_A N0) H0 H locs) (hc : M'.length = M.length ∨ (N0 ≤ s.heap.size ∧ s.heap.size + cells = N0 + M.length)) (hRf : d ≤ R.frames) (hRl : 64 * d ≤ R.locals)
    (hRc : cells + (M'.length - M.length) ≤ R.cells) (hRs : slots + (z_sz M' - z_sz M) ≤ R.slots)
    (kk : ∀ (H1 : Heap) (locs1 : List Loc), z_H N0 D ca M' H1 → va_S (z_A N0) H0 H1 locs1 → W p l e R s m args below meth c H1 locs1 (cells + (M'.length - M.length)) (slots + (z_sz M' - z_sz M)) Q (F0 m nx rls (st'.map (z_v N0)))) :
    W p l e R s m args below meth c H locs cells slots Q (F0 m pc rls (st.map (z_v N0))) := by
  have one : ∀ (n : Nat), z_len i = n → 0 < n → nx = pc + n ∧ decode cc pc = .ok (i, n) := fun n h1 h2 => by
    rcases hln with h | h
    · omega
    · refine ⟨by omega, ?_⟩
      rw [hd]
      have : nx - pc = n := by omega
      rw [this]
  have hD := z_D N0 ca M
  cases i with
  | getfield ix =>
    obtain ⟨e1, e2⟩ := one 3 rfl (by decide)
    match ax, hk, hs with
    | ci :: k :: w :: ax', hk, hs =>
      obtain ⟨a, r, fs, v, rfl, hM, hv, rfl, rfl⟩ := z_gf_eq hs
      simp only [z_ckm] at hk
      split at hk
      · rename_i C T N hcl
        obtain ⟨k1, k2⟩ := z_band2 hk
        have hcs := z_cls ci _ hcl
        subst e1
        exact va_get (own := own) hx hb hts hcs.1 hown hC.1 hH a (z_ws_get hM) hcl k (z_blt k1) (hts _ (z_gi _ (of_decide_eq_true k2) rfl)) (fun _ h => h) (by rw [List.getElem?_map, hv]; rfl) e2 (z_fin0 hH hS kk)
      · cases hk
    | [ci, k], hk, hs => cases hk
    | [ci], hk, hs => cases hs
    | [], hk, hs => cases hs
  | putfield ix =>
    obtain ⟨e1, e2⟩ := one 3 rfl (by decide)
    match ax, hk, hs with
    | ci :: k :: w :: ax', hk, hs =>
      obtain ⟨a, r, fs, v, rfl, hM, hf, hlt, rfl, rfl⟩ := z_pf_eq hs
      simp only [z_ckm] at hk
      split at hk
      · rename_i C T N hcl
        obtain ⟨k1, k2, k3⟩ := z_band3 hk
        have hcs := z_cls ci _ hcl
        subst e1
        obtain ⟨hn, hfit⟩ := z_fit_ok N0 hf
        have hK := hC.1
        have hws : (z_ws N0 ca M)[a]? = some (N0 + a, .inr (ci, fs.map (z_v N0))) := z_ws_get hM
        have hl : k < (fs.map (z_v N0)).length := by rw [List.length_map]; exact hlt
        have he : (z_ws N0 ca M).set a (N0 + a, .inr (ci, (fs.map (z_v N0)).set k (z_v N0 v))) = (z_ws N0 ca M).set a (N0 + a, z_e N0 ca (.inr (ci, fs.set k v))) := by
          show _ = (z_ws N0 ca M).set a (N0 + a, .inr (ci, (fs.set k v).map (z_v N0)))
          rw [List.map_set]
        have hfl : (Cond.fieldLink own ix (T k).1 (T k).2.1 (T k).2.2.1).before args s = true := hts _ (z_gi _ (of_decide_eq_true k2) rfl)
        cases hfin : (T k).2.2.2 with
        | false =>
          exact va_put (own := own) hx hb hts hcs.1 (z_ty ci) hcs.2.1 hcs.2.2.1 hown hK hH hD hS a hws hcl k (z_blt k1) hfl (fun _ h => h) hfin (hcs.2.1 k (z_blt k1)) hn hfit hl e2 (fun H1 locs1 hP _ hS1 => z_fin hM kk rfl (by rw [← he]; exact hP) hS1)
        | true =>
          rw [hfin] at k3
          obtain ⟨q1, q2⟩ := z_band2 (show (decide (nm = "<init>") && decide ((T k).1 = own)) = true from k3)
          exact va_putF (own := own) hx hb hts hcs.1 (z_ty ci) hcs.2.1 hcs.2.2.1 hown hK hH hD hS a hws hcl k (z_blt k1) hfl (fun _ h => h) hfin (hnm.trans (of_decide_eq_true q1)) (of_decide_eq_true q2) (hcs.2.1 k (z_blt k1)) hn hfit hl e2 (fun H1 locs1 hP _ hS1 => z_fin hM kk rfl (by rw [← he]; exact hP) hS1)
      · cases hk
    | [ci, k], hk, hs => cases hk
    | [ci], hk, hs => cases hs
    | [], hk, hs => cases hs
  | iaload =>
    obtain ⟨e1, e2⟩ := one 1 rfl (by decide)
    obtain ⟨a, i, r, n, f, rfl, hM, hin, rfl, rfl⟩ := z_ial_eq hs
    subst e1
    exact va_iald hx hb hC.1 hH a 0 (z_ws_get hM) (z_tys_at (by decide)) hin e2 (z_fin0 hH hS kk)
  | baload =>
    obtain ⟨e1, e2⟩ := one 1 rfl (by decide)
    obtain ⟨a, i, r, t, n, f, rfl, hM, ht, hin, rfl, rfl⟩ := z_bal_eq hs
    subst e1
    rcases ht with rfl | rfl
    · exact va_bald hx hb hC.1 hH a 2 (z_ws_get hM) (z_tys_at (by decide)) hin e2 (z_fin0 hH hS kk)
    · exact va_zald hx hb hC.1 hH a 3 (z_ws_get hM) (z_tys_at (by decide)) hin e2 (z_fin0 hH hS kk)
  | laload =>
    obtain ⟨e1, e2⟩ := one 1 rfl (by decide)
    obtain ⟨a, i, r, n, f, rfl, hM, hin, rfl, rfl⟩ := z_lal_eq hs
    subst e1
    exact va_lald hx hb hC.1 hH a 1 (z_ws_get hM) (z_tys_at (by decide)) hin e2 (z_fin0 hH hS kk)
  | aaload =>
    obtain ⟨e1, e2⟩ := one 1 rfl (by decide)
    obtain ⟨a, i, r, t, n, k, f, rfl, hM, ht, hin, hf, rfl, rfl⟩ := z_aal_eq hs
    subst e1
    have h2 := z_fin0 hH hS kk
    rcases ht with rfl | rfl
    · refine va_aldq hx hb hC.1 hH a 4 (z_ws_get hM) (z_tys_at (by decide)) hin e2 ?_
      rw [hf]; exact h2
    · refine va_aldq hx hb hC.1 hH a 5 (z_ws_get hM) (z_tys_at (by decide)) hin e2 ?_
      rw [hf]; exact h2
  | iastore =>
    obtain ⟨e1, e2⟩ := one 1 rfl (by decide)
    obtain ⟨a, i, x, r, n, f, rfl, hM, hin, rfl, rfl⟩ := z_ias_eq hs
    subst e1
    exact va_iast hx hb hC.1 hH hD hS a 0 (z_ws_get hM) (z_tys_at (by decide)) hin e2 (fun H1 locs1 hP _ hS1 => z_fin hM kk rfl hP hS1)
  | lastore =>
    obtain ⟨e1, e2⟩ := one 1 rfl (by decide)
    obtain ⟨a, i, x, r, n, f, rfl, hM, hin, rfl, rfl⟩ := z_las_eq hs
    subst e1
    exact va_last hx hb hC.1 hH hD hS a 1 (z_ws_get hM) (z_tys_at (by decide)) hin e2 (fun H1 locs1 hP _ hS1 => z_fin hM kk rfl hP hS1)
  | bastore =>
    obtain ⟨e1, e2⟩ := one 1 rfl (by decide)
    obtain ⟨a, i, x, r, n, f, rfl, hin, rfl, ⟨hM, rfl⟩ | ⟨hM, rfl⟩⟩ := z_bas_eq hs
    · subst e1
      exact va_bast hx hb hC.1 hH hD hS a 2 (z_ws_get hM) (z_tys_at (by decide)) hin e2 (fun H1 locs1 hP _ hS1 => z_fin hM kk rfl hP hS1)
    · subst e1
      exact va_zast hx hb hC.1 hH hD hS a 3 (z_ws_get hM) (z_tys_at (by decide)) hin e2 (fun H1 locs1 hP _ hS1 => z_fin hM kk rfl hP hS1)
  | aastore =>
    obtain ⟨e1, e2⟩ := one 1 rfl (by decide)
    obtain ⟨a, v, i, r, t, n, f, vs, rfl, hM, hv, ht, hin, rfl, rfl⟩ := z_aas_eq hs
    subst e1
    have hup : ∀ (t : Nat), ((N0 + a, .inl (ca t, n, .inr (.inr (.inr (.inr (va_up (fun j => (f j).map (fun k => N0 + k)) i.toNatClampNeg (some (N0 + v)))))))) : Nat × va_E) = (N0 + a, z_e N0 ca (.inl (t, n, .inr (.inr (.inr (.inr (va_up f i.toNatClampNeg (some v)))))))) := by
      intro t
      rw [z_upm]
      rfl
    rcases ht with rfl | rfl
    · exact va_astq (r := (z_C9, z_T9, 4)) hx hb hC.1 hH hD hS a 4 v 9 (z_ws_get hM) (z_tys_at (by decide)) (z_ws_get hv) rfl hin e2 (fun H1 locs1 hP _ hS1 => z_fin hM kk rfl (by rw [hup] at hP; exact hP) hS1)
    · exact va_astq (r := (z_C4, z_T4, 3)) hx hb hC.1 hH hD hS a 5 v 4 (z_ws_get hM) (z_tys_at (by decide)) (z_ws_get hv) rfl hin e2 (fun H1 locs1 hP _ hS1 => z_fin hM kk rfl (by rw [hup] at hP; exact hP) hS1)
  | arraylength =>
    obtain ⟨e1, e2⟩ := one 1 rfl (by decide)
    change z_aln st M = some (st', M') at hs
    unfold z_aln at hs
    split at hs
    · rename_i a r
      split at hs
      · rename_i t n xx hM
        cases hb2 : Nat.blt t 6 with
        | false => rw [hb2] at hs; cases hs
        | true =>
          rw [hb2, cond_true] at hs
          cases hs
          subst e1
          have ht := z_blt hb2
          have h2 := z_fin0 hH hS kk
          have hws := z_ws_get (N0 := N0) (ca := ca) hM
          obtain ⟨xx', hx'⟩ : ∃ x' : vp_A, z_e N0 ca (.inl (t, n, xx)) = .inl (ca t, x') ∧ x'.1 = n := by
            rcases xx with f | f | f | f | f
            · exact ⟨_, rfl, rfl⟩
            · exact ⟨_, rfl, rfl⟩
            · exact ⟨_, rfl, rfl⟩
            · exact ⟨_, rfl, rfl⟩
            · exact ⟨_, rfl, rfl⟩
          rw [hx'.1] at hws
          exact va_alen hx hb hC.1 hH a t hws (z_tys_at ht) (by rw [hx'.2]) e2 h2
      · cases hs
    · cases hs
  | new ix =>
    obtain ⟨e1, e2⟩ := one 3 rfl (by decide)
    match ax, hk, hs with
    | ci :: w1 :: w2 :: w3 :: ax', hk, hs =>
      simp only [z_ckm] at hk
      split at hk
      · rename_i C T N hcl
        obtain ⟨k1, k2, k3⟩ := z_band3 hk
        have hcs := z_cls ci _ hcl
        change z_new ci st M = some (st', M') at hs
        unfold z_new at hs
        cases hb2 : Nat.blt ci 13 with
        | false => rw [hb2] at hs; cases hs
        | true =>
          rw [hb2, cond_true] at hs
          cases hs
          subst e1
          rcases hc with hc | ⟨hN, hc⟩
          · simp at hc
          refine z_size hH hN hc (fun hz => ?_)
          have hNN : z_sl (.inr (ci, z_df ci)) = N := hcs.2.2.2.2.2
          rw [z_sz_push, hNN] at hRs
          have hl1 : (M ++ [(.inr (ci, z_df ci) : va_E)]).length - M.length = 1 := by simp
          rw [hl1] at hRc
          have hKn := hC.1.1 ci _ hcl
          refine W.newcK hx hb hown (hts _ (z_gi _ (of_decide_eq_true k1) rfl)) (hts _ (z_gi _ (of_decide_eq_true k2) rfl)) (hts _ (z_gi _ (of_decide_eq_true k3) rfl)) rfl e2 hRc (by omega) hKn.2.1 hz fun H1 kC hkC g1 z1 o1 => ?_
          refine z_push hH hS hz hNN (by omega) (fun q hq => o1 q (by omega)) ?_ kk
          have hb9 := (u_born (z_ty ci) hts hcs.1 hKn hkC g1 hcs.2.1).to hcs.2.2.2.1
          have hmp : (z_df ci).map (z_v N0) = z_df ci := by
            match ci, (z_blt hb2) with
            | 0, _ => rfl
            | 1, _ => rfl
            | 2, _ => rfl
            | 3, _ => rfl
            | 4, _ => rfl
            | 5, _ => rfl
            | 6, _ => rfl
            | 7, _ => rfl
            | 8, _ => rfl
            | 9, _ => rfl
            | 10, _ => rfl
            | 11, _ => rfl
            | 12, _ => rfl
          show ∃ r : vw_C, z_cl[ci]? = some r ∧ t_OB (N0 + M.length) (D.1 ci) r.2.2 (D.2 ci) H1 (vp_V ((z_df ci).map (z_v N0)))
          rw [hmp]
          exact ⟨_, hcl, hb9⟩
      · cases hk
    | [ci, w1, w2], hk, hs => cases hk
    | [ci, w1], hk, hs => cases hk
    | [ci], hk, hs => cases hk
    | [], hk, hs => cases hs
  | newarray ty =>
    obtain ⟨e1, e2⟩ := one 2 rfl (by decide)
    match ax, hk, hs with
    | t :: w :: ax', hk, hs =>
      simp only [z_ckm] at hk
      obtain ⟨k1, k2, k3⟩ := z_band3 hk
      have kt := of_decide_eq_true k2
      obtain ⟨n, r, rfl, g1, g2, g3⟩ := z_nwa_eq (show z_nwa t st M = some (st', M') from hs)
      subst e1
      have hw : (Cond.arrayClass (newarray.typeOf ty)).before args s = true := by rw [kt]; exact hts _ (z_gi _ (of_decide_eq_true k3) rfl)
      have hby : n.toNatClampNeg * componentBytes (newarray.typeOf ty) ≤ 536870912 := by
        have : componentBytes (newarray.typeOf ty) ≤ 8 := by cases ty <;> decide
        exact Nat.le_trans (Nat.mul_le_mul g2 this) (by decide)
      have fin : ∀ (e1 : va_E), (st', M') = (.ref M.length :: r, M ++ [e1]) → z_sl e1 = n.toNatClampNeg → t < 4 → (∀ (H1 : Heap), H1[N0 + M.length]? = some (arrV (ca t) n.toNatClampNeg (fun _ => defaultValue (newarray.typeOf ty))) → va_at D z_cl (N0 + M.length, z_e N0 ca e1) H1) → W p l e R s m args below meth c H locs cells slots Q (F0 m pc rls ((.int n :: r).map (z_v N0))) := by
        intro e1 he hsl ht4 hat
        cases he
        rcases hc with hc | ⟨hN, hc⟩
        · simp at hc
        refine z_size hH hN hc (fun hz => ?_)
        rw [z_sz_push, hsl] at hRs
        have hl1 : (M ++ [e1]).length - M.length = 1 := by simp
        rw [hl1] at hRc
        refine va_newaK hx hb hw rfl e2 rfl g1 rfl hby hRc (by omega) hz fun H1 cA q1 z1 o1 hAr hNm => ?_
        rw [kt] at hNm
        have hca : cA = ca t := z_ca hC ht4 hNm
        rw [hca] at q1
        exact z_push hH hS hz hsl (by omega) (fun q hq => o1 q (by omega)) (hat H1 q1) kk
      clear hs hk k1 k2 k3 hw
      match t, g3, kt, fin with
      | 0, g3, kt, fin =>
        exact fin _ (Option.some.inj g3).symm rfl (by decide) (fun H1 h => by rw [kt] at h; exact h)
      | 1, g3, kt, fin =>
        exact fin _ (Option.some.inj g3).symm rfl (by decide) (fun H1 h => by rw [kt] at h; exact h)
      | 2, g3, kt, fin =>
        exact fin _ (Option.some.inj g3).symm rfl (by decide) (fun H1 h => by rw [kt] at h; exact h)
      | 3, g3, kt, fin =>
        exact fin _ (Option.some.inj g3).symm rfl (by decide) (fun H1 h => by rw [kt] at h; exact h)
      | t + 4, g3, kt, fin => cases g3
    | [t], hk, hs => cases hk
    | [], hk, hs => cases hs
  | anewarray ix =>
    obtain ⟨e1, e2⟩ := one 3 rfl (by decide)
    match ax, hk, hs with
    | t :: w :: ax', hk, hs =>
      obtain ⟨n, r, rfl, g1, g2, ht, ho⟩ := z_ana_eq (show z_ana t st M = some (st', M') from hs)
      cases ho
      subst e1
      rcases hc with hc | ⟨hN, hc⟩
      · simp at hc
      refine z_size hH hN hc (fun hz => ?_)
      have hl1 : (M ++ [(.inl (t, n.toNatClampNeg, .inr (.inr (.inr (.inr (fun _ => none))))) : va_E)]).length - M.length = 1 := by simp
      rw [hl1] at hRc
      rw [z_sz_push] at hRs
      have hRs2 : slots + n.toNatClampNeg ≤ R.slots := by
        have : z_sl (.inl (t, n.toNatClampNeg, .inr (.inr (.inr (.inr (fun _ => none)))))) = n.toNatClampNeg := rfl
        omega
      rcases ht with rfl | rfl
      · refine W.anew (C := "ColumnGrammar$Tokens") hx hb hown (hts _ (z_gi _ (of_decide_eq_true hk) rfl)) (va_AO.use hC.2.2.1) rfl e2 rfl g1 (Nat.le_trans (Nat.mul_le_mul_right 4 g2) (by decide)) hRc hRs2 fun cA kA comp f1 f2 f3 f4 => ?_
        have hca : cA = ca 4 := by
          obtain ⟨kA', comp', q1, q2, q3, q4⟩ := (hC.1.2 4 _ (z_tys_at (by decide))).2
          exact Option.some.inj (f1.symm.trans q4)
        subst hca
        rw [show (F0 m pc rls ((Value.int n :: r).map (z_v N0))).pc + 3 = pc + 3 from rfl, hz]
        refine z_push hH hS hz rfl (by rw [Array.size_push]) (fun q hq => by rw [Array.getElem?_push, if_neg (Nat.ne_of_lt hq)]) ?_ kk
        show (H.push _)[N0 + M.length]? = some (arrV (ca 4) n.toNatClampNeg (fun _ => .null))
        rw [← hz, Array.getElem?_push_size, ← arrV_new]
      · refine W.anew (C := "ColumnGrammar$Kept") hx hb hown (hts _ (z_gi _ (of_decide_eq_true hk) rfl)) (va_AO.use hC.2.2.2) rfl e2 rfl g1 (Nat.le_trans (Nat.mul_le_mul_right 4 g2) (by decide)) hRc hRs2 fun cA kA comp f1 f2 f3 f4 => ?_
        have hca : cA = ca 5 := by
          obtain ⟨kA', comp', q1, q2, q3, q4⟩ := (hC.1.2 5 _ (z_tys_at (by decide))).2
          exact Option.some.inj (f1.symm.trans q4)
        subst hca
        rw [show (F0 m pc rls ((Value.int n :: r).map (z_v N0))).pc + 3 = pc + 3 from rfl, hz]
        refine z_push hH hS hz rfl (by rw [Array.size_push]) (fun q hq => by rw [Array.getElem?_push, if_neg (Nat.ne_of_lt hq)]) ?_ kk
        show (H.push _)[N0 + M.length]? = some (arrV (ca 5) n.toNatClampNeg (fun _ => .null))
        rw [← hz, Array.getElem?_push_size, ← arrV_new]
    | [t], hk, hs => cases hk
    | [], hk, hs => cases hs
  | invokespecial ix =>
    obtain ⟨e1, e2⟩ := one 3 rfl (by decide)
    match d, ax, hk, hs with
    | d + 1, 1 :: w1 :: w2 :: w3 :: ax', hk, hs =>
      simp only [z_ckm] at hk
      obtain ⟨k1, k2, k3⟩ := z_band3 hk
      obtain ⟨a, r, rfl, hr, ho⟩ := z_oin_eq (show z_oin st M = some (st', M') from hs)
      cases ho
      subst e1
      refine W.objInit hx hb hown (hts _ (z_gi _ (of_decide_eq_true k1) rfl)) (hts _ (z_gi _ (of_decide_eq_true k2) rfl)) (hts _ (z_gi _ (of_decide_eq_true k3) rfl)) rfl hml.symm rfl e2 (by omega) ?_ (z_fin0 hH hS kk)
      show 2 * 0 + ((st'.map (z_v N0)).map fun v => v.category).sum + 12 ≤ R.locals
      rw [z_cat_map]
      omega
    | d + 1, [1, w1, w2], hk, hs => cases hk
    | d + 1, [1, w1], hk, hs => cases hk
    | d + 1, [1], hk, hs => cases hk
    | 0, ax, hk, hs => cases hs
    | d + 1, [], hk, hs => cases hs
    | d + 1, 0 :: ax', hk, hs => cases hs
    | d + 1, (n + 2) :: ax', hk, hs => cases hs
  | invokestatic ix =>
    obtain ⟨e1, e2⟩ := one 3 rfl (by decide)
    match d, ax, hk, hs with
    | d + 1, 2 :: w1 :: w2 :: w3 :: w4 :: ax', hk, hs =>
      simp only [z_ckm] at hk
      obtain ⟨k1, k2, k3, k4⟩ := z_band4 hk
      obtain ⟨a0, a1, n, sp, dp, r, n0, n1, rfl, rfl, hr, h1, h2, h3, h4, h5, hh⟩ := z_cpy_eq (show z_cpy st M = some (st', M') from hs)
      subst e1
      have hlo : ((st'.map (z_v N0)).map fun v => v.category).sum + (nativeFrameWords "java/lang/System" "arraycopy" 5 + 11) ≤ R.locals := by
        rw [z_cat_map]
        have : nativeFrameWords "java/lang/System" "arraycopy" 5 = 7 := by decide
        omega
      rcases hh with ⟨f, g, hM0, hM1, rfl⟩ | ⟨f, g, hM0, hM1, rfl⟩
      · exact va_copyi hx hb hml hown (hts _ (z_gi _ (of_decide_eq_true k1) rfl)) (hts _ (z_gi _ (of_decide_eq_true k2) rfl)) (hts _ (z_gi _ (of_decide_eq_true k3) rfl)) (hts _ (z_gi _ (of_decide_eq_true k4) rfl)) hC.1 hH hD hS a0 a1 0 0 (z_ws_get hM0) (z_ws_get hM1) (z_tys_at (by decide)) (z_tys_at (by decide)) rfl h1 h2 h3 h4 h5 (fun _ _ => rfl) (by omega) hlo e2 (fun H1 locs1 hP _ hS1 => z_fin hM1 kk rfl (z_atswap hP (List.getElem?_eq_some_iff.mp (z_ws_get (N0 := N0) (ca := ca) hM1)).1 (fun h => h.trans (congrArg some (z_cell_i _ f g _ _ _ _)))) hS1)
      · exact va_copyl hx hb hml hown (hts _ (z_gi _ (of_decide_eq_true k1) rfl)) (hts _ (z_gi _ (of_decide_eq_true k2) rfl)) (hts _ (z_gi _ (of_decide_eq_true k3) rfl)) (hts _ (z_gi _ (of_decide_eq_true k4) rfl)) hC.1 hH hD hS a0 a1 1 1 (z_ws_get hM0) (z_ws_get hM1) (z_tys_at (by decide)) (z_tys_at (by decide)) rfl h1 h2 h3 h4 h5 (fun _ _ => rfl) (by omega) hlo e2 (fun H1 locs1 hP _ hS1 => z_fin hM1 kk rfl (z_atswap hP (List.getElem?_eq_some_iff.mp (z_ws_get (N0 := N0) (ca := ca) hM1)).1 (fun h => h.trans (congrArg some (z_cell_l _ f g _ _ _ _)))) hS1)
    | d + 1, 3 :: w1 :: w2 :: w3 :: w4 :: ax', hk, hs =>
      simp only [z_ckm] at hk
      obtain ⟨k1, k2, k3, k4⟩ := z_band4 hk
      obtain ⟨x, y, r, rfl, hr, ho⟩ := z_max_eq (show z_max st M = some (st', M') from hs)
      cases ho
      subst e1
      refine va_mmax hx hb hml hown (hts _ (z_gi _ (of_decide_eq_true k1) rfl)) (hts _ (z_gi _ (of_decide_eq_true k2) rfl)) (hts _ (z_gi _ (of_decide_eq_true k3) rfl)) (hts _ (z_gi _ (of_decide_eq_true k4) rfl)) (by omega) (by rw [z_cat_map]; omega) (by omega) (by omega) e2 (z_fin0 hH hS kk)
    | d + 1, 4 :: w1 :: w2 :: w3 :: w4 :: ax', hk, hs =>
      simp only [z_ckm] at hk
      obtain ⟨k1, k2, k3, k4⟩ := z_band4 hk
      obtain ⟨x, y, r, rfl, hr, ho⟩ := z_min_eq (show z_min st M = some (st', M') from hs)
      cases ho
      subst e1
      refine va_mmin hx hb hml hown (hts _ (z_gi _ (of_decide_eq_true k1) rfl)) (hts _ (z_gi _ (of_decide_eq_true k2) rfl)) (hts _ (z_gi _ (of_decide_eq_true k3) rfl)) (hts _ (z_gi _ (of_decide_eq_true k4) rfl)) (by omega) (by rw [z_cat_map]; omega) (by omega) (by omega) e2 (z_fin0 hH hS kk)
    | d + 1, [2, w1, w2, w3], hk, hs => cases hk
    | d + 1, [3, w1, w2, w3], hk, hs => cases hk
    | d + 1, [3, w1, w2], hk, hs => cases hk
    | d + 1, [3, w1], hk, hs => cases hk
    | d + 1, [3], hk, hs => cases hk
    | d + 1, [4, w1, w2, w3], hk, hs => cases hk
    | d + 1, [4, w1, w2], hk, hs => cases hk
    | d + 1, [4, w1], hk, hs => cases hk
    | d + 1, [4], hk, hs => cases hk
    | d + 1, [2, w1, w2], hk, hs => cases hk
    | d + 1, [2, w1], hk, hs => cases hk
    | d + 1, [2], hk, hs => cases hk
    | 0, ax, hk, hs => cases hs
    | d + 1, [], hk, hs => cases hs
    | d + 1, 0 :: ax', hk, hs => cases hs
    | d + 1, 1 :: ax', hk, hs => cases hs
    | d + 1, (n + 5) :: ax', hk, hs => cases hs
  | _ => exact absurd (show (none : zP) = some (st', M') from hs) (by simp)
end ZM3
