section ZM2
variable {p : Program} {l : Launch} {e : Env} {R : Room} {s : State} {m : MethodId} {args : Array Value} {below : List Frame} {meth : Method} {c : Code} {H : Heap} {locs : List Loc} {cells slots : Nat} {Q : State → Prop}
theorem z_band3 {a b d : Bool} (h : (a && b && d) = true) : a = true ∧ b = true ∧ d = true := by
  cases a <;> cases b <;> cases d <;> simp_all
theorem z_gf_eq {ci k : Nat} {st st' : List Value} {M M' : zM} (h : z_gf ci k st M = some (st', M')) : ∃ a r fs v, st = .ref a :: r ∧ M[a]? = some (.inr (ci, fs)) ∧ fs[k]? = some v ∧ st' = v :: r ∧ M' = M := by
  unfold z_gf at h
  split at h
  · rename_i a r
    split at h
    · rename_i cj fs hM
      cases hb : Nat.beq cj ci with
      | false => rw [hb] at h; cases h
      | true =>
        rw [hb] at h
        have e1 := Nat.eq_of_beq_eq_true hb
        subst e1
        rw [cond_true] at h
        split at h
        · rename_i v hv
          cases h
          exact ⟨a, r, fs, v, rfl, hM, hv, rfl, rfl⟩
        · cases h
    · cases h
  · cases h
theorem z_pf_eq {ci k : Nat} {st st' : List Value} {M M' : zM} (h : z_pf ci k st M = some (st', M')) : ∃ a r fs v, st = v :: .ref a :: r ∧ M[a]? = some (.inr (ci, fs)) ∧ z_fit (z_ty ci k) v = true ∧ k < fs.length ∧ st' = r ∧ M' = M.set a (.inr (ci, fs.set k v)) := by
  unfold z_pf at h
  split at h
  · rename_i v a r
    split at h
    · rename_i cj fs hM
      cases hb : (Nat.beq cj ci && z_fit (z_ty ci k) v && Nat.blt k fs.length) with
      | false => rw [hb] at h; cases h
      | true =>
        rw [hb] at h
        obtain ⟨q1, q2, q3⟩ := z_band3 hb
        have e1 := Nat.eq_of_beq_eq_true q1
        subst e1
        cases h
        exact ⟨a, _, fs, v, rfl, hM, q2, z_blt q3, rfl, rfl⟩
    · cases h
  · cases h
theorem z_vpin {i : Int32} {n : Nat} {α : Type} {x y : α} (h : (if i < 0 ∨ n ≤ i.toNatClampNeg then none else some x) = some y) : vp_in i n ∧ x = y := by
  by_cases q : i < 0 ∨ n ≤ i.toNatClampNeg
  · rw [if_pos q] at h; cases h
  · rw [if_neg q] at h; exact ⟨q, Option.some.inj h⟩
theorem z_ial_eq {st st' : List Value} {M M' : zM} (h : z_ial st M = some (st', M')) : ∃ (a : Nat) (i : Int32) (r : List Value) (n : Nat) (f : Nat → Int32), st = .int i :: .ref a :: r ∧ M[a]? = some (.inl (0, n, .inl f)) ∧ vp_in i n ∧ st' = .int (f i.toNatClampNeg) :: r ∧ M' = M := by
  unfold z_ial at h
  split at h
  · rename_i i a r
    split at h
    · rename_i t n f hM
      cases hb : Nat.beq t 0 with
      | false => rw [hb] at h; cases h
      | true =>
        rw [hb, cond_true] at h
        have e1 := Nat.eq_of_beq_eq_true hb
        subst e1
        obtain ⟨g1, g2⟩ := z_vpin h
        cases g2
        exact ⟨a, i, r, n, f, rfl, hM, g1, rfl, rfl⟩
    · cases h
  · cases h
theorem z_bal_eq {st st' : List Value} {M M' : zM} (h : z_bal st M = some (st', M')) : ∃ (a : Nat) (i : Int32) (r : List Value) (t n : Nat) (f : Nat → Int32), st = .int i :: .ref a :: r ∧ M[a]? = some (.inl (t, n, .inl f)) ∧ (t = 2 ∨ t = 3) ∧ vp_in i n ∧ st' = .int (f i.toNatClampNeg) :: r ∧ M' = M := by
  unfold z_bal at h
  split at h
  · rename_i i a r
    split at h
    · rename_i t n f hM
      cases hb : (Nat.beq t 2 || Nat.beq t 3) with
      | false => rw [hb] at h; cases h
      | true =>
        rw [hb, cond_true] at h
        obtain ⟨g1, g2⟩ := z_vpin h
        cases g2
        refine ⟨a, i, r, t, n, f, rfl, hM, ?_, g1, rfl, rfl⟩
        rcases Bool.or_eq_true _ _ |>.mp hb with q | q
        · exact Or.inl (Nat.eq_of_beq_eq_true q)
        · exact Or.inr (Nat.eq_of_beq_eq_true q)
    · cases h
  · cases h
theorem z_lal_eq {st st' : List Value} {M M' : zM} (h : z_lal st M = some (st', M')) : ∃ (a : Nat) (i : Int32) (r : List Value) (n : Nat) (f : Nat → Int64), st = .int i :: .ref a :: r ∧ M[a]? = some (.inl (1, n, .inr (.inl f))) ∧ vp_in i n ∧ st' = .long (f i.toNatClampNeg) :: r ∧ M' = M := by
  unfold z_lal at h
  split at h
  · rename_i i a r
    split at h
    · rename_i t n f hM
      cases hb : Nat.beq t 1 with
      | false => rw [hb] at h; cases h
      | true =>
        rw [hb, cond_true] at h
        have e1 := Nat.eq_of_beq_eq_true hb
        subst e1
        obtain ⟨g1, g2⟩ := z_vpin h
        cases g2
        exact ⟨a, i, r, n, f, rfl, hM, g1, rfl, rfl⟩
    · cases h
  · cases h
theorem z_t45 {t : Nat} (hb : (Nat.beq t 4 || Nat.beq t 5) = true) : t = 4 ∨ t = 5 := by
  rcases Bool.or_eq_true _ _ |>.mp hb with q | q
  · exact Or.inl (Nat.eq_of_beq_eq_true q)
  · exact Or.inr (Nat.eq_of_beq_eq_true q)
theorem z_aal_eq {st st' : List Value} {M M' : zM} (h : z_aal st M = some (st', M')) : ∃ (a : Nat) (i : Int32) (r : List Value) (t n k : Nat) (f : Nat → Option Nat), st = .int i :: .ref a :: r ∧ M[a]? = some (.inl (t, n, .inr (.inr (.inr (.inr f))))) ∧ (t = 4 ∨ t = 5) ∧ vp_in i n ∧ f i.toNatClampNeg = some k ∧ st' = .ref k :: r ∧ M' = M := by
  unfold z_aal at h
  split at h
  · rename_i i a r
    split at h
    · rename_i t n f hM
      cases hb : (Nat.beq t 4 || Nat.beq t 5) with
      | false => rw [hb] at h; cases h
      | true =>
        rw [hb, cond_true] at h
        by_cases q : i < 0 ∨ n ≤ i.toNatClampNeg
        · rw [if_pos q] at h; cases h
        · rw [if_neg q] at h
          split at h
          · rename_i k hk
            cases h
            exact ⟨a, i, r, t, n, k, f, rfl, hM, z_t45 hb, q, hk, rfl, rfl⟩
          · cases h
    · cases h
  · cases h
theorem z_ias_eq {st st' : List Value} {M M' : zM} (h : z_ias st M = some (st', M')) : ∃ (a : Nat) (i x : Int32) (r : List Value) (n : Nat) (f : Nat → Int32), st = .int x :: .int i :: .ref a :: r ∧ M[a]? = some (.inl (0, n, .inl f)) ∧ vp_in i n ∧ st' = r ∧ M' = M.set a (.inl (0, n, .inl (upd f i.toNatClampNeg x))) := by
  unfold z_ias at h
  split at h
  · rename_i x i a r
    split at h
    · rename_i t n f hM
      cases hb : Nat.beq t 0 with
      | false => rw [hb] at h; cases h
      | true =>
        rw [hb, cond_true] at h
        have e1 := Nat.eq_of_beq_eq_true hb
        subst e1
        obtain ⟨g1, g2⟩ := z_vpin h
        cases g2
        exact ⟨a, i, x, _, n, f, rfl, hM, g1, rfl, rfl⟩
    · cases h
  · cases h
theorem z_las_eq {st st' : List Value} {M M' : zM} (h : z_las st M = some (st', M')) : ∃ (a : Nat) (i : Int32) (x : Int64) (r : List Value) (n : Nat) (f : Nat → Int64), st = .long x :: .int i :: .ref a :: r ∧ M[a]? = some (.inl (1, n, .inr (.inl f))) ∧ vp_in i n ∧ st' = r ∧ M' = M.set a (.inl (1, n, .inr (.inl (vp_updL f i.toNatClampNeg x)))) := by
  unfold z_las at h
  split at h
  · rename_i x i a r
    split at h
    · rename_i t n f hM
      cases hb : Nat.beq t 1 with
      | false => rw [hb] at h; cases h
      | true =>
        rw [hb, cond_true] at h
        have e1 := Nat.eq_of_beq_eq_true hb
        subst e1
        obtain ⟨g1, g2⟩ := z_vpin h
        cases g2
        exact ⟨a, i, x, _, n, f, rfl, hM, g1, rfl, rfl⟩
    · cases h
  · cases h
theorem z_bas_eq {st st' : List Value} {M M' : zM} (h : z_bas st M = some (st', M')) : ∃ (a : Nat) (i x : Int32) (r : List Value) (n : Nat) (f : Nat → Int32), st = .int x :: .int i :: .ref a :: r ∧ vp_in i n ∧ st' = r ∧ ((M[a]? = some (.inl (2, n, .inl f)) ∧ M' = M.set a (.inl (2, n, .inl (upd f i.toNatClampNeg (vp_nar .byte x))))) ∨ (M[a]? = some (.inl (3, n, .inl f)) ∧ M' = M.set a (.inl (3, n, .inl (upd f i.toNatClampNeg (vp_nar .boolean x)))))) := by
  unfold z_bas at h
  split at h
  · rename_i x i a r
    split at h
    · rename_i t n f hM
      by_cases q : i < 0 ∨ n ≤ i.toNatClampNeg
      · rw [if_pos q] at h; cases h
      · rw [if_neg q] at h
        cases hb : Nat.beq t 2 with
        | true =>
          rw [hb, cond_true] at h
          have e1 := Nat.eq_of_beq_eq_true hb
          subst e1
          cases h
          exact ⟨a, i, x, _, n, f, rfl, q, rfl, Or.inl ⟨hM, rfl⟩⟩
        | false =>
          rw [hb, cond_false] at h
          cases hb2 : Nat.beq t 3 with
          | true =>
            rw [hb2, cond_true] at h
            have e1 := Nat.eq_of_beq_eq_true hb2
            subst e1
            cases h
            exact ⟨a, i, x, _, n, f, rfl, q, rfl, Or.inr ⟨hM, rfl⟩⟩
          | false => rw [hb2] at h; cases h
    · cases h
  · cases h
theorem z_aas_eq {st st' : List Value} {M M' : zM} (h : z_aas st M = some (st', M')) : ∃ (a v : Nat) (i : Int32) (r : List Value) (t n : Nat) (f : Nat → Option Nat) (vs : List Value), st = .ref v :: .int i :: .ref a :: r ∧ M[a]? = some (.inl (t, n, .inr (.inr (.inr (.inr f))))) ∧ M[v]? = some (.inr (z_oc t, vs)) ∧ (t = 4 ∨ t = 5) ∧ vp_in i n ∧ st' = r ∧ M' = M.set a (.inl (t, n, .inr (.inr (.inr (.inr (va_up f i.toNatClampNeg (some v))))))) := by
  unfold z_aas at h
  split at h
  · rename_i v i a r
    split at h
    · rename_i t n f cj vs hM hv
      cases hb : ((Nat.beq t 4 || Nat.beq t 5) && Nat.beq cj (z_oc t)) with
      | false => rw [hb] at h; cases h
      | true =>
        rw [hb, cond_true] at h
        obtain ⟨b1, b2⟩ := Bool.and_eq_true _ _ |>.mp hb
        have e1 := Nat.eq_of_beq_eq_true b2
        subst e1
        obtain ⟨g1, g2⟩ := z_vpin h
        cases g2
        exact ⟨a, v, i, _, t, n, f, vs, rfl, hM, hv, z_t45 b1, g1, rfl, rfl⟩
    · cases h
  · cases h
theorem z_fin {N0 : Nat} {D : va_G} {ca : Nat → ClassId} {M : zM} {a : Nat} {e0 e1 : va_E} {H0 H1 : Heap} {locs1 : List Loc} {g : JFrame} (hM : M[a]? = some e0) 
    (kk : ∀ (H1 : Heap) (locs1 : List Loc), z_H N0 D ca (M.set a e1) H1 → va_S (z_A N0) H0 H1 locs1 → W p l e R s m args below meth c H1 locs1 (cells + ((M.set a e1).length - M.length)) (slots + (z_sz (M.set a e1) - z_sz M)) Q g) (hs : z_sl e1 = z_sl e0)
    (hP : va_P D z_cl ((z_ws N0 ca M).set a (N0 + a, z_e N0 ca e1)) H1) (hS : va_S (z_A N0) H0 H1 locs1) : W p l e R s m args below meth c H1 locs1 cells slots Q g := by
  have h := kk H1 locs1 (by unfold z_H; rw [← z_ws_set]; exact hP) hS
  rw [List.length_set, Nat.sub_self, z_sz_set hM hs, Nat.sub_self] at h
  exact h
theorem z_fin0 {N0 : Nat} {D : va_G} {ca : Nat → ClassId} {M : zM} {H0 : Heap} {g : JFrame} (hH : z_H N0 D ca M H) (hS : va_S (z_A N0) H0 H locs)
    (kk : ∀ (H1 : Heap) (locs1 : List Loc), z_H N0 D ca M H1 → va_S (z_A N0) H0 H1 locs1 → W p l e R s m args below meth c H1 locs1 (cells + (M.length - M.length)) (slots + (z_sz M - z_sz M)) Q g) : W p l e R s m args below meth c H locs cells slots Q g := by
  have h := kk H locs hH hS
  rw [Nat.sub_self, Nat.sub_self] at h
  exact h
end ZM2
