/-! THE SMALL MACHINE'S STEPS ARE THE MACHINE'S: instructions that leave the cells -/
def z_v (N0 : Nat) : Value → Value
  | .ref k => .ref (N0 + k)
  | v => v
theorem z_v_cat (N0 : Nat) (v : Value) : (z_v N0 v).category = v.category := by cases v <;> rfl
theorem z_cat_map (N0 : Nat) (st : List Value) : ((st.map (z_v N0)).map fun v => v.category).sum = z_cat st := by
  unfold z_cat
  rw [List.map_map]
  congr 1
  exact List.map_congr_left (fun v _ => z_v_cat N0 v)
def z_as (N0 : Nat) (ls : zL) : List (Nat × Value) := (List.range ls.length).filterMap fun i => match ls[i]? with
  | some (some v) => some (i, z_v N0 v)
  | _ => none
theorem z_as_mem {N0 : Nat} {ls : zL} {i : Nat} {w : Value} : (i, w) ∈ z_as N0 ls ↔ ∃ v, ls[i]? = some (some v) ∧ w = z_v N0 v := by
  unfold z_as
  constructor
  · intro h
    obtain ⟨j, -, hj⟩ := List.mem_filterMap.mp h
    cases hl : ls[j]? with
    | none => rw [hl] at hj; cases hj
    | some o =>
      cases o with
      | none => rw [hl] at hj; cases hj
      | some v =>
        rw [hl] at hj
        have e := Option.some.inj hj
        have e1 : j = i := congrArg Prod.fst e
        have e2 : z_v N0 v = w := congrArg Prod.snd e
        exact ⟨v, by rw [← e1]; exact hl, e2.symm⟩
  · rintro ⟨v, h1, h2⟩
    refine List.mem_filterMap.mpr ⟨i, List.mem_range.mpr (List.getElem?_eq_some_iff.mp h1).1, ?_⟩
    rw [h1, h2]
theorem z_as_at {N0 nL : Nat} {ls : zL} {rls : Array Slot} {i : Nat} {v : Value} (hl : lv_has rls nL (z_as N0 ls)) (h : ls[i]? = some (some v)) : rls[i]? = some (.val (z_v N0 v)) := hl.2.2 (i, z_v N0 v) (z_as_mem.mpr ⟨v, h, rfl⟩)
theorem z_kill_len (ls : zL) (i : Nat) : (z_kill ls i).length = ls.length := by
  cases i with
  | zero => rfl
  | succ j =>
    show (match ls[j]? with
      | some (some v) => bif Nat.beq v.category 2 then ls.set j none else ls
      | _ => ls).length = ls.length
    split
    · rename_i v hv
      cases Nat.beq v.category 2
      · rfl
      · exact List.length_set ..
    · rfl
theorem z_s1_len (ls : zL) (i : Nat) (v : Value) : (z_s1 ls i v).length = ls.length := by rw [z_s1, List.length_set, z_kill_len]
theorem z_s2_len (ls : zL) (i : Nat) (v : Value) : (z_s2 ls i v).length = ls.length := by rw [z_s2, List.length_set, List.length_set, z_kill_len]
theorem z_kill_at {ls : zL} {i j : Nat} {w : Value} (hj : j ≠ i) (h : (z_kill ls i)[j]? = some (some w)) : ls[j]? = some (some w) ∧ ¬ (j + 1 = i ∧ w.category = 2) := by
  cases i with
  | zero => exact ⟨h, fun q => by omega⟩
  | succ k =>
    unfold z_kill at h
    simp only at h
    split at h
    · rename_i v hv
      cases hc : Nat.beq v.category 2 with
      | false =>
        rw [hc] at h
        refine ⟨h, fun q => ?_⟩
        have e : j = k := by omega
        rw [e] at h
        rw [cond_false, hv] at h
        cases h
        rw [q.2] at hc
        cases hc
      | true =>
        rw [hc] at h
        rw [cond_true] at h
        by_cases e : k = j
        · subst e
          have hk : k < ls.length := (List.getElem?_eq_some_iff.mp hv).1
          rw [List.getElem?_set_self hk] at h
          cases h
        · rw [List.getElem?_set_ne e] at h
          exact ⟨h, fun q => e (by omega)⟩
    · rename_i hn
      refine ⟨h, fun q => ?_⟩
      have e : j = k := by omega
      rw [e] at h
      exact hn _ h
theorem z_st1 {N0 nL i : Nat} {ls : zL} {v : Value} {rls : Array Slot} (h : lv_has rls nL ((i, z_v N0 v) :: (z_as N0 ls).filter (fun q => !(q.1 == i) && !(q.1 + 1 == i && q.2.category == 2)))) : lv_has rls nL (z_as N0 (z_s1 ls i v)) := by
  refine ⟨h.1, h.2.1, fun q hq => ?_⟩
  obtain ⟨j, w⟩ := q
  obtain ⟨u, h1, h2⟩ := z_as_mem.mp hq
  subst h2
  by_cases e : i = j
  · subst e
    unfold z_s1 at h1
    have hk : i < (z_kill ls i).length := by
      have := (List.getElem?_eq_some_iff.mp h1).1
      rwa [List.length_set] at this
    rw [List.getElem?_set_self hk] at h1
    cases h1
    exact h.2.2 _ List.mem_cons_self
  · unfold z_s1 at h1
    rw [List.getElem?_set_ne e] at h1
    obtain ⟨g1, g2⟩ := z_kill_at (fun q => e q.symm) h1
    refine h.2.2 _ (List.mem_cons_of_mem _ (List.mem_filter.mpr ⟨z_as_mem.mpr ⟨u, g1, rfl⟩, ?_⟩))
    have e1 : (j == i) = false := by simp; exact fun q => e q.symm
    have e2 : (j + 1 == i && (z_v N0 u).category == 2) = false := by
      rw [z_v_cat]
      cases hh : (j + 1 == i && u.category == 2) with
      | false => rfl
      | true => exact absurd (by simpa using hh) g2
    simp only [e1, e2, Bool.not_false, Bool.and_self]
theorem z_st2 {N0 nL i : Nat} {ls : zL} {v : Value} {rls : Array Slot} (h : lv_has rls nL ((i, z_v N0 v) :: (z_as N0 ls).filter (fun q => !(q.1 == i) && (!(q.1 == i + 1) && !(q.1 + 1 == i && q.2.category == 2))))) : lv_has rls nL (z_as N0 (z_s2 ls i v)) := by
  refine ⟨h.1, h.2.1, fun q hq => ?_⟩
  obtain ⟨j, w⟩ := q
  obtain ⟨u, h1, h2⟩ := z_as_mem.mp hq
  subst h2
  unfold z_s2 at h1
  by_cases e0 : i + 1 = j
  · subst e0
    have hk : i + 1 < ((z_kill ls i).set i (some v)).length := by
      have := (List.getElem?_eq_some_iff.mp h1).1
      rwa [List.length_set] at this
    rw [List.getElem?_set_self hk] at h1
    cases h1
  · rw [List.getElem?_set_ne e0] at h1
    by_cases e : i = j
    · subst e
      have hk : i < (z_kill ls i).length := by
        have := (List.getElem?_eq_some_iff.mp h1).1
        rwa [List.length_set] at this
      rw [List.getElem?_set_self hk] at h1
      cases h1
      exact h.2.2 _ List.mem_cons_self
    · rw [List.getElem?_set_ne e] at h1
      obtain ⟨g1, g2⟩ := z_kill_at (fun q => e q.symm) h1
      refine h.2.2 _ (List.mem_cons_of_mem _ (List.mem_filter.mpr ⟨z_as_mem.mpr ⟨u, g1, rfl⟩, ?_⟩))
      have e1 : (j == i) = false := by simp; exact fun q => e q.symm
      have e3 : (j == i + 1) = false := by simp; exact fun q => e0 q.symm
      have e2 : (j + 1 == i && (z_v N0 u).category == 2) = false := by
        rw [z_v_cat]
        cases hh : (j + 1 == i && u.category == 2) with
        | false => rfl
        | true => exact absurd (by simpa using hh) g2
      simp only [e1, e2, e3, Bool.not_false, Bool.and_self]
theorem z_lk_sound {pc : Nat} {d : Int} {t : Nat} (hd : (pc : Int) + d = (t : Int)) (x : Int32) : ∀ (ps : List (Int × Int)) (ts : List Nat), z_lkc pc ps ts = true → (pc : Int) + Op.lookupswitch.offset ps d x.toInt = (z_lkt ts t x : Int)
  | [], [], _ => hd
  | [], _ :: _, h => by simp [z_lkc] at h
  | _ :: _, [], h => by simp [z_lkc] at h
  | _ :: _, [_], h => by simp [z_lkc] at h
  | q :: r, k :: tt :: r', h => by
    simp only [z_lkc, Bool.and_eq_true, decide_eq_true_eq] at h
    obtain ⟨⟨h1, h2⟩, h3⟩ := h
    have ih := z_lk_sound hd x r r' h3
    obtain ⟨a, o⟩ := q
    simp only at h1 h2
    rw [Op.lookupswitch.offset_cons]
    unfold z_lkt
    by_cases e : x.toInt = (k : Int)
    · rw [if_pos e, if_pos (by rw [h1, e]), h2]
    · rw [if_neg e, if_neg (by rw [h1]; exact fun q => e q.symm), ih]
section ZS
variable {p : Program} {l : Launch} {e : Env} {R : Room} {s : State} {m : MethodId} {args : Array Value} {below : List Frame} {meth : Method} {c : Code} {H : Heap} {locs : List Loc} {cells slots : Nat} {Q : State → Prop}
theorem z_ii_eq {f : Int32 → Int32 → Int32} {nx : Nat} {ls : zL} {st : List Value} {o : Nat × zL × List Value} (h : z_ii f nx ls st = some o) : ∃ x y r, st = .int y :: .int x :: r ∧ o = (nx, ls, .int (f x y) :: r) := by
  unfold z_ii at h
  split at h
  · rename_i y x r
    exact ⟨x, y, r, rfl, (Option.some.inj h).symm⟩
  · cases h
theorem z_i_eq {f : Int32 → Int32} {nx : Nat} {ls : zL} {st : List Value} {o : Nat × zL × List Value} (h : z_i f nx ls st = some o) : ∃ x r, st = .int x :: r ∧ o = (nx, ls, .int (f x) :: r) := by
  unfold z_i at h
  split at h
  · rename_i x r
    exact ⟨x, r, rfl, (Option.some.inj h).symm⟩
  · cases h
theorem z_ll_eq {f : Int64 → Int64 → Int64} {nx : Nat} {ls : zL} {st : List Value} {o : Nat × zL × List Value} (h : z_ll f nx ls st = some o) : ∃ x y r, st = .long y :: .long x :: r ∧ o = (nx, ls, .long (f x y) :: r) := by
  unfold z_ll at h
  split at h
  · rename_i y x r
    exact ⟨x, y, r, rfl, (Option.some.inj h).symm⟩
  · cases h
theorem z_l_eq {f : Int64 → Int64} {nx : Nat} {ls : zL} {st : List Value} {o : Nat × zL × List Value} (h : z_l f nx ls st = some o) : ∃ x r, st = .long x :: r ∧ o = (nx, ls, .long (f x) :: r) := by
  unfold z_l at h
  split at h
  · rename_i x r
    exact ⟨x, r, rfl, (Option.some.inj h).symm⟩
  · cases h
theorem z_li_eq {f : Int64 → Int32 → Int64} {nx : Nat} {ls : zL} {st : List Value} {o : Nat × zL × List Value} (h : z_li f nx ls st = some o) : ∃ x y r, st = .int y :: .long x :: r ∧ o = (nx, ls, .long (f x y) :: r) := by
  unfold z_li at h
  split at h
  · rename_i y x r
    exact ⟨x, y, r, rfl, (Option.some.inj h).symm⟩
  · cases h
theorem z_dv_eq {f : Int32 → Int32 → Int32} {nx : Nat} {ls : zL} {st : List Value} {o : Nat × zL × List Value} (h : z_dv f nx ls st = some o) : ∃ x y r, st = .int y :: .int x :: r ∧ o = (nx, ls, .int (f x y) :: r) ∧ ¬ y = 0 := by
  unfold z_dv at h
  split at h
  · rename_i y x r
    by_cases e : y = 0
    · rw [if_pos e] at h
      cases h
    · rw [if_neg e] at h
      exact ⟨x, y, r, rfl, (Option.some.inj h).symm, e⟩
  · cases h
theorem z_ldv_eq {f : Int64 → Int64 → Int64} {nx : Nat} {ls : zL} {st : List Value} {o : Nat × zL × List Value} (h : z_ldv f nx ls st = some o) : ∃ x y r, st = .long y :: .long x :: r ∧ o = (nx, ls, .long (f x y) :: r) ∧ ¬ y = 0 := by
  unfold z_ldv at h
  split at h
  · rename_i y x r
    by_cases e : y = 0
    · rw [if_pos e] at h
      cases h
    · rw [if_neg e] at h
      exact ⟨x, y, r, rfl, (Option.some.inj h).symm, e⟩
  · cases h
theorem z_ldi_eq {ls : zL} {i : Nat} {x : Int32} (h : z_ldi ls i = some x) : ls[i]? = some (some (.int x)) := by
  unfold z_ldi at h
  split at h
  · rename_i y hy
    rw [hy, Option.some.inj h]
  · cases h
theorem z_ldl_eq {ls : zL} {i : Nat} {x : Int64} (h : z_ldl ls i = some x) : ls[i]? = some (some (.long x)) := by
  unfold z_ldl at h
  split at h
  · rename_i y hy
    rw [hy, Option.some.inj h]
  · cases h
theorem z_lda_eq {ls : zL} {i : Nat} {x : Nat} (h : z_lda ls i = some x) : ls[i]? = some (some (.ref x)) := by
  unfold z_lda at h
  split at h
  · rename_i y hy
    rw [hy, Option.some.inj h]
  · cases h
theorem z_iload_eq {nx i : Nat} {ls : zL} {st : List Value} {o : Nat × zL × List Value} (h : z_iload nx ls st i = some o) : ∃ x, ls[i]? = some (some (.int x)) ∧ o = (nx, ls, .int x :: st) := by
  unfold z_iload at h
  split at h
  · rename_i x hx
    exact ⟨x, z_ldi_eq hx, (Option.some.inj h).symm⟩
  · cases h
theorem z_lload_eq {nx i : Nat} {ls : zL} {st : List Value} {o : Nat × zL × List Value} (h : z_lload nx ls st i = some o) : ∃ x, ls[i]? = some (some (.long x)) ∧ o = (nx, ls, .long x :: st) := by
  unfold z_lload at h
  split at h
  · rename_i x hx
    exact ⟨x, z_ldl_eq hx, (Option.some.inj h).symm⟩
  · cases h
theorem z_aload_eq {nx i : Nat} {ls : zL} {st : List Value} {o : Nat × zL × List Value} (h : z_aload nx ls st i = some o) : ∃ x, ls[i]? = some (some (.ref x)) ∧ o = (nx, ls, .ref x :: st) := by
  unfold z_aload at h
  split at h
  · rename_i x hx
    exact ⟨x, z_lda_eq hx, (Option.some.inj h).symm⟩
  · cases h
theorem z_blt {a b : Nat} (h : Nat.blt a b = true) : a < b := Nat.le_of_ble_eq_true h
theorem z_istore_eq {nx i : Nat} {ls : zL} {st : List Value} {o : Nat × zL × List Value} (h : z_istore nx ls st i = some o) : ∃ x r, st = .int x :: r ∧ i < ls.length ∧ o = (nx, z_s1 ls i (.int x), r) := by
  unfold z_istore at h
  split at h
  · rename_i x r
    cases hb : Nat.blt i ls.length with
    | false => rw [hb] at h; cases h
    | true => rw [hb] at h; exact ⟨x, r, rfl, z_blt hb, (Option.some.inj h).symm⟩
  · cases h
theorem z_astore_eq {nx i : Nat} {ls : zL} {st : List Value} {o : Nat × zL × List Value} (h : z_astore nx ls st i = some o) : ∃ x r, st = .ref x :: r ∧ i < ls.length ∧ o = (nx, z_s1 ls i (.ref x), r) := by
  unfold z_astore at h
  split at h
  · rename_i x r
    cases hb : Nat.blt i ls.length with
    | false => rw [hb] at h; cases h
    | true => rw [hb] at h; exact ⟨x, r, rfl, z_blt hb, (Option.some.inj h).symm⟩
  · cases h
theorem z_lstore_eq {nx i : Nat} {ls : zL} {st : List Value} {o : Nat × zL × List Value} (h : z_lstore nx ls st i = some o) : ∃ x r, st = .long x :: r ∧ i + 1 < ls.length ∧ o = (nx, z_s2 ls i (.long x), r) := by
  unfold z_lstore at h
  split at h
  · rename_i x r
    cases hb : Nat.blt (i + 1) ls.length with
    | false => rw [hb] at h; cases h
    | true => rw [hb] at h; exact ⟨x, r, rfl, z_blt hb, (Option.some.inj h).symm⟩
  · cases h
theorem z_iinc_eq {nx i : Nat} {ls : zL} {st : List Value} {cI : Int32} {o : Nat × zL × List Value} (h : z_iinc nx ls st i cI = some o) : ∃ x, ls[i]? = some (some (.int x)) ∧ i < ls.length ∧ o = (nx, z_s1 ls i (.int (x + cI)), st) := by
  unfold z_iinc at h
  split at h
  · rename_i x hx
    cases hb : Nat.blt i ls.length with
    | false => rw [hb] at h; cases h
    | true => rw [hb] at h; exact ⟨x, z_ldi_eq hx, z_blt hb, (Option.some.inj h).symm⟩
  · cases h
theorem z_at_ix {N0 : Nat} {ls : zL} {i : Nat} {v : Value} (h : ls[i]? = some (some v)) : ∃ k : Nat, (z_as N0 ls)[k]? = some (i, z_v N0 v) := List.getElem?_of_mem (z_as_mem.mpr ⟨v, h, rfl⟩)
end ZS
