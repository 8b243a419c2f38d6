/-! THE SMALL MACHINE'S STEPS ARE THE MACHINE'S: instructions over the cells -/
def z_e (N0 : Nat) (ca : Nat → ClassId) (e : va_E) : va_E := match e with
  | .inl (t, n, .inr (.inr (.inr (.inr f)))) => .inl (ca t, n, .inr (.inr (.inr (.inr (fun j => (f j).map (fun k => N0 + k))))))
  | .inl (t, n, x) => .inl (ca t, n, x)
  | .inr (ci, fs) => .inr (ci, fs.map (z_v N0))
def z_ws (N0 : Nat) (ca : Nat → ClassId) (M : zM) : va_W := M.mapIdx (fun k e => (N0 + k, z_e N0 ca e))
theorem z_ws_at (N0 : Nat) (ca : Nat → ClassId) (M : zM) (k : Nat) : (z_ws N0 ca M)[k]? = (M[k]?).map (fun e => (N0 + k, z_e N0 ca e)) := by
  simp [z_ws, List.getElem?_mapIdx]
theorem z_ws_get {N0 : Nat} {ca : Nat → ClassId} {M : zM} {k : Nat} {e : va_E} (h : M[k]? = some e) : (z_ws N0 ca M)[k]? = some (N0 + k, z_e N0 ca e) := by rw [z_ws_at, h]; rfl
theorem z_ws_set (N0 : Nat) (ca : Nat → ClassId) (M : zM) (k : Nat) (e : va_E) : (z_ws N0 ca M).set k (N0 + k, z_e N0 ca e) = z_ws N0 ca (M.set k e) := by
  apply List.ext_getElem?
  intro j
  by_cases hj : k = j
  · subst hj
    by_cases hk : k < M.length
    · rw [List.getElem?_set_self (by simpa [z_ws] using hk), z_ws_at, List.getElem?_set_self hk]
      rfl
    · have h1 : (z_ws N0 ca M).length = M.length := by simp [z_ws]
      rw [List.getElem?_eq_none (by rw [List.length_set, h1]; omega), z_ws_at, List.getElem?_eq_none (by rw [List.length_set]; omega)]
      rfl
  · rw [List.getElem?_set_ne hj, z_ws_at, z_ws_at, List.getElem?_set_ne hj]
theorem z_ws_push (N0 : Nat) (ca : Nat → ClassId) (M : zM) (e : va_E) : z_ws N0 ca (M ++ [e]) = z_ws N0 ca M ++ [(N0 + M.length, z_e N0 ca e)] := by
  simp [z_ws, List.mapIdx_append]
def z_sl (e : va_E) : Nat := match e with
  | .inl a => a.2.1
  | .inr o => z_nN o.1
def z_sz (M : zM) : Nat := (M.map z_sl).sum
theorem z_sz_set : ∀ {M : zM} {k : Nat} {e e' : va_E}, M[k]? = some e → z_sl e' = z_sl e → z_sz (M.set k e') = z_sz M
  | [], k, e, e', h, _ => by simp at h
  | a :: t, 0, e, e', h, h2 => by
    have : a = e := Option.some.inj h
    subst this
    simp [z_sz, h2]
  | a :: t, k + 1, e, e', h, h2 => by
    have ih := z_sz_set (M := t) (k := k) (e := e) (e' := e') (by simpa using h) h2
    simp only [z_sz, List.set_cons_succ, List.map_cons, List.sum_cons] at ih ⊢
    rw [ih]
theorem z_sz_push (M : zM) (e : va_E) : z_sz (M ++ [e]) = z_sz M + z_sl e := by simp [z_sz]
def z_tys (ca : Nat → ClassId) : List (ClassId × FieldType) := [(ca 0, .int), (ca 1, .long), (ca 2, .byte), (ca 3, .boolean), (ca 4, .object "ColumnGrammar$Tokens"), (ca 5, .object "ColumnGrammar$Kept")]
theorem z_tys_at {ca : Nat → ClassId} {t : Nat} (h : t < 6) : (z_tys ca)[t]? = some (ca t, z_aty t) := by
  match t, h with
  | 0, _ => rfl
  | 1, _ => rfl
  | 2, _ => rfl
  | 3, _ => rfl
  | 4, _ => rfl
  | 5, _ => rfl
/-- what holds of the tables at a state -/
def z_Cx (D : va_G) (ca : Nat → ClassId) (s : State) : Prop := va_K D z_cl (z_tys ca) s ∧ (∀ w ∈ zN, va_Nw w s) ∧ va_AO "ColumnGrammar$Tokens" s ∧ va_AO "ColumnGrammar$Kept" s
theorem z_Cx.moved {D : va_G} {ca : Nat → ClassId} {s U : State} (hW : s.WarmedH U.vm) (h : z_Cx D ca s) : z_Cx D ca U := by
  refine ⟨va_K.moved hW.alike h.1, fun w hw => ?_, va_AO.moved hW.alike h.2.2.1, va_AO.moved hW.alike h.2.2.2⟩
  obtain ⟨a, i, x, hh, rfl⟩ := zN_all w hw
  exact va_Nw.warmM hW (h.2.1 _ hw)
def z_A (N0 : Nat) : Nat → Prop := fun q => N0 ≤ q
def z_H (N0 : Nat) (D : va_G) (ca : Nat → ClassId) (M : zM) (H : Heap) : Prop := va_P D z_cl (z_ws N0 ca M) H
theorem z_D (N0 : Nat) (ca : Nat → ClassId) (M : zM) : va_D (z_A N0) (z_ws N0 ca M) := by
  refine ⟨fun i j p q hi hj e => ?_, fun k q hk => ?_⟩
  · rw [z_ws_at] at hi hj
    cases h1 : M[i]? with
    | none => rw [h1] at hi; cases hi
    | some a =>
      cases h2 : M[j]? with
      | none => rw [h2] at hj; cases hj
      | some b =>
        rw [h1] at hi
        rw [h2] at hj
        have e1 : N0 + i = p.1 := by have := Option.some.inj hi; rw [← this]
        have e2 : N0 + j = q.1 := by have := Option.some.inj hj; rw [← this]
        omega
  · rw [z_ws_at] at hk
    cases h1 : M[k]? with
    | none => rw [h1] at hk; cases hk
    | some a =>
      rw [h1] at hk
      have e1 : N0 + k = q.1 := by have := Option.some.inj hk; rw [← this]
      show N0 ≤ q.1
      omega
theorem z_fit_ok {ty : FieldType} {v : Value} (N0 : Nat) (h : z_fit ty v = true) : narrow ty (z_v N0 v) = z_v N0 v ∧ fits ty (z_v N0 v) = true := by
  unfold z_fit at h
  split at h
  · exact ⟨rfl, rfl⟩
  · exact ⟨rfl, rfl⟩
  · rename_i x
    rcases (by simpa using h : x = 0 ∨ x = 1) with e | e <;> subst e <;> exact ⟨by show narrow .boolean (.int _) = .int _; decide, by show fits .boolean (.int _) = true; decide⟩
  · exact ⟨rfl, rfl⟩
  · exact ⟨rfl, rfl⟩
  · cases h
section ZM
variable {p : Program} {l : Launch} {e : Env} {R : Room} {s : State} {m : MethodId} {args : Array Value} {below : List Frame} {meth : Method} {c : Code} {H : Heap} {locs : List Loc} {cells slots : Nat} {Q : State → Prop}
/-- the heap's size, where all that was made is counted -/
theorem z_size {N0 : Nat} {D : va_G} {ca : Nat → ClassId} {M : zM} {g : JFrame} (hH : z_H N0 D ca M H) (hN : N0 ≤ s.heap.size) (hc : s.heap.size + cells = N0 + M.length)
    (k : H.size = N0 + M.length → W p l e R s m args below meth c H locs cells slots Q g) : W p l e R s m args below meth c H locs cells slots Q g := by
  intro T hT X
  have h1 : T.heap.size ≤ s.heap.size + cells := X.same.2.2.1
  have h2 : s.heap.size ≤ T.heap.size := X.same.2.1
  rw [hT] at h1 h2
  refine k ?_ T hT X
  cases hM : M.length with
  | zero => omega
  | succ n =>
    have hn : n < M.length := by omega
    have h3 := (hH n _ (z_ws_get (List.getElem?_eq_getElem hn))).lt
    have h3 : N0 + n < H.size := h3
    omega
end ZM
