def z_wds (y : zY) : List Cond := .code y.1 y.2.1 y.2.2.1 y.2.2.2.1 :: zG
theorem z_goodIn {P : List zY} {y : zY} (h : z_good P y) : GoodIn zG (z_wds y) := by
  intro w hw
  rcases List.mem_cons.mp hw with rfl | h2
  · exact ⟨z_g h.1 rfl, Or.inl rfl⟩
  · exact ⟨h2, good_of_word (List.mem_filter.mp h2).2⟩
def z_rm (d mc ms : Nat) : Room := { frames := d, cells := mc, slots := ms, locals := 64 * d }
def z_Pc (N0 : Nat) (D : va_G) (ca : Nat → ClassId) (as : List Value) (M M1 : zM) : Array Value → State → Prop := va_Pc (as.map (z_v N0)) (fun U => z_H N0 D ca M U.heap ∧ (M1.length = M.length ∨ U.heap.size = N0 + M.length) ∧ z_Cx D ca U)
def z_Qc (N0 : Nat) (D : va_G) (ca : Nat → ClassId) (r : Option Value) (M' : zM) : Array Value → State → Outcome → State → Prop := fun _ st o t => o = .returned (r.map (z_v N0)) ∧ z_H N0 D ca M' t.heap ∧ va_F (z_A N0) st t
theorem z_blind {N0 : Nat} {D : va_G} {ca : Nat → ClassId} {as : List Value} {M M1 : zM} : FrameBlind (z_Pc N0 D ca as M M1) := by
  intro a U g mk h
  obtain ⟨h1, h2, h3, h4⟩ := h
  refine ⟨h1, h2, h3, va_K.moved (u := U) (U := U.calling g mk a) (Vm.Alike.refl U.vm) h4.1, fun w hw => ?_, va_AO.moved (u := U) (U := U.calling g mk a) (Vm.Alike.refl U.vm) h4.2.2.1, va_AO.moved (u := U) (U := U.calling g mk a) (Vm.Alike.refl U.vm) h4.2.2.2⟩
  obtain ⟨q1, q2, q3, q4, rfl⟩ := zN_all w hw
  exact va_Nw.same rfl (rfl : U.vm = (U.calling g mk a).vm) (h4.2.1 _ hw)
theorem z_mono (P : List zY) : ∀ (n d : Nat) (y : zY) (pc : Nat) (ls : zL) (st : List Value) (M : zM) (r : Option Value) (M1 : zM), z_go P n d y pc ls st M = some (r, M1) → M.length ≤ M1.length ∧ z_sz M ≤ z_sz M1 := by
  intro n
  induction n with
  | zero => intro d y pc ls st M r M1 h; cases h
  | succ n ih =>
    intro d y pc ls st M r M1 h
    rw [z_go] at h
    split at h
    · cases h
    · rename_i i nx ax c z hat
      split at h
      · split at h
        · exact ih _ _ _ _ _ _ _ _ h
        · cases h
      · split at h
        · rename_i st' M' hm
          have h1 := z_m_mono hm
          have h2 := ih _ _ _ _ _ _ _ _ h
          exact ⟨Nat.le_trans h1.1 h2.1, Nat.le_trans h1.2 h2.2⟩
        · cases h
      · split at h
        · cases h
          exact ⟨Nat.le_refl _, Nat.le_refl _⟩
        · cases h
      · split at h
        · rename_i d' k as rest hc
          split at h
          · rename_i y' hy
            cases hb : Nat.ble (z_args as).length y'.2.2.1 with
            | false => rw [hb] at h; cases h
            | true =>
              rw [hb, cond_true] at h
              split at h
              · rename_i r' M' hg
                have h1 := ih _ _ _ _ _ _ _ _ hg
                have h2 := ih _ _ _ _ _ _ _ _ h
                exact ⟨Nat.le_trans h1.1 h2.1, Nat.le_trans h1.2 h2.2⟩
              · cases h
          · cases h
        · cases h
section ZC
variable {p : Program} {l : Launch} {e : Env} {R : Room} {s : State} {m : MethodId} {args : Array Value} {below : List Frame} {meth : Method} {c : Code} {H : Heap} {locs : List Loc} {cells slots : Nat} {Q : State → Prop}
theorem z_call {N0 : Nat} {D : va_G} {ca : Nat → ClassId} {r : Option Value} {M' : zM} {a : Array Value} {H0 : Heap} {mc ms pc : Nat} {rls : Array Slot} {st0 rest : List Value}
    (hr : va_Run p l e R s m args below meth c H locs cells slots mc ms (F0 m pc rls st0) rest (z_Qc N0 D ca r M' a) (z_A N0)) (hS : va_S (z_A N0) H0 H locs)
    (kk : ∀ (H1 : Heap) (locs1 : List Loc), z_H N0 D ca M' H1 → va_S (z_A N0) H0 H1 locs1 → W p l e R s m args below meth c H1 locs1 (cells + mc) (slots + ms) Q (F0 m (pc + 3) rls ((r.map (z_v N0)).toList ++ rest))) : W p l e R s m args below meth c H locs cells slots Q (F0 m pc rls st0) := by
  intro T hT X
  obtain ⟨v, st₀, t, T', L, h0, X', hL, e1, e2, ⟨hv, hb, hz, hk⟩, st⟩ := hr T hT X
  cases hv
  rw [h0] at hz hk
  obtain ⟨t2, a1, b1⟩ := kk T'.heap (locs ++ L) (by rw [e1]; exact hb)
    ⟨Nat.le_trans hS.1 (by rw [e1]; exact hz), fun q h1 h2 => by rw [e1, hk q (Nat.lt_of_lt_of_le h1 hS.1) h2]; exact hS.2.1 q h1 h2, fun q hq => by
      rcases List.mem_append.mp hq with h | h
      · exact hS.2.2 q h
      · exact hL q h⟩ T' rfl X'
  exact ⟨t2, st t2 a1, b1⟩
end ZC
theorem z_args_len (N0 : Nat) : ∀ (as : List Value), (lg_sl (as.map (z_v N0))).length = (z_args as).length
  | [] => rfl
  | v :: t => by
    have ih := z_args_len N0 t
    simp only [lg_sl, List.map_cons, List.flatMap_cons, List.length_append] at ih ⊢
    rw [z_v_cat, ih, show z_args (v :: t) = (bif Nat.beq v.category 2 then some v :: none :: z_args t else some v :: z_args t) from rfl]
    rcases lv_cat v with h | h
    · rw [h, if_neg (by decide)]
      show 1 + _ = (some v :: z_args t).length
      rw [List.length_cons]
      omega
    · rw [h, if_pos rfl]
      show 2 + _ = (some v :: none :: z_args t).length
      rw [List.length_cons, List.length_cons]
      omega
theorem z_args_mem {N0 : Nat} : ∀ (as : List Value) (off i : Nat) (v : Value), (z_args as)[i]? = some (some v) → (off + i, z_v N0 v) ∈ lv_args off (as.map (z_v N0))
  | [], off, i, v, h => by simp [z_args] at h
  | w :: t, off, i, v, h => by
    unfold z_args at h
    rw [List.map_cons, lv_args]
    rcases lv_cat w with hc | hc
    · rw [hc] at h
      rw [z_v_cat, hc, if_neg (by decide)]
      change (some w :: z_args t)[i]? = some (some v) at h
      cases i with
      | zero =>
        cases h
        exact List.mem_cons_self
      | succ j =>
        have := z_args_mem (N0 := N0) t (off + 1) j v (by simpa using h)
        rw [show off + (j + 1) = off + 1 + j by omega]
        exact List.mem_cons_of_mem _ this
    · rw [hc] at h
      rw [z_v_cat, hc, if_pos rfl]
      change (some w :: none :: z_args t)[i]? = some (some v) at h
      match i, h with
      | 0, h =>
        cases h
        exact List.mem_cons_self
      | 1, h => simp at h
      | j + 2, h =>
        have := z_args_mem (N0 := N0) t (off + 2) j v (by simpa using h)
        rw [show off + (j + 2) = off + 2 + j by omega]
        exact List.mem_cons_of_mem _ this
theorem z_entry {N0 n : Nat} {as : List Value} (h : (z_args as).length ≤ n) : lv_has ((lg_sl (as.map (z_v N0)) ++ List.replicate (n - (lg_sl (as.map (z_v N0))).length) Slot.unset).toArray) n (z_as N0 (z_args as ++ List.replicate (n - (z_args as).length) none)) := by
  have h0 := lv_entry (as.map (z_v N0)) (n := n) (by rw [z_args_len]; exact h)
  refine ⟨h0.1, h0.2.1, fun q hq => ?_⟩
  obtain ⟨i, w⟩ := q
  obtain ⟨v, h1, rfl⟩ := z_as_mem.mp hq
  have h2 : (z_args as)[i]? = some (some v) := by
    by_cases hi : i < (z_args as).length
    · rwa [List.getElem?_append_left hi] at h1
    · rw [List.getElem?_append_right (by omega), List.getElem?_replicate] at h1
      split at h1 <;> simp at h1
  have h3 := z_args_mem (N0 := N0) as 0 i v h2
  rw [Nat.zero_add] at h3
  exact h0.2.2 _ h3
theorem z_ent_len {y : zY} {as : List Value} (h : (z_args as).length ≤ y.2.2.1) : (z_ent y as).length = y.2.2.1 := by
  unfold z_ent
  rw [List.length_append, List.length_replicate]
  omega
