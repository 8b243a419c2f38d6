/-! THE LAW: what a call answers is of its kind -/
theorem z_r_kind {ret : Option FieldType} {i : Instr} {st : List Value} {r : Option Value} (h : z_r ret i st = some r) : ((ret = some .int ∨ ret = some .boolean) → ∃ x, r = some (.int x)) ∧ (ret = some .long → ∃ x, r = some (.long x)) := by
  rcases z_r_eq h with ⟨-, v, -, rfl, hv⟩ | ⟨-, v, -, rfl, hv⟩ | ⟨-, -, rfl, hv⟩
  · refine ⟨fun _ => ⟨v, rfl⟩, fun q => ?_⟩
    rcases hv with e | ⟨e, -⟩
    · rw [e] at q; cases q
    · rw [e] at q; cases q
  · refine ⟨fun q => ?_, fun _ => ⟨v, rfl⟩⟩
    rcases q with q | q
    · rw [hv] at q; cases q
    · rw [hv] at q; cases q
  · refine ⟨fun q => ?_, fun q => ?_⟩
    · rcases q with q | q
      · rw [hv] at q; cases q
      · rw [hv] at q; cases q
    · rw [hv] at q; cases q
theorem z_go_kind (P : List zY) : ∀ (n d : Nat) (y : zY) (pc : Nat) (ls : zL) (st : List Value) (M : zM) (r : Option Value) (M1 : zM), z_go P n d y pc ls st M = some (r, M1) → ((y.2.2.2.1 = some .int ∨ y.2.2.2.1 = some .boolean) → ∃ x, r = some (.int x)) ∧ (y.2.2.2.1 = some .long → ∃ x, r = some (.long x)) := by
  intro n
  induction n with
  | zero => intro d y pc ls st M r M1 h; cases h
  | succ n ih =>
    intro d y pc ls st M r M1 h
    rw [z_go] at h
    split at h
    · cases h
    · split at h
      · split at h
        · exact ih _ _ _ _ _ _ _ _ h
        · cases h
      · split at h
        · exact ih _ _ _ _ _ _ _ _ h
        · cases h
      · split at h
        · rename_i r0 hr
          cases h
          exact z_r_kind hr
        · cases h
      · split at h
        · split at h
          · rename_i y0 hy0
            cases hb : Nat.ble (z_args _).length y0.2.2.1 with
            | false => rw [hb] at h; cases h
            | true =>
              rw [hb, cond_true] at h
              split at h
              · exact ih _ _ _ _ _ _ _ _ h
              · cases h
          · cases h
        · cases h
theorem Zm.kI {d : Nat} {y : zY} {as : List Value} {M : zM} {post : Option Value → zM → Prop} (h : Zm d y as M post) (hy : y.2.2.2.1 = some .int ∨ y.2.2.2.1 = some .boolean) : Zm d y as M (fun r M1 => post r M1 ∧ ∃ x, r = some (.int x)) := by
  obtain ⟨n, r, M1, h1, h2⟩ := h
  exact ⟨n, r, M1, h1, h2, (z_go_kind _ _ _ _ _ _ _ _ _ _ h1).1 hy⟩
theorem Zm.kL {d : Nat} {y : zY} {as : List Value} {M : zM} {post : Option Value → zM → Prop} (h : Zm d y as M post) (hy : y.2.2.2.1 = some .long) : Zm d y as M (fun r M1 => post r M1 ∧ ∃ x, r = some (.long x)) := by
  obtain ⟨n, r, M1, h1, h2⟩ := h
  exact ⟨n, r, M1, h1, h2, (z_go_kind _ _ _ _ _ _ _ _ _ _ h1).2 hy⟩
theorem Shp.c {M M1 : zM} (h : Shp M) (hc : ∃ f9, CC M1 f9) (hs : Smc M M1) : Shp M1 := by
  obtain ⟨h1, -, ⟨o, g, h3⟩, gx, h4⟩ := h
  exact ⟨hs.1.trans h1, hc, ⟨o, g, h3.smc hs⟩, gx, (hs.2 177 (by decide)).trans h4⟩
theorem Shp.m {M M2 : zM} {f9 g9 : Nat → Nat → Nat} {o9 : Nat → Nat} (h : Shp M) (hc : CC M2 f9) (hm : MM M2 o9 g9) (hl : M2.length = M.length) (ha : ∀ a, 176 < a → M2[a]? = M[a]?) : Shp M2 := by
  obtain ⟨h1, -, -, gx, h4⟩ := h
  exact ⟨hl.trans h1, ⟨f9, hc⟩, ⟨o9, g9, hm⟩, gx, (ha 177 (by decide)).trans h4⟩
/-- how the law stands between two calls -/
def lwS (N0 : Nat) (D : va_G) (ca : Nat → ClassId) (K : Nat) (M : zM) (H : Heap) : Prop := z_H N0 D ca M H ∧ Shp M ∧ ∃ f o g, CC M f ∧ MM M o g ∧ Rel K f o g
theorem lw_cmp0 (x : Int64) : lg_cmp x x = 0 := by
  unfold lg_cmp
  rw [if_neg (by intro h; exact Int64.lt_irrefl h), if_pos rfl]
