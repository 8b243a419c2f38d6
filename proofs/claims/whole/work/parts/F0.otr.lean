/-! ANOTHER TREE beside: names and fields of its nodes -/
def OtI (gn2 T O : Nat → Nat) (q : Nat) : Prop := ∀ z, z < q → O (z * 8 + 0) = gn2 (T (z * 8 + 0)) ∧ ∀ v, 1 ≤ v → v < 8 → O (z * 8 + v) = T (z * 8 + v)
def OtW (gn2 T O1 O : Nat → Nat) (q w : Nat) : Prop := O (q * 8 + 0) = gn2 (T (q * 8 + 0)) ∧ (∀ v, 1 ≤ v → v < w → O (q * 8 + v) = T (q * 8 + v)) ∧ ∀ z, z < q * 8 → O z = O1 z
theorem OtW.st {gn2 T O1 : Nat → Nat} {q v : Nat} (h : v = gn2 (T (q * 8 + 0))) : OtW gn2 T O1 (up O1 (q * 8 + 0) v) q 1 := ⟨by rw [up_s, h], fun v h1 h2 => by omega, fun z hz => up_n (by omega)⟩
theorem OtW.nx {gn2 T O1 O : Nat → Nat} {q w : Nat} (h : OtW gn2 T O1 O q w) (hw : 1 ≤ w) : OtW gn2 T O1 (up O (q * 8 + w) (T (q * 8 + w))) q (w + 1) := by
  refine ⟨by rw [up_n (by omega)]; exact h.1, fun v h1 h2 => ?_, fun z hz => by rw [up_n (by omega)]; exact h.2.2 z hz⟩
  by_cases e : v = w
  · rw [e, up_s]
  · rw [up_n (by omega)]; exact h.2.1 v h1 (by omega)
theorem OtW.fin {gn2 T O1 O : Nat → Nat} {q w : Nat} (h : OtW gn2 T O1 O q w) (hw : w = 8) (h1 : OtI gn2 T O1 q) : OtI gn2 T O (q + 1) := by
  intro z hz
  by_cases e : z = q
  · subst e
    exact ⟨h.1, fun v a1 a2 => h.2.1 v a1 (by omega)⟩
  · refine ⟨?_, fun v a1 a2 => ?_⟩
    · rw [h.2.2 _ (by omega)]; exact (h1 z (by omega)).1
    · rw [h.2.2 _ (by omega)]; exact (h1 z (by omega)).2 v a1 a2
theorem RowG.of140 {f f' : Nat → Nat → Nat} {n : Nat} {gn al_ it pt tg bd : Nat → Nat} (h : RowG f n gn al_ it pt tg bd) (e : f' 140 = f 140) : RowG f' n gn al_ it pt tg bd := by
  unfold RowG at h ⊢
  rw [e]; exact h
theorem RelT.of140 {f f' : Nat → Nat → Nat} {c : Nat} {sg li co : Nat → Nat} (h : RelT f c sg li co) (e : f' 140 = f 140) : RelT f' c sg li co := h.keep e
