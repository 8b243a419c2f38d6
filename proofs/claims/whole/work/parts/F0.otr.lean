/-! ANOTHER TREE beside: names and fields of its nodes -/
def OtI (gn2 T O : Nat → Nat) (q : Nat) : Prop := ∀ z, z < q → O (z * 8 + 0) = gn2 (T (z * 8 + 0)) ∧ ∀ v, 1 ≤ v → v < 8 → O (z * 8 + v) = T (z * 8 + v)
def OtW (gn2 T O1 O : Nat → Nat) (q w : Nat) : Prop := O (q * 8 + 0) = gn2 (T (q * 8 + 0)) ∧ (∀ v, 1 ≤ v → v < w → O (q * 8 + v) = T (q * 8 + v)) ∧ ∀ z, z < q * 8 → O z = O1 z
theorem OtW.st {gn2 T O1 : Nat → Nat} {q v : Nat} (h : v = gn2 (T (q * 8 + 0))) : OtW gn2 T O1 (up O1 (q * 8 + 0) v) q 1 := ⟨by rw [up_s, h], fun v h1 h2 => by omega, fun z hz => up_n (by omega)⟩
theorem OtW.nx {gn2 T O1 O : Nat → Nat} {q w : Nat} (h : OtW gn2 T O1 O q w) (hw : 1 ≤ w) : OtW gn2 T O1 (up O (q * 8 + w) (T (q * 8 + w))) q (w + 1) := by
  refine ⟨by rw [up_n (by omega)]; exact h.1, fun v h1 h2 => ?_, fun z hz => by rw [up_n (by omega)]; exact h.2.2 z hz⟩
  by_cases e : v = w
  · rw [e, up_s]
  · rw [up_n (by omega)]; exact h.2.1 v h1 (by omega)
theorem OtW.fin {gn2 T O1 O : Nat → Nat} {q w : Nat} (h : OtW gn2 T O1 O q w) (hw : w = 8) (h1 : OtI gn2 T O1 q) : OtI gn2 T O (q + 1) := by
  intro z hz
  by_cases e : z = q
  · subst e
    exact ⟨h.1, fun v a1 a2 => h.2.1 v a1 (by omega)⟩
  · refine ⟨?_, fun v a1 a2 => ?_⟩
    · rw [h.2.2 _ (by omega)]; exact (h1 z (by omega)).1
    · rw [h.2.2 _ (by omega)]; exact (h1 z (by omega)).2 v a1 a2
theorem RowG.of140 {f f' : Nat → Nat → Nat} {n : Nat} {gn al_ it pt tg bd : Nat → Nat} (h : RowG f n gn al_ it pt tg bd) (e : f' 140 = f 140) : RowG f' n gn al_ it pt tg bd := by
  unfold RowG at h ⊢
  rw [e]; exact h
theorem RelT.of140 {f f' : Nat → Nat → Nat} {c : Nat} {sg li co : Nat → Nat} (h : RelT f c sg li co) (e : f' 140 = f 140) : RelT f' c sg li co := h.keep e
theorem al_b {E E2 : Nat → Nat → Nat} {n n2 c c2 s s2 q : Nat} {T T2 : Nat → Nat} (h : TrR E n c s T) (h2 : TrR E2 n2 c2 s2 T2) (hq : q < s) (hq2 : q < s2) (h4 : ∀ q, E 0 q ≤ 4) (h42 : ∀ q, E2 0 q ≤ 4) (hc : c ≤ 20) (hc2 : c2 ≤ 20) : ∀ w, 1 ≤ w → w < 4 → T (q * 8 + w) < 100 ∧ T2 (q * 8 + w) < 100 := fun w a b => by
  have a1 := h.f1 q hq
  have a2 := h.f23 q hq
  have a3 := h.f3 q hq
  have b1 := h2.f1 q hq2
  have b2 := h2.f23 q hq2
  have b3 := h2.f3 q hq2
  have a4 := h4 (T (q * 8 + 0))
  have b4 := h42 (T2 (q * 8 + 0))
  have e : w = 1 ∨ w = 2 ∨ w = 3 := by omega
  rcases e with e | e | e <;> subst e <;> omega
theorem al_in {P : Prop} [Decidable P] {T T2 : Nat → Nat} {q : Nat} : (if P then 1 else 0) = 1 ↔ P ∧ ∀ v, 1 ≤ v → v < 1 → T (q * 8 + v) = T2 (q * 8 + v) := by
  by_cases h : P
  · rw [if_pos h]; exact ⟨fun _ => ⟨h, fun v a b => by omega⟩, fun _ => rfl⟩
  · rw [if_neg h]; exact ⟨fun q => by omega, fun q => absurd q.1 h⟩
theorem al_y {P : Prop} {b w q : Nat} {T T2 : Nat → Nat} (h : b = 1 ↔ P ∧ ∀ v, 1 ≤ v → v < w → T (q * 8 + v) = T2 (q * 8 + v)) (hb : b ≠ 0) (h1 : b ≤ 1) (e : T (q * 8 + w) = T2 (q * 8 + w)) : 1 = 1 ↔ P ∧ ∀ v, 1 ≤ v → v < w + 1 → T (q * 8 + v) = T2 (q * 8 + v) := by
  obtain ⟨p, g⟩ := h.mp (by omega)
  refine ⟨fun _ => ⟨p, fun v a c => ?_⟩, fun _ => rfl⟩
  by_cases e9 : v = w
  · rw [e9]; exact e
  · exact g v a (by omega)
theorem al_n0 {P : Prop} {b w q : Nat} {T T2 : Nat → Nat} (h : b = 1 ↔ P ∧ ∀ v, 1 ≤ v → v < w → T (q * 8 + v) = T2 (q * 8 + v)) (hb : b = 0) : 0 = 1 ↔ P ∧ ∀ v, 1 ≤ v → v < w + 1 → T (q * 8 + v) = T2 (q * 8 + v) :=
  ⟨fun q => by omega, fun g => by have := h.mpr ⟨g.1, fun v a c => g.2 v a (by omega)⟩; omega⟩
theorem al_n1 {P : Prop} {w q : Nat} {T T2 : Nat → Nat} (e : ¬ T (q * 8 + w) = T2 (q * 8 + w)) (hw : 1 ≤ w) : 0 = 1 ↔ P ∧ ∀ v, 1 ≤ v → v < w + 1 → T (q * 8 + v) = T2 (q * 8 + v) :=
  ⟨fun q => by omega, fun g => absurd (g.2 w hw (by omega)) e⟩
theorem al_nx {gn gn2 T T2 : Nat → Nat} {s s2 q b w : Nat} (h : s = s2 ∧ ∀ z, z < q → likR gn gn2 T T2 z = true) (g : b ≤ 1 ∧ (b = 1 ↔ gn (T (q * 8 + 0)) = gn2 (T2 (q * 8 + 0)) ∧ ∀ v, 1 ≤ v → v < w → T (q * 8 + v) = T2 (q * 8 + v))) (hw : w = 4) : b = 1 ↔ s = s2 ∧ ∀ z, z < q + 1 → likR gn gn2 T T2 z = true := by
  subst hw
  rw [g.2]
  constructor
  · rintro ⟨a, c⟩
    refine ⟨h.1, fun z hz => ?_⟩
    by_cases e : z = q
    · rw [e]; exact decide_eq_true ⟨a, c 1 (by decide) (by decide), c 2 (by decide) (by decide), c 3 (by decide) (by decide)⟩
    · exact h.2 z (by omega)
  · rintro ⟨_, a⟩
    have a := of_decide_eq_true (a q (by omega))
    refine ⟨a.1, fun v a1 a2 => ?_⟩
    have e : v = 1 ∨ v = 2 ∨ v = 3 := by omega
    rcases e with e | e | e <;> subst e
    · exact a.2.1
    · exact a.2.2.1
    · exact a.2.2.2
theorem al_fin {gn gn2 T T2 : Nat → Nat} {s s2 q b : Nat} (h : b ≤ 1 ∧ (b = 1 ↔ s = s2 ∧ ∀ z, z < q → likR gn gn2 T T2 z = true)) (e : b = 0 ∨ s2 ≤ q) (hq : q ≤ s2 := by omega) : b = 1 ↔ likB gn gn2 s s2 T T2 := by
  rw [h.2]
  unfold likB
  constructor
  · rintro ⟨a, c⟩
    rcases e with e | e
    · have := h.2.mpr ⟨a, c⟩; omega
    · exact ⟨a, fun k hk => c k (by omega)⟩
  · rintro ⟨a, c⟩
    exact ⟨a, fun k hk => c k (by omega)⟩
