/-! THE TREE in the program's cells -/
theorem Asame.tre {f f9 : Nat → Nat → Nat} (h : Asame f f9) {s : Nat} {T : Nat → Nat} (q : TrS (eAt f9 16 26) (f9 16 0) (f9 26 0) s T) : TrS (eAt f 16 26) (f 16 0) (f 26 0) s T := by
  rw [show eAt f9 16 26 = eAt f 16 26 by show gE (f9 18) (f9 19) (f9 21) (f9 20) (f9 22) (f9 27) (f9 29) = _; rw [h.2 18 rfl, h.2 19 rfl, h.2 21 rfl, h.2 20 rfl, h.2 22 rfl, h.2 27 rfl, h.2 29 rfl], h.2 16 rfl, h.2 26 rfl] at q
  exact q
theorem Asame.chs {f f9 : Nat → Nat → Nat} (h : Asame f f9) {T : Nat → Nat} (q : ChS (eAt f9 16 26) (f9 16 0) (f9 26 0) T) : ChS (eAt f 16 26) (f 16 0) (f 26 0) T := by
  rw [show eAt f9 16 26 = eAt f 16 26 by show gE (f9 18) (f9 19) (f9 21) (f9 20) (f9 22) (f9 27) (f9 29) = _; rw [h.2 18 rfl, h.2 19 rfl, h.2 21 rfl, h.2 20 rfl, h.2 22 rfl, h.2 27 rfl, h.2 29 rfl], h.2 16 rfl, h.2 26 rfl] at q
  exact q
theorem CC.core {M1 : zM} {f f9 : Nat → Nat → Nat} (hC : CC M1 f9) (h : Asame f f9) {a : Nat} (ha : coreB a = true) (h1 : a ≤ 138) (h2 : a ≠ 51) (h3 : a ≠ 94) : M1[a]? = some (ccl a (f a)) := by
  rw [← h.2 a ha]; exact hC.1 a h1 h2 h3
theorem offN_y {T : Nat → Nat} {t k a : Nat} (h : a = offN T t k) (h1 : hsB T t k = true) (h2 : T (k * 8 + 7) = 42) : a + 1 = offN T t (k + 1) := cnt_yes h (by show (hsB T t k && decide (T (k * 8 + 7) = 42)) = true; rw [h1, decide_eq_true h2]; rfl)
theorem offN_n {T : Nat → Nat} {t k a : Nat} (h : a = offN T t k) (h1 : ¬ (hsB T t k = true ∧ T (k * 8 + 7) = 42)) : a = offN T t (k + 1) := cnt_no h (by
  show (hsB T t k && decide (T (k * 8 + 7) = 42)) = false
  cases e : hsB T t k with
  | false => rfl
  | true => rw [decide_eq_false (fun q => h1 ⟨e, q⟩)]; rfl)
def twP (li T : Nat → Nat) (sz t : Nat) : Prop := (t = 0 ∨ li (t - 1) ≠ li t) ∧ 2 ≤ cnW T 2 t sz
theorem twoN_y {li T : Nat → Nat} {sz t a : Nat} (h : a = twoN li t T sz) (h1 : t = 0 ∨ li (t - 1) ≠ li t) (h2 : 2 ≤ cnW T 2 t sz) : a + 1 = twoN li (t + 1) T sz := cnt_yes h (decide_eq_true ⟨h1, h2⟩)
theorem twoN_n {li T : Nat → Nat} {sz t a : Nat} (h : a = twoN li t T sz) (h1 : ¬ ((t = 0 ∨ li (t - 1) ≠ li t) ∧ 2 ≤ cnW T 2 t sz)) : a = twoN li (t + 1) T sz := cnt_no h (decide_eq_false h1)
