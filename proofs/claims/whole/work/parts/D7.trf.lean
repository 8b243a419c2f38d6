/-! THE TREE in the program's cells -/
theorem Asame.tre {f f9 : Nat → Nat → Nat} (h : Asame f f9) {s : Nat} {T : Nat → Nat} (q : TrS (eAt f9 16 26) (f9 16 0) (f9 26 0) s T) : TrS (eAt f 16 26) (f 16 0) (f 26 0) s T := by
  rw [show eAt f9 16 26 = eAt f 16 26 by show gE (f9 18) (f9 19) (f9 21) (f9 20) (f9 22) (f9 27) (f9 29) = _; rw [h.2 18 rfl, h.2 19 rfl, h.2 21 rfl, h.2 20 rfl, h.2 22 rfl, h.2 27 rfl, h.2 29 rfl], h.2 16 rfl, h.2 26 rfl] at q
  exact q
theorem Asame.chs {f f9 : Nat → Nat → Nat} (h : Asame f f9) {T : Nat → Nat} (q : ChS (eAt f9 16 26) (f9 16 0) (f9 26 0) T) : ChS (eAt f 16 26) (f 16 0) (f 26 0) T := by
  rw [show eAt f9 16 26 = eAt f 16 26 by show gE (f9 18) (f9 19) (f9 21) (f9 20) (f9 22) (f9 27) (f9 29) = _; rw [h.2 18 rfl, h.2 19 rfl, h.2 21 rfl, h.2 20 rfl, h.2 22 rfl, h.2 27 rfl, h.2 29 rfl], h.2 16 rfl, h.2 26 rfl] at q
  exact q
theorem CC.core {M1 : zM} {f f9 : Nat → Nat → Nat} (hC : CC M1 f9) (h : Asame f f9) {a : Nat} (ha : coreB a = true) (h1 : a ≤ 138) (h2 : a ≠ 51) (h3 : a ≠ 94) : M1[a]? = some (ccl a (f a)) := by
  rw [← h.2 a ha]; exact hC.1 a h1 h2 h3
