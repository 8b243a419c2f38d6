/-! THE STATE: what the cells of each class hold, as lists of cells from a first one on -/
theorem seg1 {M : zM} {k : Nat} {e0 : va_E} (h0 : M[k]? = some e0) : Seg M k [e0] := by
  intro j e hj
  match j, hj with
  | 0, hj => cases hj; exact h0
  | j + 1, hj => simp at hj
theorem seg2 {M : zM} {k : Nat} {e0 e1 : va_E} (h0 : M[k]? = some e0) (h1 : M[k + 1]? = some e1) : Seg M k [e0, e1] := by
  intro j e hj
  match j, hj with
  | 0, hj => cases hj; exact h0
  | 1, hj => cases hj; exact h1
  | j + 2, hj => simp at hj
theorem seg3 {M : zM} {k : Nat} {e0 e1 e2 : va_E} (h0 : M[k]? = some e0) (h1 : M[k + 1]? = some e1) (h2 : M[k + 2]? = some e2) : Seg M k [e0, e1, e2] := by
  intro j e hj
  match j, hj with
  | 0, hj => cases hj; exact h0
  | 1, hj => cases hj; exact h1
  | 2, hj => cases hj; exact h2
  | j + 3, hj => simp at hj
theorem seg4 {M : zM} {k : Nat} {e0 e1 e2 e3 : va_E} (h0 : M[k]? = some e0) (h1 : M[k + 1]? = some e1) (h2 : M[k + 2]? = some e2) (h3 : M[k + 3]? = some e3) : Seg M k [e0, e1, e2, e3] := by
  intro j e hj
  match j, hj with
  | 0, hj => cases hj; exact h0
  | 1, hj => cases hj; exact h1
  | 2, hj => cases hj; exact h2
  | 3, hj => cases hj; exact h3
  | j + 4, hj => simp at hj
theorem seg5 {M : zM} {k : Nat} {e0 e1 e2 e3 e4 : va_E} (h0 : M[k]? = some e0) (h1 : M[k + 1]? = some e1) (h2 : M[k + 2]? = some e2) (h3 : M[k + 3]? = some e3) (h4 : M[k + 4]? = some e4) : Seg M k [e0, e1, e2, e3, e4] := by
  intro j e hj
  match j, hj with
  | 0, hj => cases hj; exact h0
  | 1, hj => cases hj; exact h1
  | 2, hj => cases hj; exact h2
  | 3, hj => cases hj; exact h3
  | 4, hj => cases hj; exact h4
  | j + 5, hj => simp at hj
theorem seg6 {M : zM} {k : Nat} {e0 e1 e2 e3 e4 e5 : va_E} (h0 : M[k]? = some e0) (h1 : M[k + 1]? = some e1) (h2 : M[k + 2]? = some e2) (h3 : M[k + 3]? = some e3) (h4 : M[k + 4]? = some e4) (h5 : M[k + 5]? = some e5) : Seg M k [e0, e1, e2, e3, e4, e5] := by
  intro j e hj
  match j, hj with
  | 0, hj => cases hj; exact h0
  | 1, hj => cases hj; exact h1
  | 2, hj => cases hj; exact h2
  | 3, hj => cases hj; exact h3
  | 4, hj => cases hj; exact h4
  | 5, hj => cases hj; exact h5
  | j + 6, hj => simp at hj
theorem seg7 {M : zM} {k : Nat} {e0 e1 e2 e3 e4 e5 e6 : va_E} (h0 : M[k]? = some e0) (h1 : M[k + 1]? = some e1) (h2 : M[k + 2]? = some e2) (h3 : M[k + 3]? = some e3) (h4 : M[k + 4]? = some e4) (h5 : M[k + 5]? = some e5) (h6 : M[k + 6]? = some e6) : Seg M k [e0, e1, e2, e3, e4, e5, e6] := by
  intro j e hj
  match j, hj with
  | 0, hj => cases hj; exact h0
  | 1, hj => cases hj; exact h1
  | 2, hj => cases hj; exact h2
  | 3, hj => cases hj; exact h3
  | 4, hj => cases hj; exact h4
  | 5, hj => cases hj; exact h5
  | 6, hj => cases hj; exact h6
  | j + 7, hj => simp at hj
theorem seg8 {M : zM} {k : Nat} {e0 e1 e2 e3 e4 e5 e6 e7 : va_E} (h0 : M[k]? = some e0) (h1 : M[k + 1]? = some e1) (h2 : M[k + 2]? = some e2) (h3 : M[k + 3]? = some e3) (h4 : M[k + 4]? = some e4) (h5 : M[k + 5]? = some e5) (h6 : M[k + 6]? = some e6) (h7 : M[k + 7]? = some e7) : Seg M k [e0, e1, e2, e3, e4, e5, e6, e7] := by
  intro j e hj
  match j, hj with
  | 0, hj => cases hj; exact h0
  | 1, hj => cases hj; exact h1
  | 2, hj => cases hj; exact h2
  | 3, hj => cases hj; exact h3
  | 4, hj => cases hj; exact h4
  | 5, hj => cases hj; exact h5
  | 6, hj => cases hj; exact h6
  | 7, hj => cases hj; exact h7
  | j + 8, hj => simp at hj
theorem seg9 {M : zM} {k : Nat} {e0 e1 e2 e3 e4 e5 e6 e7 e8 : va_E} (h0 : M[k]? = some e0) (h1 : M[k + 1]? = some e1) (h2 : M[k + 2]? = some e2) (h3 : M[k + 3]? = some e3) (h4 : M[k + 4]? = some e4) (h5 : M[k + 5]? = some e5) (h6 : M[k + 6]? = some e6) (h7 : M[k + 7]? = some e7) (h8 : M[k + 8]? = some e8) : Seg M k [e0, e1, e2, e3, e4, e5, e6, e7, e8] := by
  intro j e hj
  match j, hj with
  | 0, hj => cases hj; exact h0
  | 1, hj => cases hj; exact h1
  | 2, hj => cases hj; exact h2
  | 3, hj => cases hj; exact h3
  | 4, hj => cases hj; exact h4
  | 5, hj => cases hj; exact h5
  | 6, hj => cases hj; exact h6
  | 7, hj => cases hj; exact h7
  | 8, hj => cases hj; exact h8
  | j + 9, hj => simp at hj
theorem seg10 {M : zM} {k : Nat} {e0 e1 e2 e3 e4 e5 e6 e7 e8 e9 : va_E} (h0 : M[k]? = some e0) (h1 : M[k + 1]? = some e1) (h2 : M[k + 2]? = some e2) (h3 : M[k + 3]? = some e3) (h4 : M[k + 4]? = some e4) (h5 : M[k + 5]? = some e5) (h6 : M[k + 6]? = some e6) (h7 : M[k + 7]? = some e7) (h8 : M[k + 8]? = some e8) (h9 : M[k + 9]? = some e9) : Seg M k [e0, e1, e2, e3, e4, e5, e6, e7, e8, e9] := by
  intro j e hj
  match j, hj with
  | 0, hj => cases hj; exact h0
  | 1, hj => cases hj; exact h1
  | 2, hj => cases hj; exact h2
  | 3, hj => cases hj; exact h3
  | 4, hj => cases hj; exact h4
  | 5, hj => cases hj; exact h5
  | 6, hj => cases hj; exact h6
  | 7, hj => cases hj; exact h7
  | 8, hj => cases hj; exact h8
  | 9, hj => cases hj; exact h9
  | j + 10, hj => simp at hj
theorem seg11 {M : zM} {k : Nat} {e0 e1 e2 e3 e4 e5 e6 e7 e8 e9 e10 : va_E} (h0 : M[k]? = some e0) (h1 : M[k + 1]? = some e1) (h2 : M[k + 2]? = some e2) (h3 : M[k + 3]? = some e3) (h4 : M[k + 4]? = some e4) (h5 : M[k + 5]? = some e5) (h6 : M[k + 6]? = some e6) (h7 : M[k + 7]? = some e7) (h8 : M[k + 8]? = some e8) (h9 : M[k + 9]? = some e9) (h10 : M[k + 10]? = some e10) : Seg M k [e0, e1, e2, e3, e4, e5, e6, e7, e8, e9, e10] := by
  intro j e hj
  match j, hj with
  | 0, hj => cases hj; exact h0
  | 1, hj => cases hj; exact h1
  | 2, hj => cases hj; exact h2
  | 3, hj => cases hj; exact h3
  | 4, hj => cases hj; exact h4
  | 5, hj => cases hj; exact h5
  | 6, hj => cases hj; exact h6
  | 7, hj => cases hj; exact h7
  | 8, hj => cases hj; exact h8
  | 9, hj => cases hj; exact h9
  | 10, hj => cases hj; exact h10
  | j + 11, hj => simp at hj
/-- a row of tokens: how many, signs, lines, columns -/
abbrev Tk : Type := Nat × (Nat → Nat) × (Nat → Nat) × (Nat → Nat)
def tokL (k : Nat) (T : Tk) : List va_E := [.inr (9, [.int (nI T.1), .ref (k + 1), .ref (k + 2), .ref (k + 3)]), .inl (0, 20, .inl (ai T.2.1)), .inl (0, 20, .inl (ai T.2.2.1)), .inl (0, 20, .inl (ai T.2.2.2))]
/-- rules: how many; names, alts, items, parts, targets, bonds; which can be empty (bits); free, free by alt, free behind an item -/
abbrev Gr : Type := Nat × (Nat → Nat) × (Nat → Nat) × (Nat → Nat) × (Nat → Nat) × (Nat → Nat) × (Nat → Nat) × Nat × (Nat → Nat) × (Nat → Nat) × (Nat → Nat)
def rulL (k : Nat) (G : Gr) : List va_E := [.inr (8, [.int (nI G.1), .ref (k + 1), .ref (k + 2), .ref (k + 3), .ref (k + 4), .ref (k + 5), .ref (k + 6), .int (nI G.2.2.2.2.2.2.2.1), .ref (k + 7), .ref (k + 8), .ref (k + 9)]), .inl (0, 8, .inl (ai G.2.1)), .inl (0, 8, .inl (ai G.2.2.1)), .inl (0, 32, .inl (ai G.2.2.2.1)), .inl (0, 160, .inl (ai G.2.2.2.2.1)), .inl (0, 160, .inl (ai G.2.2.2.2.2.1)), .inl (0, 160, .inl (ai G.2.2.2.2.2.2.1)), .inl (1, 8, .inr (.inl (al G.2.2.2.2.2.2.2.2.1))), .inl (1, 32, .inr (.inl (al G.2.2.2.2.2.2.2.2.2.1))), .inl (1, 160, .inr (.inl (al G.2.2.2.2.2.2.2.2.2.2)))]
/-- a chart: its rules and tokens, whether it stands, where, rows -/
def chtL (k kr kt s : Nat) (W R : Nat → Nat) : List va_E := [.inr (0, [.ref kr, .ref kt, .int (nI s), .ref (k + 1), .ref (k + 2)]), .inl (1, 3528, .inr (.inl (al W))), .inl (1, 3360, .inr (.inl (al R)))]

