/-! LETTERS of an item, of a token -/
theorem Lt.w1 {n x : Nat} {g pt tg bd : Nat → Nat} {l : List Nat} (h : Lt n g l) (hb : ¬ bd x = 0) (ht : tg x = NO) : Lt (n + 1 + 1 + 1) (up (up (up g n (bd x)) (n + 1) 39) (n + 1 + 1) (pt x)) (l ++ wrI pt tg bd x) := by
  unfold wrI; rw [if_pos hb, if_pos ht, ← List.append_assoc, ← List.append_assoc]; exact ((h.add _).add _).add _
theorem Lt.w2 {n x : Nat} {g pt tg bd : Nat → Nat} {l : List Nat} (h : Lt n g l) (hb : ¬ bd x = 0) (ht : ¬ tg x = NO) : Lt (n + 1 + 1) (up (up g n (bd x)) (n + 1) (pt x)) (l ++ wrI pt tg bd x) := by
  unfold wrI; rw [if_pos hb, if_neg ht, List.append_nil, ← List.append_assoc]; exact (h.add _).add _
theorem Lt.w3 {n x : Nat} {g pt tg bd : Nat → Nat} {l : List Nat} (h : Lt n g l) (hb : bd x = 0) (ht : tg x = NO) : Lt (n + 1 + 1) (up (up g n 39) (n + 1) (pt x)) (l ++ wrI pt tg bd x) := by
  unfold wrI; rw [if_neg (fun q => q hb), if_pos ht, List.nil_append, ← List.append_assoc]; exact (h.add _).add _
theorem Lt.w4 {n x : Nat} {g pt tg bd : Nat → Nat} {l : List Nat} (h : Lt n g l) (hb : bd x = 0) (ht : ¬ tg x = NO) : Lt (n + 1) (up g n (pt x)) (l ++ wrI pt tg bd x) := by
  unfold wrI; rw [if_neg (fun q => q hb), if_neg ht, List.nil_append, List.nil_append]; exact h.add _
theorem Lt.len {n : Nat} {g : Nat → Nat} {l : List Nat} (h : Lt n g l) : n = l.length := h.1
theorem lc_s (F : Nat → List Nat) (l : List Nat) (k : Nat) : l ++ lc F (k + 1) = l ++ lc F k ++ F k := by rw [lc, List.append_assoc]
theorem lc_s0 (F : Nat → List Nat) (k : Nat) : lc F (k + 1) = lc F k ++ F k := rfl
theorem prK_A {sg li co : Nat → Nat} {k : Nat} (h : 0 < k) (h2 : li (k - 1) ≠ li k) (l : List Nat) : l ++ prK sg li co k = l ++ [10] ++ List.replicate (co k - 0) 32 ++ [sg k] := by
  unfold prK; rw [if_pos ⟨h, h2⟩, if_pos (Or.inr h2), ← List.append_assoc, ← List.append_assoc]
theorem prK_B {sg li co : Nat → Nat} {k s : Nat} (h : k = 0) (hs : s = 0) (l : List Nat) : l ++ prK sg li co k = l ++ [] ++ List.replicate (co k - s) 32 ++ [sg k] := by
  unfold prK; rw [if_neg (by omega), if_pos (Or.inl h), ← List.append_assoc, ← List.append_assoc, hs]
theorem prK_C {sg li co : Nat → Nat} {k s : Nat} (h : 0 < k) (h2 : li (k - 1) = li k) (hs : s = co (k - 1) + 1) (l : List Nat) : l ++ prK sg li co k = l ++ [] ++ List.replicate (co k - s) 32 ++ [sg k] := by
  unfold prK; rw [if_neg (by omega), if_neg (by omega), ← List.append_assoc, ← List.append_assoc, hs]
theorem Lt.rep {n : Nat} {g : Nat → Nat} {l : List Nat} {a b : Nat} (h : Lt n g (l ++ List.replicate (a - b) 32)) (hb : b ≤ a) : Lt (n + 1) (up g n 32) (l ++ List.replicate (a + 1 - b) 32) := by
  rw [show a + 1 - b = (a - b) + 1 by omega, List.replicate_succ', ← List.append_assoc]; exact h.add _
theorem Lt.rep0 {n : Nat} {g : Nat → Nat} {l : List Nat} {a : Nat} (h : Lt n g l) : Lt n g (l ++ List.replicate (a - a) 32) := by
  rw [Nat.sub_self]; simpa using h
theorem srt_col {c k : Nat} {li co : Nat → Nat} (hs : Srt c li co) (hk : k < c) (h0 : 0 < k) (h : li (k - 1) = li k) : co (k - 1) + 1 ≤ co k := by
  rcases hs (k - 1) k (by omega) hk with q | q <;> omega
