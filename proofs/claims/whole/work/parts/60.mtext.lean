/-! THE MODEL reads a text -/
theorem sg_lt {x : Nat} (h : sgB x = true) : x < 128 := by have := of_decide_eq_true h; omega
def txR (row : Nat → Nat) (n : Nat) (g1 g2 g3 : Nat → Nat) (k : Nat) : Nat → Nat := fun q => if q = 529 then n else if 530 ≤ q ∧ q < 530 + k then g1 (q - 530) else if 550 ≤ q ∧ q < 550 + k then g2 (q - 550) else if 570 ≤ q ∧ q < 570 + k then g3 (q - 570) else row q
theorem txR_0 (row : Nat → Nat) (n : Nat) (g1 g2 g3 : Nat → Nat) : txR row n g1 g2 g3 0 = up row 529 n := by
  funext q; unfold txR up
  by_cases e : q = 529
  · rw [if_pos e, if_pos e]
  · rw [if_neg e, if_neg e, if_neg (by omega), if_neg (by omega), if_neg (by omega)]
theorem txR_s {row : Nat → Nat} {n : Nat} {g1 g2 g3 : Nat → Nat} {k : Nat} (hk : k < 20) : up (up (up (txR row n g1 g2 g3 k) (530 + k) (g1 k)) (550 + k) (g2 k)) (570 + k) (g3 k) = txR row n g1 g2 g3 (k + 1) := by
  funext q
  by_cases e3 : q = 570 + k
  · rw [e3, up_s]; unfold txR
    rw [if_neg (by omega), if_neg (by omega), if_neg (by omega), if_pos (by omega), Nat.add_sub_cancel_left]
  · rw [up_n e3]
    by_cases e2 : q = 550 + k
    · rw [e2, up_s]; unfold txR
      rw [if_neg (by omega), if_neg (by omega), if_pos (by omega), Nat.add_sub_cancel_left]
    · rw [up_n e2]
      by_cases e1 : q = 530 + k
      · rw [e1, up_s]; unfold txR
        rw [if_neg (by omega), if_pos (by omega), Nat.add_sub_cancel_left]
      · rw [up_n e1]; unfold txR
        by_cases e0 : q = 529
        · rw [if_pos e0, if_pos e0]
        · rw [if_neg e0, if_neg e0]
          by_cases f1 : 530 ≤ q ∧ q < 530 + k
          · rw [if_pos f1, if_pos (by omega)]
          · rw [if_neg f1, if_neg (show ¬ (530 ≤ q ∧ q < 530 + (k + 1)) by omega)]
            by_cases f2 : 550 ≤ q ∧ q < 550 + k
            · rw [if_pos f2, if_pos (by omega)]
            · rw [if_neg f2, if_neg (show ¬ (550 ≤ q ∧ q < 550 + (k + 1)) by omega)]
              by_cases f3 : 570 ≤ q ∧ q < 570 + k
              · rw [if_pos f3, if_pos (by omega)]
              · rw [if_neg f3, if_neg (by omega)]
theorem txR_o {row : Nat → Nat} {n : Nat} {g1 g2 g3 : Nat → Nat} {k q : Nat} (h : q < 529) : txR row n g1 g2 g3 k q = row q := by
  unfold txR; rw [if_neg (by omega), if_neg (by omega), if_neg (by omega), if_neg (by omega)]
theorem txR_lt {row : Nat → Nat} {n B : Nat} {g1 g2 g3 : Nat → Nat} {k : Nat} (h : ∀ q, row q < B) (hn : n < B) (h1 : ∀ q, q < k → g1 q < B) (h2 : ∀ q, q < k → g2 q < B) (h3 : ∀ q, q < k → g3 q < B) (q : Nat) : txR row n g1 g2 g3 k q < B := by
  unfold txR; split
  · exact hn
  · split
    · exact h1 _ (by omega)
    · split
      · exact h2 _ (by omega)
      · split
        · exact h3 _ (by omega)
        · exact h q
theorem RelT.text {f : Nat → Nat → Nat} {n : Nat} {g1 g2 g3 s1 s2 s3 : Nat → Nat} (hn : n ≤ 20) (h1 : ∀ q, q < n → g1 q = s1 q) (h2 : ∀ q, q < n → g2 q = s2 q) (h3 : ∀ q, q < n → g3 q = s3 q) : RelT (fset f 140 (txR (f 140) n g1 g2 g3 n)) n s1 s2 s3 := by
  refine ⟨show txR (f 140) n g1 g2 g3 n 529 = n from if_pos rfl, fun k hk => ?_⟩
  show txR (f 140) n g1 g2 g3 n _ = _ ∧ txR (f 140) n g1 g2 g3 n _ = _ ∧ txR (f 140) n g1 g2 g3 n _ = _
  unfold txR
  refine ⟨?_, ?_, ?_⟩
  · rw [if_neg (by omega), if_pos (by omega), Nat.add_sub_cancel_left]; exact h1 k hk
  · rw [if_neg (by omega), if_neg (by omega), if_pos (by omega), Nat.add_sub_cancel_left]; exact h2 k hk
  · rw [if_neg (by omega), if_neg (by omega), if_neg (by omega), if_pos (by omega), Nat.add_sub_cancel_left]; exact h3 k hk
theorem aT_v {tx v : Nat → Nat} {B : Nat} (hv : ∀ k, k < 240 → v k < B) : ∀ {k : Nat}, k ≤ 240 → ∀ q, q < nT tx k → aT tx v k q < B
  | 0, _, q, h => by exact absurd h (Nat.not_lt_zero _)
  | k + 1, hk, q, h => by
    cases hs : sgB (tx k) with
    | true =>
      rw [nT_s hs] at h
      rw [aT_s hs]; unfold up
      split
      · exact hv k (by omega)
      · exact aT_v hv (by omega) q (by omega)
    | false =>
      rw [nT_o hs] at h
      rw [aT_o hs]
      exact aT_v hv (by omega) q h
