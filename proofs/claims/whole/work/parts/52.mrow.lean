/-! THE MODEL's row behind taking, putting, parting -/
def tkR (row : Nat → Nat) (c x j : Nat) : Nat → Nat := fun q => if q = 529 then c - 1 else if (530 + x ≤ q ∧ q < 530 + j) ∨ (550 + x ≤ q ∧ q < 550 + j) ∨ (570 + x ≤ q ∧ q < 570 + j) then row (q + 1) else row q
theorem tkR_0 (row : Nat → Nat) (c x : Nat) : tkR row c x x = up row 529 (c - 1) := by
  funext q; unfold tkR up
  by_cases e : q = 529
  · rw [if_pos e, if_pos e]
  · rw [if_neg e, if_neg e, if_neg (by omega)]
theorem tkR_o {row : Nat → Nat} {c x j q : Nat} (h : q ≠ 529) (h1 : ¬ (530 + x ≤ q ∧ q < 530 + j)) (h2 : ¬ (550 + x ≤ q ∧ q < 550 + j)) (h3 : ¬ (570 + x ≤ q ∧ q < 570 + j)) : tkR row c x j q = row q := by
  unfold tkR; rw [if_neg h, if_neg (by omega)]
theorem tkR_i {row : Nat → Nat} {c x j q : Nat} (h : (530 + x ≤ q ∧ q < 530 + j) ∨ (550 + x ≤ q ∧ q < 550 + j) ∨ (570 + x ≤ q ∧ q < 570 + j)) : tkR row c x j q = row (q + 1) := by
  unfold tkR; rw [if_neg (by omega), if_pos h]
theorem tkR_s {row : Nat → Nat} {c x j : Nat} (hx : x ≤ j) (hj : j + 1 < c) (hc : c ≤ 20) : up (up (up (tkR row c x j) (530 + j) (tkR row c x j (530 + j + 1))) (550 + j) (up (tkR row c x j) (530 + j) (tkR row c x j (530 + j + 1)) (550 + j + 1))) (570 + j) (up (up (tkR row c x j) (530 + j) (tkR row c x j (530 + j + 1))) (550 + j) (up (tkR row c x j) (530 + j) (tkR row c x j (530 + j + 1)) (550 + j + 1)) (570 + j + 1)) = tkR row c x (j + 1) := by
  rw [show up (tkR row c x j) (530 + j) (tkR row c x j (530 + j + 1)) (550 + j + 1) = row (550 + j + 1) from (up_n (by omega)).trans (tkR_o (by omega) (by omega) (by omega) (by omega)), tkR_o (q := 530 + j + 1) (by omega) (by omega) (by omega) (by omega), up_n (g := up (tkR row c x j) (530 + j) (row (530 + j + 1))) (by omega), up_n (by omega), tkR_o (q := 570 + j + 1) (by omega) (by omega) (by omega) (by omega)]
  funext q
  by_cases e3 : q = 570 + j
  · rw [e3, up_s, tkR_i (by omega)]
  · rw [up_n e3]
    by_cases e2 : q = 550 + j
    · rw [e2, up_s, tkR_i (by omega)]
    · rw [up_n e2]
      by_cases e1 : q = 530 + j
      · rw [e1, up_s, tkR_i (by omega)]
      · rw [up_n e1]
        by_cases e0 : q = 529
        · rw [e0]; unfold tkR; rw [if_pos rfl, if_pos rfl]
        · by_cases e : (530 + x ≤ q ∧ q < 530 + j) ∨ (550 + x ≤ q ∧ q < 550 + j) ∨ (570 + x ≤ q ∧ q < 570 + j)
          · rw [tkR_i e, tkR_i (by omega)]
          · rw [tkR_o e0 (by omega) (by omega) (by omega), tkR_o e0 (by omega) (by omega) (by omega)]
theorem RelT.take {f : Nat → Nat → Nat} {c x j : Nat} {sg li co R : Nat → Nat} (ht : RelT f c sg li co) (hx : x < c) (hc : c ≤ 20) (hj : j = c - 1) (hR : R = tkR (f 140) c x j) : RelT (fset f 140 R) (c - 1) (tkF x sg) (tkF x li) (tkF x co) := by
  subst hj hR
  refine ⟨show tkR (f 140) c x (c - 1) 529 = c - 1 from if_pos rfl, fun k hk => ?_⟩
  show tkR (f 140) c x (c - 1) _ = _ ∧ tkR (f 140) c x (c - 1) _ = _ ∧ tkR (f 140) c x (c - 1) _ = _
  unfold tkF
  by_cases e : k < x
  · rw [if_pos e, if_pos e, if_pos e, tkR_o (by omega) (by omega) (by omega) (by omega), tkR_o (by omega) (by omega) (by omega) (by omega), tkR_o (by omega) (by omega) (by omega) (by omega)]
    exact ht.2 k (by omega)
  · rw [if_neg e, if_neg e, if_neg e, tkR_i (by omega), tkR_i (by omega), tkR_i (by omega)]
    exact ht.2 (k + 1) (by omega)
def puR (row : Nat → Nat) (c k : Nat) : Nat → Nat := fun q => if (530 + k < q ∧ q ≤ 530 + c) ∨ (550 + k < q ∧ q ≤ 550 + c) ∨ (570 + k < q ∧ q ≤ 570 + c) then row (q - 1) else row q
theorem puR_0 (row : Nat → Nat) (c : Nat) : puR row c c = row := by funext q; unfold puR; rw [if_neg (by omega)]
theorem puR_o {row : Nat → Nat} {c k q : Nat} (h : ¬ ((530 + k < q ∧ q ≤ 530 + c) ∨ (550 + k < q ∧ q ≤ 550 + c) ∨ (570 + k < q ∧ q ≤ 570 + c))) : puR row c k q = row q := by unfold puR; rw [if_neg h]
theorem puR_i {row : Nat → Nat} {c k q : Nat} (h : (530 + k < q ∧ q ≤ 530 + c) ∨ (550 + k < q ∧ q ≤ 550 + c) ∨ (570 + k < q ∧ q ≤ 570 + c)) : puR row c k q = row (q - 1) := by unfold puR; rw [if_pos h]
theorem puR_s {row : Nat → Nat} {c k : Nat} (hk : 0 < k) (hkc : k ≤ c) (hc : c < 20) : up (up (up (puR row c k) (530 + k) (puR row c k (530 + k - 1))) (550 + k) (up (puR row c k) (530 + k) (puR row c k (530 + k - 1)) (550 + k - 1))) (570 + k) (up (up (puR row c k) (530 + k) (puR row c k (530 + k - 1))) (550 + k) (up (puR row c k) (530 + k) (puR row c k (530 + k - 1)) (550 + k - 1)) (570 + k - 1)) = puR row c (k - 1) := by
  rw [show up (puR row c k) (530 + k) (puR row c k (530 + k - 1)) (550 + k - 1) = row (550 + k - 1) from (up_n (by omega)).trans (puR_o (by omega)), puR_o (q := 530 + k - 1) (by omega), up_n (g := up (puR row c k) (530 + k) (row (530 + k - 1))) (by omega), up_n (by omega), puR_o (q := 570 + k - 1) (by omega)]
  funext q
  by_cases e3 : q = 570 + k
  · rw [e3, up_s, puR_i (by omega)]
  · rw [up_n e3]
    by_cases e2 : q = 550 + k
    · rw [e2, up_s, puR_i (by omega)]
    · rw [up_n e2]
      by_cases e1 : q = 530 + k
      · rw [e1, up_s, puR_i (by omega)]
      · rw [up_n e1]
        by_cases e : (530 + k < q ∧ q ≤ 530 + c) ∨ (550 + k < q ∧ q ≤ 550 + c) ∨ (570 + k < q ∧ q ≤ 570 + c)
        · rw [puR_i e, puR_i (by omega)]
        · rw [puR_o e, puR_o (by omega)]
theorem RelT.put {f : Nat → Nat → Nat} {c k g l d : Nat} {sg li co : Nat → Nat} (ht : RelT f c sg li co) (hk : k ≤ c) (hc : c < 20) : RelT (fset f 140 (up (up (up (up (puR (f 140) c k) (530 + k) g) (550 + k) l) (570 + k) d) 529 (c + 1))) (c + 1) (inF k g sg) (inF k l li) (inF k d co) := by
  refine ⟨up_s (up (up (up (puR (f 140) c k) (530 + k) g) (550 + k) l) (570 + k) d) 529 (c + 1), fun q hq => ?_⟩
  show up _ 529 _ (530 + q) = _ ∧ up _ 529 _ (550 + q) = _ ∧ up _ 529 _ (570 + q) = _
  rw [up_n (show 530 + q ≠ 529 by omega), up_n (show 550 + q ≠ 529 by omega), up_n (show 570 + q ≠ 529 by omega)]
  unfold inF
  by_cases e : q = k
  · subst e
    rw [if_neg (by omega), if_pos rfl, if_neg (by omega), if_pos rfl, if_neg (by omega), if_pos rfl]
    refine ⟨?_, ?_, ?_⟩
    · rw [up_n (show 530 + q ≠ 570 + q by omega), up_n (show 530 + q ≠ 550 + q by omega), up_s]
    · rw [up_n (show 550 + q ≠ 570 + q by omega), up_s]
    · rw [up_s]
  · rw [up_n (show 530 + q ≠ 570 + k by omega), up_n (show 530 + q ≠ 550 + k by omega), up_n (show 530 + q ≠ 530 + k by omega), up_n (show 550 + q ≠ 570 + k by omega), up_n (show 550 + q ≠ 550 + k by omega), up_n (show 550 + q ≠ 530 + k by omega), up_n (show 570 + q ≠ 570 + k by omega), up_n (show 570 + q ≠ 550 + k by omega), up_n (show 570 + q ≠ 530 + k by omega)]
    by_cases e1 : q < k
    · rw [if_pos e1, if_pos e1, if_pos e1, puR_o (by omega), puR_o (by omega), puR_o (by omega)]
      exact ht.2 q (by omega)
    · rw [if_neg e1, if_neg e, if_neg e1, if_neg e, if_neg e1, if_neg e, puR_i (by omega), puR_i (by omega), puR_i (by omega), show 530 + q - 1 = 530 + (q - 1) by omega, show 550 + q - 1 = 550 + (q - 1) by omega, show 570 + q - 1 = 570 + (q - 1) by omega]
      exact ht.2 (q - 1) (by omega)
def ptR (row li co : Nat → Nat) (x d j : Nat) : Nat → Nat := fun q => if 550 + x ≤ q ∧ q < 550 + j then row q + 1 else if 570 + x ≤ q ∧ q < 570 + j then ptC li co x d (q - 570) else row q
theorem ptR_0 (row li co : Nat → Nat) (x d : Nat) : ptR row li co x d x = row := by funext q; unfold ptR; rw [if_neg (by omega), if_neg (by omega)]
theorem ptR_o {row li co : Nat → Nat} {x d j q : Nat} (h1 : ¬ (550 + x ≤ q ∧ q < 550 + j)) (h2 : ¬ (570 + x ≤ q ∧ q < 570 + j)) : ptR row li co x d j q = row q := by unfold ptR; rw [if_neg h1, if_neg h2]
theorem ptR_l {row li co : Nat → Nat} {x d j q : Nat} (h1 : 550 + x ≤ q ∧ q < 550 + j) : ptR row li co x d j q = row q + 1 := by unfold ptR; rw [if_pos h1]
theorem ptR_c {row li co : Nat → Nat} {x d j q : Nat} (h1 : ¬ (550 + x ≤ q ∧ q < 550 + j)) (h2 : 570 + x ≤ q ∧ q < 570 + j) : ptR row li co x d j q = ptC li co x d (q - 570) := by unfold ptR; rw [if_neg h1, if_pos h2]
theorem ptR_s {row li co : Nat → Nat} {x d j w : Nat} (hx : x ≤ j) (hj : j < 20) (hw : w = row (550 + j)) : up (up (ptR row li co x d j) (570 + j) (ptC li co x d j)) (550 + j) (w + 1) = ptR row li co x d (j + 1) := by
  funext q
  by_cases e3 : q = 550 + j
  · rw [e3, up_s, ptR_l (by omega), hw]
  · rw [up_n e3]
    by_cases e2 : q = 570 + j
    · rw [e2, up_s, ptR_c (by omega) (by omega), Nat.add_sub_cancel_left]
    · rw [up_n e2]
      by_cases e : 550 + x ≤ q ∧ q < 550 + j
      · rw [ptR_l e, ptR_l (by omega)]
      · by_cases e1 : 570 + x ≤ q ∧ q < 570 + j
        · rw [ptR_c e e1, ptR_c (by omega) (by omega)]
        · rw [ptR_o e e1, ptR_o (by omega) (by omega)]
theorem RelT.part {f : Nat → Nat → Nat} {c x d : Nat} {sg li co R : Nat → Nat} (ht : RelT f c sg li co) (hx : x < c) (hc : c ≤ 20) (hR : R = ptR (f 140) li co x d c) : RelT (fset f 140 R) c sg (ptL li x) (ptC li co x d) := by
  subst hR
  refine ⟨show ptR (f 140) li co x d c 529 = c from (ptR_o (by omega) (by omega)).trans ht.1, fun k hk => ?_⟩
  show ptR (f 140) li co x d c _ = _ ∧ ptR (f 140) li co x d c _ = _ ∧ ptR (f 140) li co x d c _ = _
  obtain ⟨h1, h2, h3⟩ := ht.2 k hk
  refine ⟨(ptR_o (by omega) (by omega)).trans h1, ?_, ?_⟩
  · unfold ptL
    by_cases e : x ≤ k
    · rw [if_pos e, ptR_l (by omega), h2]
    · rw [if_neg e, ptR_o (by omega) (by omega), h2]
  · by_cases e : x ≤ k
    · rw [ptR_c (by omega) (by omega), Nat.add_sub_cancel_left]
    · rw [ptR_o (by omega) (by omega), h3]; unfold ptC; rw [if_neg (by omega)]
theorem pt_st {c : Nat} {li co : Nat → Nat} {x d j : Nat} (hs : Srt c li co) (hco : ∀ q, co q < 40) (hd : d < 40) (hxj : x ≤ j) (hj : j < c) : nI (co j) + (if li j = li x then nI d - nI (co x) else 0) = nI (ptC li co x d j) := by
  unfold ptC
  by_cases e : li j = li x
  · rw [if_pos e, if_pos ⟨hxj, e⟩]
    have h1 := co_ge hs hxj hj e
    apply Int32.toInt_inj.mp
    have h2 := hco j
    have h3 := hco x
    rw [pt_sum h2 h3 hd, nI_toInt (by omega)]
    omega
  · rw [if_neg e, if_neg (fun q => e q.2)]; exact Int32.add_zero _
theorem stA_pt {c : Nat} {li co : Nat → Nat} {x d : Nat} (hs : Srt c li co) (hx : x < c) (hd : d < 40) (hco : ∀ q, co q < 40) : stA li co (li x : Int) ((d : Int) - (co x : Int)) x c = true ↔ ∀ q, x ≤ q → q < c → li q = li x → co q + d < co x + 40 := by
  rw [stA_all]
  constructor
  · intro h q q1 q2 e
    have := h q q1 q2 (by omega)
    omega
  · intro h q q1 q2 e
    have h1 := h q q1 q2 (by omega)
    have h2 := co_ge hs q1 q2 (by omega)
    omega
theorem rt_ch {f : Nat → Nat → Nat} {c x g k : Nat} {sg li co : Nat → Nat} (ht : RelT f c sg li co) (hk : k < c) : fset f 140 (up (f 140) (530 + x) g) 140 (530 + k) = up sg x g k := by
  show up _ _ _ _ = _
  unfold up
  by_cases e : k = x
  · rw [if_pos (by omega), if_pos e]
  · rw [if_neg (by omega), if_neg e]; exact (ht.2 k hk).1
theorem tkR_lt {row : Nat → Nat} {c x j B : Nat} (h : ∀ q, row q < B) (hc : c - 1 < B) (q : Nat) : tkR row c x j q < B := by
  unfold tkR; split
  · exact hc
  · split <;> exact h _
theorem puR_lt {row : Nat → Nat} {c k B : Nat} (h : ∀ q, row q < B) (q : Nat) : puR row c k q < B := by
  unfold puR; split <;> exact h _
theorem ptR_lt {row li co : Nat → Nat} {x d j B : Nat} (h : ∀ q, row q < B) (h1 : ∀ q, x ≤ q → q < j → row (550 + q) + 1 < B) (h2 : ∀ q, x ≤ q → q < j → ptC li co x d q < B) (q : Nat) : ptR row li co x d j q < B := by
  unfold ptR; split
  · have := h1 (q - 550) (by omega) (by omega)
    rwa [show 550 + (q - 550) = q by omega] at this
  · split
    · exact h2 _ (by omega) (by omega)
    · exact h q
