/-! THE LEAST MOVING of a line, searched -/
def RepQ (c : Nat) (li : Nat → Nat) (Q : Nat → Int → Prop) (line bz : Nat) : Prop := (bz = 0 ∧ ∀ far k s, rV c li far k s → ¬ Q (li k) (rZ far s)) ∨ ∃ far k s, rV c li far k s ∧ Q (li k) (rZ far s) ∧ (∀ far2 k2 s2, rV c li far2 k2 s2 → rE far k s far2 k2 s2 → ¬ Q (li k2) (rZ far2 s2)) ∧ line = li k ∧ bz = (if s = 0 then 4294967296 - far else far)
theorem RepS.q {al_ it tg pt bd : Nat → Nat} {n c : Nat} {sg li co : Nat → Nat} {line bz : Nat} : RepS al_ it tg pt bd n c sg li co line bz ↔ RepQ c li (rOk al_ it tg pt bd n c sg li co) line bz := Iff.rfl
def RepJ (c : Nat) (li : Nat → Nat) (Q : Nat → Int → Prop) (far k : Nat) : Prop := ∀ far2 k2 s2, rV c li far2 k2 s2 → (far2 < far ∨ (far2 = far ∧ k2 < k)) → ¬ Q (li k2) (rZ far2 s2)
theorem RepJ.start {c : Nat} {li : Nat → Nat} {Q : Nat → Int → Prop} : RepJ c li Q 1 0 := fun far2 k2 s2 h h1 => by
  have := h.1
  omega
theorem RepJ.skip {c : Nat} {li : Nat → Nat} {Q : Nat → Int → Prop} {far k : Nat} (h : RepJ c li Q far k) (hk : ¬ (k = 0 ∨ li (k - 1) ≠ li k)) : RepJ c li Q far (k + 1) := fun far2 k2 s2 hv h1 => by
  by_cases e : k2 = k
  · exact absurd (e ▸ hv.2.2.2.1) hk
  · exact h far2 k2 s2 hv (by omega)
theorem RepJ.two {c : Nat} {li : Nat → Nat} {Q : Nat → Int → Prop} {far k : Nat} (h : RepJ c li Q far k) (h0 : ¬ Q (li k) (rZ far 0)) (h1 : ¬ Q (li k) (rZ far 1)) : RepJ c li Q far (k + 1) := fun far2 k2 s2 hv hh => by
  by_cases e : far2 = far ∧ k2 = k
  · obtain ⟨rfl, rfl⟩ := e
    have := hv.2.2.2.2
    rcases (show s2 = 0 ∨ s2 = 1 by omega) with rfl | rfl
    · exact h0
    · exact h1
  · exact h far2 k2 s2 hv (by omega)
theorem RepJ.next {c : Nat} {li : Nat → Nat} {Q : Nat → Int → Prop} {far k : Nat} (h : RepJ c li Q far k) (hk : c ≤ k) : RepJ c li Q (far + 1) 0 := fun far2 k2 s2 hv hh => h far2 k2 s2 hv (by have := hv.2.2.1; omega)
theorem RepJ.fin {c : Nat} {li : Nat → Nat} {Q : Nat → Int → Prop} {far line : Nat} (h : RepJ c li Q far 0) (hf : 6 < far) : RepQ c li Q line 0 := Or.inl ⟨rfl, fun far2 k2 s2 hv => h far2 k2 s2 hv (by have := hv.2.1; omega)⟩
theorem RepJ.hit0 {c : Nat} {li : Nat → Nat} {Q : Nat → Int → Prop} {far k : Nat} (h : RepJ c li Q far k) (h1 : 1 ≤ far) (h6 : far ≤ 6) (hk : k < c) (hb : k = 0 ∨ li (k - 1) ≠ li k) (hq : Q (li k) (rZ far 0)) : RepQ c li Q (li k) (4294967296 - far) :=
  Or.inr ⟨far, k, 0, ⟨h1, h6, hk, hb, by decide⟩, hq, fun far2 k2 s2 hv he => h far2 k2 s2 hv (by unfold rE at he; omega), rfl, rfl⟩
theorem RepJ.hit1 {c : Nat} {li : Nat → Nat} {Q : Nat → Int → Prop} {far k : Nat} (h : RepJ c li Q far k) (h1 : 1 ≤ far) (h6 : far ≤ 6) (hk : k < c) (hb : k = 0 ∨ li (k - 1) ≠ li k) (h0 : ¬ Q (li k) (rZ far 0)) (hq : Q (li k) (rZ far 1)) : RepQ c li Q (li k) far :=
  Or.inr ⟨far, k, 1, ⟨h1, h6, hk, hb, by decide⟩, hq, fun far2 k2 s2 hv he => by
    unfold rE at he
    by_cases e : far2 = far ∧ k2 = k
    · obtain ⟨rfl, rfl⟩ := e
      obtain rfl : s2 = 0 := by omega
      exact h0
    · exact h far2 k2 s2 hv (by omega), rfl, rfl⟩
theorem RepQ.uniq {c : Nat} {li : Nat → Nat} {Q : Nat → Int → Prop} {l b l2 b2 : Nat} (h : RepQ c li Q l b) (h2 : RepQ c li Q l2 b2) : b = b2 ∧ (b ≠ 0 → l = l2) := by
  rcases h with ⟨hb, hn⟩ | ⟨far, k, s, hv, hq, hf, hl, hb⟩
  · rcases h2 with ⟨hb2, hn2⟩ | ⟨far2, k2, s2, hv2, hq2, hf2, hl2, hb2⟩
    · exact ⟨by omega, fun q => absurd hb q⟩
    · exact absurd hq2 (hn far2 k2 s2 hv2)
  · rcases h2 with ⟨hb2, hn2⟩ | ⟨far2, k2, s2, hv2, hq2, hf2, hl2, hb2⟩
    · exact absurd hq (hn2 far k s hv)
    · have h3 : ¬ rE far k s far2 k2 s2 := fun q => hf far2 k2 s2 hv2 q hq2
      have h4 : ¬ rE far2 k2 s2 far k s := fun q => hf2 far k s hv q hq
      unfold rE at h3 h4
      obtain ⟨rfl, rfl, rfl⟩ : far = far2 ∧ k = k2 ∧ s = s2 := by omega
      exact ⟨by rw [hb, hb2], fun _ => by rw [hl, hl2]⟩
theorem nI_eq0 {b : Nat} (h : b < 4294967296) (e : nI b = 0) : b = 0 := by
  have h2 : (nI b).toBitVec.toNat = b % 4294967296 := by first | rfl | (unfold nI; simp)
  rw [e, Nat.mod_eq_of_lt h] at h2
  exact h2.symm
theorem nI_neg {far : Nat} (h : 1 ≤ far) (h6 : far ≤ 6) : (-(nI far)).toInt = -(far : Int) ∧ -(nI far) = nI (4294967296 - far) ∧ ¬ nI (4294967296 - far) = 0 := by
  rcases (show far = 1 ∨ far = 2 ∨ far = 3 ∨ far = 4 ∨ far = 5 ∨ far = 6 by omega) with rfl | rfl | rfl | rfl | rfl | rfl <;> decide
theorem cnt_ln {li : Nat → Nat} {c k : Nat} (h : k < c) : cnt (inL li ((li k : Nat) : Int)) c ≠ 0 := fun e => by
  have h1 := cnt_zero e k h
  have h2 : inL li ((li k : Nat) : Int) k = true := decide_eq_true rfl
  rw [h2] at h1
  cases h1
theorem mvA_pos {c l : Nat} {li co : Nat → Nat} {z : Int} (hc20 : c ≤ 20) (h : 0 < (nI (mvA c li co (l : Int) z)).toInt) : mvA c li co (l : Int) z < 2147483648 := Classical.byContradiction fun q => by
  have := mvA_neg hc20 q
  omega
theorem mvA_non {c l : Nat} {li co : Nat → Nat} {z : Int} (hc20 : c ≤ 20) (hz : -40 < z ∧ z < 40) (hcn : cnt (inL li (l : Int)) c ≠ 0) (h : ¬ 0 < (nI (mvA c li co (l : Int) z)).toInt) : ¬ stB li co (l : Int) z c = true := fun q => by
  have h1 : mvA c li co (l : Int) z = cnt (inL li (l : Int)) c := by
    unfold mvA
    rw [if_neg (fun q9 => q9 hz), if_neg hcn, if_neg (by rw [q]; decide)]
  have h2 := cnt_le (inL li (l : Int)) c
  rw [h1, nI_toInt (by omega)] at h
  omega
theorem wh_mv {al_ it tg pt bd sg co1 co2 : Nat → Nat} {n c : Nat} (h : ∀ q, q < c → co1 q = co2 q) : wh (gE al_ it tg pt bd sg co1) n 0 0 c = wh (gE al_ it tg pt bd sg co2) n 0 0 c := wh_congE (E := gE al_ it tg pt bd sg co1) (E' := gE al_ it tg pt bd sg co2) (Q := c) gE_0 (fun p hp => ⟨rfl, h p hp⟩) (Nat.le_refl _)
theorem RepQ.lt {c : Nat} {li : Nat → Nat} {Q : Nat → Int → Prop} {l b : Nat} (h : RepQ c li Q l b) : b < 4294967296 := by
  rcases h with ⟨hb, _⟩ | ⟨far, k, s, hv, _, _, _, hb⟩
  · omega
  · have h1 := hv.1
    have h2 := hv.2.1
    rw [hb]
    split <;> omega
def repA (x l b : Nat) : Int32 := if b = 0 then -1 else if x = 0 then nI l else nI (b + 100)
theorem mv_st2 {li co : Nat → Nat} {l : Nat} {z : Int32} {c j : Nat} (hl : l < 2147483648) (hst : stB li co (l : Int) z.toInt c = true) (hj : j < c) (hco : ∀ q, co q < 40) (hz : -40 < z.toInt ∧ z.toInt < 40) : nI (co j) + (if li j = l then z else 0) = nI (mvC li co (l : Int) z.toInt j) := by
  have h1 := mv_st (li := li) (co := co) (x := nI l) (z := z) (c := c) (j := j) (by rw [nI_toInt hl]; exact hst) hj hco hz
  rw [nI_toInt hl] at h1
  rw [← h1]
  congr 1
  by_cases e : li j = l
  · rw [if_pos e, if_pos (by omega)]
  · rw [if_neg e, if_neg (by omega)]
theorem nI_negp {far : Nat} (h : 1 ≤ far) (h6 : far ≤ 6) : -(nI far) + nI (2 * far) = nI far ∧ -(nI far) + 100 = nI (4294967296 - far + 100) := by
  rcases (show far = 1 ∨ far = 2 ∨ far = 3 ∨ far = 4 ∨ far = 5 ∨ far = 6 by omega) with rfl | rfl | rfl | rfl | rfl | rfl <;> decide
