/-! OUTLOOK of the model: going back from the end -/
def oiV (E : Nat → Nat → Nat) (V : Nat → Nat → Nat → Nat) (OP : Nat → Nat) (m x p : Nat) : Nat := if E 2 x ≠ NO then OP (22 * E 2 x + p) else if p = m then A40 else if p + 1 = m then itm E V x p m else 0
def oaK (E : Nat → Nat → Nat) (V : Nat → Nat → Nat → Nat) (fr OP : Nat → Nat) (m y i k : Nat) : Nat := orR (fun p => (rch E V i y k p &&& rst E fr y k) &&& letsN (E 4 (y * 5 + k)) (oiV E V OP m (y * 5 + k) p)) i (m + 1 - i)
def oaV (E : Nat → Nat → Nat) (V : Nat → Nat → Nat → Nat) (fr OP : Nat → Nat) (m y i : Nat) : Nat := orR (oaK E V fr OP m y i) 0 (E 1 y)
theorem oiV_lt {E : Nat → Nat → Nat} {V : Nat → Nat → Nat → Nat} {OP : Nat → Nat} {m x p : Nat} (hO : SafeM OP) (hV : ∀ t p q, V t p q < 1099511627776) (hE : ∀ q, E 6 q < 40) : oiV E V OP m x p < 1099511627776 := by
  unfold oiV
  split
  · exact hO _
  · split
    · decide
    · split
      · exact itm_lt hV hE
      · decide
theorem oaK_lt {E : Nat → Nat → Nat} {V : Nat → Nat → Nat → Nat} {fr OP : Nat → Nat} {m y i k : Nat} : oaK E V fr OP m y i k < 1099511627776 := orR_lt (k := 40) (fun p _ _ => and_lt40 (and_lt40 (rch_lt _ _)))
theorem oaV_lt {E : Nat → Nat → Nat} {V : Nat → Nat → Nat → Nat} {fr OP : Nat → Nat} {m y i : Nat} : oaV E V fr OP m y i < 1099511627776 := orR_lt (k := 40) (fun _ _ _ => oaK_lt)
theorem oaV_bit {E : Nat → Nat → Nat} {n : Nat} {V : Nat → Nat → Nat → Nat} {fr OP : Nat → Nat} {m r a i c : Nat} (hcl : Clo E n) (hV : ∀ t p q, t < n → p ≤ q → q < m + 1 → V t p q = wh E n t p q) (hVs : ∀ t p q, V t p q < 1099511627776) (hE : ∀ q, E 6 q < 40) (hO : SafeM OP) (htop : ∀ t, t < n → OP (22 * t + m) = fr t) (hr : r < n) (ha : a < E 0 r) : (oaV E V fr OP m (r * 4 + a) i).testBit c = true ↔ ∃ k p, ahC E n fr m r i c a k p ∧ oIt E fr m (fun t p d => (OP (22 * t + p)).testBit d = true) ((r * 4 + a) * 5 + k) p c := by
  unfold oaV oaK
  rw [orR_bit]
  have hrc : ∀ k p, k ≤ E 1 (r * 4 + a) → p ≤ m → rch E V i (r * 4 + a) k p = rch E (wh E n) i (r * 4 + a) k p := fun k p hk hp => rch_congN (Q := m) hcl hr ha (fun t p' q ht q1 q2 q3 => hV t p' q ht q2 (by omega)) k p hk hp
  constructor
  · rintro ⟨k, -, hk, hb⟩
    rw [orR_bit] at hb
    obtain ⟨p, p1, p2, hb⟩ := hb
    rw [Nat.testBit_and, Nat.testBit_and, Bool.and_eq_true, Bool.and_eq_true] at hb
    obtain ⟨⟨b1, b2⟩, b3⟩ := hb
    rw [hrc k p (by omega) (by omega)] at b1
    refine ⟨k, p, ⟨ha, by omega, p1, by omega, b1, b2⟩, ?_⟩
    obtain ⟨c4, d, d1, d2⟩ := (letsN_bit (oiV_lt hO hVs hE) c).mp b3
    unfold oiV at d1
    by_cases e : E 2 ((r * 4 + a) * 5 + k) = NO
    · rw [if_neg (fun q => q e)] at d1
      by_cases e2 : p = m
      · rw [if_pos e2] at d1
        exact Or.inr (Or.inr (Or.inl ⟨e, e2, d, bit_lt40 (by decide) d1, d2⟩))
      · rw [if_neg e2] at d1
        by_cases e3 : p + 1 = m
        · rw [if_pos e3] at d1
          unfold itm at d1
          rw [if_pos e] at d1
          split at d1
          · rename_i q
            rw [Nat.testBit_two_pow] at d1
            have hd : E 6 p = d := by simpa using d1
            exact Or.inr (Or.inr (Or.inr ⟨e, e3, q.2, by rw [hd]; exact d2⟩))
          · simp at d1
        · rw [if_neg e3] at d1; simp at d1
    · rw [if_pos e] at d1
      by_cases e2 : p = m
      · rw [e2, htop _ ((hcl r hr a ha k (by omega)).resolve_left e)] at d1
        exact Or.inr (Or.inl ⟨e, e2, d, d1, d2⟩)
      · exact Or.inl ⟨e, by omega, d, bit_lt40 (hO _) d1, d1, d2⟩
  · rintro ⟨k, p, ⟨-, hk, h1, h2, h3, h4⟩, ho⟩
    refine ⟨k, Nat.zero_le _, by omega, (orR_bit _ _ _ _).mpr ⟨p, h1, by omega, ?_⟩⟩
    rw [Nat.testBit_and, Nat.testBit_and, hrc k p (by omega) h2, h3, h4, Bool.true_and, Bool.true_and]
    have c4 : c < 40 := ((rch_path ..).mp h3).1
    refine (letsN_bit (oiV_lt hO hVs hE) c).mpr ⟨c4, ?_⟩
    unfold oiV
    rcases ho with ⟨e, e2, d, d1, d2, d3⟩ | ⟨e, e2, d, d1, d2⟩ | ⟨e, e2, d, d1, d2⟩ | ⟨e, e2, e3, d2⟩
    · exact ⟨d, by rw [if_pos e]; exact d2, d3⟩
    · exact ⟨d, by rw [if_pos e, e2, htop _ ((hcl r hr a ha k hk).resolve_left e)]; exact d1, d2⟩
    · refine ⟨d, ?_, d2⟩
      rw [if_neg (fun q => q e), if_pos e2, show A40 = 2 ^ 40 - 1 from rfl, Nat.testBit_two_pow_sub_one]
      exact decide_eq_true d1
    · refine ⟨E 6 p, ?_, d2⟩
      rw [if_neg (fun q => q e), if_neg (by omega), if_pos e2]
      unfold itm
      rw [if_pos e, if_pos ⟨e2.symm, e3⟩, Nat.testBit_two_pow]
      exact decide_eq_true rfl
theorem oaV_cg {E : Nat → Nat → Nat} {n : Nat} {V : Nat → Nat → Nat → Nat} {fr OP O9 : Nat → Nat} {m r a i : Nat} (hcl : Clo E n) (hr : r < n) (ha : a < E 0 r) (h : ∀ t p, t < n → i ≤ p → p ≤ m → O9 (22 * t + p) = OP (22 * t + p)) : oaV E V fr O9 m (r * 4 + a) i = oaV E V fr OP m (r * 4 + a) i := by
  unfold oaV
  apply orR_cong
  intro k _ hk
  unfold oaK
  apply orR_cong
  intro p p1 p2
  congr 2
  unfold oiV
  by_cases e : E 2 ((r * 4 + a) * 5 + k) = NO
  · simp only [if_neg (show ¬ (E 2 ((r * 4 + a) * 5 + k) ≠ NO) from fun q => q e)]
  · rw [if_pos e, if_pos e]
    exact h _ p ((hcl r hr a ha k (by omega)).resolve_left e) p1 (by omega)
def BpS (E : Nat → Nat → Nat) (n : Nat) (V : Nat → Nat → Nat → Nat) (fr : Nat → Nat) (m x : Nat) (OP : Nat → Nat) : Prop := (SafeM OP) ∧ (∀ t, t < n → OP (22 * t + m) = fr t) ∧ (∀ r i c, r < n → i < m → (OP (22 * r + i)).testBit c = true → Bk E n fr m r i c) ∧ (∀ r i a, r < n → x ≤ i → i < m → a < E 0 r → bitsub (oaV E V fr OP m (r * 4 + a) i) (OP (22 * r + i)))
theorem BpS.sfo {E : Nat → Nat → Nat} {n : Nat} {V : Nat → Nat → Nat → Nat} {fr : Nat → Nat} {m x : Nat} {OP : Nat → Nat} (h : BpS E n V fr m x OP) : SafeM OP := h.1
theorem BpS.top {E : Nat → Nat → Nat} {n : Nat} {V : Nat → Nat → Nat → Nat} {fr : Nat → Nat} {m x : Nat} {OP : Nat → Nat} (h : BpS E n V fr m x OP) : ∀ t, t < n → OP (22 * t + m) = fr t := h.2.1
theorem BpS.sub {E : Nat → Nat → Nat} {n : Nat} {V : Nat → Nat → Nat → Nat} {fr : Nat → Nat} {m x : Nat} {OP : Nat → Nat} (h : BpS E n V fr m x OP) : ∀ r i c, r < n → i < m → (OP (22 * r + i)).testBit c = true → Bk E n fr m r i c := h.2.2.1
theorem BpS.cls {E : Nat → Nat → Nat} {n : Nat} {V : Nat → Nat → Nat → Nat} {fr : Nat → Nat} {m x : Nat} {OP : Nat → Nat} (h : BpS E n V fr m x OP) : ∀ r i a, r < n → x ≤ i → i < m → a < E 0 r → bitsub (oaV E V fr OP m (r * 4 + a) i) (OP (22 * r + i)) := h.2.2.2
/-- what the model's rows stand on -/
def bOK (E : Nat → Nat → Nat) (n : Nat) (V : Nat → Nat → Nat → Nat) (m : Nat) : Prop := Clo E n ∧ (∀ t p q, t < n → p ≤ q → q < m + 1 → V t p q = wh E n t p q) ∧ (∀ t p q, V t p q < 1099511627776) ∧ (∀ q, E 6 q < 40) ∧ m < 22
theorem BpS.bk {E : Nat → Nat → Nat} {n : Nat} {V : Nat → Nat → Nat → Nat} {fr : Nat → Nat} {m : Nat} {OP : Nat → Nat} (hb : bOK E n V m) (h : BpS E n V fr m 0 OP) {r i c : Nat} (hr : r < n) (hi : i < m) : (OP (22 * r + i)).testBit c = true ↔ Bk E n fr m r i c := by
  refine ⟨h.sub r i c hr hi, fun hk => ?_⟩
  refine hk (fun r i c => (OP (22 * r + i)).testBit c = true) (fun r i c a k p hr hi hah ho => ?_)
  exact h.cls r i a hr (Nat.zero_le _) hi hah.1 c ((oaV_bit hb.1 hb.2.1 hb.2.2.1 hb.2.2.2.1 h.sfo h.top hr hah.1).mpr ⟨k, p, hah, ho⟩)
def BpI (E : Nat → Nat → Nat) (n : Nat) (V : Nat → Nat → Nat → Nat) (fr : Nat → Nat) (m i : Nat) (O0 : Nat → Nat) (y mo : Nat) (OP : Nat → Nat) : Prop := (BpS E n V fr m (i + 1) OP) ∧ (y ≤ n) ∧ (mo ≤ 1) ∧ (∀ q, bitsub (O0 q) (OP q)) ∧ (mo = 0 → (∀ q, OP q = O0 q) ∧ ∀ r a, r < y → a < E 0 r → bitsub (oaV E V fr OP m (r * 4 + a) i) (OP (22 * r + i))) ∧ (mo ≠ 0 → tb (fun r => O0 (22 * r + i)) n < tb (fun r => OP (22 * r + i)) n)
theorem BpI.ops {E : Nat → Nat → Nat} {n : Nat} {V : Nat → Nat → Nat → Nat} {fr : Nat → Nat} {m i : Nat} {O0 : Nat → Nat} {y mo : Nat} {OP : Nat → Nat} (h : BpI E n V fr m i O0 y mo OP) : BpS E n V fr m (i + 1) OP := h.1
theorem BpI.yle {E : Nat → Nat → Nat} {n : Nat} {V : Nat → Nat → Nat → Nat} {fr : Nat → Nat} {m i : Nat} {O0 : Nat → Nat} {y mo : Nat} {OP : Nat → Nat} (h : BpI E n V fr m i O0 y mo OP) : y ≤ n := h.2.1
theorem BpI.mo1 {E : Nat → Nat → Nat} {n : Nat} {V : Nat → Nat → Nat → Nat} {fr : Nat → Nat} {m i : Nat} {O0 : Nat → Nat} {y mo : Nat} {OP : Nat → Nat} (h : BpI E n V fr m i O0 y mo OP) : mo ≤ 1 := h.2.2.1
theorem BpI.gro {E : Nat → Nat → Nat} {n : Nat} {V : Nat → Nat → Nat → Nat} {fr : Nat → Nat} {m i : Nat} {O0 : Nat → Nat} {y mo : Nat} {OP : Nat → Nat} (h : BpI E n V fr m i O0 y mo OP) : ∀ q, bitsub (O0 q) (OP q) := h.2.2.2.1
theorem BpI.sam {E : Nat → Nat → Nat} {n : Nat} {V : Nat → Nat → Nat → Nat} {fr : Nat → Nat} {m i : Nat} {O0 : Nat → Nat} {y mo : Nat} {OP : Nat → Nat} (h : BpI E n V fr m i O0 y mo OP) : mo = 0 → (∀ q, OP q = O0 q) ∧ ∀ r a, r < y → a < E 0 r → bitsub (oaV E V fr OP m (r * 4 + a) i) (OP (22 * r + i)) := h.2.2.2.2.1
theorem BpI.inc {E : Nat → Nat → Nat} {n : Nat} {V : Nat → Nat → Nat → Nat} {fr : Nat → Nat} {m i : Nat} {O0 : Nat → Nat} {y mo : Nat} {OP : Nat → Nat} (h : BpI E n V fr m i O0 y mo OP) : mo ≠ 0 → tb (fun r => O0 (22 * r + i)) n < tb (fun r => OP (22 * r + i)) n := h.2.2.2.2.2
/-- what a rule's alts add -/
def oaR (E : Nat → Nat → Nat) (V : Nat → Nat → Nat → Nat) (fr OP : Nat → Nat) (m r i : Nat) : Nat := orR (fun a => oaV E V fr OP m (r * 4 + a) i) 0 (E 0 r)
theorem oaR_lt {E : Nat → Nat → Nat} {V : Nat → Nat → Nat → Nat} {fr OP : Nat → Nat} {m r i : Nat} : oaR E V fr OP m r i < 1099511627776 := orR_lt (k := 40) (fun _ _ _ => oaV_lt)
theorem BpI.start {E : Nat → Nat → Nat} {n : Nat} {V : Nat → Nat → Nat → Nat} {fr : Nat → Nat} {m i : Nat} {OP : Nat → Nat} (h : BpS E n V fr m (i + 1) OP) : BpI E n V fr m i OP 0 0 OP := ⟨h, Nat.zero_le _, Nat.zero_le _, fun _ => bs_rf _, fun _ => ⟨fun _ => rfl, fun r a hr _ => absurd hr (Nat.not_lt_zero _)⟩, fun q => absurd rfl q⟩
theorem BpI.step {E : Nat → Nat → Nat} {n : Nat} {V : Nat → Nat → Nat → Nat} {fr : Nat → Nat} {m i : Nat} {O0 OP : Nat → Nat} {y mo : Nat} (hb : bOK E n V m) (h : BpI E n V fr m i O0 y mo OP) (hy : y < n) (hi : i < m) : BpI E n V fr m i O0 (y + 1) (if mo ≠ 0 ∨ OP (22 * y + i) ||| oaR E V fr OP m y i ≠ OP (22 * y + i) then 1 else 0) (up OP (22 * y + i) (OP (22 * y + i) ||| oaR E V fr OP m y i)) := by
  have hm := hb.2.2.2.2
  have hgr : ∀ q, bitsub (OP q) (up OP (22 * y + i) (OP (22 * y + i) ||| oaR E V fr OP m y i) q) := fun q => up_gr _ _ _
  have hoth : ∀ t p, p < 22 → p ≠ i → up OP (22 * y + i) (OP (22 * y + i) ||| oaR E V fr OP m y i) (22 * t + p) = OP (22 * t + p) := fun t p h1 h2 => up_n (by omega)
  refine ⟨⟨safe_up h.ops.sfo (or_lt40 (h.ops.sfo _) oaR_lt), fun t ht => (hoth t m (by omega) (by omega)).trans (h.ops.top t ht), fun r j c hr hj hbt => ?_, fun r j a hr h1 h2 ha => ?_⟩, by omega, by split <;> decide, fun q => bs_tr (h.gro q) (hgr q), fun q => ?_, fun q => ?_⟩
  · by_cases e : 22 * r + j = 22 * y + i
    · obtain ⟨rfl, rfl⟩ : r = y ∧ j = i := by omega
      rw [up_s, Nat.testBit_or, Bool.or_eq_true] at hbt
      rcases hbt with hbt | hbt
      · exact h.ops.sub r j c hr hj hbt
      · obtain ⟨a, -, a2, a3⟩ := (orR_bit _ _ _ _).mp hbt
        obtain ⟨k, p, hah, ho⟩ := (oaV_bit hb.1 hb.2.1 hb.2.2.1 hb.2.2.2.1 h.ops.sfo h.ops.top hr (by omega)).mp a3
        refine Bk.cl r j c a k p hr hj hah (ho.mono (fun d e1 e2 _ e4 => h.ops.sub _ p d ((hb.1 r hr a (by omega) k hah.2.1).resolve_left e1) e2 e4))
    · rw [up_n e] at hbt
      exact h.ops.sub r j c hr hj hbt
  · rw [oaV_cg hb.1 hr ha (fun t p ht p1 p2 => hoth t p (by omega) (by omega)), hoth r j (by omega) (by omega)]
    exact h.ops.cls r j a hr h1 h2 ha
  · have hq : ¬ (mo ≠ 0 ∨ OP (22 * y + i) ||| oaR E V fr OP m y i ≠ OP (22 * y + i)) := fun r => by rw [if_pos r] at q; cases q
    have q1 : mo = 0 := Classical.byContradiction fun r => hq (Or.inl r)
    have q2 : OP (22 * y + i) ||| oaR E V fr OP m y i = OP (22 * y + i) := Classical.byContradiction fun r => hq (Or.inr r)
    rw [q2, up_self]
    obtain ⟨s1, s2⟩ := h.sam q1
    refine ⟨s1, fun r a hr ha => ?_⟩
    by_cases e : r = y
    · subst e
      exact bs_tr (fun c hc => (orR_bit _ _ _ _).mpr ⟨a, Nat.zero_le _, by omega, hc⟩) (or_eq_l q2)
    · exact s2 r a (by omega) ha
  · have hq : mo ≠ 0 ∨ OP (22 * y + i) ||| oaR E V fr OP m y i ≠ OP (22 * y + i) := Classical.byContradiction fun r => q (if_neg r)
    have e1 := tb_mono (f := fun r => OP (22 * r + i)) (g := fun r => up OP (22 * y + i) (OP (22 * y + i) ||| oaR E V fr OP m y i) (22 * r + i)) (n := n) (fun r _ => hgr _)
    rcases hq with hq | hq
    · have := h.inc hq; omega
    · have e0 := tb_mono (f := fun r => O0 (22 * r + i)) (g := fun r => OP (22 * r + i)) (n := n) (fun r _ => h.gro _)
      have e2 := tb_strict (f := fun r => OP (22 * r + i)) (g := fun r => up OP (22 * y + i) (OP (22 * y + i) ||| oaR E V fr OP m y i) (22 * r + i)) (n := n) (r := y) (fun r _ => hgr _) hy (by rw [up_s]; exact or_lt40 (h.ops.sfo _) oaR_lt) (by rw [up_s]; exact fun e => hq e.symm)
      omega
theorem BpI.fin {E : Nat → Nat → Nat} {n : Nat} {V : Nat → Nat → Nat → Nat} {fr : Nat → Nat} {m i : Nat} {O0 OP : Nat → Nat} {mo : Nat} (h : BpI E n V fr m i O0 n mo OP) (hm : mo = 0) : BpS E n V fr m i OP := ⟨h.ops.sfo, h.ops.top, h.ops.sub, fun r j a hr h1 h2 ha => by
  by_cases e : j = i
  · subst e; exact (h.sam hm).2 r a hr ha
  · exact h.ops.cls r j a hr (by omega) h2 ha⟩
theorem BpS.to1 {E : Nat → Nat → Nat} {n : Nat} {V : Nat → Nat → Nat → Nat} {fr : Nat → Nat} {m : Nat} {OP : Nat → Nat} (hs : SafeM OP) (h1 : ∀ t, t < n → OP (22 * t + m) = fr t) (h2 : ∀ t p, t < n → p < m → OP (22 * t + p) = 0) : BpS E n V fr m m OP := ⟨hs, h1, fun r i c hr hi hb => by rw [h2 r i hr hi] at hb; simp at hb, fun r i a hr q1 q2 => by omega⟩
def GoB (E : Nat → Nat → Nat) (n : Nat) (fr : Nat → Nat) (m c : Nat) : Prop := if m = 0 then (fr 0).testBit c = true else Bk E n fr m 0 0 c
theorem BpS.goes {E : Nat → Nat → Nat} {n : Nat} {V : Nat → Nat → Nat → Nat} {fr : Nat → Nat} {m : Nat} {OP : Nat → Nat} (hb : bOK E n V m) (h : BpS E n V fr m 0 OP) (hn : 0 < n) : OP 0 ≠ 0 ↔ ∃ c, c < 40 ∧ GoB E n fr m c := by
  have e : ∀ c, (OP 0).testBit c = true ↔ GoB E n fr m c := fun c => by
    unfold GoB
    by_cases q : m = 0
    · rw [if_pos q]
      have := h.top 0 hn
      rw [q] at this
      rw [show OP 0 = fr 0 from this]
    · rw [if_neg q]
      exact h.bk hb (r := 0) (i := 0) hn (by omega)
  constructor
  · intro h0
    obtain ⟨c, hc⟩ := Nat.exists_testBit_of_ne_zero h0
    exact ⟨c, bit_lt40 (h.sfo 0) hc, (e c).mp hc⟩
  · rintro ⟨c, -, hc⟩
    exact bit_ne0 ((e c).mpr hc)
theorem bp_meas {mo m2 N1 n i : Nat} {O1 O2 : Nat → Nat} (hn : n ≤ 8) (h0 : ¬ mo = 0) (hm : (if mo = 0 then 0 else 322 - tb (fun r => O1 (22 * r + i)) n) < N1 + 1) (h : m2 ≠ 0 → tb (fun r => O1 (22 * r + i)) n < tb (fun r => O2 (22 * r + i)) n) : (if m2 = 0 then 0 else 322 - tb (fun r => O2 (22 * r + i)) n) < N1 := by
  rw [if_neg h0] at hm
  have a1 := tb_le (fun r => O1 (22 * r + i)) n
  split
  · omega
  · rename_i q
    have := h q
    omega
/-- a column more -/
theorem cf_step {F : Nat → Prop} {its d b : Nat} (h : ∀ e, its.testBit e = true ↔ e < d ∧ F e) (hb : b = 1 ↔ F d) {v : Nat} (hv : v = if b = 1 then 2 ^ d else 0) : ∀ e, (its ||| v).testBit e = true ↔ e < d + 1 ∧ F e := fun e => by
  rw [Nat.testBit_or, Bool.or_eq_true, h e, hv]
  by_cases q : b = 1
  · rw [if_pos q, Nat.testBit_two_pow, decide_eq_true_eq]
    constructor
    · rintro (⟨h1, h2⟩ | rfl)
      · exact ⟨by omega, h2⟩
      · exact ⟨by omega, hb.mp q⟩
    · rintro ⟨h1, h2⟩
      by_cases e2 : d = e
      · exact Or.inr e2
      · exact Or.inl ⟨by omega, h2⟩
  · rw [if_neg q]
    constructor
    · rintro (⟨h1, h2⟩ | h1)
      · exact ⟨by omega, h2⟩
      · simp at h1
    · rintro ⟨h1, h2⟩
      by_cases e2 : e = d
      · subst e2; exact absurd (hb.mpr h2) q
      · exact Or.inl ⟨by omega, h2⟩
theorem Fnd.d40 {E : Nat → Nat → Nat} {n : Nat} {fr : Nat → Nat} {m s r0 d : Nat} (h : Fnd E n fr m s r0 d) : d < 40 := by
  obtain ⟨r, i, c, _, _, _, a, k, _, _, _, _, h5⟩ := h
  exact h5
