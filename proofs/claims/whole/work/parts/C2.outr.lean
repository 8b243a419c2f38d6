/-! OUTLOOK of the program under proof: its rows, going from above -/
def oCl (E : Nat → Nat → Nat) (n : Nat) (fr : Nat → Nat) (m s : Nat) (O : Nat → Nat) (F r i : Nat) : Prop := ∀ c, (O (r * 21 + i)).testBit c = true → (∀ t p d, oEd E n fr m r i c t p d → (O (t * 21 + p)).testBit d = true) ∧ ∀ d, oFi E n fr m s r i c d → F.testBit d = true
def OpS (E : Nat → Nat → Nat) (n : Nat) (fr : Nat → Nat) (m s r0 i : Nat) (O : Nat → Nat) (F : Nat) : Prop := (SafeM O) ∧ (F < 1099511627776) ∧ (∀ c, c < 40 → (O (r0 * 21)).testBit c = true) ∧ (∀ t p d, t < n → p ≤ m → (O (t * 21 + p)).testBit d = true → Rea E n fr m r0 t p d) ∧ (∀ d, F.testBit d = true → Fnd E n fr m s r0 d) ∧ (∀ r j, r < n → j < i → oCl E n fr m s O F r j)
theorem OpS.sfo {E : Nat → Nat → Nat} {n : Nat} {fr : Nat → Nat} {m s r0 i : Nat} {O : Nat → Nat} {F : Nat} (h : OpS E n fr m s r0 i O F) : SafeM O := h.1
theorem OpS.sff {E : Nat → Nat → Nat} {n : Nat} {fr : Nat → Nat} {m s r0 i : Nat} {O : Nat → Nat} {F : Nat} (h : OpS E n fr m s r0 i O F) : F < 1099511627776 := h.2.1
theorem OpS.ini {E : Nat → Nat → Nat} {n : Nat} {fr : Nat → Nat} {m s r0 i : Nat} {O : Nat → Nat} {F : Nat} (h : OpS E n fr m s r0 i O F) : ∀ c, c < 40 → (O (r0 * 21)).testBit c = true := h.2.2.1
theorem OpS.sub {E : Nat → Nat → Nat} {n : Nat} {fr : Nat → Nat} {m s r0 i : Nat} {O : Nat → Nat} {F : Nat} (h : OpS E n fr m s r0 i O F) : ∀ t p d, t < n → p ≤ m → (O (t * 21 + p)).testBit d = true → Rea E n fr m r0 t p d := h.2.2.2.1
theorem OpS.fsb {E : Nat → Nat → Nat} {n : Nat} {fr : Nat → Nat} {m s r0 i : Nat} {O : Nat → Nat} {F : Nat} (h : OpS E n fr m s r0 i O F) : ∀ d, F.testBit d = true → Fnd E n fr m s r0 d := h.2.2.2.2.1
theorem OpS.cls {E : Nat → Nat → Nat} {n : Nat} {fr : Nat → Nat} {m s r0 i : Nat} {O : Nat → Nat} {F : Nat} (h : OpS E n fr m s r0 i O F) : ∀ r j, r < n → j < i → oCl E n fr m s O F r j := h.2.2.2.2.2
theorem oCl.grow {E : Nat → Nat → Nat} {n : Nat} {fr : Nat → Nat} {m s : Nat} {O O9 : Nat → Nat} {F F9 r i : Nat} (h : oCl E n fr m s O F r i) (h1 : O9 (r * 21 + i) = O (r * 21 + i)) (h2 : ∀ q, bitsub (O q) (O9 q)) (h3 : bitsub F F9) : oCl E n fr m s O9 F9 r i := fun c hc => by
  rw [h1] at hc
  obtain ⟨a, b⟩ := h c hc
  exact ⟨fun t p d e => h2 _ d (a t p d e), fun d e => h3 d (b d e)⟩
theorem OpS.fnd {E : Nat → Nat → Nat} {n : Nat} {fr : Nat → Nat} {m s r0 : Nat} {O : Nat → Nat} {F : Nat} (h : OpS E n fr m s r0 (m + 1) O F) (d : Nat) : F.testBit d = true ↔ Fnd E n fr m s r0 d := by
  refine ⟨h.fsb d, ?_⟩
  rintro ⟨r, i, c, hr, hi, hre, hf⟩
  have hb : (O (r * 21 + i)).testBit c = true := hre (fun t p d => (O (t * 21 + p)).testBit d = true) ⟨fun c hc => h.ini c hc, fun r i c t p d hr hi hb he => (h.cls r i hr (by omega) c hb).1 t p d he⟩
  exact (h.cls r i hr (by omega) c hb).2 d hf
/-- what is done of a rule's items: those ahead of (a, k, p) -/
def oDn (E : Nat → Nat → Nat) (n : Nat) (fr : Nat → Nat) (m s r i v a k p : Nat) (O : Nat → Nat) (F : Nat) : Prop := ∀ c a' k' p', v.testBit c = true → (a' < a ∨ (a' = a ∧ (k' < k ∨ (k' = k ∧ p' < p)))) → ahC E n fr m r i c a' k' p' → (E 2 ((r * 4 + a') * 5 + k') ≠ NO → ∀ d, d < 40 → fitB (E 4 ((r * 4 + a') * 5 + k')) c d → (O (E 2 ((r * 4 + a') * 5 + k') * 21 + p')).testBit d = true) ∧ (E 2 ((r * 4 + a') * 5 + k') = NO → p' = m → (s = 0 ∨ E 3 ((r * 4 + a') * 5 + k') = s) → ∀ d, d < 40 → fitB (E 4 ((r * 4 + a') * 5 + k')) c d → F.testBit d = true)
def OiI (E : Nat → Nat → Nat) (n : Nat) (fr : Nat → Nat) (m s r0 i r : Nat) (O0 : Nat → Nat) (F0 a k p mo : Nat) (O : Nat → Nat) (F : Nat) : Prop := (OpS E n fr m s r0 i O F) ∧ (∀ q, bitsub (O0 q) (O q)) ∧ (bitsub F0 F) ∧ (oDn E n fr m s r i (O0 (r * 21 + i)) a k p O F) ∧ (mo = 0 → ∀ q, O q = O0 q) ∧ (oCl E n fr m s O0 F0 r i → ∀ q, O q = O0 q) ∧ (mo ≤ 1)
theorem OiI.ops {E : Nat → Nat → Nat} {n : Nat} {fr : Nat → Nat} {m s r0 i r : Nat} {O0 : Nat → Nat} {F0 a k p mo : Nat} {O : Nat → Nat} {F : Nat} (h : OiI E n fr m s r0 i r O0 F0 a k p mo O F) : OpS E n fr m s r0 i O F := h.1
theorem OiI.gro {E : Nat → Nat → Nat} {n : Nat} {fr : Nat → Nat} {m s r0 i r : Nat} {O0 : Nat → Nat} {F0 a k p mo : Nat} {O : Nat → Nat} {F : Nat} (h : OiI E n fr m s r0 i r O0 F0 a k p mo O F) : ∀ q, bitsub (O0 q) (O q) := h.2.1
theorem OiI.grf {E : Nat → Nat → Nat} {n : Nat} {fr : Nat → Nat} {m s r0 i r : Nat} {O0 : Nat → Nat} {F0 a k p mo : Nat} {O : Nat → Nat} {F : Nat} (h : OiI E n fr m s r0 i r O0 F0 a k p mo O F) : bitsub F0 F := h.2.2.1
theorem OiI.dn {E : Nat → Nat → Nat} {n : Nat} {fr : Nat → Nat} {m s r0 i r : Nat} {O0 : Nat → Nat} {F0 a k p mo : Nat} {O : Nat → Nat} {F : Nat} (h : OiI E n fr m s r0 i r O0 F0 a k p mo O F) : oDn E n fr m s r i (O0 (r * 21 + i)) a k p O F := h.2.2.2.1
theorem OiI.sam {E : Nat → Nat → Nat} {n : Nat} {fr : Nat → Nat} {m s r0 i r : Nat} {O0 : Nat → Nat} {F0 a k p mo : Nat} {O : Nat → Nat} {F : Nat} (h : OiI E n fr m s r0 i r O0 F0 a k p mo O F) : mo = 0 → ∀ q, O q = O0 q := h.2.2.2.2.1
theorem OiI.clo {E : Nat → Nat → Nat} {n : Nat} {fr : Nat → Nat} {m s r0 i r : Nat} {O0 : Nat → Nat} {F0 a k p mo : Nat} {O : Nat → Nat} {F : Nat} (h : OiI E n fr m s r0 i r O0 F0 a k p mo O F) : oCl E n fr m s O0 F0 r i → ∀ q, O q = O0 q := h.2.2.2.2.2.1
theorem OiI.mo1 {E : Nat → Nat → Nat} {n : Nat} {fr : Nat → Nat} {m s r0 i r : Nat} {O0 : Nat → Nat} {F0 a k p mo : Nat} {O : Nat → Nat} {F : Nat} (h : OiI E n fr m s r0 i r O0 F0 a k p mo O F) : mo ≤ 1 := h.2.2.2.2.2.2
theorem OiI.start {E : Nat → Nat → Nat} {n : Nat} {fr : Nat → Nat} {m s r0 i r : Nat} {O : Nat → Nat} {F : Nat} (h : OpS E n fr m s r0 i O F) : OiI E n fr m s r0 i r O F 0 0 i 0 O F := ⟨h, fun _ => bs_rf _, bs_rf _, fun c a' k' p' _ hd ha => by have := ha.2.2.1; omega, fun _ _ => rfl, fun _ _ => rfl, Nat.zero_le _⟩
theorem OiI.to {E : Nat → Nat → Nat} {n : Nat} {fr : Nat → Nat} {m s r0 i r : Nat} {O0 : Nat → Nat} {F0 a k p mo a2 k2 p2 : Nat} {O : Nat → Nat} {F : Nat} (h : OiI E n fr m s r0 i r O0 F0 a k p mo O F) (hd : ∀ c a' k' p', (O0 (r * 21 + i)).testBit c = true → (a' < a2 ∨ (a' = a2 ∧ (k' < k2 ∨ (k' = k2 ∧ p' < p2)))) → ahC E n fr m r i c a' k' p' → (a' < a ∨ (a' = a ∧ (k' < k ∨ (k' = k ∧ p' < p))))) : OiI E n fr m s r0 i r O0 F0 a2 k2 p2 mo O F := ⟨h.ops, h.gro, h.grf, fun c a' k' p' hv h1 h2 => h.dn c a' k' p' hv (hd c a' k' p' hv h1 h2) h2, h.sam, h.clo, h.mo1⟩
theorem OiI.nexta {E : Nat → Nat → Nat} {n : Nat} {fr : Nat → Nat} {m s r0 i r : Nat} {O0 : Nat → Nat} {F0 a k mo : Nat} {O : Nat → Nat} {F : Nat} (h : OiI E n fr m s r0 i r O0 F0 a k i mo O F) (hk : E 1 (r * 4 + a) ≤ k) : OiI E n fr m s r0 i r O0 F0 (a + 1) 0 i mo O F := h.to (fun c a' k' p' _ h1 h2 => by
  have h3 := h2.2.1
  have h4 := h2.2.2.1
  by_cases e : a' = a
  · subst e; exact Or.inr ⟨rfl, Or.inl (by omega)⟩
  · omega)
/-- an item is done: its places are through, or there is no whole for it -/
theorem OiI.nextk {E : Nat → Nat → Nat} {n : Nat} {fr : Nat → Nat} {m s r0 i r : Nat} {O0 : Nat → Nat} {F0 a k p mo wv : Nat} {O : Nat → Nat} {F : Nat} (h : OiI E n fr m s r0 i r O0 F0 a k p mo O F) (hw : bitsub (O0 (r * 21 + i)) wv) (hp : m < p ∨ wv &&& rst E fr (r * 4 + a) k = 0) : OiI E n fr m s r0 i r O0 F0 a (k + 1) i mo O F := h.to (fun c a' k' p' hv h1 h2 => by
  have h3 := h2.2.2.1
  have h4 := h2.2.2.2.1
  by_cases e : a' = a ∧ k' = k
  · obtain ⟨rfl, rfl⟩ := e
    rcases hp with hp | hp
    · omega
    · exfalso
      have : (wv &&& rst E fr (r * 4 + a') k').testBit c = true := by rw [Nat.testBit_and, hw c hv, h2.2.2.2.2.2]; rfl
      rw [hp] at this; simp at this
  · omega)
/-- the parts that fit some wholes, at a place -/
def oPt (E : Nat → Nat → Nat) (n : Nat) (fr : Nat → Nat) (r i a k p wv : Nat) : Nat := prtN (E 4 ((r * 4 + a) * 5 + k)) ((wv &&& rst E fr (r * 4 + a) k) &&& rch E (wh E n) i (r * 4 + a) k p)
theorem oPt_lt {E : Nat → Nat → Nat} {n : Nat} {fr : Nat → Nat} {r i a k p wv : Nat} : oPt E n fr r i a k p wv < 1099511627776 := prtN_lt (Nat.lt_of_le_of_lt Nat.and_le_right (rch_lt _ _))
theorem oPt_bit {E : Nat → Nat → Nat} {n : Nat} {fr : Nat → Nat} {r i a k p wv d : Nat} : (oPt E n fr r i a k p wv).testBit d = true ↔ d < 40 ∧ ∃ c, wv.testBit c = true ∧ (rst E fr (r * 4 + a) k).testBit c = true ∧ (rch E (wh E n) i (r * 4 + a) k p).testBit c = true ∧ fitB (E 4 ((r * 4 + a) * 5 + k)) c d := by
  unfold oPt
  rw [prtN_bit (Nat.lt_of_le_of_lt Nat.and_le_right (rch_lt _ _))]
  constructor
  · rintro ⟨h, c, h1, h2⟩
    rw [Nat.testBit_and, Nat.testBit_and, Bool.and_eq_true, Bool.and_eq_true] at h1
    exact ⟨h, c, h1.1.1, h1.1.2, h1.2, h2⟩
  · rintro ⟨h, c, h1, h2, h3, h4⟩
    exact ⟨h, c, by rw [Nat.testBit_and, Nat.testBit_and, h1, h2, h3]; rfl, h4⟩
theorem OiI.name {E : Nat → Nat → Nat} {n : Nat} {fr : Nat → Nat} {m s r0 i r : Nat} {O0 : Nat → Nat} {F0 a k p mo mo9 wv t : Nat} {O : Nat → Nat} {F : Nat} (h : OiI E n fr m s r0 i r O0 F0 a k p mo O F) (hr : r < n) (ha : a < E 0 r) (hk : k < E 1 (r * 4 + a)) (hi : i ≤ p) (hp : p ≤ m) (hm : m < 21) (ht : E 2 ((r * 4 + a) * 5 + k) = t) (htn : t < n) (hne : t ≠ NO) (hw : bitsub (O0 (r * 21 + i)) wv) (hw2 : bitsub wv (O (r * 21 + i))) (h9 : mo9 ≤ 1) (hmo : mo9 = 0 → mo = 0 ∧ bitsub (oPt E n fr r i a k p wv) (O (t * 21 + p))) : OiI E n fr m s r0 i r O0 F0 a k (p + 1) mo9 (up O (t * 21 + p) (O (t * 21 + p) ||| oPt E n fr r i a k p wv)) F := by
  have hgr : ∀ q, bitsub (O q) (up O (t * 21 + p) (O (t * 21 + p) ||| oPt E n fr r i a k p wv) q) := fun q => by
    unfold up; split
    · rename_i e; rw [e]; exact bs_or1 _ _
    · exact bs_rf _
  have hpt : ∀ d, (oPt E n fr r i a k p wv).testBit d = true → ∃ c, (O (r * 21 + i)).testBit c = true ∧ oEd E n fr m r i c t p d := fun d hd => by
    obtain ⟨d4, c, c1, c2, c3, c4⟩ := oPt_bit.mp hd
    exact ⟨c, hw2 c c1, a, k, ⟨ha, hk, hi, hp, c3, c2⟩, ht, hne, c4, d4⟩
  have hsame : bitsub (oPt E n fr r i a k p wv) (O (t * 21 + p)) → ∀ q, up O (t * 21 + p) (O (t * 21 + p) ||| oPt E n fr r i a k p wv) q = O q := fun hb q => by
    unfold up; split
    · rename_i e; rw [e, Nat.or_comm]; exact or_sub hb
    · rfl
  have hlow : ∀ u j, j < i → up O (t * 21 + p) (O (t * 21 + p) ||| oPt E n fr r i a k p wv) (u * 21 + j) = O (u * 21 + j) := fun u j hj => up_n (by omega)
  refine ⟨⟨safe_up h.ops.sfo (or_lt40 (h.ops.sfo _) oPt_lt), h.ops.sff, fun c hc => hgr _ c (h.ops.ini c hc), fun u q d hu hq hb => ?_, h.ops.fsb, fun r2 j hr2 hj => (h.ops.cls r2 j hr2 hj).grow (hlow r2 j hj) hgr (bs_rf _)⟩, fun q => bs_tr (h.gro q) (hgr q), h.grf, fun c a' k' p' hv hd hah => ?_, fun q x => ?_, fun hc x => ?_, h9⟩
  · unfold up at hb
    split at hb
    · rename_i e
      obtain ⟨rfl, rfl⟩ : u = t ∧ q = p := by omega
      rw [Nat.testBit_or, Bool.or_eq_true] at hb
      rcases hb with hb | hb
      · exact h.ops.sub u q d hu hq hb
      · obtain ⟨c, c1, c2⟩ := hpt d hb
        exact (h.ops.sub r i c hr (by omega) c1).ed hr (by omega) c2
    · exact h.ops.sub u q d hu hq hb
  · by_cases e : a' = a ∧ k' = k ∧ p' = p
    · obtain ⟨rfl, rfl, rfl⟩ := e
      refine ⟨fun _ d d1 d2 => ?_, fun q => absurd q (by rw [ht]; exact hne)⟩
      rw [ht, up_s]
      exact bs_or2 _ _ d (oPt_bit.mpr ⟨d1, c, hw c hv, hah.2.2.2.2.2, hah.2.2.2.2.1, d2⟩)
    · obtain ⟨g1, g2⟩ := h.dn c a' k' p' hv (by omega) hah
      exact ⟨fun q d d1 d2 => hgr _ d (g1 q d d1 d2), g2⟩
  · obtain ⟨m1, m2⟩ := hmo q
    rw [hsame m2 x]; exact h.sam m1 x
  · have hO := h.clo hc
    refine (hsame (fun d hd => ?_) x).trans (hO x)
    obtain ⟨c, c1, c2⟩ := hpt d hd
    rw [hO] at c1 ⊢
    exact (hc c c1).1 t p d c2
theorem OiI.sgn {E : Nat → Nat → Nat} {n : Nat} {fr : Nat → Nat} {m s r0 i r : Nat} {O0 : Nat → Nat} {F0 a k p mo wv : Nat} {O : Nat → Nat} {F : Nat} (h : OiI E n fr m s r0 i r O0 F0 a k p mo O F) (hr : r < n) (ha : a < E 0 r) (hk : k < E 1 (r * 4 + a)) (hi : i ≤ p) (hp : p ≤ m) (ht : E 2 ((r * 4 + a) * 5 + k) = NO) (hw : bitsub (O0 (r * 21 + i)) wv) (hw2 : bitsub wv (O (r * 21 + i))) : OiI E n fr m s r0 i r O0 F0 a k (p + 1) mo O (F ||| if p = m ∧ (s = 0 ∨ E 3 ((r * 4 + a) * 5 + k) = s) then oPt E n fr r i a k p wv else 0) := by
  generalize hv9 : (if p = m ∧ (s = 0 ∨ E 3 ((r * 4 + a) * 5 + k) = s) then oPt E n fr r i a k p wv else 0) = V
  have hV : V < 1099511627776 := by
    rw [← hv9]; split
    · exact oPt_lt
    · decide
  have hVb : ∀ d, V.testBit d = true → ∃ c, (O (r * 21 + i)).testBit c = true ∧ oFi E n fr m s r i c d := fun d hd => by
    rw [← hv9] at hd
    split at hd
    · rename_i e
      obtain ⟨d4, c, c1, c2, c3, c4⟩ := oPt_bit.mp hd
      obtain ⟨rfl, e2⟩ := e
      exact ⟨c, hw2 c c1, a, k, ⟨ha, hk, hi, hp, c3, c2⟩, ht, e2, c4, d4⟩
    · simp at hd
  refine ⟨⟨h.ops.sfo, or_lt40 h.ops.sff hV, h.ops.ini, h.ops.sub, fun d hd => ?_, fun r2 j hr2 hj => (h.ops.cls r2 j hr2 hj).grow rfl (fun _ => bs_rf _) (bs_or1 _ _)⟩, h.gro, bs_tr h.grf (bs_or1 _ _), fun c a' k' p' hv hd hah => ?_, h.sam, h.clo, h.mo1⟩
  · rw [Nat.testBit_or, Bool.or_eq_true] at hd
    rcases hd with hd | hd
    · exact h.ops.fsb d hd
    · obtain ⟨c, c1, c2⟩ := hVb d hd
      exact ⟨r, i, c, hr, by omega, h.ops.sub r i c hr (by omega) c1, c2⟩
  · by_cases e : a' = a ∧ k' = k ∧ p' = p
    · obtain ⟨rfl, rfl, rfl⟩ := e
      refine ⟨fun q => absurd ht q, fun _ q1 q2 d d1 d2 => bs_or2 _ _ d ?_⟩
      rw [← hv9, if_pos ⟨q1, q2⟩]
      exact oPt_bit.mpr ⟨d1, c, hw c hv, hah.2.2.2.2.2, hah.2.2.2.2.1, d2⟩
    · obtain ⟨g1, g2⟩ := h.dn c a' k' p' hv (by omega) hah
      exact ⟨g1, fun q q1 q2 d d1 d2 => bs_or1 _ _ d (g2 q q1 q2 d d1 d2)⟩
theorem OiI.cl {E : Nat → Nat → Nat} {n : Nat} {fr : Nat → Nat} {m s r0 i r : Nat} {O0 : Nat → Nat} {F0 a mo : Nat} {O : Nat → Nat} {F : Nat} (h : OiI E n fr m s r0 i r O0 F0 a 0 i mo O F) (ha : E 0 r ≤ a) (he : O (r * 21 + i) = O0 (r * 21 + i)) : oCl E n fr m s O F r i := fun c hc => by
  rw [he] at hc
  refine ⟨?_, ?_⟩
  · rintro t p d ⟨a', k', g1, g2, g3, g4, g5⟩
    have := (h.dn c a' k' p hc (Or.inl (by have := g1.1; omega)) g1).1 (by rw [g2]; exact g3) d g5 g4
    rw [g2] at this; exact this
  · rintro d ⟨a', k', g1, g2, g3, g4, g5⟩
    exact (h.dn c a' k' m hc (Or.inl (by have := g1.1; omega)) g1).2 g2 rfl g3 d g5 g4
def OpI (E : Nat → Nat → Nat) (n : Nat) (fr : Nat → Nat) (m s r0 i : Nat) (O0 : Nat → Nat) (F0 y mo : Nat) (O : Nat → Nat) (F : Nat) : Prop := (OpS E n fr m s r0 i O F) ∧ (∀ q, bitsub (O0 q) (O q)) ∧ (bitsub F0 F) ∧ (y ≤ n) ∧ (mo ≤ 1) ∧ (tb (fun r => O0 (r * 21 + i)) n < tb (fun r => O (r * 21 + i)) n ∨ ((∀ r, r < n → O (r * 21 + i) = O0 (r * 21 + i)) ∧ ∀ r, r < y → oCl E n fr m s O F r i)) ∧ (mo = 0 → ∀ q, O q = O0 q) ∧ ((∀ r, r < n → oCl E n fr m s O0 F0 r i) → ∀ q, O q = O0 q)
theorem OpI.ops {E : Nat → Nat → Nat} {n : Nat} {fr : Nat → Nat} {m s r0 i : Nat} {O0 : Nat → Nat} {F0 y mo : Nat} {O : Nat → Nat} {F : Nat} (h : OpI E n fr m s r0 i O0 F0 y mo O F) : OpS E n fr m s r0 i O F := h.1
theorem OpI.gro {E : Nat → Nat → Nat} {n : Nat} {fr : Nat → Nat} {m s r0 i : Nat} {O0 : Nat → Nat} {F0 y mo : Nat} {O : Nat → Nat} {F : Nat} (h : OpI E n fr m s r0 i O0 F0 y mo O F) : ∀ q, bitsub (O0 q) (O q) := h.2.1
theorem OpI.grf {E : Nat → Nat → Nat} {n : Nat} {fr : Nat → Nat} {m s r0 i : Nat} {O0 : Nat → Nat} {F0 y mo : Nat} {O : Nat → Nat} {F : Nat} (h : OpI E n fr m s r0 i O0 F0 y mo O F) : bitsub F0 F := h.2.2.1
theorem OpI.yle {E : Nat → Nat → Nat} {n : Nat} {fr : Nat → Nat} {m s r0 i : Nat} {O0 : Nat → Nat} {F0 y mo : Nat} {O : Nat → Nat} {F : Nat} (h : OpI E n fr m s r0 i O0 F0 y mo O F) : y ≤ n := h.2.2.2.1
theorem OpI.mo1 {E : Nat → Nat → Nat} {n : Nat} {fr : Nat → Nat} {m s r0 i : Nat} {O0 : Nat → Nat} {F0 y mo : Nat} {O : Nat → Nat} {F : Nat} (h : OpI E n fr m s r0 i O0 F0 y mo O F) : mo ≤ 1 := h.2.2.2.2.1
theorem OpI.alt {E : Nat → Nat → Nat} {n : Nat} {fr : Nat → Nat} {m s r0 i : Nat} {O0 : Nat → Nat} {F0 y mo : Nat} {O : Nat → Nat} {F : Nat} (h : OpI E n fr m s r0 i O0 F0 y mo O F) : tb (fun r => O0 (r * 21 + i)) n < tb (fun r => O (r * 21 + i)) n ∨ ((∀ r, r < n → O (r * 21 + i) = O0 (r * 21 + i)) ∧ ∀ r, r < y → oCl E n fr m s O F r i) := h.2.2.2.2.2.1
theorem OpI.sam {E : Nat → Nat → Nat} {n : Nat} {fr : Nat → Nat} {m s r0 i : Nat} {O0 : Nat → Nat} {F0 y mo : Nat} {O : Nat → Nat} {F : Nat} (h : OpI E n fr m s r0 i O0 F0 y mo O F) : mo = 0 → ∀ q, O q = O0 q := h.2.2.2.2.2.2.1
theorem OpI.clo {E : Nat → Nat → Nat} {n : Nat} {fr : Nat → Nat} {m s r0 i : Nat} {O0 : Nat → Nat} {F0 y mo : Nat} {O : Nat → Nat} {F : Nat} (h : OpI E n fr m s r0 i O0 F0 y mo O F) : (∀ r, r < n → oCl E n fr m s O0 F0 r i) → ∀ q, O q = O0 q := h.2.2.2.2.2.2.2
def OpP (E : Nat → Nat → Nat) (n : Nat) (fr : Nat → Nat) (m s r0 i ps mo : Nat) (O : Nat → Nat) (F : Nat) : Prop := (OpS E n fr m s r0 i O F) ∧ (mo ≤ 1) ∧ ((∀ r, r < n → oCl E n fr m s O F r i) ∨ ps ≤ tb (fun r => O (r * 21 + i)) n) ∧ (mo = 0 → ∀ r, r < n → oCl E n fr m s O F r i)
theorem OpP.ops {E : Nat → Nat → Nat} {n : Nat} {fr : Nat → Nat} {m s r0 i ps mo : Nat} {O : Nat → Nat} {F : Nat} (h : OpP E n fr m s r0 i ps mo O F) : OpS E n fr m s r0 i O F := h.1
theorem OpP.mo1 {E : Nat → Nat → Nat} {n : Nat} {fr : Nat → Nat} {m s r0 i ps mo : Nat} {O : Nat → Nat} {F : Nat} (h : OpP E n fr m s r0 i ps mo O F) : mo ≤ 1 := h.2.1
theorem OpP.alt {E : Nat → Nat → Nat} {n : Nat} {fr : Nat → Nat} {m s r0 i ps mo : Nat} {O : Nat → Nat} {F : Nat} (h : OpP E n fr m s r0 i ps mo O F) : (∀ r, r < n → oCl E n fr m s O F r i) ∨ ps ≤ tb (fun r => O (r * 21 + i)) n := h.2.2.1
theorem OpP.don {E : Nat → Nat → Nat} {n : Nat} {fr : Nat → Nat} {m s r0 i ps mo : Nat} {O : Nat → Nat} {F : Nat} (h : OpP E n fr m s r0 i ps mo O F) : mo = 0 → ∀ r, r < n → oCl E n fr m s O F r i := h.2.2.2
theorem OpP.start {E : Nat → Nat → Nat} {n : Nat} {fr : Nat → Nat} {m s r0 i : Nat} {O : Nat → Nat} {F : Nat} (h : OpS E n fr m s r0 i O F) : OpP E n fr m s r0 i 0 1 O F := ⟨h, Nat.le_refl _, Or.inr (Nat.zero_le _), fun q => by omega⟩
theorem OpP.go {E : Nat → Nat → Nat} {n : Nat} {fr : Nat → Nat} {m s r0 i ps mo : Nat} {O : Nat → Nat} {F : Nat} (h : OpP E n fr m s r0 i ps mo O F) : OpI E n fr m s r0 i O F 0 0 O F := ⟨h.ops, fun _ => bs_rf _, bs_rf _, Nat.zero_le _, Nat.zero_le _, Or.inr ⟨fun _ _ => rfl, fun r hr => absurd hr (Nat.not_lt_zero _)⟩, fun _ _ => rfl, fun _ _ => rfl⟩
theorem OpP.fin {E : Nat → Nat → Nat} {n : Nat} {fr : Nat → Nat} {m s r0 i ps mo : Nat} {O : Nat → Nat} {F : Nat} (h : OpP E n fr m s r0 i ps mo O F) (hn : n ≤ 8) (hd : mo = 0 ∨ 321 ≤ ps) : OpS E n fr m s r0 (i + 1) O F := by
  have hc : ∀ r, r < n → oCl E n fr m s O F r i := by
    rcases hd with q | q
    · exact h.don q
    · rcases h.alt with q2 | q2
      · exact q2
      · have := tb_le (fun r => O (r * 21 + i)) n; omega
  exact ⟨h.ops.sfo, h.ops.sff, h.ops.ini, h.ops.sub, h.ops.fsb, fun r j hr hj => if e : j = i then e ▸ hc r hr else h.ops.cls r j hr (by omega)⟩
theorem OpI.step {E : Nat → Nat → Nat} {n : Nat} {fr : Nat → Nat} {m s r0 i : Nat} {O0 O O9 : Nat → Nat} {F0 y mo F a mo9 mo2 F9 : Nat} (h : OpI E n fr m s r0 i O0 F0 y mo O F) (hy : y < n) (h9 : OiI E n fr m s r0 i y O F a 0 i mo9 O9 F9) (ha : E 0 y ≤ a) (h1 : mo2 ≤ 1) (h2 : mo2 = 0 → mo = 0 ∧ mo9 = 0) : OpI E n fr m s r0 i O0 F0 (y + 1) mo2 O9 F9 := by
  refine ⟨h9.ops, fun q => bs_tr (h.gro q) (h9.gro q), bs_tr h.grf h9.grf, by omega, h1, ?_, fun q x => ?_, fun hc x => ?_⟩
  · have hm := tb_mono (f := fun r => O (r * 21 + i)) (g := fun r => O9 (r * 21 + i)) (n := n) (fun r _ => h9.gro _)
    rcases h.alt with q | ⟨q1, q2⟩
    · exact Or.inl (by omega)
    · by_cases e : ∀ r, r < n → O9 (r * 21 + i) = O (r * 21 + i)
      · refine Or.inr ⟨fun r hr => (e r hr).trans (q1 r hr), fun r hr => ?_⟩
        by_cases e2 : r = y
        · subst e2; exact h9.cl ha (e r hy)
        · exact (q2 r (by omega)).grow (e r (by omega)) h9.gro h9.grf
      · obtain ⟨r, hr⟩ := Classical.not_forall.mp e
        obtain ⟨hr1, hr2⟩ := Classical.not_imp.mp hr
        have hs := tb_strict (f := fun r => O (r * 21 + i)) (g := fun r => O9 (r * 21 + i)) (n := n) (fun r _ => h9.gro _) hr1 (h9.ops.sfo _) (fun e => hr2 e.symm)
        have hm0 := tb_mono (f := fun r => O0 (r * 21 + i)) (g := fun r => O (r * 21 + i)) (n := n) (fun r _ => h.gro _)
        exact Or.inl (by omega)
  · obtain ⟨a1, a2⟩ := h2 q
    exact (h9.sam a2 x).trans (h.sam a1 x)
  · have hO := h.clo hc
    refine (h9.clo ((hc y hy).grow (hO _) (fun q => by rw [hO q]; exact bs_rf _) h.grf) x).trans (hO x)
theorem OpI.skip {E : Nat → Nat → Nat} {n : Nat} {fr : Nat → Nat} {m s r0 i : Nat} {O0 O : Nat → Nat} {F0 y mo F : Nat} (h : OpI E n fr m s r0 i O0 F0 y mo O F) (hy : y < n) (h0 : O (y * 21 + i) = 0) : OpI E n fr m s r0 i O0 F0 (y + 1) mo O F := ⟨h.ops, h.gro, h.grf, by omega, h.mo1, h.alt.elim Or.inl (fun ⟨q1, q2⟩ => Or.inr ⟨q1, fun r hr => if e : r = y then by
    subst e; intro c hc; rw [h0] at hc; simp at hc
  else q2 r (by omega)⟩), h.sam, h.clo⟩
theorem OpI.fin {E : Nat → Nat → Nat} {n : Nat} {fr : Nat → Nat} {m s r0 i : Nat} {O0 O : Nat → Nat} {F0 mo F ps m0 : Nat} (h0 : OpP E n fr m s r0 i ps m0 O0 F0) (h : OpI E n fr m s r0 i O0 F0 n mo O F) : OpP E n fr m s r0 i (ps + 1) mo O F := by
  refine ⟨h.ops, h.mo1, ?_, fun q => ?_⟩
  · rcases h.alt with q | ⟨q1, q2⟩
    · rcases h0.alt with q3 | q3
      · exfalso
        have e : (fun r => O (r * 21 + i)) = (fun r => O0 (r * 21 + i)) := funext fun r => h.clo q3 _
        rw [e] at q; omega
      · exact Or.inr (by omega)
    · exact Or.inl q2
  · rcases h.alt with q3 | ⟨q1, q2⟩
    · exfalso
      have e : (fun r => O (r * 21 + i)) = (fun r => O0 (r * 21 + i)) := funext fun r => h.sam q _
      rw [e] at q3; omega
    · exact q2
theorem OpS.first {E : Nat → Nat → Nat} {n : Nat} {fr : Nat → Nat} {m s r0 : Nat} {O : Nat → Nat} (hr : r0 < 8) (h0 : ∀ q, q ≠ r0 * 21 → q < 168 → O q = 0) (h1 : O (r0 * 21) = A40) (hs : SafeM O) (hn : n ≤ 8) (hm : m < 21) : OpS E n fr m s r0 0 O 0 := ⟨hs, by decide, fun c hc => by rw [h1, show A40 = 2 ^ 40 - 1 from rfl, Nat.testBit_two_pow_sub_one]; exact decide_eq_true hc, fun t p d ht hp hb => by
    by_cases e : t * 21 + p = r0 * 21
    · obtain ⟨rfl, rfl⟩ : t = r0 ∧ p = 0 := by omega
      exact Rea.ini (bit_lt40 (hs _) hb)
    · rw [h0 _ e (by omega)] at hb; simp at hb, fun d hd => by simp at hd, fun r j _ hj => absurd hj (Nat.not_lt_zero _)⟩
theorem nand0 {a b : Nat} (ha : a < 1099511627776) (hb : b < 1099511627776) (h : lN a &&& (lN b ^^^ (-1)) = 0) : bitsub a b := fun c hc => by
  have hc4 := bit_lt40 ha hc
  have h1 : (lN a &&& (lN b ^^^ (-1))).toBitVec.getLsbD c = false := by rw [h]; exact BitVec.getLsbD_zero
  rw [Int64.toBitVec_and, Int64.toBitVec_xor, BitVec.getLsbD_and, BitVec.getLsbD_xor, wb_tb, wb_tb, BitVec.getLsbD_ofNat, BitVec.getLsbD_ofNat, decide_eq_true (show c < 64 by omega), Bool.true_and, Bool.true_and, hc, Bool.true_and] at h1
  have h2 : (Int64.toBitVec (-1)).getLsbD c = true := by
    rw [show Int64.toBitVec (-1) = BitVec.allOnes 64 by decide, BitVec.getLsbD_allOnes]
    exact decide_eq_true (by omega)
  rw [h2] at h1
  cases hb2 : b.testBit c with
  | true => rfl
  | false => rw [hb2] at h1; cases h1
theorem bit_and1 {m c : Nat} : m / 2 ^ c % 2 = (if m.testBit c = true then 1 else 0) := tb2
theorem up_gr (O : Nat → Nat) (k v : Nat) {q : Nat} : bitsub (O q) (up O k (O k ||| v) q) := by
  unfold up; split
  · rename_i e; rw [e]; exact bs_or1 _ _
  · exact bs_rf _
theorem ladd2 {a b : Nat} : lN a + lN b = lN (a + b) := by
  apply wb_inj
  rw [Int64.toBitVec_add, wb_tb, wb_tb, wb_tb, BitVec.ofNat_add]
theorem lsub2 {a b : Nat} (h : b ≤ a) : lN a - lN b = lN (a - b) := Int64.sub_eq_iff_eq_add.mpr (by rw [ladd2]; congr 1; omega)
theorem l2iN (a : Nat) : Int64.toInt32 (lN a) = nI (a % 4294967296) := by
  apply Int32.toBitVec_inj.mp
  rw [Int64.toBitVec_toInt32, wb_tb, BitVec.signExtend_eq_setWidth_of_le _ (by decide)]
  show _ = BitVec.ofNat 32 (a % 4294967296)
  apply BitVec.eq_of_toNat_eq
  rw [BitVec.toNat_setWidth, BitVec.toNat_ofNat, BitVec.toNat_ofNat]
  omega
theorem iand127 (a : Nat) : nI a &&& 127 = nI (a % 128) := by
  have h := nx_and a 127
  rw [show (127 : Nat) = 2 ^ 7 - 1 from rfl, Nat.and_two_pow_sub_one_eq_mod] at h
  exact h
theorem rows_wh {E : Nat → Nat → Nat} {n c m i : Nat} {W R : Nat → Nat} (h : ∀ r, r < n → ∀ p, i ≤ p → p ≤ m → RokAt R E (w3 W) i r p) (hcl : Clo E n) (hm : m ≤ c) (hW : ChS E n c W) (hit : ∀ q, E 1 q ≤ 5) : ∀ r a k p, r < n → a < E 0 r → k < E 1 (r * 4 + a) → i ≤ p → p ≤ m → ahd R ((r * 4 + a) * 5 + k) i p = rch E (wh E n) i (r * 4 + a) k p := fun r a k p hr ha hk h1 h2 => by
  have h5 := hit (r * 4 + a)
  have e : ∀ k, k ≤ E 1 (r * 4 + a) → rch E (w3 W) i (r * 4 + a) k p = rch E (wh E n) i (r * 4 + a) k p := fun k hk => rch_congN (Q := m) hcl hr ha (fun t p' q ht q1 q2 q3 => hW t p' q ht q2 (by omega)) k p hk h2
  rw [← e k (by omega)]
  refine ahd_rch (by omega) (fun hk0 => ?_)
  have := h r hr p h1 h2 a ha (k - 1) (by omega)
  rwa [show k - 1 + 1 = k by omega] at this
