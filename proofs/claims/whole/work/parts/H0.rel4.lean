theorem Rel.newG {L : Nat} {f f9 g g9 : Nat → Nat → Nat} {o o9 : Nat → Nat} (h : Rel L f o g) (hI : CInv L f9) (h0 : f9 0 1 = 0) (e : ∀ a, (a = 1 ∨ (26 ≤ a ∧ a ≤ 29) ∨ (50 ≤ a ∧ a ≤ 124)) → f9 a = f a) (h5 : o9 5 = o 5) (h7 : o9 7 = 0) (h31 : o9 31 = o 31) (hg : ∀ a, a ∉ [139, 140, 145, 146, 147, 148, 149, 153, 154, 155] → g9 a = g a) (b5 : ∀ q, g9 145 q < 2147483648) (b8 : ∀ q, g9 148 q ≤ 1) (s4 : SafeM (g9 154)) (s5 : SafeM (g9 155)) (rg : RelG g9 (f9 16 0) (f9 17) (f9 18) (f9 19) (f9 20) (f9 21) (f9 22)) (lf : IsLfp (f9 16 0) (frR (f9 18) (f9 19) (f9 21) (f9 22)) (g9 154)) (lb : IsLfp (f9 16 0) (brR (f9 18) (f9 19) (f9 21) (f9 22)) (g9 155)) (hb : ∀ q, g9 140 q < 2147483648) (ht : ∀ q, 529 ≤ q → g9 140 q = g 140 q) : Rel (L + 1) f9 o9 g9 := by
  have hc := h.inv.tok.safe.1
  refine ⟨hI.mono (Nat.le_succ _), by rw [h7, h0], fun q hq => by rw [h0] at hq; omega, rg, ?_, ⟨hb, ?_, ?_, ?_, ?_, ?_⟩, s4, s5, lf, lb, ?_, ?_, ?_, ?_, ?_, ?_, ?_, ?_, b5, b8, ?_, ?_, ?_⟩
  · rw [e 26 (by decide), e 27 (by decide), e 28 (by decide), e 29 (by decide)]; exact h.rt.cg2 hc (fun q h1 _ => ht q h1)
  · rw [hg 156 (by decide)]; exact h.sf.2.1
  · rw [hg 157 (by decide)]; exact h.sf.2.2.1
  · rw [hg 158 (by decide)]; exact h.sf.2.2.2.1
  · rw [hg 159 (by decide)]; exact h.sf.2.2.2.2.1
  · rw [hg 160 (by decide)]; exact h.sf.2.2.2.2.2
  · rw [h5, e 50 (by decide)]; exact h.un
  · exact h.uh.cg (fun a h1 h2 => e a (by omega)) (hg 143 (by decide))
  · rw [h31, e 92 (by decide)]; exact h.ln
  · rw [e 92 (by decide), e 93 (by decide), hg 164 (by decide)]; exact h.lt
  · exact h.k0.cg (fun a h1 h2 => e a (by omega)) (hg 141 (by decide)) (by rw [hg 142 (by decide)])
  · exact h.k1.cg (fun a h1 h2 => e a (by omega)) (hg 141 (by decide)) (by rw [hg 142 (by decide)])
  · rw [hg 141 (by decide)]; exact h.b1
  · rw [hg 143 (by decide)]; exact h.b3
  · rw [hg 161 (by decide)]; exact h.b61
  · rw [hg 162 (by decide)]; exact h.b62
  · rw [hg 163 (by decide)]; exact h.b63
theorem Rel.newT {L : Nat} {f f9 g : Nat → Nat → Nat} {o R A B C : Nat → Nat} (h : Rel L f o g) (hI : CInv L f9) (h0 : f9 0 1 = 0) (hn : f9 26 0 = nT (f 1) (f 0 1)) (hT : hT_ (f 1) (f 1) (f9 27) (f 0 1) ∧ hT_ (f 1) (lT (f 1)) (f9 28) (f 0 1) ∧ hT_ (f 1) (cT (f 1)) (f9 29) (f 0 1)) (hz : f9 50 0 = 0) (e : ∀ a, (a = 1 ∨ (16 ≤ a ∧ a ≤ 25) ∨ (52 ≤ a ∧ a ≤ 124)) → f9 a = f a) (hr : ∀ q, q < 529 → R q = g 140 q) (hb : ∀ q, R q < 2147483648) (ht : RelT (fset g 140 R) (nT (f 1) (o 7)) (aT (f 1) (f 1) (o 7)) (aT (f 1) (lT (f 1)) (o 7)) (aT (f 1) (cT (f 1)) (o 7))) : Rel (L + 1) f9 (up (up (up o 0 0) 5 0) 7 0) (fset (fset (fset (fset g 152 C) 151 B) 150 A) 140 R) := by
  rw [h.len] at ht
  refine ⟨hI.mono (Nat.le_succ _), h0.symm, fun q hq => by rw [h0] at hq; omega, ?_, ?_, ⟨hb, h.sf.2⟩, h.s4, h.s5, ?_, ?_, hz.symm, fun k hk => by rw [hz] at hk; omega, ?_, ?_, ?_, ?_, h.b1, h.b3, h.b5, h.b8, h.b61, h.b62, h.b63⟩
  · rw [e 16 (by decide), e 17 (by decide), e 18 (by decide), e 19 (by decide), e 20 (by decide), e 21 (by decide), e 22 (by decide)]
    have h9 : RowG (fset (fset (fset (fset g 152 C) 151 B) 150 A) 140 R) (f 16 0) (f 17) (f 18) (f 19) (f 20) (f 21) (f 22) := h.rg.row.cg h.inv.gram.safe hr
    exact ⟨h9.1, h9.2.1, h9.2.2.1, h9.2.2.2.1, fun x hx => ⟨(h9.2.2.2.2 x hx).1, (h9.2.2.2.2 x hx).2.1, (h9.2.2.2.2 x hx).2.2, (h.rg.2.2.2.2 x hx).2.2.2⟩⟩
  · rw [hn]; exact (ht.keep rfl).cg (fun q hq => ⟨hT.1 q hq, hT.2.1 q hq, hT.2.2 q hq⟩)
  · rw [e 16 (by decide), e 18 (by decide), e 19 (by decide), e 21 (by decide), e 22 (by decide)]; exact h.lf
  · rw [e 16 (by decide), e 18 (by decide), e 19 (by decide), e 21 (by decide), e 22 (by decide)]; exact h.lb
  · show o 31 = f9 92 0; rw [e 92 (by decide)]; exact h.ln
  · rw [e 92 (by decide), e 93 (by decide)]; exact h.lt
  · exact h.k0.cg (fun a h1 h2 => e a (by omega)) rfl rfl
  · exact h.k1.cg (fun a h1 h2 => e a (by omega)) rfl rfl
theorem Rel.keepL {L : Nat} {f f9 g g9 : Nat → Nat → Nat} {o o9 : Nat → Nat} {S : List Nat} (h : Rel L f o g) (hI : CInv L f9) (ha : Asame f f9) (h5 : o9 5 = o 5) (h7 : o9 7 = o 7) (h31 : o9 31 = o 31) (hFs : Fsame g g9 S) (hS : ∀ a, a ∈ [141, 142, 143, 144, 145, 148, 161, 162, 163, 164] → a ∉ S) (e140 : g9 140 = g 140) (hsf : SafeF g9) (rg : RelG g9 (f 16 0) (f 17) (f 18) (f 19) (f 20) (f 21) (f 22)) (s4 : SafeM (g9 154)) (s5 : SafeM (g9 155)) (lf : IsLfp (f 16 0) (frR (f 18) (f 19) (f 21) (f 22)) (g9 154)) (lb : IsLfp (f 16 0) (brR (f 18) (f 19) (f 21) (f 22)) (g9 155)) : Rel (L + 1) f9 o9 g9 := by
  have e := ha.2
  have hg : ∀ a, a ∈ [141, 142, 143, 144, 145, 148, 161, 162, 163, 164] → g9 a = g a := fun a ha => hFs a (hS a ha)
  have e16 : f9 16 = f 16 := e 16 (by decide)
  have e17 : f9 17 = f 17 := e 17 (by decide)
  have e18 : f9 18 = f 18 := e 18 (by decide)
  have e19 : f9 19 = f 19 := e 19 (by decide)
  have e20 : f9 20 = f 20 := e 20 (by decide)
  have e21 : f9 21 = f 21 := e 21 (by decide)
  have e22 : f9 22 = f 22 := e 22 (by decide)
  have ec : ∀ a, 50 ≤ a → a ≤ 93 → f9 a = f a := fun a h1 h2 => e a (by unfold coreB; simp [h1, h2])
  have ek : ∀ a, 95 ≤ a → a ≤ 124 → f9 a = f a := fun a h1 h2 => e a (by unfold coreB; simp [h1, h2])
  refine ⟨hI.mono (Nat.le_succ _), by rw [h7, ha.1]; exact h.len, ?_, ?_, ?_, hsf, s4, s5, ?_, ?_, ?_, ?_, ?_, ?_, ?_, ?_, ?_, ?_, ?_, ?_, ?_, ?_, ?_⟩
  · rw [ha.1, hg 144 (by decide), e 1 (by decide)]; exact h.txt
  · rw [e16, e17, e18, e19, e20, e21, e22]; exact rg
  · rw [e 26 (by decide), e 27 (by decide), e 28 (by decide), e 29 (by decide)]; exact h.rt.keep e140
  · rw [e16, e18, e19, e21, e22]; exact lf
  · rw [e16, e18, e19, e21, e22]; exact lb
  · rw [h5, ec 50 (by decide) (by decide)]; exact h.un
  · exact h.uh.cg (fun a h1 h2 => ec a h1 (by omega)) (hg 143 (by decide))
  · rw [h31, ec 92 (by decide) (by decide)]; exact h.ln
  · rw [ec 92 (by decide) (by decide), ec 93 (by decide) (by decide), hg 164 (by decide)]; exact h.lt
  · exact h.k0.cg (fun a h1 h2 => ek a (by omega) (by omega)) (hg 141 (by decide)) (by rw [hg 142 (by decide)])
  · exact h.k1.cg (fun a h1 h2 => ek a (by omega) (by omega)) (hg 141 (by decide)) (by rw [hg 142 (by decide)])
  · rw [hg 141 (by decide)]; exact h.b1
  · rw [hg 143 (by decide)]; exact h.b3
  · rw [hg 145 (by decide)]; exact h.b5
  · rw [hg 148 (by decide)]; exact h.b8
  · rw [hg 161 (by decide)]; exact h.b61
  · rw [hg 162 (by decide)]; exact h.b62
  · rw [hg 163 (by decide)]; exact h.b63
theorem Rel.hold0 {L : Nat} {f g : Nat → Nat → Nat} {o K : Nat → Nat} (h : Rel L f o g) (hI : CInv L (kHold 95 f)) (hK : ∀ q, K q = if 0 ≤ q ∧ q < 0 + 590 then g 140 (q - 0) else g 141 q) : Rel (L + 1) (kHold 95 f) (up o 0 0) (fset (fset g 142 (up (g 142) 0 1)) 141 K) := by
  have e0 : ∀ q, q < 590 → kRw (fset (fset g 142 (up (g 142) 0 1)) 141 K) 0 140 q = g 140 q := fun q hq => by
    show K (590 * 0 + q) = _
    rw [hK, if_pos (by omega), show 590 * 0 + q - 0 = q by omega]
  have e1 : kRw (fset (fset g 142 (up (g 142) 0 1)) 141 K) 1 = kRw g 1 := by
    funext a q
    show K (590 * 1 + q) = g 141 (590 * 1 + q)
    rw [hK, if_neg (by omega)]
  refine ⟨hI.mono (Nat.le_succ _), h.len, h.txt, h.rg.keep rfl rfl, h.rt.keep rfl, h.sf, h.s4, h.s5, h.lf, h.lb, h.un, h.uh.cg (fun a h1 h2 => ?_) rfl, h.ln, h.lt, ⟨rfl, fun _ => ⟨h.rg.row.cg h.inv.gram.safe (fun q hq => e0 q (by omega)), h.rt.cg2 h.inv.tok.safe.1 (fun q _ hq => e0 q hq)⟩⟩, ⟨h.k1.1, fun hk => by rw [e1]; exact h.k1.2 hk⟩, fun q => ?_, h.b3, h.b5, h.b8, h.b61, h.b62, h.b63⟩
  · unfold kHold tcp gcp
    rw [fset_n (by omega), fset_n (by omega), fset_n (by omega), fset_n (by omega), fset_n (by omega), fset_n (by omega), fset_n (by omega), fset_n (by omega), fset_n (by omega), fset_n (by omega), fset_n (by omega), fset_n (by omega), fset_n (by omega), fset_n (by omega), fset_n (by omega)]
  · show K q < _
    rw [hK]
    split
    · exact h.sf.1 _
    · exact h.b1 _
theorem Rel.hold1 {L : Nat} {f g : Nat → Nat → Nat} {o K : Nat → Nat} (h : Rel L f o g) (hI : CInv L (kHold 110 f)) (hK : ∀ q, K q = if 590 ≤ q ∧ q < 590 + 590 then g 140 (q - 590) else g 141 q) : Rel (L + 1) (kHold 110 f) (up o 0 0) (fset (fset g 142 (up (g 142) 1 1)) 141 K) := by
  have e1 : ∀ q, q < 590 → kRw (fset (fset g 142 (up (g 142) 1 1)) 141 K) 1 140 q = g 140 q := fun q hq => by
    show K (590 * 1 + q) = _
    rw [hK, if_pos (by omega), show 590 * 1 + q - 590 = q by omega]
  have e0 : ∀ q, q < 590 → kRw (fset (fset g 142 (up (g 142) 1 1)) 141 K) 0 140 q = kRw g 0 140 q := fun q hq => by
    show K (590 * 0 + q) = g 141 (590 * 0 + q)
    rw [hK, if_neg (by omega)]
  refine ⟨hI.mono (Nat.le_succ _), h.len, h.txt, h.rg.keep rfl rfl, h.rt.keep rfl, h.sf, h.s4, h.s5, h.lf, h.lb, h.un, h.uh.cg (fun a h1 h2 => ?_) rfl, h.ln, h.lt, ⟨h.k0.1, fun hk => ⟨(h.k0.2 hk).1.cg h.inv.kg.1.safe (fun q hq => e0 q (by omega)), (h.k0.2 hk).2.cg2 h.inv.kt.1.safe.1 (fun q _ hq => e0 q hq)⟩⟩, ⟨rfl, fun _ => ⟨h.rg.row.cg h.inv.gram.safe (fun q hq => e1 q (by omega)), h.rt.cg2 h.inv.tok.safe.1 (fun q _ hq => e1 q hq)⟩⟩, fun q => ?_, h.b3, h.b5, h.b8, h.b61, h.b62, h.b63⟩
  · unfold kHold tcp gcp
    rw [fset_n (by omega), fset_n (by omega), fset_n (by omega), fset_n (by omega), fset_n (by omega), fset_n (by omega), fset_n (by omega), fset_n (by omega), fset_n (by omega), fset_n (by omega), fset_n (by omega), fset_n (by omega), fset_n (by omega), fset_n (by omega), fset_n (by omega)]
  · show K q < _
    rw [hK]
    split
    · exact h.sf.1 _
    · exact h.b1 _
theorem Rel.again0 {L : Nat} {f g : Nat → Nat → Nat} {o P F B : Nat → Nat} (h : Rel L f o g) (hk : f 95 0 ≠ 0) (hI : CInv L (chg (kAgain 95 f))) (s4 : SafeM F) (s5 : SafeM B) (rg : RelG (fset (fset (fset (fset g 155 B) 154 F) 153 P) 140 (kRi g 0 590)) (f 96 0) (f 97) (f 98) (f 99) (f 100) (f 101) (f 102)) (lf : IsLfp (f 96 0) (frR (f 98) (f 99) (f 101) (f 102)) F) (lb : IsLfp (f 96 0) (brR (f 98) (f 99) (f 101) (f 102)) B) : Rel (L + 1) (chg (kAgain 95 f)) (up (up o 0 0) 5 0) (fset (fset (fset (fset g 155 B) 154 F) 153 P) 140 (kRi g 0 590)) := by
  obtain ⟨-, hT⟩ := h.k0.row hk h.inv.kg.1.safe h.inv.kt.1.safe.1
  refine ⟨hI.mono (Nat.le_succ _), h.len, h.txt, rg, hT.keep rfl, ⟨fun q => ?_, h.sf.2⟩, s4, s5, lf, lb, rfl, fun k hk => absurd hk (Nat.not_lt_zero _), h.ln, h.lt, ⟨h.k0.1, fun hk => h.k0.2 hk⟩, ⟨h.k1.1, fun hk => h.k1.2 hk⟩, h.b1, h.b3, h.b5, h.b8, h.b61, h.b62, h.b63⟩
  show kRi g 0 590 q < _
  unfold kRi
  split
  · exact h.b1 _
  · exact h.sf.1 _
theorem Rel.again1 {L : Nat} {f g : Nat → Nat → Nat} {o P F B : Nat → Nat} (h : Rel L f o g) (hk : f 110 0 ≠ 0) (hI : CInv L (chg (kAgain 110 f))) (s4 : SafeM F) (s5 : SafeM B) (rg : RelG (fset (fset (fset (fset g 155 B) 154 F) 153 P) 140 (kRi g 1 590)) (f 111 0) (f 112) (f 113) (f 114) (f 115) (f 116) (f 117)) (lf : IsLfp (f 111 0) (frR (f 113) (f 114) (f 116) (f 117)) F) (lb : IsLfp (f 111 0) (brR (f 113) (f 114) (f 116) (f 117)) B) : Rel (L + 1) (chg (kAgain 110 f)) (up (up o 0 0) 5 0) (fset (fset (fset (fset g 155 B) 154 F) 153 P) 140 (kRi g 1 590)) := by
  obtain ⟨-, hT⟩ := h.k1.row hk h.inv.kg.2.safe h.inv.kt.2.safe.1
  refine ⟨hI.mono (Nat.le_succ _), h.len, h.txt, rg, hT.keep rfl, ⟨fun q => ?_, h.sf.2⟩, s4, s5, lf, lb, rfl, fun k hk => absurd hk (Nat.not_lt_zero _), h.ln, h.lt, ⟨h.k0.1, fun hk => h.k0.2 hk⟩, ⟨h.k1.1, fun hk => h.k1.2 hk⟩, h.b1, h.b3, h.b5, h.b8, h.b61, h.b62, h.b63⟩
  show kRi g 1 590 q < _
  unfold kRi
  split
  · exact h.b1 _
  · exact h.sf.1 _
