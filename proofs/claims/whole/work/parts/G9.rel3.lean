theorem UnR.cg {f f9 g g9 : Nat → Nat → Nat} (h : UnR f g) (e : ∀ a, 50 ≤ a → a ≤ 91 → f9 a = f a) (eg : g9 143 = g 143) : UnR f9 g9 := by
  intro k hk
  have e50 : f9 50 = f 50 := e 50 (by decide) (by decide)
  rw [e50] at hk
  have hu : uix f9 k = uix f k := by unfold uix; rw [e50]
  have hm : (f 50 1 + 10 - f 50 0 + k) % 10 < 10 := Nat.mod_lt _ (by decide)
  have hc : ∀ j, j < 4 → f9 (uix f k + j) = f (uix f k + j) := fun j hj => e _ (by unfold uix; omega) (by unfold uix; omega)
  rw [hu, eg, show f9 (uix f k) = f (uix f k) from hc 0 (by decide), hc 1 (by decide), hc 2 (by decide), hc 3 (by decide)]
  exact h k hk
theorem KpR.cg {f f9 g g9 : Nat → Nat → Nat} {k j : Nat} (h : KpR f g k j) (e : ∀ a, k ≤ a → a ≤ k + 14 → f9 a = f a) (e1 : g9 141 = g 141) (e2 : g9 142 j = g 142 j) : KpR f9 g9 k j := by
  have ek : kRw g9 j = kRw g j := by unfold kRw; rw [e1]
  unfold KpR
  rw [ek, e2, e k (by omega) (by omega), e (k + 1) (by omega) (by omega), e (k + 2) (by omega) (by omega), e (k + 3) (by omega) (by omega), e (k + 4) (by omega) (by omega), e (k + 5) (by omega) (by omega), e (k + 6) (by omega) (by omega), e (k + 7) (by omega) (by omega), e (k + 11) (by omega) (by omega), e (k + 12) (by omega) (by omega), e (k + 13) (by omega) (by omega), e (k + 14) (by omega) (by omega)]
  exact h
/-- what is shown of text and length may have changed -/
theorem Rel.keepG {L L1 : Nat} {f f9 g g9 : Nat → Nat → Nat} {o o9 : Nat → Nat} (h : Rel L f o g) (hI : CInv L1 f9) (e : ∀ a, coreB a = true → a ≠ 1 → f9 a = f a) (hlen : o9 7 = f9 0 1) (htxt : ∀ q, q < f9 0 1 → g9 144 q = byv (f9 1 q)) (h5 : o9 5 = o 5) (h31 : o9 31 = o 31) (hg : ∀ a, a ∈ [140, 141, 142, 143, 153, 154, 155, 156, 157, 158, 159, 160, 161, 162, 163, 164] → g9 a = g a) (b5 : ∀ q, g9 145 q < 2147483648) (b8 : ∀ q, g9 148 q ≤ 1) : Rel L1 f9 o9 g9 := by
  have e140 := hg 140 (by decide)
  have e16 : f9 16 = f 16 := e 16 (by decide) (by decide)
  have e17 : f9 17 = f 17 := e 17 (by decide) (by decide)
  have e18 : f9 18 = f 18 := e 18 (by decide) (by decide)
  have e19 : f9 19 = f 19 := e 19 (by decide) (by decide)
  have e20 : f9 20 = f 20 := e 20 (by decide) (by decide)
  have e21 : f9 21 = f 21 := e 21 (by decide) (by decide)
  have e22 : f9 22 = f 22 := e 22 (by decide) (by decide)
  have ec : ∀ a, 50 ≤ a → a ≤ 93 → f9 a = f a := fun a h1 h2 => e a (by unfold coreB; simp [h1, h2]) (by omega)
  have ek : ∀ a, 95 ≤ a → a ≤ 124 → f9 a = f a := fun a h1 h2 => e a (by unfold coreB; simp [h1, h2]) (by omega)
  refine ⟨hI, hlen, htxt, ?_, ?_, ⟨?_, ?_, ?_, ?_, ?_, ?_⟩, ?_, ?_, ?_, ?_, ?_, ?_, ?_, ?_, ?_, ?_, ?_, ?_, b5, b8, ?_, ?_, ?_⟩
  · rw [e16, e17, e18, e19, e20, e21, e22]; exact h.rg.keep e140 (hg 153 (by decide))
  · rw [e 26 (by decide) (by decide), e 27 (by decide) (by decide), e 28 (by decide) (by decide), e 29 (by decide) (by decide)]; exact h.rt.keep e140
  · rw [e140]; exact h.sf.1
  · rw [hg 156 (by decide)]; exact h.sf.2.1
  · rw [hg 157 (by decide)]; exact h.sf.2.2.1
  · rw [hg 158 (by decide)]; exact h.sf.2.2.2.1
  · rw [hg 159 (by decide)]; exact h.sf.2.2.2.2.1
  · rw [hg 160 (by decide)]; exact h.sf.2.2.2.2.2
  · rw [hg 154 (by decide)]; exact h.s4
  · rw [hg 155 (by decide)]; exact h.s5
  · rw [hg 154 (by decide), e16, e18, e19, e21, e22]; exact h.lf
  · rw [hg 155 (by decide), e16, e18, e19, e21, e22]; exact h.lb
  · rw [h5, ec 50 (by decide) (by decide)]; exact h.un
  · exact h.uh.cg (fun a h1 h2 => ec a h1 (by omega)) (hg 143 (by decide))
  · rw [h31, ec 92 (by decide) (by decide)]; exact h.ln
  · rw [ec 92 (by decide) (by decide), ec 93 (by decide) (by decide), hg 164 (by decide)]; exact h.lt
  · exact h.k0.cg (fun a h1 h2 => ek a (by omega) (by omega)) (hg 141 (by decide)) (by rw [hg 142 (by decide)])
  · exact h.k1.cg (fun a h1 h2 => ek a (by omega) (by omega)) (hg 141 (by decide)) (by rw [hg 142 (by decide)])
  · rw [hg 141 (by decide)]; exact h.b1
  · rw [hg 143 (by decide)]; exact h.b3
  · rw [hg 161 (by decide)]; exact h.b61
  · rw [hg 162 (by decide)]; exact h.b62
  · rw [hg 163 (by decide)]; exact h.b63
theorem Rel.no {L : Nat} {f f9 g : Nat → Nat → Nat} {o : Nat → Nat} (h : Rel L f o g) (hI : CInv (L + 1) f9) (ha : Asame f f9) : Rel (L + 1) f9 (up o 0 0) g := h.keep hI ha rfl rfl rfl (fun _ _ => rfl) h.sf h.b61 h.b62 h.b63
theorem Rel.no1 {L : Nat} {f f9 g : Nat → Nat → Nat} {o : Nat → Nat} (h : Rel L f o g) (hI : CInv L f9) (ha : Asame f f9) : Rel (L + 1) f9 (up o 0 0) g := h.no (hI.mono (Nat.le_succ _)) ha
/-- the reference has used rows of its own -/
theorem Rel.kF {L : Nat} {f f9 g g9 : Nat → Nat → Nat} {o o9 : Nat → Nat} {S : List Nat} (h : Rel L f o g) (hI : CInv L f9) (ha : Asame f f9) (h5 : o9 5 = o 5) (h7 : o9 7 = o 7) (h31 : o9 31 = o 31) (hFs : Fsame g g9 S) (hS : ∀ a, a ∈ [140, 141, 142, 143, 144, 145, 148, 153, 154, 155, 162, 163, 164] → a ∉ S) (hsf : SafeF g9) (h61 : SafeM (g9 161)) : Rel (L + 1) f9 o9 g9 := h.keep (hI.mono (Nat.le_succ _)) ha h5 h7 h31 (fun a ha => hFs a (hS a ((by decide : ∀ a, a ∈ [140, 141, 142, 143, 144, 145, 148, 153, 154, 155, 164] → a ∈ [140, 141, 142, 143, 144, 145, 148, 153, 154, 155, 162, 163, 164]) a ha))) hsf h61 (by rw [hFs 162 (hS 162 (by decide))]; exact h.b62) (by rw [hFs 163 (hS 163 (by decide))]; exact h.b63)
theorem Rel.actM {L c1 : Nat} {f f9 g : Nat → Nat → Nat} {o R U sg1 li1 co1 : Nat → Nat} (h : Rel L f o g) (hI : CInv (L + 1) f9) (ha : ActS f f9) (hU : UnS (o 5) (g 143) (g 140) U) (hr : ∀ q, q < 529 → R q = g 140 q) (hb : ∀ q, R q < 2147483648) (ht : RelT (fset g 140 R) c1 sg1 li1 co1) (ec : f9 26 0 = c1) (et : ∀ q, q < c1 → f9 27 q = sg1 q ∧ f9 28 q = li1 q ∧ f9 29 q = co1 q) : Rel (L + 1) f9 (up (up o 0 0) 5 (if o 5 = 10 then 10 else o 5 + 1)) (fset (fset g 143 U) 140 R) := by
  refine h.act hI ha rfl rfl rfl (fun a ha => ?_) hr hb hU ?_
  · rw [fset_n (fun q => by rw [q] at ha; revert ha; decide), fset_n (fun q => by rw [q] at ha; revert ha; decide)]
  · rw [ec]
    exact (ht.keep rfl).cg et
theorem Rel.sign {L : Nat} {f g : Nat → Nat → Nat} {o : Nat → Nat} {a b c d : Nat} (h : Rel L f o g) (hI : CInv L (fset (fset f 1 (up (up (up (up (f 1) (f 0 1) a) (f 0 1 + 1) b) (f 0 1 + 1 + 1) c) (f 0 1 + 1 + 1 + 1) d)) 0 (up (f 0) 1 (f 0 1 + 1 + 1 + 1 + 1)))) : Rel (L + 1) (fset (fset f 1 (up (up (up (up (f 1) (f 0 1) a) (f 0 1 + 1) b) (f 0 1 + 1 + 1) c) (f 0 1 + 1 + 1 + 1) d)) 0 (up (f 0) 1 (f 0 1 + 1 + 1 + 1 + 1))) (up (up o 0 0) 7 (o 7 + 1 + 1 + 1 + 1)) (fset g 144 (up (up (up (up (g 144) (o 7) (byv a)) (o 7 + 1) (byv b)) (o 7 + 1 + 1) (byv c)) (o 7 + 1 + 1 + 1) (byv d))) := by
  have hl := h.len
  refine h.keepG (hI.mono (Nat.le_succ _)) (fun a ha h1 => ?_) (show o 7 + 1 + 1 + 1 + 1 = f 0 1 + 1 + 1 + 1 + 1 by rw [hl]) (fun q hq => ?_) rfl rfl (fun a ha => fset_n (fun q => by rw [q] at ha; revert ha; decide)) h.b5 h.b8
  · rw [fset_n (fun q => by rw [q] at ha; revert ha; decide), fset_n h1]
  · have hq1 : q < f 0 1 + 1 + 1 + 1 + 1 := hq
    show up (up (up (up (g 144) (o 7) (byv a)) (o 7 + 1) (byv b)) (o 7 + 1 + 1) (byv c)) (o 7 + 1 + 1 + 1) (byv d) q = byv (up (up (up (up (f 1) (f 0 1) a) (f 0 1 + 1) b) (f 0 1 + 1 + 1) c) (f 0 1 + 1 + 1 + 1) d q)
    rw [hl]
    by_cases e3 : q = f 0 1 + 1 + 1 + 1
    · rw [e3, up_s, up_s]
    · rw [up_n e3, up_n e3]
      by_cases e2 : q = f 0 1 + 1 + 1
      · rw [e2, up_s, up_s]
      · rw [up_n e2, up_n e2]
        by_cases e1 : q = f 0 1 + 1
        · rw [e1, up_s, up_s]
        · rw [up_n e1, up_n e1]
          by_cases e0 : q = f 0 1
          · rw [e0, up_s, up_s]
          · rw [up_n e0, up_n e0]; exact h.txt q (by omega)
theorem Rel.shut {L x : Nat} {f g : Nat → Nat → Nat} {o : Nat → Nat} (h : Rel L f o g) (hx : x ≤ f 0 1) (hI : CInv L (fset f 0 (up (f 0) 1 x))) : Rel (L + 1) (fset f 0 (up (f 0) 1 x)) (up (up o 0 0) 7 x) g :=
  h.keepG (hI.mono (Nat.le_succ _)) (fun a ha h1 => fset_n (fun q => by rw [q] at ha; revert ha; decide)) rfl (fun q hq => h.txt q (by have : q < x := hq; omega)) rfl rfl (fun _ _ => rfl) h.b5 h.b8
/-- the line that is written or printed -/
theorem Rel.line {L n9 : Nat} {f f9 g : Nat → Nat → Nat} {o g9 : Nat → Nat} {l : List Nat} (h : Rel L f o g) (hI : CInv L f9) (hf : ∀ a, a ≠ 92 → a ≠ 93 → f9 a = f a) (h1 : Lt (f9 92 0) (f9 93) l) (h2 : Lt n9 g9 l) : Rel (L + 1) f9 (up (up o 0 0) 31 n9) (fset g 164 g9) := by
  have e : ∀ a, a < 92 → f9 a = f a := fun a ha => hf a (by omega) (by omega)
  have e2 : ∀ a, 93 < a → f9 a = f a := fun a ha => hf a (by omega) (by omega)
  have hn : n9 = f9 92 0 := h2.1.trans h1.1.symm
  refine ⟨hI.mono (Nat.le_succ _), ?_, ?_, ?_, ?_, h.sf, h.s4, h.s5, ?_, ?_, ?_, ?_, hn, fun q hq => ?_, ?_, ?_, h.b1, h.b3, h.b5, h.b8, h.b61, h.b62, h.b63⟩
  · show o 7 = f9 0 1; rw [e 0 (by decide)]; exact h.len
  · rw [e 0 (by decide), e 1 (by decide)]; exact h.txt
  · rw [e 16 (by decide), e 17 (by decide), e 18 (by decide), e 19 (by decide), e 20 (by decide), e 21 (by decide), e 22 (by decide)]; exact h.rg.keep rfl rfl
  · rw [e 26 (by decide), e 27 (by decide), e 28 (by decide), e 29 (by decide)]; exact h.rt.keep rfl
  · rw [e 16 (by decide), e 18 (by decide), e 19 (by decide), e 21 (by decide), e 22 (by decide)]; exact h.lf
  · rw [e 16 (by decide), e 18 (by decide), e 19 (by decide), e 21 (by decide), e 22 (by decide)]; exact h.lb
  · show o 5 = f9 50 0; rw [e 50 (by decide)]; exact h.un
  · exact h.uh.cg (fun a h1 h2 => e a (by omega)) rfl
  · show g9 q = f9 93 q
    rw [h2.2 q (by omega), h1.2 q hq]
  · exact h.k0.cg (fun a h1 h2 => e2 a (by omega)) rfl rfl
  · exact h.k1.cg (fun a h1 h2 => e2 a (by omega)) rfl rfl
