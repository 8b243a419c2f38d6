/-! HISTORY and what a change forgets, purely -/
def fpast (f : Nat → Nat → Nat) (e c : Nat) (sg li co : Nat → Nat) : Nat → Nat → Nat := fset (fset (fset (fset f (52 + 4 * e + 3) co) (52 + 4 * e + 2) li) (52 + 4 * e + 1) sg) (52 + 4 * e) (up (f (52 + 4 * e)) 0 c)
def hRem (f : Nat → Nat → Nat) : Nat → Nat → Nat := fset (fpast f (f 50 1) (f 30 0) (f 31) (f 32) (f 33)) 50 (up (up (f 50) 1 ((f 50 1 + 1) % 10)) 0 (min (f 50 0 + 1) 10))
def chg (f : Nat → Nat → Nat) : Nat → Nat → Nat := fset (fset (fset f 0 (up (up (f 0) 16 0) 17 4294967294)) 34 (up (f 34) 2 0)) 134 (up (f 134) 0 0)
theorem past_seg {M : zM} {f : Nat → Nat → Nat} (h : CC M f) {e : Nat} (he : e < 10) : Seg M (52 + 4 * e) (tokL (52 + 4 * e) (f (52 + 4 * e) 0, f (52 + 4 * e + 1), f (52 + 4 * e + 2), f (52 + 4 * e + 3))) := by
  obtain rfl | rfl | rfl | rfl | rfl | rfl | rfl | rfl | rfl | rfl : e = 0 ∨ e = 1 ∨ e = 2 ∨ e = 3 ∨ e = 4 ∨ e = 5 ∨ e = 6 ∨ e = 7 ∨ e = 8 ∨ e = 9 := by omega
  all_goals exact seg4 (h.1 _ (by decide) (by decide) (by decide)) (h.1 _ (by decide) (by decide) (by decide)) (h.1 _ (by decide) (by decide) (by decide)) (h.1 _ (by decide) (by decide) (by decide))
theorem CC.past5 {M M1 : zM} {f : Nat → Nat → Nat} {e c : Nat} {sg li co g : Nat → Nat} (he : e < 10) (h : CC M f) (hs : Sm M M1 [50, 52 + 4 * e, 52 + 4 * e + 1, 52 + 4 * e + 2, 52 + 4 * e + 3]) (h50 : M1[50]? = some (ccl 50 g)) (hT : Seg M1 (52 + 4 * e) (tokL (52 + 4 * e) (c, sg, li, co))) : CC M1 (fset (fpast f e c sg li co) 50 g) := by
  obtain rfl | rfl | rfl | rfl | rfl | rfl | rfl | rfl | rfl | rfl : e = 0 ∨ e = 1 ∨ e = 2 ∨ e = 3 ∨ e = 4 ∨ e = 5 ∨ e = 6 ∨ e = 7 ∨ e = 8 ∨ e = 9 := by omega
  all_goals exact CC.of h hs (by decide) (d1_cons h50 (d1_cons (hT.get 0 rfl) (d1_cons (hT.get 1 rfl) (d1_cons (hT.get 2 rfl) (d1_cons (hT.get 3 rfl) d1_nil))))) (fs_c (fs_c (fs_c (fs_c (fs_c fs_n)))))
theorem fset_n {f : Nat → Nat → Nat} {k a : Nat} {g : Nat → Nat} (h : a ≠ k) : fset f k g a = f a := if_neg h
theorem fset_s {f : Nat → Nat → Nat} {k : Nat} {g : Nat → Nat} : fset f k g k = g := if_pos rfl
theorem hRem_out {f : Nat → Nat → Nat} {a : Nat} (he : f 50 1 < 10) (h : a < 50 ∨ 91 < a) : hRem f a = f a := by
  unfold hRem fpast
  rw [fset_n (by omega), fset_n (by omega), fset_n (by omega), fset_n (by omega), fset_n (by omega)]
theorem hRem_50 {f : Nat → Nat → Nat} : hRem f 50 = up (up (f 50) 1 ((f 50 1 + 1) % 10)) 0 (min (f 50 0 + 1) 10) := fset_s
theorem hRem_new {f : Nat → Nat → Nat} : hRem f (52 + 4 * f 50 1) 0 = f 30 0 ∧ hRem f (52 + 4 * f 50 1 + 1) = f 31 ∧ hRem f (52 + 4 * f 50 1 + 2) = f 32 ∧ hRem f (52 + 4 * f 50 1 + 3) = f 33 := by
  unfold hRem fpast
  refine ⟨?_, ?_, ?_, ?_⟩
  · rw [fset_n (by omega), fset_s]; rfl
  · rw [fset_n (by omega), fset_n (by omega), fset_s]
  · rw [fset_n (by omega), fset_n (by omega), fset_n (by omega), fset_s]
  · rw [fset_n (by omega), fset_n (by omega), fset_n (by omega), fset_n (by omega), fset_s]
theorem hRem_old {f : Nat → Nat → Nat} {k j : Nat} (hk : k ≠ f 50 1) (hj : j < 4) : hRem f (52 + 4 * k + j) = f (52 + 4 * k + j) := by
  unfold hRem fpast
  rw [fset_n (by omega), fset_n (by omega), fset_n (by omega), fset_n (by omega), fset_n (by omega)]
theorem CBase.past1 {L : Nat} {f g : Nat → Nat → Nat} (h : CBase L f) (h1 : g 50 0 ≤ 10) (h2 : g 50 1 < 10) (hp : p10 (fun a => tAt (TOK L) g a)) : CBase L (fun a => if a < 50 ∨ 91 < a then f a else g a) :=
  ⟨h.tl, h.tx, h.gram, h.tok, h.bef, h.grn, h.mvd, h1, h2, hp, h.lln, h.kh, h.kg, h.kt, h.cst, h.csw, h.csr, h.ost, h.osw, h.osr, h.tst, h.rkn, h.fnd, h.ofs⟩
theorem CBase.past2 {L : Nat} {f g : Nat → Nat → Nat} (h : CBase L f) (hg : ∀ a, a < 50 ∨ 91 < a → g a = f a) (h1 : g 50 0 ≤ 10) (h2 : g 50 1 < 10) (hp : p10 (fun a => tAt (TOK L) g a)) : CBase L g := by
  have e : g = (fun a => if a < 50 ∨ 91 < a then f a else g a) := by
    funext a
    by_cases q : a < 50 ∨ 91 < a
    · rw [if_pos q, hg a q]
    · rw [if_neg q]
  rw [e]
  exact h.past1 h1 h2 hp
theorem CBase.hrem {L : Nat} {f : Nat → Nat → Nat} (h : CBase L f) (hb : tAt (TOK L) f 30) : CBase L (hRem f) := by
  refine h.past2 (fun a ha => hRem_out h.hen ha) ?_ ?_ (p10_of (fun k hk => ?_))
  · rw [hRem_50]; show min _ _ ≤ _; omega
  · rw [hRem_50]; show _ % 10 < _; omega
  · by_cases e : k = f 50 1
    · subst e
      obtain ⟨e0, e1, e2, e3⟩ := @hRem_new f
      show TOK L _ _ _ _
      rw [e0, e1, e2, e3]; exact hb
    · have e0 := @hRem_old f k 0 e (by decide)
      have e1 := @hRem_old f k 1 e (by decide)
      have e2 := @hRem_old f k 2 e (by decide)
      have e3 := @hRem_old f k 3 e (by decide)
      show TOK L _ _ _ _
      rw [show hRem f (52 + 4 * k) = f (52 + 4 * k) from e0, e1, e2, e3]
      exact p10_get h.past k hk
theorem CBase.chg {L : Nat} {f : Nat → Nat → Nat} (h : CBase L f) : CBase L (chg f) :=
  ⟨h.tl, h.tx, h.gram, h.tok, h.bef, h.grn, h.mvd, h.hsz, h.hen, h.past, h.lln, h.kh, h.kg, h.kt, Nat.zero_le _, h.csw, h.csr, h.ost, h.osw, h.osr, Nat.zero_le _, Nat.zero_le _, h.fnd, h.ofs⟩
theorem CInv.chg {L : Nat} {f : Nat → Nat → Nat} (h : CBase L f) : CInv L (chg f) := ⟨h.chg, fun q => absurd rfl q, fun q => absurd rfl q, fun q => absurd rfl q, fun q => absurd rfl q⟩
theorem TOK.mono {L L1 c : Nat} {sg li co : Nat → Nat} (h : TOK L c sg li co) (hl : L ≤ L1) : TOK L1 c sg li co := ⟨h.safe, fun q => Nat.lt_of_lt_of_le (h.lin q) hl, h.sgn, h.srt⟩
theorem TAny.mono {L L1 c : Nat} {sg li co : Nat → Nat} (h : TAny L c sg li co) (hl : L ≤ L1) : TAny L1 c sg li co := ⟨h.1, fun q => Nat.lt_of_lt_of_le (h.2 q) hl⟩
theorem TOK.any {L c : Nat} {sg li co : Nat → Nat} (h : TOK L c sg li co) : TAny L c sg li co := ⟨h.safe, h.lin⟩
theorem CBase.mono {L L1 : Nat} {f : Nat → Nat → Nat} (h : CBase L f) (hl : L ≤ L1) : CBase L1 f :=
  ⟨h.tl, h.tx, h.gram, h.tok.mono hl, h.bef.mono hl, h.grn.mono hl, h.mvd.mono hl, h.hsz, h.hen, p10_of (fun k hk => (p10_get h.past k hk).mono hl), h.lln, h.kh, h.kg, ⟨h.kt.1.mono hl, h.kt.2.mono hl⟩, h.cst, h.csw, h.csr, h.ost, h.osw, h.osr, h.tst, h.rkn, h.fnd, h.ofs⟩
theorem CInv.mono {L L1 : Nat} {f : Nat → Nat → Nat} (h : CInv L f) (hl : L ≤ L1) : CInv L1 f := ⟨h.base.mono hl, h.cok, h.blm, h.tre, h.rep⟩
/-- what a change of the tokens leaves -/
def Core1 (f f9 : Nat → Nat → Nat) : Prop := f9 0 1 = f 0 1 ∧ f9 1 = f 1 ∧ (∀ a, 16 ≤ a → a ≤ 25 → f9 a = f a) ∧ (∀ a, 92 ≤ a → a ≤ 124 → f9 a = f a)
/-- and it is remembered -/
def ActS (f f9 : Nat → Nat → Nat) : Prop := Core1 f f9 ∧ f9 50 0 = min (f 50 0 + 1) 10 ∧ f9 50 1 = (f 50 1 + 1) % 10 ∧ (f9 (52 + 4 * f 50 1) 0 = f 26 0 ∧ f9 (52 + 4 * f 50 1 + 1) = f 27 ∧ f9 (52 + 4 * f 50 1 + 2) = f 28 ∧ f9 (52 + 4 * f 50 1 + 3) = f 29) ∧ ∀ k j, k < 10 → k ≠ f 50 1 → j < 4 → f9 (52 + 4 * k + j) = f (52 + 4 * k + j)
theorem chg_at {f : Nat → Nat → Nat} {a : Nat} (h : a ≠ 0) (h1 : a ≠ 34) (h2 : a ≠ 134) : chg f a = f a := by
  unfold chg
  rw [fset_n h2, fset_n h1, fset_n h]
theorem ActS.of {f f1 : Nat → Nat → Nat} (he : f 50 1 < 10) (hf : ∀ a, (a < 26 ∨ 33 < a) → f1 a = f a) (hb : f1 30 0 = f 26 0 ∧ f1 31 = f 27 ∧ f1 32 = f 28 ∧ f1 33 = f 29) : ActS f (chg (hRem f1)) := by
  have h50 : f1 50 = f 50 := hf 50 (by omega)
  have he1 : f1 50 1 < 10 := by rw [h50]; exact he
  refine ⟨⟨?_, ?_, fun a a1 a2 => ?_, fun a a1 a2 => ?_⟩, ?_, ?_, ?_, fun k j hk hn hj => ?_⟩
  · show hRem f1 0 1 = _; rw [hRem_out he1 (by omega), hf 0 (by omega)]
  · rw [chg_at (by omega) (by omega) (by omega), hRem_out he1 (by omega), hf 1 (by omega)]
  · rw [chg_at (by omega) (by omega) (by omega), hRem_out he1 (by omega), hf a (by omega)]
  · rw [chg_at (by omega) (by omega) (by omega), hRem_out he1 (by omega), hf a (by omega)]
  · rw [chg_at (by omega) (by omega) (by omega), hRem_50, h50]; rfl
  · rw [chg_at (by omega) (by omega) (by omega), hRem_50, h50]; rfl
  · obtain ⟨e0, e1, e2, e3⟩ := @hRem_new f1
    rw [h50] at e0 e1 e2 e3
    rw [chg_at (by omega) (by omega) (by omega), chg_at (by omega) (by omega) (by omega), chg_at (by omega) (by omega) (by omega), chg_at (by omega) (by omega) (by omega), e0, e1, e2, e3]
    exact hb
  · rw [chg_at (by omega) (by omega) (by omega), hRem_old (by rw [h50]; exact hn) hj, hf _ (by omega)]
def hBack (f : Nat → Nat → Nat) : Nat → Nat → Nat := fset (fset (fset (fset (fset f 29 (f (52 + 4 * ((f 50 1 + 9) % 10) + 3))) 28 (f (52 + 4 * ((f 50 1 + 9) % 10) + 2))) 27 (f (52 + 4 * ((f 50 1 + 9) % 10) + 1))) 26 (up (f 26) 0 (f (52 + 4 * ((f 50 1 + 9) % 10)) 0))) 50 (up (up (f 50) 0 (f 50 0 - 1)) 1 ((f 50 1 + 9) % 10))
theorem act_tok {f1 : Nat → Nat → Nat} (he : f1 50 1 < 10) : chg (hRem f1) 26 = f1 26 ∧ chg (hRem f1) 27 = f1 27 ∧ chg (hRem f1) 28 = f1 28 ∧ chg (hRem f1) 29 = f1 29 :=
  ⟨hRem_out (a := 26) he (by omega), hRem_out (a := 27) he (by omega), hRem_out (a := 28) he (by omega), hRem_out (a := 29) he (by omega)⟩
theorem act_out {f f1 : Nat → Nat → Nat} {S : List Nat} (h : ∀ a, a ∉ S → f1 a = f a) (hs : ∀ a, a ∈ S → 26 ≤ a ∧ a ≤ 33) : ∀ a, (a < 26 ∨ 33 < a) → f1 a = f a := fun a ha => h a (fun q => by have := hs a q; omega)
theorem Asame.of1 {f f9 : Nat → Nat → Nat} {b : Nat} {S : List Nat} (hb : f9 b = f b) (hf : ∀ a, a ∉ b :: S → f9 a = f a) (h0 : f9 0 1 = f 0 1) (hd : ∀ a, a ∈ S → coreB a = false) : Asame f f9 := ⟨h0, fun a ha => if e : a = b then e ▸ hb else hf a (fun q => by
  rcases List.mem_cons.mp q with q | q
  · exact e q
  · rw [hd a q] at ha; cases ha)⟩
theorem fs_d {f f' : Nat → Nat → Nat} {S : List Nat} {b : Nat} {g : Nat → Nat} (h : ∀ a, a ∉ b :: S → f' a = f a) : ∀ a, a ∉ (b :: S) → fset f' b g a = f a := fun a ha => by
  rw [fset_n (fun e => ha (List.mem_cons.mpr (Or.inl e)))]
  exact h a ha
