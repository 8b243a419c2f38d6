/-! THE INVARIANT: what the cells of both sides hold between two calls -/
/-- the least columns that are closed -/
def IsLfp (n : Nat) (F : (Nat → Nat) → Nat → Nat) (fr : Nat → Nat) : Prop := (∀ r, r < n → fr r = F fr r) ∧ ∀ g : Nat → Nat, SafeM g → (∀ r, r < n → bitsub (F g r) (g r)) → ∀ r, r < n → bitsub (fr r) (g r)
/-- a rule can be empty if all items of one of its alts can -/
def emA (tg it : Nat → Nat) (e : Nat → Bool) (a : Nat) : Prop := ∀ k, k < it a → tg (a * 5 + k) ≠ NO ∧ e (tg (a * 5 + k)) = true
def emR (al_ it tg : Nat → Nat) (e : Nat → Bool) (r : Nat) : Prop := ∃ a, a < al_ r ∧ emA tg it e (r * 4 + a)
def IsEmp (n : Nat) (al_ it tg : Nat → Nat) (e : Nat → Bool) : Prop := (∀ r, r < n → (e r = true ↔ emR al_ it tg e r)) ∧ ∀ g : Nat → Bool, (∀ r, r < n → emR al_ it tg g r → g r = true) → ∀ r, r < n → e r = true → g r = true
/-- a grammar as it stands in the rules -/
def GOK (n : Nat) (gn al_ it pt tg bd : Nat → Nat) (em : Nat) (fr af fb : Nat → Nat) : Prop := (SafeG n gn al_ it pt tg bd) ∧ (SafeM fr) ∧ (SafeM af) ∧ (SafeM fb) ∧ (em < 256) ∧ (∀ r, r < n → 65 ≤ gn r ∧ gn r ≤ 90) ∧ (∀ r, r < n → 1 ≤ al_ r) ∧ (∀ x, Slt n al_ it x → (tg x = NO → 33 ≤ pt x ∧ pt x ≤ 126) ∧ (tg x ≠ NO → tg x < n ∧ srch (fun q => gn q == pt x) 0 n = tg x)) ∧ (∀ x, Slt n al_ it x → bd x = 0 ∨ bd x = 61 ∨ bd x = 62 ∨ bd x = 42) ∧ (∃ emp rk, Acyc (gE al_ it tg pt bd (fun _ => 0) (fun _ => 0)) n emp rk) ∧ (IsLfp n (frR al_ it tg bd) fr) ∧ (∀ r a, r < n → a < al_ r → af (r * 4 + a) = frA tg bd it fr (r * 4 + a)) ∧ (∀ r a k, r < n → a < al_ r → k < it (r * 4 + a) → fb ((r * 4 + a) * 5 + k) = andR (fun j => frI tg bd fr ((r * 4 + a) * 5 + j)) (k + 1) (it (r * 4 + a) - (k + 1))) ∧ (IsEmp n al_ it tg (fun r => em.testBit r))
theorem GOK.safe {n : Nat} {gn al_ it pt tg bd : Nat → Nat} {em : Nat} {fr af fb : Nat → Nat} (h : GOK n gn al_ it pt tg bd em fr af fb) : SafeG n gn al_ it pt tg bd := h.1
theorem GOK.sfr {n : Nat} {gn al_ it pt tg bd : Nat → Nat} {em : Nat} {fr af fb : Nat → Nat} (h : GOK n gn al_ it pt tg bd em fr af fb) : SafeM fr := h.2.1
theorem GOK.saf {n : Nat} {gn al_ it pt tg bd : Nat → Nat} {em : Nat} {fr af fb : Nat → Nat} (h : GOK n gn al_ it pt tg bd em fr af fb) : SafeM af := h.2.2.1
theorem GOK.sfb {n : Nat} {gn al_ it pt tg bd : Nat → Nat} {em : Nat} {fr af fb : Nat → Nat} (h : GOK n gn al_ it pt tg bd em fr af fb) : SafeM fb := h.2.2.2.1
theorem GOK.sem {n : Nat} {gn al_ it pt tg bd : Nat → Nat} {em : Nat} {fr af fb : Nat → Nat} (h : GOK n gn al_ it pt tg bd em fr af fb) : em < 256 := h.2.2.2.2.1
theorem GOK.nms {n : Nat} {gn al_ it pt tg bd : Nat → Nat} {em : Nat} {fr af fb : Nat → Nat} (h : GOK n gn al_ it pt tg bd em fr af fb) : ∀ r, r < n → 65 ≤ gn r ∧ gn r ≤ 90 := h.2.2.2.2.2.1
theorem GOK.al1 {n : Nat} {gn al_ it pt tg bd : Nat → Nat} {em : Nat} {fr af fb : Nat → Nat} (h : GOK n gn al_ it pt tg bd em fr af fb) : ∀ r, r < n → 1 ≤ al_ r := h.2.2.2.2.2.2.1
theorem GOK.prt {n : Nat} {gn al_ it pt tg bd : Nat → Nat} {em : Nat} {fr af fb : Nat → Nat} (h : GOK n gn al_ it pt tg bd em fr af fb) : ∀ x, Slt n al_ it x → (tg x = NO → 33 ≤ pt x ∧ pt x ≤ 126) ∧ (tg x ≠ NO → tg x < n ∧ srch (fun q => gn q == pt x) 0 n = tg x) := h.2.2.2.2.2.2.2.1
theorem GOK.bnd {n : Nat} {gn al_ it pt tg bd : Nat → Nat} {em : Nat} {fr af fb : Nat → Nat} (h : GOK n gn al_ it pt tg bd em fr af fb) : ∀ x, Slt n al_ it x → bd x = 0 ∨ bd x = 61 ∨ bd x = 62 ∨ bd x = 42 := h.2.2.2.2.2.2.2.2.1
theorem GOK.acy {n : Nat} {gn al_ it pt tg bd : Nat → Nat} {em : Nat} {fr af fb : Nat → Nat} (h : GOK n gn al_ it pt tg bd em fr af fb) : ∃ emp rk, Acyc (gE al_ it tg pt bd (fun _ => 0) (fun _ => 0)) n emp rk := h.2.2.2.2.2.2.2.2.2.1
theorem GOK.lfp {n : Nat} {gn al_ it pt tg bd : Nat → Nat} {em : Nat} {fr af fb : Nat → Nat} (h : GOK n gn al_ it pt tg bd em fr af fb) : IsLfp n (frR al_ it tg bd) fr := h.2.2.2.2.2.2.2.2.2.2.1
theorem GOK.aff {n : Nat} {gn al_ it pt tg bd : Nat → Nat} {em : Nat} {fr af fb : Nat → Nat} (h : GOK n gn al_ it pt tg bd em fr af fb) : ∀ r a, r < n → a < al_ r → af (r * 4 + a) = frA tg bd it fr (r * 4 + a) := h.2.2.2.2.2.2.2.2.2.2.2.1
theorem GOK.fbh {n : Nat} {gn al_ it pt tg bd : Nat → Nat} {em : Nat} {fr af fb : Nat → Nat} (h : GOK n gn al_ it pt tg bd em fr af fb) : ∀ r a k, r < n → a < al_ r → k < it (r * 4 + a) → fb ((r * 4 + a) * 5 + k) = andR (fun j => frI tg bd fr ((r * 4 + a) * 5 + j)) (k + 1) (it (r * 4 + a) - (k + 1)) := h.2.2.2.2.2.2.2.2.2.2.2.2.1
theorem GOK.emp {n : Nat} {gn al_ it pt tg bd : Nat → Nat} {em : Nat} {fr af fb : Nat → Nat} (h : GOK n gn al_ it pt tg bd em fr af fb) : IsEmp n al_ it tg (fun r => em.testBit r) := h.2.2.2.2.2.2.2.2.2.2.2.2.2
/-- tokens as they stand; L is above their lines -/
def TOK (L c : Nat) (sg li co : Nat → Nat) : Prop := (SafeT c sg li co) ∧ (∀ q, li q < L) ∧ (∀ q, q < c → 33 ≤ sg q ∧ sg q ≤ 126) ∧ (Srt c li co)
theorem TOK.safe {L c : Nat} {sg li co : Nat → Nat} (h : TOK L c sg li co) : SafeT c sg li co := h.1
theorem TOK.lin {L c : Nat} {sg li co : Nat → Nat} (h : TOK L c sg li co) : ∀ q, li q < L := h.2.1
theorem TOK.sgn {L c : Nat} {sg li co : Nat → Nat} (h : TOK L c sg li co) : ∀ q, q < c → 33 ≤ sg q ∧ sg q ≤ 126 := h.2.2.1
theorem TOK.srt {L c : Nat} {sg li co : Nat → Nat} (h : TOK L c sg li co) : Srt c li co := h.2.2.2
/-- rows of tokens that hold nothing of note -/
def TAny (L c : Nat) (sg li co : Nat → Nat) : Prop := SafeT c sg li co ∧ ∀ q, li q < L
abbrev gAt (P : Nat → (Nat → Nat) → (Nat → Nat) → (Nat → Nat) → (Nat → Nat) → (Nat → Nat) → (Nat → Nat) → Nat → (Nat → Nat) → (Nat → Nat) → (Nat → Nat) → Prop) (f : Nat → Nat → Nat) (k : Nat) : Prop := P (f k 0) (f (k + 1)) (f (k + 2)) (f (k + 3)) (f (k + 4)) (f (k + 5)) (f (k + 6)) (f k 7) (f (k + 7)) (f (k + 8)) (f (k + 9))
abbrev tAt (P : Nat → (Nat → Nat) → (Nat → Nat) → (Nat → Nat) → Prop) (f : Nat → Nat → Nat) (k : Nat) : Prop := P (f k 0) (f (k + 1)) (f (k + 2)) (f (k + 3))
/-- E of the rules at kr and the tokens at kt -/
abbrev eAt (f : Nat → Nat → Nat) (kr kt : Nat) : Nat → Nat → Nat := gE (f (kr + 2)) (f (kr + 3)) (f (kr + 5)) (f (kr + 4)) (f (kr + 6)) (f (kt + 1)) (f (kt + 3))
abbrev p10 (P : Nat → Prop) : Prop := P 52 ∧ P 56 ∧ P 60 ∧ P 64 ∧ P 68 ∧ P 72 ∧ P 76 ∧ P 80 ∧ P 84 ∧ P 88
theorem p10_get {P : Nat → Prop} (h : p10 P) : ∀ k, k < 10 → P (52 + 4 * k)
  | 0, _ => h.1
  | 1, _ => h.2.1
  | 2, _ => h.2.2.1
  | 3, _ => h.2.2.2.1
  | 4, _ => h.2.2.2.2.1
  | 5, _ => h.2.2.2.2.2.1
  | 6, _ => h.2.2.2.2.2.2.1
  | 7, _ => h.2.2.2.2.2.2.2.1
  | 8, _ => h.2.2.2.2.2.2.2.2.1
  | 9, _ => h.2.2.2.2.2.2.2.2.2
  | k + 10, hk => by omega
theorem p10_of {P : Nat → Prop} (h : ∀ k, k < 10 → P (52 + 4 * k)) : p10 P := ⟨h 0 (by decide), h 1 (by decide), h 2 (by decide), h 3 (by decide), h 4 (by decide), h 5 (by decide), h 6 (by decide), h 7 (by decide), h 8 (by decide), h 9 (by decide)⟩
/-- what stands at all times, whatever was computed ahead -/
def CBase (L : Nat) (f : Nat → Nat → Nat) : Prop := (f 0 1 ≤ 240) ∧ (∀ q, f 1 q < 256) ∧ (gAt GOK f 16) ∧ (tAt (TOK L) f 26) ∧ (tAt (TAny L) f 30) ∧ (tAt (TAny L) f 46) ∧ (tAt (TAny L) f 135) ∧ (f 50 0 ≤ 10) ∧ (f 50 1 < 10) ∧ (p10 (fun a => tAt (TOK L) f a)) ∧ (f 92 0 ≤ 820) ∧ (f 95 0 ≤ 1 ∧ f 110 0 ≤ 1) ∧ (gAt GOK f 96 ∧ gAt GOK f 111) ∧ (tAt (TOK L) f 106 ∧ tAt (TOK L) f 121) ∧ (f 34 2 ≤ 1) ∧ (SafeM (f 35)) ∧ (SafeM (f 36)) ∧ (f 125 2 ≤ 1) ∧ (SafeM (f 126)) ∧ (SafeM (f 127)) ∧ (f 0 16 ≤ 1) ∧ (f 134 0 ≤ 1) ∧ ((∀ q, f 4 q < 128) ∧ (∀ q, f 5 q ≤ 4) ∧ (∀ q, f 6 q ≤ 5) ∧ (∀ q, f 7 q < 128) ∧ (∀ q, f 8 q = 4294967295 ∨ f 8 q < 8) ∧ (∀ q, f 9 q < 128) ∧ SafeM (f 10) ∧ SafeM (f 11) ∧ SafeM (f 12)) ∧ (SafeM (f 44))
theorem CBase.tl {L : Nat} {f : Nat → Nat → Nat} (h : CBase L f) : f 0 1 ≤ 240 := h.1
theorem CBase.tx {L : Nat} {f : Nat → Nat → Nat} (h : CBase L f) : ∀ q, f 1 q < 256 := h.2.1
theorem CBase.gram {L : Nat} {f : Nat → Nat → Nat} (h : CBase L f) : gAt GOK f 16 := h.2.2.1
theorem CBase.tok {L : Nat} {f : Nat → Nat → Nat} (h : CBase L f) : tAt (TOK L) f 26 := h.2.2.2.1
theorem CBase.bef {L : Nat} {f : Nat → Nat → Nat} (h : CBase L f) : tAt (TAny L) f 30 := h.2.2.2.2.1
theorem CBase.grn {L : Nat} {f : Nat → Nat → Nat} (h : CBase L f) : tAt (TAny L) f 46 := h.2.2.2.2.2.1
theorem CBase.mvd {L : Nat} {f : Nat → Nat → Nat} (h : CBase L f) : tAt (TAny L) f 135 := h.2.2.2.2.2.2.1
theorem CBase.hsz {L : Nat} {f : Nat → Nat → Nat} (h : CBase L f) : f 50 0 ≤ 10 := h.2.2.2.2.2.2.2.1
theorem CBase.hen {L : Nat} {f : Nat → Nat → Nat} (h : CBase L f) : f 50 1 < 10 := h.2.2.2.2.2.2.2.2.1
theorem CBase.past {L : Nat} {f : Nat → Nat → Nat} (h : CBase L f) : p10 (fun a => tAt (TOK L) f a) := h.2.2.2.2.2.2.2.2.2.1
theorem CBase.lln {L : Nat} {f : Nat → Nat → Nat} (h : CBase L f) : f 92 0 ≤ 820 := h.2.2.2.2.2.2.2.2.2.2.1
theorem CBase.kh {L : Nat} {f : Nat → Nat → Nat} (h : CBase L f) : f 95 0 ≤ 1 ∧ f 110 0 ≤ 1 := h.2.2.2.2.2.2.2.2.2.2.2.1
theorem CBase.kg {L : Nat} {f : Nat → Nat → Nat} (h : CBase L f) : gAt GOK f 96 ∧ gAt GOK f 111 := h.2.2.2.2.2.2.2.2.2.2.2.2.1
theorem CBase.kt {L : Nat} {f : Nat → Nat → Nat} (h : CBase L f) : tAt (TOK L) f 106 ∧ tAt (TOK L) f 121 := h.2.2.2.2.2.2.2.2.2.2.2.2.2.1
theorem CBase.cst {L : Nat} {f : Nat → Nat → Nat} (h : CBase L f) : f 34 2 ≤ 1 := h.2.2.2.2.2.2.2.2.2.2.2.2.2.2.1
theorem CBase.csw {L : Nat} {f : Nat → Nat → Nat} (h : CBase L f) : SafeM (f 35) := h.2.2.2.2.2.2.2.2.2.2.2.2.2.2.2.1
theorem CBase.csr {L : Nat} {f : Nat → Nat → Nat} (h : CBase L f) : SafeM (f 36) := h.2.2.2.2.2.2.2.2.2.2.2.2.2.2.2.2.1
theorem CBase.ost {L : Nat} {f : Nat → Nat → Nat} (h : CBase L f) : f 125 2 ≤ 1 := h.2.2.2.2.2.2.2.2.2.2.2.2.2.2.2.2.2.1
theorem CBase.osw {L : Nat} {f : Nat → Nat → Nat} (h : CBase L f) : SafeM (f 126) := h.2.2.2.2.2.2.2.2.2.2.2.2.2.2.2.2.2.2.1
theorem CBase.osr {L : Nat} {f : Nat → Nat → Nat} (h : CBase L f) : SafeM (f 127) := h.2.2.2.2.2.2.2.2.2.2.2.2.2.2.2.2.2.2.2.1
theorem CBase.tst {L : Nat} {f : Nat → Nat → Nat} (h : CBase L f) : f 0 16 ≤ 1 := h.2.2.2.2.2.2.2.2.2.2.2.2.2.2.2.2.2.2.2.2.1
theorem CBase.rkn {L : Nat} {f : Nat → Nat → Nat} (h : CBase L f) : f 134 0 ≤ 1 := h.2.2.2.2.2.2.2.2.2.2.2.2.2.2.2.2.2.2.2.2.2.1
theorem CBase.fnd {L : Nat} {f : Nat → Nat → Nat} (h : CBase L f) : (∀ q, f 4 q < 128) ∧ (∀ q, f 5 q ≤ 4) ∧ (∀ q, f 6 q ≤ 5) ∧ (∀ q, f 7 q < 128) ∧ (∀ q, f 8 q = 4294967295 ∨ f 8 q < 8) ∧ (∀ q, f 9 q < 128) ∧ SafeM (f 10) ∧ SafeM (f 11) ∧ SafeM (f 12) := h.2.2.2.2.2.2.2.2.2.2.2.2.2.2.2.2.2.2.2.2.2.2.1
theorem CBase.ofs {L : Nat} {f : Nat → Nat → Nat} (h : CBase L f) : SafeM (f 44) := h.2.2.2.2.2.2.2.2.2.2.2.2.2.2.2.2.2.2.2.2.2.2.2
/-- and what was computed ahead -/
def CInv (L : Nat) (f : Nat → Nat → Nat) : Prop := (CBase L f) ∧ (f 34 2 ≠ 0 → ChS (eAt f 16 26) (f 16 0) (f 26 0) (f 35)) ∧ (f 0 17 ≠ 4294967294 → IsBl (eAt f 16 26) (f 16 0) (f 23) (f 26 0) (f 0 17)) ∧ (f 0 16 ≠ 0 → TrS (eAt f 16 26) (f 16 0) (f 26 0) (f 37 0) (f 38)) ∧ (f 134 0 ≠ 0 → RepS (f 18) (f 19) (f 21) (f 20) (f 22) (f 16 0) (f 26 0) (f 27) (f 28) (f 29) (f 134 1) (f 134 2))
theorem CInv.base {L : Nat} {f : Nat → Nat → Nat} (h : CInv L f) : CBase L f := h.1
theorem CInv.cok {L : Nat} {f : Nat → Nat → Nat} (h : CInv L f) : f 34 2 ≠ 0 → ChS (eAt f 16 26) (f 16 0) (f 26 0) (f 35) := h.2.1
theorem CInv.blm {L : Nat} {f : Nat → Nat → Nat} (h : CInv L f) : f 0 17 ≠ 4294967294 → IsBl (eAt f 16 26) (f 16 0) (f 23) (f 26 0) (f 0 17) := h.2.2.1
theorem CInv.tre {L : Nat} {f : Nat → Nat → Nat} (h : CInv L f) : f 0 16 ≠ 0 → TrS (eAt f 16 26) (f 16 0) (f 26 0) (f 37 0) (f 38) := h.2.2.2.1
theorem CInv.rep {L : Nat} {f : Nat → Nat → Nat} (h : CInv L f) : f 134 0 ≠ 0 → RepS (f 18) (f 19) (f 21) (f 20) (f 22) (f 16 0) (f 26 0) (f 27) (f 28) (f 29) (f 134 1) (f 134 2) := h.2.2.2.2
theorem CInv.tl {L : Nat} {f : Nat → Nat → Nat} (h : CInv L f) : f 0 1 ≤ 240 := h.base.tl
theorem CInv.tx {L : Nat} {f : Nat → Nat → Nat} (h : CInv L f) : ∀ q, f 1 q < 256 := h.base.tx
theorem CInv.gram {L : Nat} {f : Nat → Nat → Nat} (h : CInv L f) : gAt GOK f 16 := h.base.gram
theorem CInv.tok {L : Nat} {f : Nat → Nat → Nat} (h : CInv L f) : tAt (TOK L) f 26 := h.base.tok
theorem CInv.bef {L : Nat} {f : Nat → Nat → Nat} (h : CInv L f) : tAt (TAny L) f 30 := h.base.bef
theorem CInv.grn {L : Nat} {f : Nat → Nat → Nat} (h : CInv L f) : tAt (TAny L) f 46 := h.base.grn
theorem CInv.mvd {L : Nat} {f : Nat → Nat → Nat} (h : CInv L f) : tAt (TAny L) f 135 := h.base.mvd
theorem CInv.hsz {L : Nat} {f : Nat → Nat → Nat} (h : CInv L f) : f 50 0 ≤ 10 := h.base.hsz
theorem CInv.hen {L : Nat} {f : Nat → Nat → Nat} (h : CInv L f) : f 50 1 < 10 := h.base.hen
theorem CInv.past {L : Nat} {f : Nat → Nat → Nat} (h : CInv L f) : p10 (fun a => tAt (TOK L) f a) := h.base.past
theorem CInv.lln {L : Nat} {f : Nat → Nat → Nat} (h : CInv L f) : f 92 0 ≤ 820 := h.base.lln
theorem CInv.kh {L : Nat} {f : Nat → Nat → Nat} (h : CInv L f) : f 95 0 ≤ 1 ∧ f 110 0 ≤ 1 := h.base.kh
theorem CInv.kg {L : Nat} {f : Nat → Nat → Nat} (h : CInv L f) : gAt GOK f 96 ∧ gAt GOK f 111 := h.base.kg
theorem CInv.kt {L : Nat} {f : Nat → Nat → Nat} (h : CInv L f) : tAt (TOK L) f 106 ∧ tAt (TOK L) f 121 := h.base.kt
theorem CInv.cst {L : Nat} {f : Nat → Nat → Nat} (h : CInv L f) : f 34 2 ≤ 1 := h.base.cst
theorem CInv.csw {L : Nat} {f : Nat → Nat → Nat} (h : CInv L f) : SafeM (f 35) := h.base.csw
theorem CInv.csr {L : Nat} {f : Nat → Nat → Nat} (h : CInv L f) : SafeM (f 36) := h.base.csr
theorem CInv.ost {L : Nat} {f : Nat → Nat → Nat} (h : CInv L f) : f 125 2 ≤ 1 := h.base.ost
theorem CInv.osw {L : Nat} {f : Nat → Nat → Nat} (h : CInv L f) : SafeM (f 126) := h.base.osw
theorem CInv.osr {L : Nat} {f : Nat → Nat → Nat} (h : CInv L f) : SafeM (f 127) := h.base.osr
theorem CInv.tst {L : Nat} {f : Nat → Nat → Nat} (h : CInv L f) : f 0 16 ≤ 1 := h.base.tst
theorem CInv.fnd {L : Nat} {f : Nat → Nat → Nat} (h : CInv L f) : (∀ q, f 4 q < 128) ∧ (∀ q, f 5 q ≤ 4) ∧ (∀ q, f 6 q ≤ 5) ∧ (∀ q, f 7 q < 128) ∧ (∀ q, f 8 q = 4294967295 ∨ f 8 q < 8) ∧ (∀ q, f 9 q < 128) ∧ SafeM (f 10) ∧ SafeM (f 11) ∧ SafeM (f 12) := h.base.fnd
theorem CInv.ofs {L : Nat} {f : Nat → Nat → Nat} (h : CInv L f) : SafeM (f 44) := h.base.ofs
theorem CInv.rkn {L : Nat} {f : Nat → Nat → Nat} (h : CInv L f) : f 134 0 ≤ 1 := h.base.rkn
def Smc (M M1 : zM) : Prop := M1.length = M.length ∧ ∀ a, 139 ≤ a → M1[a]? = M[a]?
theorem Smc.rf {M : zM} : Smc M M := ⟨rfl, fun _ _ => rfl⟩
theorem Smc.tr {M M1 M2 : zM} (h1 : Smc M M1) (h2 : Smc M1 M2) : Smc M M2 := ⟨h2.1.trans h1.1, fun a ha => (h2.2 a ha).trans (h1.2 a ha)⟩
theorem Smc.of {M M1 : zM} {S : List Nat} (h : Sm M M1 S) (hs : ∀ a, a ∈ S → a < 139) : Smc M M1 := ⟨h.1, fun a ha => h.2 a (fun q => by have := hs a q; omega)⟩
def Smm (M M1 : zM) : Prop := M1.length = M.length ∧ ∀ a, a < 139 ∨ 176 < a → M1[a]? = M[a]?
theorem Smm.rf {M : zM} : Smm M M := ⟨rfl, fun _ _ => rfl⟩
theorem Smm.tr {M M1 M2 : zM} (h1 : Smm M M1) (h2 : Smm M1 M2) : Smm M M2 := ⟨h2.1.trans h1.1, fun a ha => (h2.2 a ha).trans (h1.2 a ha)⟩
theorem Smm.of {M M1 : zM} {S : List Nat} (h : Sm M M1 S) (hs : ∀ a, a ∈ S → 139 ≤ a ∧ a ≤ 176) : Smm M M1 := ⟨h.1, fun a ha => h.2 a (fun q => by have := hs a q; omega)⟩
theorem CC.smm {M M1 : zM} {f : Nat → Nat → Nat} (h : CC M f) (hs : Smm M M1) : CC M1 f := by
  refine ⟨fun k k1 k2 k3 => (hs.2 k (Or.inl (by omega))).trans (h.1 k k1 k2 k3), ?_, ?_⟩
  · obtain ⟨g, t, g1, g2, g3⟩ := h.2.1
    exact ⟨g, t, g1, (hs.2 51 (Or.inl (by decide))).trans g2, g3⟩
  · obtain ⟨g, t, g1, g2, g3⟩ := h.2.2
    exact ⟨g, t, g1, (hs.2 94 (Or.inl (by decide))).trans g2, g3⟩
theorem MM.smc {M M1 : zM} {o : Nat → Nat} {f : Nat → Nat → Nat} (h : MM M o f) (hs : Smc M M1) : MM M1 o f := ⟨(hs.2 139 (by decide)).trans h.1, fun k k1 k2 => (hs.2 k (by omega)).trans (h.2 k k1 k2)⟩
def coreB (a : Nat) : Bool := a == 1 || (decide (16 ≤ a) && decide (a ≤ 29)) || (decide (50 ≤ a) && decide (a ≤ 93)) || (decide (95 ≤ a) && decide (a ≤ 124))
/-- nothing that a call's answer shows has changed -/
def Asame (f f9 : Nat → Nat → Nat) : Prop := f9 0 1 = f 0 1 ∧ ∀ a, coreB a = true → f9 a = f a
theorem Asame.rf {f : Nat → Nat → Nat} : Asame f f := ⟨rfl, fun _ _ => rfl⟩
theorem Asame.of {f f9 : Nat → Nat → Nat} {S : List Nat} (hf : ∀ a, a ∉ S → f9 a = f a) (h0 : f9 0 1 = f 0 1) (hd : ∀ a, a ∈ S → coreB a = false) : Asame f f9 := ⟨h0, fun a ha => hf a (fun q => by rw [hd a q] at ha; cases ha)⟩
theorem Asame.tr {f f1 f2 : Nat → Nat → Nat} (h1 : Asame f f1) (h2 : Asame f1 f2) : Asame f f2 := ⟨h2.1.trans h1.1, fun a ha => (h2.2 a ha).trans (h1.2 a ha)⟩
/-- fits, as a number -/
def fitN (E : Nat → Nat → Nat) (n c : Nat) : Nat := if 0 < n ∧ wh E n 0 0 c ≠ 0 then 1 else 0
