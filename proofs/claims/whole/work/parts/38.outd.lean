/-! WORDS of what is computed ahead: free columns, outlook, tree, repairs -/
def andR (f : Nat → Nat) (a : Nat) : Nat → Nat
  | 0 => A40
  | n + 1 => andR f a n &&& f (a + n)
/-- at which columns of its whole an item can be over any tokens -/
def frI (tg bd fr : Nat → Nat) (x : Nat) : Nat := letsN (bd x) (if tg x = NO then A40 else fr (tg x))
def frA (tg bd it fr : Nat → Nat) (a : Nat) : Nat := andR (fun k => frI tg bd fr (a * 5 + k)) 0 (it a)
def frR (al_ it tg bd fr : Nat → Nat) (r : Nat) : Nat := orR (fun a => frA tg bd it fr (r * 4 + a)) 0 (al_ r)
/-- at which columns of its whole all items behind one can be over any tokens -/
def rst (E : Nat → Nat → Nat) (fr : Nat → Nat) (y k : Nat) : Nat := andR (fun j => frI (E 2) (E 4) fr (y * 5 + j)) (k + 1) (E 1 y - (k + 1))
/-- an item k of an alt whose items ahead are over i up to p at column c, those behind it over any tokens -/
def ahC (E : Nat → Nat → Nat) (n : Nat) (fr : Nat → Nat) (m r i c a k p : Nat) : Prop := a < E 0 r ∧ k < E 1 (r * 4 + a) ∧ i ≤ p ∧ p ≤ m ∧ (rch E (wh E n) i (r * 4 + a) k p).testBit c = true ∧ (rst E fr (r * 4 + a) k).testBit c = true
def oEd (E : Nat → Nat → Nat) (n : Nat) (fr : Nat → Nat) (m r i c t p d : Nat) : Prop := ∃ a k, ahC E n fr m r i c a k p ∧ E 2 ((r * 4 + a) * 5 + k) = t ∧ t ≠ NO ∧ fitB (E 4 ((r * 4 + a) * 5 + k)) c d ∧ d < 40
def oFi (E : Nat → Nat → Nat) (n : Nat) (fr : Nat → Nat) (m s r i c d : Nat) : Prop := ∃ a k, ahC E n fr m r i c a k m ∧ E 2 ((r * 4 + a) * 5 + k) = NO ∧ (s = 0 ∨ E 3 ((r * 4 + a) * 5 + k) = s) ∧ fitB (E 4 ((r * 4 + a) * 5 + k)) c d ∧ d < 40
def FwC (E : Nat → Nat → Nat) (n : Nat) (fr : Nat → Nat) (m r0 : Nat) (Q : Nat → Nat → Nat → Prop) : Prop := (∀ c, c < 40 → Q r0 0 c) ∧ ∀ r i c t p d, r < n → i ≤ m → Q r i c → oEd E n fr m r i c t p d → Q t p d
/-- what is reached from above -/
def Rea (E : Nat → Nat → Nat) (n : Nat) (fr : Nat → Nat) (m r0 t p d : Nat) : Prop := ∀ Q : Nat → Nat → Nat → Prop, FwC E n fr m r0 Q → Q t p d
/-- THE COLUMNS of a sign behind the first m tokens -/
def Fnd (E : Nat → Nat → Nat) (n : Nat) (fr : Nat → Nat) (m s r0 d : Nat) : Prop := ∃ r i c, r < n ∧ i ≤ m ∧ Rea E n fr m r0 r i c ∧ oFi E n fr m s r i c d
/-- THE TOKEN TO BLAME, or how many there are -/
def IsBl (E : Nat → Nat → Nat) (n : Nat) (fr : Nat → Nat) (c k : Nat) : Prop := k ≤ c ∧ (∀ t, t < k → Fnd E n fr t (E 5 t) 0 (E 6 t)) ∧ (k < c → ¬ Fnd E n fr k (E 5 k) 0 (E 6 k))
/-- the least bit; the columns that fit one of some wholes -/
def lsb (m : Nat) : Nat := srch (fun c => m.testBit c) 0 40
def prtN (b m : Nat) : Nat := if m = 0 then 0 else if b = 61 then m else if b = 42 then A40 else if b = 62 then 1099511627776 - 2 ^ (lsb m + 1) else 1099511627776 - 2 ^ lsb m
/-! THE TREE: a machine over nodes (rule, alt, from, to, column, above, level, bond) and those that wait -/
def tH (E : Nat → Nat → Nat) (n x p q c : Nat) : Bool := (letsN (E 4 x) (itm E (wh E n) x p q)).testBit c
/-- the first alt -/
def tA (E : Nat → Nat → Nat) (n r i j c : Nat) : Nat := srch (fun a => (rch E (wh E n) i (r * 4 + a) (E 1 (r * 4 + a)) j).testBit c) 0 (E 0 r)
/-- whether so many last items reach the end from a place -/
def tC (E : Nat → Nat → Nat) (n y j c : Nat) : Nat → Nat → Bool
  | 0, p => decide (p = j)
  | m + 1, p => decide (srch (fun q => tC E n y j c m q && tH E n (y * 5 + (E 1 y - (m + 1))) p q c) p (j + 1 - p) ≠ NO)
/-- the least end of an item from a place on -/
def tL (E : Nat → Nat → Nat) (n y j c k p : Nat) : Nat := srch (fun q => tC E n y j c (E 1 y - (k + 1)) q && tH E n (y * 5 + k) p q c) p (j + 1 - p)
def tP (E : Nat → Nat → Nat) (n y i j c : Nat) : Nat → Nat
  | 0 => i
  | k + 1 => tL E n y j c k (tP E n y i j c k)
/-- the least column of an item that fits -/
def tD (E : Nat → Nat → Nat) (n x p q c : Nat) : Nat := lsb (itm E (wh E n) x p q &&& prtN (E 4 x) (2 ^ c))
def tN (t i j d ab lv bd : Nat) : Nat → Nat := fun f => match f with
  | 0 => t
  | 2 => i
  | 3 => j
  | 4 => d
  | 5 => ab
  | 6 => lv
  | 7 => bd
  | _ => 0
abbrev tS : Type := Nat × (Nat → Nat → Nat)
/-- an item of a node waits, if it is a name over tokens -/
def tW (E : Nat → Nat → Nat) (n y i j c sz lv k : Nat) (s : tS) : tS := if E 2 (y * 5 + k) ≠ NO ∧ tP E n y i j c k < tP E n y i j c (k + 1) then (s.1 + 1, fun w => if w = s.1 then tN (E 2 (y * 5 + k)) (tP E n y i j c k) (tP E n y i j c (k + 1)) (tD E n (y * 5 + k) (tP E n y i j c k) (tP E n y i j c (k + 1)) c) sz (lv + 1) (E 4 (y * 5 + k)) else s.2 w) else s
/-- the last item waits first -/
def tQ (E : Nat → Nat → Nat) (n y i j c sz lv : Nat) : Nat → tS → tS
  | 0, s => s
  | k + 1, s => tQ E n y i j c sz lv k (tW E n y i j c sz lv k s)
/-- nodes, those that wait -/
abbrev tT : Type := (Nat → Nat → Nat) × tS
def tSt (E : Nat → Nat → Nat) (n sz : Nat) (u : tT) : tT := (fun k => if k = sz then (fun f => if f = 1 then tA E n (u.2.2 (u.2.1 - 1) 0) (u.2.2 (u.2.1 - 1) 2) (u.2.2 (u.2.1 - 1) 3) (u.2.2 (u.2.1 - 1) 4) else u.2.2 (u.2.1 - 1) f) else u.1 k, tQ E n (u.2.2 (u.2.1 - 1) 0 * 4 + tA E n (u.2.2 (u.2.1 - 1) 0) (u.2.2 (u.2.1 - 1) 2) (u.2.2 (u.2.1 - 1) 3) (u.2.2 (u.2.1 - 1) 4)) (u.2.2 (u.2.1 - 1) 2) (u.2.2 (u.2.1 - 1) 3) (u.2.2 (u.2.1 - 1) 4) sz (u.2.2 (u.2.1 - 1) 6) (E 1 (u.2.2 (u.2.1 - 1) 0 * 4 + tA E n (u.2.2 (u.2.1 - 1) 0) (u.2.2 (u.2.1 - 1) 2) (u.2.2 (u.2.1 - 1) 3) (u.2.2 (u.2.1 - 1) 4))) (u.2.1 - 1, u.2.2))
def tI (E : Nat → Nat → Nat) (n c : Nat) : Nat → tT
  | 0 => (fun _ _ => 0, (if 0 < c then 1 else 0), fun _ => tN 0 0 c (lsb (wh E n 0 0 c)) NO 0 0)
  | k + 1 => tSt E n k (tI E n c k)
/-- a row holds THE TREE -/
def TrS (E : Nat → Nat → Nat) (n c sz : Nat) (T : Nat → Nat) : Prop := (∀ k, k < sz → (tI E n c k).2.1 ≠ 0) ∧ (tI E n c sz).2.1 = 0 ∧ ∀ k f, k < sz → f < 8 → T (8 * k + f) = (tI E n c sz).1 k f
/-! THE LEAST MOVING of a line -/
def rOk (al_ it tg pt bd : Nat → Nat) (n c : Nat) (sg li co : Nat → Nat) (l : Nat) (z : Int) : Prop := stB li co (l : Int) z c = true ∧ wh (gE al_ it tg pt bd sg (mvC li co (l : Int) z)) n 0 0 c ≠ 0
def rZ (far s : Nat) : Int := if s = 0 then -(far : Int) else (far : Int)
def rV (c : Nat) (li : Nat → Nat) (far k s : Nat) : Prop := 1 ≤ far ∧ far ≤ 6 ∧ k < c ∧ (k = 0 ∨ li (k - 1) ≠ li k) ∧ s < 2
def rE (far k s far2 k2 s2 : Nat) : Prop := far2 < far ∨ (far2 = far ∧ (k2 < k ∨ (k2 = k ∧ s2 < s)))
def RepS (al_ it tg pt bd : Nat → Nat) (n c : Nat) (sg li co : Nat → Nat) (line bz : Nat) : Prop := (bz = 0 ∧ ∀ far k s, rV c li far k s → ¬ rOk al_ it tg pt bd n c sg li co (li k) (rZ far s)) ∨ ∃ far k s, rV c li far k s ∧ rOk al_ it tg pt bd n c sg li co (li k) (rZ far s) ∧ (∀ far2 k2 s2, rV c li far2 k2 s2 → rE far k s far2 k2 s2 → ¬ rOk al_ it tg pt bd n c sg li co (li k2) (rZ far2 s2)) ∧ line = li k ∧ bz = (if s = 0 then 4294967296 - far else far)
