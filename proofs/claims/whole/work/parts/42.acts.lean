/-! TOKENS behind an act are tokens -/
theorem mvA_ok {c : Nat} {li co : Nat → Nat} {x z : Int} (h : mvA c li co x z < 2147483648) : (-40 < z ∧ z < 40) ∧ cnt (inL li x) c ≠ 0 ∧ stB li co x z c = true ∧ mvA c li co x z = cnt (inL li x) c := by
  unfold mvA at h ⊢
  by_cases h1 : ¬ (-40 < z ∧ z < 40)
  · rw [if_pos h1] at h; omega
  · rw [if_neg h1] at h ⊢
    by_cases h2 : cnt (inL li x) c = 0
    · rw [if_pos h2] at h; omega
    · rw [if_neg h2] at h ⊢
      cases h3 : stB li co x z c with
      | false => rw [h3] at h; simp at h
      | true => exact ⟨by omega, h2, rfl, by simp⟩
theorem TOK.moved {L c : Nat} {sg li co co9 : Nat → Nat} {x z : Int} (h : TOK L c sg li co) (hok : mvA c li co x z < 2147483648) (h9 : ∀ q, co9 q < 40) (h1 : ∀ q, q < c → co9 q = mvC li co x z q) : TOK L c sg li co9 := by
  obtain ⟨-, -, hs, -⟩ := mvA_ok hok
  refine ⟨⟨h.safe.1, h.safe.2.1, h.safe.2.2.1, h9⟩, h.lin, h.sgn, fun a b ab bc => ?_⟩
  rcases h.srt a b ab bc with q | ⟨q1, q2⟩
  · exact Or.inl q
  · refine Or.inr ⟨q1, ?_⟩
    rw [h1 a (by omega), h1 b bc]
    unfold mvC addz
    by_cases e : (li a : Int) = x
    · have s1 := stB_all hs a (by omega) e
      have s2 := stB_all hs b bc (by omega)
      rw [if_pos e, if_pos (by omega)]
      omega
    · rw [if_neg e, if_neg (by omega)]; exact q2
theorem TOK.taken {L c x : Nat} {sg li co sg9 li9 co9 : Nat → Nat} (h : TOK L c sg li co) (hx : x < c) (hS : SafeT (c - 1) sg9 li9 co9) (hl : ∀ q, li9 q < L) (h1 : ∀ q, q < c - 1 → sg9 q = tkF x sg q ∧ li9 q = tkF x li q ∧ co9 q = tkF x co q) : TOK L (c - 1) sg9 li9 co9 := by
  refine ⟨hS, hl, fun q hq => ?_, fun a b ab bc => ?_⟩
  · rw [(h1 q hq).1]; unfold tkF; split
    · exact h.sgn q (by omega)
    · exact h.sgn (q + 1) (by omega)
  · obtain ⟨-, a1, a2⟩ := h1 a (by omega)
    obtain ⟨-, b1, b2⟩ := h1 b bc
    rw [a1, a2, b1, b2]; unfold tkF
    by_cases e1 : a < x
    · rw [if_pos e1, if_pos e1]
      by_cases e2 : b < x
      · rw [if_pos e2, if_pos e2]; exact h.srt a b ab (by omega)
      · rw [if_neg e2, if_neg e2]; exact h.srt a (b + 1) (by omega) (by omega)
    · rw [if_neg e1, if_neg e1, if_neg (by omega), if_neg (by omega)]; exact h.srt (a + 1) (b + 1) (by omega) (by omega)
theorem cnt_lt_of {p : Nat → Bool} : ∀ {n q : Nat}, q < n → p q = false → cnt p n < n
  | 0, q, h, _ => by omega
  | n + 1, q, h, hq => by
    rw [cnt]
    by_cases e : q = n
    · rw [← e, hq]
      have := cnt_le p q
      simp; omega
    · have := cnt_lt_of (p := p) (n := n) (by omega) hq
      split <;> omega
theorem ah_mono {c : Nat} {li co : Nat → Nat} {l d a b : Nat} (hs : Srt c li co) (hab : a < b) (hb : b < c) (h : ahB li co l d b = true) : ahB li co l d a = true := by
  unfold ahB at h ⊢
  have h0 := of_decide_eq_true h
  apply decide_eq_true
  rcases hs a b hab hb with q | q <;> omega
/-- those ahead of a place are just the first ones -/
theorem ah_split {c : Nat} {li co : Nat → Nat} {l d : Nat} (hs : Srt c li co) : ∀ {n : Nat}, n ≤ c → (∀ q, q < cnt (ahB li co l d) n → ahB li co l d q = true) ∧ (∀ q, cnt (ahB li co l d) n ≤ q → q < n → ahB li co l d q = false)
  | 0, _ => ⟨fun q hq => absurd hq (Nat.not_lt_zero _), fun q _ hq => absurd hq (Nat.not_lt_zero _)⟩
  | n + 1, hn => by
    obtain ⟨i1, i2⟩ := ah_split hs (n := n) (by omega)
    rw [cnt]
    cases hb : ahB li co l d n with
    | true =>
      have hall : cnt (ahB li co l d) n = n := by
        have := cnt_le (ahB li co l d) n
        by_cases e : cnt (ahB li co l d) n = n
        · exact e
        · have h1 := i2 (cnt (ahB li co l d) n) (Nat.le_refl _) (by omega)
          rw [ah_mono hs (show cnt (ahB li co l d) n < n by omega) (by omega) hb] at h1
          cases h1
      rw [if_pos rfl, hall]
      exact ⟨fun q hq => if e : q = n then e ▸ hb else i1 q (by omega), fun q q1 q2 => by omega⟩
    | false =>
      rw [if_neg (by decide), Nat.add_zero]
      exact ⟨i1, fun q q1 q2 => if e : q = n then e ▸ hb else i2 q q1 (by omega)⟩
theorem TOK.put {L c l d g : Nat} {sg li co sg9 li9 co9 : Nat → Nat} (h : TOK L c sg li co) (hg : 33 ≤ g ∧ g ≤ 126) (hth : cnt (thB li co l d) c = 0) (hS : SafeT (c + 1) sg9 li9 co9) (hl : ∀ q, li9 q < L + 1) (h1 : ∀ q, q < c + 1 → sg9 q = inF (cnt (ahB li co l d) c) g sg q ∧ li9 q = inF (cnt (ahB li co l d) c) l li q ∧ co9 q = inF (cnt (ahB li co l d) c) d co q) : TOK (L + 1) (c + 1) sg9 li9 co9 := by
  obtain ⟨i1, i2⟩ := ah_split (l := l) (d := d) h.srt (Nat.le_refl c)
  have hx := cnt_le (ahB li co l d) c
  generalize cnt (ahB li co l d) c = x at *
  refine ⟨hS, hl, fun q hq => ?_, fun a b ab bc => ?_⟩
  · rw [(h1 q hq).1]; unfold inF; split
    · exact h.sgn q (by omega)
    · split
      · exact hg
      · exact h.sgn (q - 1) (by omega)
  · obtain ⟨-, a1, a2⟩ := h1 a (by omega)
    obtain ⟨-, b1, b2⟩ := h1 b bc
    rw [a1, a2, b1, b2]; unfold inF
    by_cases e1 : a < x
    · rw [if_pos e1, if_pos e1]
      by_cases e2 : b < x
      · rw [if_pos e2, if_pos e2]; exact h.srt a b ab (by omega)
      · rw [if_neg e2, if_neg e2]
        by_cases e3 : b = x
        · rw [if_pos e3, if_pos e3]
          have := of_decide_eq_true (i1 a e1)
          omega
        · rw [if_neg e3, if_neg e3]; exact h.srt a (b - 1) (by omega) (by omega)
    · rw [if_neg e1, if_neg e1, if_neg (show ¬ b < x by omega), if_neg (show ¬ b < x by omega), if_neg (show ¬ b = x by omega), if_neg (show ¬ b = x by omega)]
      by_cases e3 : a = x
      · rw [if_pos e3, if_pos e3]
        have h2 := of_decide_eq_false (i2 (b - 1) (by omega) (by omega))
        have h3 := of_decide_eq_false (cnt_zero hth (b - 1) (by omega))
        omega
      · rw [if_neg e3, if_neg e3]; exact h.srt (a - 1) (b - 1) (by omega) (by omega)
theorem TOK.changed {L c x g : Nat} {sg li co : Nat → Nat} (h : TOK L c sg li co) (hg : 33 ≤ g ∧ g ≤ 126) : TOK L c (up sg x g) li co :=
  ⟨⟨h.safe.1, up_sg h.safe.2.1 (by omega), h.safe.2.2⟩, h.lin, fun q hq => by unfold up; split <;> first | exact hg | exact h.sgn q hq, h.srt⟩
theorem TOK.parted {L c x d : Nat} {sg li co li9 co9 : Nat → Nat} (h : TOK L c sg li co) (hx : x < c) (hp : ptOk c li co x d) (hS : SafeT c sg li9 co9) (hl : ∀ q, li9 q < L + 1) (h1 : ∀ q, q < c → li9 q = ptL li x q ∧ co9 q = ptC li co x d q) : TOK (L + 1) c sg li9 co9 := by
  refine ⟨hS, hl, h.sgn, fun a b ab bc => ?_⟩
  obtain ⟨a1, a2⟩ := h1 a (by omega)
  obtain ⟨b1, b2⟩ := h1 b bc
  rw [a1, a2, b1, b2]; unfold ptL ptC
  have hs := h.srt a b ab bc
  by_cases e1 : x ≤ a
  · rw [if_pos e1, if_pos (show x ≤ b by omega)]
    rcases hs with q | ⟨q1, q2⟩
    · exact Or.inl (by omega)
    · refine Or.inr ⟨by omega, ?_⟩
      by_cases e2 : li a = li x
      · have c1 := co_ge h.srt e1 (by omega) e2
        rw [if_pos ⟨e1, e2⟩, if_pos ⟨by omega, by omega⟩]; omega
      · rw [if_neg (fun q => e2 q.2), if_neg (fun q => e2 (by omega))]; exact q2
  · rw [if_neg e1]
    by_cases e2 : x ≤ b
    · rw [if_pos e2]; exact Or.inl (by omega)
    · rw [if_neg e2, if_neg (fun q => e1 q.1), if_neg (fun q => e2 q.1)]; exact hs
theorem TOK.read {L tl : Nat} {tx sg9 li9 co9 : Nat → Nat} {n9 : Nat} (htl : tl ≤ 240) (hS : SafeT n9 sg9 li9 co9) (hl : ∀ q, li9 q < L) (hb : srch (bdT tx) 0 tl = NO) (h : n9 = nT tx tl ∧ hT_ tx tx sg9 tl ∧ hT_ tx (lT tx) li9 tl ∧ hT_ tx (cT tx) co9 tl) : TOK L n9 sg9 li9 co9 := by
  obtain ⟨rfl, h1, h2, h3⟩ := h
  refine ⟨hS, hl, fun q hq => ?_, fun a b ab bc => ?_⟩
  · rw [h1 q hq]
    exact of_decide_eq_true (aT_sg tx tl q hq)
  · rw [h2 a (by omega), h3 a (by omega), h2 b bc, h3 b bc]
    exact (aT_srt tx tl).2 a b ab bc
/-! LETTERS -/
/-- the line holds these letters -/
def Lt (n : Nat) (g : Nat → Nat) (l : List Nat) : Prop := n = l.length ∧ ∀ q, q < n → g q = l.getD q 0
theorem Lt.nil {g : Nat → Nat} : Lt 0 g [] := ⟨rfl, fun q h => absurd h (Nat.not_lt_zero _)⟩
theorem Lt.add {n : Nat} {g : Nat → Nat} {l : List Nat} (h : Lt n g l) (x : Nat) : Lt (n + 1) (up g n x) (l ++ [x]) := by
  refine ⟨by rw [List.length_append, h.1]; rfl, fun q hq => ?_⟩
  unfold up
  by_cases e : q = n
  · rw [if_pos e, e, h.1]; simp
  · rw [if_neg e, h.2 q (by omega)]
    have := h.1
    rw [List.getD_eq_getElem?_getD, List.getD_eq_getElem?_getD, List.getElem?_append_left (by omega)]
/-- rows of letters one behind another -/
def lc (F : Nat → List Nat) : Nat → List Nat
  | 0 => []
  | n + 1 => lc F n ++ F n
theorem lc_len {F : Nat → List Nat} {B : Nat} : ∀ {n : Nat}, (∀ k, k < n → (F k).length ≤ B) → (lc F n).length ≤ B * n
  | 0, _ => Nat.zero_le _
  | n + 1, h => by
    rw [lc, List.length_append, Nat.mul_succ]
    have := lc_len (F := F) (n := n) (fun k hk => h k (by omega))
    have := h n (by omega)
    omega
def wrI (pt tg bd : Nat → Nat) (x : Nat) : List Nat := (if bd x ≠ 0 then [bd x] else []) ++ (if tg x = NO then [39] else []) ++ [pt x]
def wrA (it pt tg bd : Nat → Nat) (a : Nat) : List Nat := lc (fun k => wrI pt tg bd (a * 5 + k)) (it a)
def wrB (it pt tg bd : Nat → Nat) (r a : Nat) : List Nat := (if 0 < a then [47] else []) ++ wrA it pt tg bd (r * 4 + a)
def wrR (gn al_ it pt tg bd : Nat → Nat) (r : Nat) : List Nat := (if 0 < r then [59] else []) ++ [gn r] ++ [58] ++ lc (wrB it pt tg bd r) (al_ r)
def wrG (n : Nat) (gn al_ it pt tg bd : Nat → Nat) : List Nat := lc (wrR gn al_ it pt tg bd) n
def prK (sg li co : Nat → Nat) (k : Nat) : List Nat := (if 0 < k ∧ li (k - 1) ≠ li k then [10] else []) ++ List.replicate (co k - (if k = 0 ∨ li (k - 1) ≠ li k then 0 else co (k - 1) + 1)) 32 ++ [sg k]
def prT (c : Nat) (sg li co : Nat → Nat) : List Nat := lc (prK sg li co) c
theorem prK_len {sg li co : Nat → Nat} {k : Nat} (h : co k < 40) : (prK sg li co k).length ≤ 41 := by
  unfold prK
  rw [List.length_append, List.length_append, List.length_replicate]
  have : (if 0 < k ∧ li (k - 1) ≠ li k then [10] else []).length ≤ 1 := by split <;> decide
  simp only [List.length_cons, List.length_nil]
  omega
theorem wrI_len {pt tg bd : Nat → Nat} {x : Nat} : (wrI pt tg bd x).length ≤ 3 := by
  unfold wrI
  rw [List.length_append, List.length_append]
  have : (if bd x ≠ 0 then [bd x] else []).length ≤ 1 := by split <;> simp
  have : (if tg x = NO then [39] else []).length ≤ 1 := by split <;> decide
  simp only [List.length_cons, List.length_nil]
  omega
theorem wrA_len {it pt tg bd : Nat → Nat} {a : Nat} (h : it a ≤ 5) : (wrA it pt tg bd a).length ≤ 15 := by
  have := lc_len (F := fun k => wrI pt tg bd (a * 5 + k)) (B := 3) (n := it a) (fun k _ => wrI_len)
  unfold wrA
  omega
theorem wrB_len {it pt tg bd : Nat → Nat} {r a : Nat} (h : ∀ q, it q ≤ 5) : (wrB it pt tg bd r a).length ≤ 16 := by
  unfold wrB
  rw [List.length_append]
  have : (if 0 < a then [47] else []).length ≤ 1 := by split <;> decide
  have := wrA_len (it := it) (pt := pt) (tg := tg) (bd := bd) (h (r * 4 + a))
  omega
theorem wrR_len {gn al_ it pt tg bd : Nat → Nat} {r : Nat} (h : ∀ q, it q ≤ 5) (ha : al_ r ≤ 4) : (wrR gn al_ it pt tg bd r).length ≤ 67 := by
  unfold wrR
  rw [List.length_append, List.length_append, List.length_append]
  have : (if 0 < r then [59] else []).length ≤ 1 := by split <;> decide
  have := lc_len (F := wrB it pt tg bd r) (B := 16) (n := al_ r) (fun k _ => wrB_len h)
  simp only [List.length_cons, List.length_nil]
  omega
theorem mvA_neg {c : Nat} {li co : Nat → Nat} {x z : Int} (hc20 : c ≤ 20) (h : ¬ mvA c li co x z < 2147483648) : (nI (mvA c li co x z)).toInt < 0 := by
  have hc := cnt_le (inL li x) c
  unfold mvA at h ⊢
  by_cases h1 : ¬ (-40 < z ∧ z < 40)
  · rw [if_pos h1]; decide
  · rw [if_neg h1] at h ⊢
    by_cases h2 : cnt (inL li x) c = 0
    · rw [if_pos h2]; decide
    · rw [if_neg h2] at h ⊢
      cases h3 : stB li co x z c with
      | false => rw [if_pos rfl]; decide
      | true => rw [h3, if_neg (by decide)] at h; omega
/-! BYTES of a number -/
theorem nI_bv (n : Nat) : (nI n).toBitVec = BitVec.ofNat 32 n := rfl
theorem byte_c (y s : UInt32) : (y >>> s).toInt32 &&& 255 = nI (y.toNat / 2 ^ (s.toNat % 32) % 256) := by
  apply Int32.toBitVec_inj.mp
  rw [Int32.toBitVec_and, UInt32.toBitVec_toInt32, nI_bv]
  apply BitVec.eq_of_toNat_eq
  rw [BitVec.toNat_and, UInt32.toNat_toBitVec, UInt32.toNat_shiftRight, BitVec.toNat_ofNat]
  rw [show (255 : Int32).toBitVec.toNat = 2 ^ 8 - 1 from rfl, Nat.and_two_pow_sub_one_eq_mod, Nat.shiftRight_eq_div_pow]
  have : y.toNat / 2 ^ (s.toNat % 32) % 2 ^ 8 < 256 := Nat.mod_lt _ (by decide)
  omega
def byv (x : Nat) : Nat := if x < 128 then x else x + 4294967040
theorem byte_m (y s : UInt32) : (y >>> s).toInt32.toInt8.toInt32 = nI (byv (y.toNat / 2 ^ (s.toNat % 32) % 256)) := by
  apply Int32.toInt_inj.mp
  rw [Int8.toInt_toInt32, Int32.toInt_toInt8]
  have h1 : (y >>> s).toInt32.toInt = (y.toNat / 2 ^ (s.toNat % 32) : Nat) ∨ (y >>> s).toInt32.toInt = (y.toNat / 2 ^ (s.toNat % 32) : Nat) - 4294967296 := by
    have e : (y >>> s).toInt32.toInt = ((y.toNat / 2 ^ (s.toNat % 32) : Nat) : Int).bmod (2 ^ 32) := by
      rw [← Int32.toInt_toBitVec, UInt32.toBitVec_toInt32, BitVec.toInt_eq_toNat_bmod, UInt32.toNat_toBitVec, UInt32.toNat_shiftRight, Nat.shiftRight_eq_div_pow]
    rw [e]
    have h3 : y.toNat < 4294967296 := y.toNat_lt
    have h4 : y.toNat / 2 ^ (s.toNat % 32) ≤ y.toNat := Nat.div_le_self _ _
    generalize y.toNat / 2 ^ (s.toNat % 32) = a at *
    rw [Int.bmod_def]; split <;> omega
  generalize y.toNat / 2 ^ (s.toNat % 32) = a at *
  have h5 : (nI (byv (a % 256))).toInt = if a % 256 < 128 then ((a % 256 : Nat) : Int) else ((a % 256 : Nat) : Int) - 256 := by
    show (Int32.ofNat _).toInt = _
    rw [Int32.toInt_ofNat', show (Int32.size : Nat) = 4294967296 from rfl]
    unfold byv
    rw [Int.bmod_def]
    split <;> split <;> omega
  rw [h5, Int.bmod_def]
  rcases h1 with h | h <;> rw [h] <;> split <;> split <;> omega

/-- the byte of a number that stands behind so many bits -/
def byt (x : Int32) (k : Nat) : Nat := x.toUInt32.toNat / 2 ^ k % 256
theorem byt_lt (x : Int32) (k : Nat) : byt x k < 256 := Nat.mod_lt _ (by decide)
theorem byv_b {x : Nat} (h : x < 256) : byv x < 128 ∨ (4294967168 ≤ byv x ∧ byv x < 4294967296) := by unfold byv; split <;> omega
theorem srch_lt {p : Nat → Bool} {n : Nat} (h : srch p 0 n ≠ NO) : srch p 0 n < n := by
  rcases srch_spec p n 0 with ⟨h1, -⟩ | ⟨-, h2, -⟩
  · exact absurd h1 h
  · omega
theorem act_txt {f f1 : Nat → Nat → Nat} {S : List Nat} (h : ∀ a, a ∉ S → f1 a = f a) (hs : ∀ a, a ∈ S → coreB a = false) : ∀ a, coreB a = true → f1 a = f a := fun a ha => h a (fun q => by rw [hs a q] at ha; cases ha)
theorem act_rul {f f1 : Nat → Nat → Nat} {S : List Nat} (h : ∀ a, a ∉ S → f1 a = f a) (hs : ∀ a, a ∈ S → ¬ (a = 1 ∨ (16 ≤ a ∧ a ≤ 25) ∨ (52 ≤ a ∧ a ≤ 124))) : ∀ a, (a = 1 ∨ (16 ≤ a ∧ a ≤ 25) ∨ (52 ≤ a ∧ a ≤ 124)) → f1 a = f a := fun a ha => h a (fun q => hs a q ha)
