/-! BOTH SIDES, held against each other -/
def TkU (u : Nat → Nat) (b c : Nat) (sg li co : Nat → Nat) : Prop := u b = c ∧ ∀ q, q < c → u (b + 1 + q) = sg q ∧ u (b + 21 + q) = li q ∧ u (b + 41 + q) = co q
abbrev uix (f : Nat → Nat → Nat) (k : Nat) : Nat := 52 + 4 * ((f 50 1 + 10 - f 50 0 + k) % 10)
def UnR (f g : Nat → Nat → Nat) : Prop := ∀ k, k < f 50 0 → TkU (g 143) (61 * k) (f (uix f k) 0) (f (uix f k + 1)) (f (uix f k + 2)) (f (uix f k + 3))
def kRw (g : Nat → Nat → Nat) (j : Nat) : Nat → Nat → Nat := fun _ q => g 141 (590 * j + q)
def KpR (f g : Nat → Nat → Nat) (k j : Nat) : Prop := g 142 j = f k 0 ∧ (f k 0 ≠ 0 → RowG (kRw g j) (f (k + 1) 0) (f (k + 2)) (f (k + 3)) (f (k + 4)) (f (k + 5)) (f (k + 6)) (f (k + 7)) ∧ RelT (kRw g j) (f (k + 11) 0) (f (k + 12)) (f (k + 13)) (f (k + 14)))
def Rel (L : Nat) (f : Nat → Nat → Nat) (o : Nat → Nat) (g : Nat → Nat → Nat) : Prop := (CInv L f) ∧ (o 7 = f 0 1) ∧ (∀ q, q < f 0 1 → g 144 q = byv (f 1 q)) ∧ (RelG g (f 16 0) (f 17) (f 18) (f 19) (f 20) (f 21) (f 22)) ∧ (RelT g (f 26 0) (f 27) (f 28) (f 29)) ∧ (SafeF g) ∧ (SafeM (g 154)) ∧ (SafeM (g 155)) ∧ (IsLfp (f 16 0) (frR (f 18) (f 19) (f 21) (f 22)) (g 154)) ∧ (IsLfp (f 16 0) (brR (f 18) (f 19) (f 21) (f 22)) (g 155)) ∧ (o 5 = f 50 0) ∧ (UnR f g) ∧ (o 31 = f 92 0) ∧ (∀ q, q < f 92 0 → g 164 q = f 93 q) ∧ (KpR f g 95 0) ∧ (KpR f g 110 1) ∧ (∀ q, g 141 q < 2147483648) ∧ (∀ q, g 143 q < 2147483648) ∧ (∀ q, g 145 q < 2147483648) ∧ (∀ q, g 148 q ≤ 1) ∧ (SafeM (g 161)) ∧ (∀ q, g 162 q ≤ 1) ∧ (SafeM (g 163))
theorem Rel.inv {L : Nat} {f : Nat → Nat → Nat} {o : Nat → Nat} {g : Nat → Nat → Nat} (h : Rel L f o g) : CInv L f := h.1
theorem Rel.len {L : Nat} {f : Nat → Nat → Nat} {o : Nat → Nat} {g : Nat → Nat → Nat} (h : Rel L f o g) : o 7 = f 0 1 := h.2.1
theorem Rel.txt {L : Nat} {f : Nat → Nat → Nat} {o : Nat → Nat} {g : Nat → Nat → Nat} (h : Rel L f o g) : ∀ q, q < f 0 1 → g 144 q = byv (f 1 q) := h.2.2.1
theorem Rel.rg {L : Nat} {f : Nat → Nat → Nat} {o : Nat → Nat} {g : Nat → Nat → Nat} (h : Rel L f o g) : RelG g (f 16 0) (f 17) (f 18) (f 19) (f 20) (f 21) (f 22) := h.2.2.2.1
theorem Rel.rt {L : Nat} {f : Nat → Nat → Nat} {o : Nat → Nat} {g : Nat → Nat → Nat} (h : Rel L f o g) : RelT g (f 26 0) (f 27) (f 28) (f 29) := h.2.2.2.2.1
theorem Rel.sf {L : Nat} {f : Nat → Nat → Nat} {o : Nat → Nat} {g : Nat → Nat → Nat} (h : Rel L f o g) : SafeF g := h.2.2.2.2.2.1
theorem Rel.s4 {L : Nat} {f : Nat → Nat → Nat} {o : Nat → Nat} {g : Nat → Nat → Nat} (h : Rel L f o g) : SafeM (g 154) := h.2.2.2.2.2.2.1
theorem Rel.s5 {L : Nat} {f : Nat → Nat → Nat} {o : Nat → Nat} {g : Nat → Nat → Nat} (h : Rel L f o g) : SafeM (g 155) := h.2.2.2.2.2.2.2.1
theorem Rel.lf {L : Nat} {f : Nat → Nat → Nat} {o : Nat → Nat} {g : Nat → Nat → Nat} (h : Rel L f o g) : IsLfp (f 16 0) (frR (f 18) (f 19) (f 21) (f 22)) (g 154) := h.2.2.2.2.2.2.2.2.1
theorem Rel.lb {L : Nat} {f : Nat → Nat → Nat} {o : Nat → Nat} {g : Nat → Nat → Nat} (h : Rel L f o g) : IsLfp (f 16 0) (brR (f 18) (f 19) (f 21) (f 22)) (g 155) := h.2.2.2.2.2.2.2.2.2.1
theorem Rel.un {L : Nat} {f : Nat → Nat → Nat} {o : Nat → Nat} {g : Nat → Nat → Nat} (h : Rel L f o g) : o 5 = f 50 0 := h.2.2.2.2.2.2.2.2.2.2.1
theorem Rel.uh {L : Nat} {f : Nat → Nat → Nat} {o : Nat → Nat} {g : Nat → Nat → Nat} (h : Rel L f o g) : UnR f g := h.2.2.2.2.2.2.2.2.2.2.2.1
theorem Rel.ln {L : Nat} {f : Nat → Nat → Nat} {o : Nat → Nat} {g : Nat → Nat → Nat} (h : Rel L f o g) : o 31 = f 92 0 := h.2.2.2.2.2.2.2.2.2.2.2.2.1
theorem Rel.lt {L : Nat} {f : Nat → Nat → Nat} {o : Nat → Nat} {g : Nat → Nat → Nat} (h : Rel L f o g) : ∀ q, q < f 92 0 → g 164 q = f 93 q := h.2.2.2.2.2.2.2.2.2.2.2.2.2.1
theorem Rel.k0 {L : Nat} {f : Nat → Nat → Nat} {o : Nat → Nat} {g : Nat → Nat → Nat} (h : Rel L f o g) : KpR f g 95 0 := h.2.2.2.2.2.2.2.2.2.2.2.2.2.2.1
theorem Rel.k1 {L : Nat} {f : Nat → Nat → Nat} {o : Nat → Nat} {g : Nat → Nat → Nat} (h : Rel L f o g) : KpR f g 110 1 := h.2.2.2.2.2.2.2.2.2.2.2.2.2.2.2.1
theorem Rel.b1 {L : Nat} {f : Nat → Nat → Nat} {o : Nat → Nat} {g : Nat → Nat → Nat} (h : Rel L f o g) : ∀ q, g 141 q < 2147483648 := h.2.2.2.2.2.2.2.2.2.2.2.2.2.2.2.2.1
theorem Rel.b3 {L : Nat} {f : Nat → Nat → Nat} {o : Nat → Nat} {g : Nat → Nat → Nat} (h : Rel L f o g) : ∀ q, g 143 q < 2147483648 := h.2.2.2.2.2.2.2.2.2.2.2.2.2.2.2.2.2.1
theorem Rel.b5 {L : Nat} {f : Nat → Nat → Nat} {o : Nat → Nat} {g : Nat → Nat → Nat} (h : Rel L f o g) : ∀ q, g 145 q < 2147483648 := h.2.2.2.2.2.2.2.2.2.2.2.2.2.2.2.2.2.2.1
theorem Rel.b8 {L : Nat} {f : Nat → Nat → Nat} {o : Nat → Nat} {g : Nat → Nat → Nat} (h : Rel L f o g) : ∀ q, g 148 q ≤ 1 := h.2.2.2.2.2.2.2.2.2.2.2.2.2.2.2.2.2.2.2.1
theorem Rel.b61 {L : Nat} {f : Nat → Nat → Nat} {o : Nat → Nat} {g : Nat → Nat → Nat} (h : Rel L f o g) : SafeM (g 161) := h.2.2.2.2.2.2.2.2.2.2.2.2.2.2.2.2.2.2.2.2.1
theorem Rel.b62 {L : Nat} {f : Nat → Nat → Nat} {o : Nat → Nat} {g : Nat → Nat → Nat} (h : Rel L f o g) : ∀ q, g 162 q ≤ 1 := h.2.2.2.2.2.2.2.2.2.2.2.2.2.2.2.2.2.2.2.2.2.1
theorem Rel.b63 {L : Nat} {f : Nat → Nat → Nat} {o : Nat → Nat} {g : Nat → Nat → Nat} (h : Rel L f o g) : SafeM (g 163) := h.2.2.2.2.2.2.2.2.2.2.2.2.2.2.2.2.2.2.2.2.2.2
theorem Rel.dr {L : Nat} {f g : Nat → Nat → Nat} {o : Nat → Nat} (h : Rel L f o g) : DrR (f 16 0) (f 17) (f 18) (f 19) (f 20) (f 21) := fun r a k h1 h2 h3 h4 => ⟨((h.inv.gram.prt _ ⟨r, a, k, h1, h2, h3, rfl⟩).2 h4).2, ((h.inv.gram.prt _ ⟨r, a, k, h1, h2, h3, rfl⟩).2 h4).1⟩
theorem GOK.dr {n : Nat} {gn al_ it pt tg bd : Nat → Nat} {em : Nat} {fr af fb : Nat → Nat} (h : GOK n gn al_ it pt tg bd em fr af fb) : DrR n gn al_ it pt tg := fun r a k h1 h2 h3 h4 => ⟨((h.prt _ ⟨r, a, k, h1, h2, h3, rfl⟩).2 h4).2, ((h.prt _ ⟨r, a, k, h1, h2, h3, rfl⟩).2 h4).1⟩
theorem Rel.fr {L : Nat} {f g : Nat → Nat → Nat} {o : Nat → Nat} (h : Rel L f o g) : ∀ r, r < f 16 0 → g 154 r = f 23 r := IsLfp.uniq h.lf h.inv.gram.lfp h.s4 h.inv.gram.sfr
/-- nothing that an answer shows has changed -/
theorem Rel.keep {L L1 : Nat} {f f9 g g9 : Nat → Nat → Nat} {o o9 : Nat → Nat} (h : Rel L f o g) (hI : CInv L1 f9) (ha : Asame f f9) (h5 : o9 5 = o 5) (h7 : o9 7 = o 7) (h31 : o9 31 = o 31) (hg : ∀ a, a ∈ [140, 141, 142, 143, 144, 145, 148, 153, 154, 155, 164] → g9 a = g a) (hsf : SafeF g9) (h61 : SafeM (g9 161)) (h62 : ∀ q, g9 162 q ≤ 1) (h63 : SafeM (g9 163)) : Rel L1 f9 o9 g9 := by
  have e0 := ha.1
  have e := ha.2
  have e140 := hg 140 (by decide)
  have e141 := hg 141 (by decide)
  have ek : ∀ j, kRw g9 j = kRw g j := fun j => by unfold kRw; rw [e141]
  refine ⟨hI, by rw [h7, e0]; exact h.len, ?_, ?_, ?_, hsf, ?_, ?_, ?_, ?_, ?_, ?_, ?_, ?_, ?_, ?_, ?_, ?_, ?_, ?_, h61, h62, h63⟩
  · rw [e0, hg 144 (by decide), e 1 (by decide)]; exact h.txt
  · rw [e 16 (by decide), e 17 (by decide), e 18 (by decide), e 19 (by decide), e 20 (by decide), e 21 (by decide), e 22 (by decide)]; exact h.rg.keep e140 (hg 153 (by decide))
  · rw [e 26 (by decide), e 27 (by decide), e 28 (by decide), e 29 (by decide)]; exact h.rt.keep e140
  · rw [hg 154 (by decide)]; exact h.s4
  · rw [hg 155 (by decide)]; exact h.s5
  · rw [hg 154 (by decide), e 16 (by decide), e 18 (by decide), e 19 (by decide), e 21 (by decide), e 22 (by decide)]; exact h.lf
  · rw [hg 155 (by decide), e 16 (by decide), e 18 (by decide), e 19 (by decide), e 21 (by decide), e 22 (by decide)]; exact h.lb
  · rw [h5, e 50 (by decide)]; exact h.un
  · intro k hk
    have e50 : f9 50 = f 50 := e 50 (by decide)
    rw [e50] at hk
    have hu : uix f9 k = uix f k := by unfold uix; rw [e50]
    have hm : (f 50 1 + 10 - f 50 0 + k) % 10 < 10 := Nat.mod_lt _ (by decide)
    have hc : ∀ j, j < 4 → f9 (uix f k + j) = f (uix f k + j) := fun j hj => e _ (by
      unfold coreB
      have h1 : 50 ≤ uix f k + j := by unfold uix; omega
      have h2 : uix f k + j ≤ 93 := by unfold uix; omega
      simp [h1, h2])
    rw [hu, hg 143 (by decide), show f9 (uix f k) = f (uix f k) from hc 0 (by decide), hc 1 (by decide), hc 2 (by decide), hc 3 (by decide)]
    exact h.uh k hk
  · rw [h31, e 92 (by decide)]; exact h.ln
  · rw [e 92 (by decide), e 93 (by decide), hg 164 (by decide)]; exact h.lt
  · unfold KpR
    rw [ek, hg 142 (by decide), e 95 (by decide), e 96 (by decide), e 97 (by decide), e 98 (by decide), e 99 (by decide), e 100 (by decide), e 101 (by decide), e 102 (by decide), e 106 (by decide), e 107 (by decide), e 108 (by decide), e 109 (by decide)]; exact h.k0
  · unfold KpR
    rw [ek, hg 142 (by decide), e 110 (by decide), e 111 (by decide), e 112 (by decide), e 113 (by decide), e 114 (by decide), e 115 (by decide), e 116 (by decide), e 117 (by decide), e 121 (by decide), e 122 (by decide), e 123 (by decide), e 124 (by decide)]; exact h.k1
  · rw [e141]; exact h.b1
  · rw [hg 143 (by decide)]; exact h.b3
  · rw [hg 145 (by decide)]; exact h.b5
  · rw [hg 148 (by decide)]; exact h.b8
theorem Rel.mono {L L1 : Nat} {f g : Nat → Nat → Nat} {o : Nat → Nat} (h : Rel L f o g) (hl : L ≤ L1) : Rel L1 f o g := ⟨h.inv.mono hl, h.len, h.txt, h.rg, h.rt, h.sf, h.s4, h.s5, h.lf, h.lb, h.un, h.uh, h.ln, h.lt, h.k0, h.k1, h.b1, h.b3, h.b5, h.b8, h.b61, h.b62, h.b63⟩
theorem Rel.o0 {L v : Nat} {f g : Nat → Nat → Nat} {o : Nat → Nat} (h : Rel L f o g) : Rel L f (up o 0 v) g := ⟨h.inv, h.len, h.txt, h.rg, h.rt, h.sf, h.s4, h.s5, h.lf, h.lb, h.un, h.uh, h.ln, h.lt, h.k0, h.k1, h.b1, h.b3, h.b5, h.b8, h.b61, h.b62, h.b63⟩
theorem RelT.cg {g : Nat → Nat → Nat} {c : Nat} {sg li co sg2 li2 co2 : Nat → Nat} (h : RelT g c sg li co) (e : ∀ q, q < c → sg2 q = sg q ∧ li2 q = li q ∧ co2 q = co q) : RelT g c sg2 li2 co2 := ⟨h.1, fun k hk => by rw [(e k hk).1, (e k hk).2.1, (e k hk).2.2]; exact h.2 k hk⟩
theorem TkU.cg {u : Nat → Nat} {b c : Nat} {sg li co : Nat → Nat} {u2 : Nat → Nat} {b2 : Nat} (h : TkU u b c sg li co) (hc : c ≤ 20) (e : ∀ q, q < 61 → u2 (b2 + q) = u (b + q)) : TkU u2 b2 c sg li co := by
  refine ⟨(e 0 (by decide)).trans h.1, fun q hq => ?_⟩
  have h1 := h.2 q hq
  rw [show b2 + 1 + q = b2 + (1 + q) by omega, show b2 + 21 + q = b2 + (21 + q) by omega, show b2 + 41 + q = b2 + (41 + q) by omega, e (1 + q) (by omega), e (21 + q) (by omega), e (41 + q) (by omega)]
  rw [show b + 1 + q = b + (1 + q) by omega, show b + 21 + q = b + (21 + q) by omega, show b + 41 + q = b + (41 + q) by omega] at h1
  exact h1
/-- an act: the tokens are new, the old ones are remembered -/
theorem UnR.act {f f9 g g9 : Nat → Nat → Nat} (h : UnR f g) (ha : ActS f f9) (hs : f 50 0 ≤ 10) (he : f 50 1 < 10) (hp : ∀ k, k < 10 → f (52 + 4 * k) 0 ≤ 20) (hc : f 26 0 ≤ 20) (ht : RelT g (f 26 0) (f 27) (f 28) (f 29)) (hU : UnS (f 50 0) (g 143) (g 140) (g9 143)) : UnR f9 g9 := by
  obtain ⟨-, h0, h1, hn, ho⟩ := ha
  intro k hk
  rw [h0] at hk
  have hm : (f9 50 1 + 10 - f9 50 0 + k) % 10 < 10 := Nat.mod_lt _ (by decide)
  have hx : (f9 50 1 + 10 - f9 50 0 + k) % 10 = if k + 1 = min (f 50 0 + 1) 10 then f 50 1 else (f 50 1 + 10 - f 50 0 + (k + (if f 50 0 = 10 then 1 else 0))) % 10 := by
    rw [h0, h1]
    by_cases e1 : k + 1 = min (f 50 0 + 1) 10
    · rw [if_pos e1]; omega
    · rw [if_neg e1]; split <;> omega
  by_cases ek : k + 1 = min (f 50 0 + 1) 10
  · have hu : uix f9 k = 52 + 4 * f 50 1 := by unfold uix; rw [hx, if_pos ek]
    rw [hu, hn.1, hn.2.1, hn.2.2.1, hn.2.2.2]
    have hb : 61 * k = 61 * (if f 50 0 = 10 then 9 else f 50 0) := by split <;> omega
    have hr : ∀ q, q < 61 → g9 143 (61 * k + q) = g 140 (529 + q) := fun q hq => by
      rw [hU (61 * k + q), if_neg (by omega), if_pos (by omega), hb, Nat.add_sub_cancel_left]
    refine ⟨(hr 0 (by decide)).trans ht.1, fun q hq => ?_⟩
    have h2 := ht.2 q hq
    rw [show 61 * k + 1 + q = 61 * k + (1 + q) by omega, show 61 * k + 21 + q = 61 * k + (21 + q) by omega, show 61 * k + 41 + q = 61 * k + (41 + q) by omega, hr _ (by omega), hr _ (by omega), hr _ (by omega), show 529 + (1 + q) = 530 + q by omega, show 529 + (21 + q) = 550 + q by omega, show 529 + (41 + q) = 570 + q by omega]
    exact h2
  · have hk2 : k + (if f 50 0 = 10 then 1 else 0) < f 50 0 := by split <;> omega
    have hu : uix f9 k = uix f (k + (if f 50 0 = 10 then 1 else 0)) := by unfold uix; rw [hx, if_neg ek]
    have hne : (f 50 1 + 10 - f 50 0 + (k + (if f 50 0 = 10 then 1 else 0))) % 10 ≠ f 50 1 := by split <;> split at hk2 <;> omega
    have hlt : (f 50 1 + 10 - f 50 0 + (k + (if f 50 0 = 10 then 1 else 0))) % 10 < 10 := Nat.mod_lt _ (by decide)
    have hold : ∀ j, j < 4 → f9 (uix f (k + (if f 50 0 = 10 then 1 else 0)) + j) = f (uix f (k + (if f 50 0 = 10 then 1 else 0)) + j) := fun j hj => ho _ j hlt hne hj
    rw [hu, show f9 (uix f (k + (if f 50 0 = 10 then 1 else 0))) = f (uix f (k + (if f 50 0 = 10 then 1 else 0))) from hold 0 (by decide), hold 1 (by decide), hold 2 (by decide), hold 3 (by decide)]
    refine (h _ hk2).cg (hp _ hlt) (fun q hq => ?_)
    rw [hU (61 * k + q), if_pos (by split <;> split at hk2 <;> omega)]
    congr 1
    split <;> omega
theorem Rel.act {L L1 : Nat} {f f9 g g9 : Nat → Nat → Nat} {o o9 : Nat → Nat} (h : Rel L f o g) (hI : CInv L1 f9) (ha : ActS f f9) (h5 : o9 5 = (if o 5 = 10 then 10 else o 5 + 1)) (h7 : o9 7 = o 7) (h31 : o9 31 = o 31) (hg : ∀ a, a ∈ [141, 142, 144, 145, 148, 153, 154, 155, 156, 157, 158, 159, 160, 161, 162, 163, 164] → g9 a = g a) (hr : ∀ q, q < 529 → g9 140 q = g 140 q) (hb : ∀ q, g9 140 q < 2147483648) (hU : UnS (o 5) (g 143) (g 140) (g9 143)) (ht : RelT g9 (f9 26 0) (f9 27) (f9 28) (f9 29)) : Rel L1 f9 o9 g9 := by
  have hA := ha
  obtain ⟨⟨c0, c1, c2, c3⟩, a0, a1, -, -⟩ := ha
  have hsz := h.inv.hsz
  have e141 := hg 141 (by decide)
  have ek : ∀ j, kRw g9 j = kRw g j := fun j => by unfold kRw; rw [e141]
  have hG : SafeG (f 16 0) (f 17) (f 18) (f 19) (f 20) (f 21) (f 22) := h.inv.gram.safe
  refine ⟨hI, by rw [h7, c0]; exact h.len, ?_, ?_, ht, ?_, ?_, ?_, ?_, ?_, ?_, ?_, ?_, ?_, ?_, ?_, ?_, ?_, ?_, ?_, ?_, ?_, ?_⟩
  · rw [c0, hg 144 (by decide), c1]; exact h.txt
  · rw [c2 16 (by decide) (by decide), c2 17 (by decide) (by decide), c2 18 (by decide) (by decide), c2 19 (by decide) (by decide), c2 20 (by decide) (by decide), c2 21 (by decide) (by decide), c2 22 (by decide) (by decide)]
    have hn := hG.1
    refine ⟨(hr 0 (by decide)).trans h.rg.1, fun r hr1 => (hr _ (by omega)).trans (h.rg.2.1 r hr1), fun r hr1 => (hr _ (by omega)).trans (h.rg.2.2.1 r hr1), fun r a hr1 ha1 => (hr _ (by have := hG.2.2.1 r; omega)).trans (h.rg.2.2.2.1 r a hr1 ha1), fun x hx => ?_⟩
    have hxl : x < 160 := by
      obtain ⟨r, a, k, x1, x2, x3, rfl⟩ := hx
      have := hG.2.2.1 r
      have := hG.2.2.2.1 (r * 4 + a)
      omega
    have h9 := h.rg.2.2.2.2 x hx
    exact ⟨(hr _ (by omega)).trans h9.1, (hr _ (by omega)).trans h9.2.1, (hr _ (by omega)).trans h9.2.2.1, by rw [hg 153 (by decide)]; exact h9.2.2.2⟩
  · exact ⟨hb, by rw [hg 156 (by decide)]; exact h.sf.2.1, by rw [hg 157 (by decide)]; exact h.sf.2.2.1, by rw [hg 158 (by decide)]; exact h.sf.2.2.2.1, by rw [hg 159 (by decide)]; exact h.sf.2.2.2.2.1, by rw [hg 160 (by decide)]; exact h.sf.2.2.2.2.2⟩
  · rw [hg 154 (by decide)]; exact h.s4
  · rw [hg 155 (by decide)]; exact h.s5
  · rw [hg 154 (by decide), c2 16 (by decide) (by decide), c2 18 (by decide) (by decide), c2 19 (by decide) (by decide), c2 21 (by decide) (by decide), c2 22 (by decide) (by decide)]; exact h.lf
  · rw [hg 155 (by decide), c2 16 (by decide) (by decide), c2 18 (by decide) (by decide), c2 19 (by decide) (by decide), c2 21 (by decide) (by decide), c2 22 (by decide) (by decide)]; exact h.lb
  · rw [h5, a0, h.un]; split <;> omega
  · exact h.uh.act hA hsz h.inv.hen (fun k hk => (p10_get h.inv.past k hk).safe.1) h.inv.tok.safe.1 h.rt (by rw [← h.un]; exact hU)
  · rw [h31, c3 92 (by decide) (by decide)]; exact h.ln
  · rw [c3 92 (by decide) (by decide), c3 93 (by decide) (by decide), hg 164 (by decide)]; exact h.lt
  · unfold KpR
    rw [ek, hg 142 (by decide), c3 95 (by decide) (by decide), c3 96 (by decide) (by decide), c3 97 (by decide) (by decide), c3 98 (by decide) (by decide), c3 99 (by decide) (by decide), c3 100 (by decide) (by decide), c3 101 (by decide) (by decide), c3 102 (by decide) (by decide), c3 106 (by decide) (by decide), c3 107 (by decide) (by decide), c3 108 (by decide) (by decide), c3 109 (by decide) (by decide)]; exact h.k0
  · unfold KpR
    rw [ek, hg 142 (by decide), c3 110 (by decide) (by decide), c3 111 (by decide) (by decide), c3 112 (by decide) (by decide), c3 113 (by decide) (by decide), c3 114 (by decide) (by decide), c3 115 (by decide) (by decide), c3 116 (by decide) (by decide), c3 117 (by decide) (by decide), c3 121 (by decide) (by decide), c3 122 (by decide) (by decide), c3 123 (by decide) (by decide), c3 124 (by decide) (by decide)]; exact h.k1
  · rw [e141]; exact h.b1
  · intro q
    rw [hU q]
    (repeat' split) <;> first | exact h.b3 _ | exact h.sf.1 _
  · rw [hg 145 (by decide)]; exact h.b5
  · rw [hg 148 (by decide)]; exact h.b8
  · rw [hg 161 (by decide)]; exact h.b61
  · rw [hg 162 (by decide)]; exact h.b62
  · rw [hg 163 (by decide)]; exact h.b63
/-- the step of a call: both answer alike, and the relation stands again -/
def St (yC yM : zY) (as : List Value) (L : Nat) : Prop := ∀ (Mq : zM) (f : Nat → Nat → Nat) (o : Nat → Nat) (g : Nat → Nat → Nat), CC Mq f → MM Mq o g → Rel L f o g → Zm 98 yC (.ref 0 :: as) Mq (fun r9 M1 => (∃ f9, CC M1 f9) ∧ Smc Mq M1 ∧ ∃ v, r9 = some v ∧ Zm 98 yM (.ref 139 :: as) M1 (fun r8 M2 => r8 = some v ∧ ∃ f9 o9 g9, CC M2 f9 ∧ MM M2 o9 g9 ∧ Rel (L + 1) f9 o9 g9 ∧ M2.length = Mq.length ∧ ∀ a, 176 < a → M2[a]? = Mq[a]?))
/-- out of both contracts -/
theorem St.mk1 {yC yM : zY} {as : List Value} {L dC dM : Nat} {Mq : zM} {f : Nat → Nat → Nat} {o : Nat → Nat} {g : Nat → Nat → Nat} {PC : Option Value → zM → Prop} (hM : MM Mq o g) (hdC : dC ≤ 98) (hdM : dM ≤ 98) (hc : Zm dC yC (.ref 0 :: as) Mq PC) (hk : ∀ r9 M1, PC r9 M1 → ∃ v f9, r9 = some v ∧ CC M1 f9 ∧ Smc Mq M1 ∧ (MM M1 o g → Zm dM yM (.ref 139 :: as) M1 (fun r8 M2 => r8 = some v ∧ ∃ o9 g9 S, MM M2 o9 g9 ∧ Sm M1 M2 S ∧ (∀ a, a ∈ S → 139 ≤ a ∧ a ≤ 176) ∧ Rel (L + 1) f9 o9 g9))) : Zm 98 yC (.ref 0 :: as) Mq (fun r9 M1 => (∃ f9, CC M1 f9) ∧ Smc Mq M1 ∧ ∃ v, r9 = some v ∧ Zm 98 yM (.ref 139 :: as) M1 (fun r8 M2 => r8 = some v ∧ ∃ f9 o9 g9, CC M2 f9 ∧ MM M2 o9 g9 ∧ Rel (L + 1) f9 o9 g9 ∧ M2.length = Mq.length ∧ ∀ a, 176 < a → M2[a]? = Mq[a]?)) := by
  refine Zm.mono hc hdC (fun r9 M1 hp => ?_)
  obtain ⟨v, f9, h1, h2, h3, h4⟩ := hk r9 M1 hp
  refine ⟨⟨f9, h2⟩, h3, v, h1, Zm.mono (h4 (hM.smc h3)) hdM (fun r8 M2 hq => ?_)⟩
  obtain ⟨q1, o9, g9, S, q2, q3, q4, q5⟩ := hq
  have hm := Smm.of q3 q4
  exact ⟨q1, f9, o9, g9, h2.smm hm, q2, q5, hm.1.trans h3.1, fun a ha => (hm.2 a (Or.inr ha)).trans (h3.2 a (by omega))⟩
/-- a call that leaves the cells of the class -/
theorem St.mk0 {yC yM : zY} {as : List Value} {L dC dM : Nat} {Mq : zM} {f : Nat → Nat → Nat} {o : Nat → Nat} {g : Nat → Nat → Nat} {v : Value} (hC : CC Mq f) (hM : MM Mq o g) (hR : Rel L f o g) (hdC : dC ≤ 98) (hdM : dM ≤ 98) (hc : Zm dC yC (.ref 0 :: as) Mq (fun r9 M1 => r9 = some v ∧ M1 = Mq)) (hm : Zm dM yM (.ref 139 :: as) Mq (fun r9 M1 => r9 = some v ∧ MM M1 (up o 0 0) g ∧ Sm Mq M1 [139])) : Zm 98 yC (.ref 0 :: as) Mq (fun r9 M1 => (∃ f9, CC M1 f9) ∧ Smc Mq M1 ∧ ∃ v, r9 = some v ∧ Zm 98 yM (.ref 139 :: as) M1 (fun r8 M2 => r8 = some v ∧ ∃ f9 o9 g9, CC M2 f9 ∧ MM M2 o9 g9 ∧ Rel (L + 1) f9 o9 g9 ∧ M2.length = Mq.length ∧ ∀ a, 176 < a → M2[a]? = Mq[a]?)) := by
  refine St.mk1 (dC := dC) (dM := dM) (f := f) hM hdC hdM hc (fun r9 M1 hp => ?_)
  obtain ⟨rfl, rfl⟩ := hp
  exact ⟨v, f, rfl, hC, Smc.rf, fun _ => Zm.mono hm (Nat.le_refl _) (fun r8 M2 hq => ⟨hq.1, _, _, [139], hq.2.1, hq.2.2, by decide, (hR.mono (Nat.le_succ _)).o0⟩)⟩
theorem i32_ex {x : Int32} (h : 0 ≤ x.toInt) : ∃ k : Nat, x = nI k ∧ x.toInt = (k : Int) := ⟨x.toInt.toNat, i32_nat h, (Int.toNat_of_nonneg h).symm⟩
