/-! WHAT CAN BE EMPTY, by passes -/
def emCl (n : Nat) (Em : (Nat → Bool) → Nat → Prop) (e : Nat → Bool) : Prop := ∀ r, r < n → Em e r → e r = true
def emMo (n : Nat) (Em : (Nat → Bool) → Nat → Prop) : Prop := ∀ e g : Nat → Bool, (∀ r, r < n → e r = true → g r = true) → ∀ r, r < n → Em e r → Em g r
def EmI (n : Nat) (Em : (Nat → Bool) → Nat → Prop) (e0 : Nat → Bool) (y : Nat) (e : Nat → Bool) : Prop := (y ≤ n) ∧ (∀ g : Nat → Bool, emCl n Em g → ∀ r, r < n → e r = true → g r = true) ∧ (∀ r, r < n → e0 r = true → e r = true) ∧ (cnt e0 n < cnt e n ∨ ((∀ r, r < n → e r = e0 r) ∧ ∀ r, r < y → Em e r → e r = true)) ∧ (emCl n Em e0 → ∀ r, r < n → e r = e0 r)
theorem EmI.y_le {n : Nat} {Em : (Nat → Bool) → Nat → Prop} {e0 : Nat → Bool} {y : Nat} {e : Nat → Bool} (h : EmI n Em e0 y e) : y ≤ n := h.1
theorem EmI.lst {n : Nat} {Em : (Nat → Bool) → Nat → Prop} {e0 : Nat → Bool} {y : Nat} {e : Nat → Bool} (h : EmI n Em e0 y e) : ∀ g : Nat → Bool, emCl n Em g → ∀ r, r < n → e r = true → g r = true := h.2.1
theorem EmI.grw {n : Nat} {Em : (Nat → Bool) → Nat → Prop} {e0 : Nat → Bool} {y : Nat} {e : Nat → Bool} (h : EmI n Em e0 y e) : ∀ r, r < n → e0 r = true → e r = true := h.2.2.1
theorem EmI.alt {n : Nat} {Em : (Nat → Bool) → Nat → Prop} {e0 : Nat → Bool} {y : Nat} {e : Nat → Bool} (h : EmI n Em e0 y e) : cnt e0 n < cnt e n ∨ ((∀ r, r < n → e r = e0 r) ∧ ∀ r, r < y → Em e r → e r = true) := h.2.2.2.1
theorem EmI.clo {n : Nat} {Em : (Nat → Bool) → Nat → Prop} {e0 : Nat → Bool} {y : Nat} {e : Nat → Bool} (h : EmI n Em e0 y e) : emCl n Em e0 → ∀ r, r < n → e r = e0 r := h.2.2.2.2
def EmP (n : Nat) (Em : (Nat → Bool) → Nat → Prop) (ps : Nat) (e : Nat → Bool) : Prop := (∀ g : Nat → Bool, emCl n Em g → ∀ r, r < n → e r = true → g r = true) ∧ (emCl n Em e ∨ ps ≤ cnt e n)
theorem EmP.lst {n : Nat} {Em : (Nat → Bool) → Nat → Prop} {ps : Nat} {e : Nat → Bool} (h : EmP n Em ps e) : ∀ g : Nat → Bool, emCl n Em g → ∀ r, r < n → e r = true → g r = true := h.1
theorem EmP.alt {n : Nat} {Em : (Nat → Bool) → Nat → Prop} {ps : Nat} {e : Nat → Bool} (h : EmP n Em ps e) : emCl n Em e ∨ ps ≤ cnt e n := h.2
theorem cnt_le_of {p q : Nat → Bool} : ∀ {n : Nat}, (∀ r, r < n → p r = true → q r = true) → cnt p n ≤ cnt q n
  | 0, _ => Nat.le_refl _
  | n + 1, h => by
    rw [cnt, cnt]
    have := cnt_le_of (p := p) (q := q) (n := n) (fun r hr => h r (by omega))
    cases hp : p n with
    | true => rw [if_pos rfl, if_pos (h n (by omega) hp)]; omega
    | false => rw [if_neg (by decide)]; split <;> omega
theorem cnt_lt_of2 {p q : Nat → Bool} : ∀ {n c : Nat}, (∀ r, r < n → p r = true → q r = true) → c < n → p c = false → q c = true → cnt p n < cnt q n
  | 0, c, _, hc, _, _ => by omega
  | n + 1, c, h, hc, h1, h2 => by
    rw [cnt, cnt]
    by_cases e : c = n
    · have := cnt_le_of (p := p) (q := q) (n := n) (fun r hr => h r (by omega))
      rw [← e, if_neg (by rw [h1]; decide), if_pos h2]
      rw [e]; omega
    · have := cnt_lt_of2 (p := p) (q := q) (n := n) (c := c) (fun r hr => h r (by omega)) (by omega) h1 h2
      cases hp : p n with
      | true => rw [if_pos rfl, if_pos (h n (by omega) hp)]; omega
      | false => rw [if_neg (by decide)]; split <;> omega
theorem cnt_full {p : Nat → Bool} : ∀ {n : Nat}, n ≤ cnt p n → ∀ r, r < n → p r = true
  | 0, _, r, hr => by omega
  | n + 1, h, r, hr => by
    rw [cnt] at h
    have h1 := cnt_le p n
    have hp : p n = true := by
      cases hp : p n with
      | true => rfl
      | false => rw [hp, if_neg (by decide)] at h; omega
    by_cases e : r = n
    · rw [e]; exact hp
    · exact cnt_full (n := n) (by rw [if_pos hp] at h; omega) r (by omega)
theorem EmP.start {n : Nat} {Em : (Nat → Bool) → Nat → Prop} {e : Nat → Bool} (h : ∀ r, r < n → e r = false) : EmP n Em 0 e := ⟨fun g _ r hr q => (by rw [h r hr] at q; cases q), Or.inr (Nat.zero_le _)⟩
theorem EmP.go {n : Nat} {Em : (Nat → Bool) → Nat → Prop} {ps : Nat} {e : Nat → Bool} (h : EmP n Em ps e) : EmI n Em e 0 e := ⟨Nat.zero_le _, h.lst, fun _ _ q => q, Or.inr ⟨fun _ _ => rfl, fun r hr => absurd hr (Nat.not_lt_zero _)⟩, fun _ _ _ => rfl⟩
theorem EmI.step {n : Nat} {Em : (Nat → Bool) → Nat → Prop} {e0 e e1 : Nat → Bool} {y : Nat} (hm : emMo n Em) (h : EmI n Em e0 y e) (hy : y < n) (h1 : ∀ r, r < n → r ≠ y → e1 r = e r) (h2 : e1 y = true ↔ (e y = true ∨ Em e y)) : EmI n Em e0 (y + 1) e1 := by
  have hg : ∀ r, r < n → e r = true → e1 r = true := fun r hr q => if q2 : r = y then by rw [q2] at q ⊢; exact h2.mpr (Or.inl q) else by rw [h1 r hr q2]; exact q
  refine ⟨by omega, fun g hcl r hr q => ?_, fun r hr q => hg r hr (h.grw r hr q), ?_, fun hc r hr => ?_⟩
  · by_cases q2 : r = y
    · rw [q2] at q ⊢
      rcases h2.mp q with q3 | q3
      · exact h.lst g hcl y hy q3
      · exact hcl y hy (hm e g (h.lst g hcl) y hy q3)
    · rw [h1 r hr q2] at q; exact h.lst g hcl r hr q
  · rcases h.alt with q | ⟨q1, q2⟩
    · have := cnt_le_of (n := n) hg
      exact Or.inl (by omega)
    · cases hy1 : e y with
      | true =>
        have e1e : ∀ r, r < n → e1 r = e r := fun r hr => if q3 : r = y then by rw [q3, hy1]; exact h2.mpr (Or.inl hy1) else h1 r hr q3
        refine Or.inr ⟨fun r hr => (e1e r hr).trans (q1 r hr), fun r hr q4 => ?_⟩
        rw [e1e r (by omega)]
        have q5 := hm e1 e (fun t ht => by rw [e1e t ht]; exact id) r (by omega) q4
        by_cases q3 : r = y
        · rw [q3]; exact hy1
        · exact q2 r (by omega) q5
      | false =>
        cases hy2 : e1 y with
        | true =>
          have a1 := cnt_le_of (p := e0) (q := e) (n := n) h.grw
          have a2 := cnt_lt_of2 (n := n) hg hy hy1 hy2
          exact Or.inl (by omega)
        | false =>
          have e1e : ∀ r, r < n → e1 r = e r := fun r hr => if q3 : r = y then by rw [q3, hy1, hy2] else h1 r hr q3
          refine Or.inr ⟨fun r hr => (e1e r hr).trans (q1 r hr), fun r hr q4 => ?_⟩
          have q5 := hm e1 e (fun t ht => by rw [e1e t ht]; exact id) r (by omega) q4
          by_cases q3 : r = y
          · rw [q3] at q5 ⊢
            exact h2.mpr (Or.inr q5)
          · rw [e1e r (by omega)]; exact q2 r (by omega) q5
  · have hee := h.clo hc
    by_cases q2 : r = y
    · rw [q2, ← hee y hy]
      cases hy1 : e y with
      | true => exact h2.mpr (Or.inl hy1)
      | false =>
        cases hy2 : e1 y with
        | false => rfl
        | true =>
          rcases h2.mp hy2 with q3 | q3
          · rw [hy1] at q3; cases q3
          · have q4 := hc y hy (hm e e0 (fun t ht => by rw [hee t ht]; exact id) y hy q3)
            rw [← hee y hy, hy1] at q4; cases q4
    · rw [h1 r hr q2]; exact hee r hr
theorem EmI.fin {n : Nat} {Em : (Nat → Bool) → Nat → Prop} {e0 e : Nat → Bool} {ps : Nat} (hm : emMo n Em) (h0 : EmP n Em ps e0) (h : EmI n Em e0 n e) : EmP n Em (ps + 1) e := by
  refine ⟨h.lst, ?_⟩
  rcases h0.alt with q | q
  · have hee := h.clo q
    exact Or.inl (fun r hr q2 => by rw [hee r hr]; exact q r hr (hm e e0 (fun t ht => by rw [hee t ht]; exact id) r hr q2))
  · rcases h.alt with q2 | ⟨_, q3⟩
    · exact Or.inr (by omega)
    · exact Or.inl (fun r hr q4 => q3 r hr q4)
theorem EmP.done {n : Nat} {Em : (Nat → Bool) → Nat → Prop} {e : Nat → Bool} (h : EmP n Em n e) : emCl n Em e := by
  rcases h.alt with q | q
  · exact q
  · exact fun r hr _ => cnt_full q r hr
theorem emR_mo {n : Nat} {al_ it tg : Nat → Nat} (hc : CloT n al_ it tg) : emMo n (emR al_ it tg) := fun e g h r hr q => by
  obtain ⟨a, ha, hk⟩ := q
  exact ⟨a, ha, fun k h1 => ⟨(hk k h1).1, h _ ((hc r a k hr ha h1).resolve_left (hk k h1).1) (hk k h1).2⟩⟩
theorem IsEmp.of {n : Nat} {al_ it tg : Nat → Nat} {e : Nat → Bool} (hc : CloT n al_ it tg) (h : EmP n (emR al_ it tg) n e) : IsEmp n al_ it tg e := by
  have hd := h.done
  refine ⟨fun r hr => ⟨fun q => ?_, hd r hr⟩, fun g hg r hr q => h.lst g hg r hr q⟩
  have := Classical.propDecidable
  have q2 := h.lst (fun t => decide (emR al_ it tg e t)) (fun t ht q3 => decide_eq_true (emR_mo hc _ _ (fun u hu q4 => hd u hu (of_decide_eq_true q4)) t ht q3)) r hr q
  exact of_decide_eq_true q2
theorem IsEmp.uniq {n : Nat} {al_ it tg : Nat → Nat} {e g : Nat → Bool} (h1 : IsEmp n al_ it tg e) (h2 : IsEmp n al_ it tg g) : ∀ r, r < n → e r = g r := fun r hr => by
  have a1 := h1.2 g (fun t ht q => (h2.1 t ht).mpr q) r hr
  have a2 := h2.2 e (fun t ht q => (h1.1 t ht).mpr q) r hr
  cases he : e r with
  | true => exact (a1 he).symm
  | false =>
    cases hg : g r with
    | false => rfl
    | true => rw [a2 hg] at he; cases he
/-- those items of an alt that can't be empty -/
def neC (tg it : Nat → Nat) (e : Nat → Bool) (a : Nat) : Nat := cnt (fun k => !(decide (tg (a * 5 + k) ≠ NO) && e (tg (a * 5 + k)))) (it a)
theorem neC_0 {tg it : Nat → Nat} {e : Nat → Bool} {a : Nat} : neC tg it e a = 0 ↔ emA tg it e a := by
  unfold neC emA
  constructor
  · intro h k hk
    have := cnt_zero h k hk
    simp at this
    exact this
  · intro h
    exact cnt_0 (fun k hk => by have := h k hk; simp [this.1, this.2])
def heB (al_ tg it : Nat → Nat) (e : Nat → Bool) (r : Nat) : Bool := decide (cnt (fun a => decide (neC tg it e (r * 4 + a) = 0)) (al_ r) ≠ 0)
theorem heB_iff {al_ tg it : Nat → Nat} {e : Nat → Bool} {r : Nat} : heB al_ tg it e r = true ↔ emR al_ it tg e r := by
  unfold heB emR
  rw [decide_eq_true_eq]
  constructor
  · intro h
    obtain ⟨a, ha, h2⟩ := cnt_some h
    exact ⟨a, ha, neC_0.mp (of_decide_eq_true h2)⟩
  · rintro ⟨a, ha, h⟩ h2
    have := cnt_zero h2 a ha
    rw [decide_eq_false_iff_not] at this
    exact this (neC_0.mpr h)
