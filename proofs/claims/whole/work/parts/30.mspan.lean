/-! THE MODEL'S SPANS -/
theorem stp_rch {E : Nat → Nat → Nat} {V : Nat → Nat → Nat → Nat} {A : Nat → Nat} {i j a k : Nat} (h : ∀ q, i ≤ q → q ≤ j → A q = rch E V i a k q) {q : Nat} (hq : q ≤ j) : orR (fun p => A p &&& letsN (E 4 (a * 5 + k)) (itm E V (a * 5 + k) p q)) i (q + 1 - i) = rch E V i a (k + 1) q := by
  rw [rch]
  apply orR_cong
  intro p h1 h2
  show A p &&& _ = _
  rw [h p h1 (by omega)]
theorem itm_mono {E : Nat → Nat → Nat} {W W' : Nat → Nat → Nat → Nat} {s p q : Nat} (h : E 2 s ≠ NO → bitsub (W (E 2 s) p q) (W' (E 2 s) p q)) : bitsub (itm E W s p q) (itm E W' s p q) := by
  unfold itm
  by_cases e : E 2 s = NO
  · rw [if_pos e, if_pos e]; exact bs_rf _
  · rw [if_neg e, if_neg e]; exact h e
theorem rch_monoN {E : Nat → Nat → Nat} {W W' : Nat → Nat → Nat → Nat} {i r a n Q : Nat} (hcl : Clo E n) (hr : r < n) (ha : a < E 0 r) (hE : ∀ q, E 6 q < 40) (b1 : ∀ t p q, W t p q < 1099511627776) (b2 : ∀ t p q, W' t p q < 1099511627776) (h : ∀ t p q, t < n → i ≤ p → p ≤ q → q ≤ Q → bitsub (W t p q) (W' t p q)) : ∀ (k q : Nat), k ≤ E 1 (r * 4 + a) → q ≤ Q → bitsub (rch E W i (r * 4 + a) k q) (rch E W' i (r * 4 + a) k q)
  | 0, _, _, _ => bs_rf _
  | k + 1, q, hk, hq => by
    rw [rch, rch]
    apply orR_mono
    intro p h1 h2
    refine bs_and (rch_monoN hcl hr ha hE b1 b2 h k p (by omega) (by omega)) (letsN_mono (itm_lt b1 hE) (itm_lt b2 hE) (itm_mono (fun e => ?_)))
    exact h _ p q ((hcl r hr a ha k (by omega)).resolve_left e) h1 (by omega) hq
theorem fR_monoN {E : Nat → Nat → Nat} {W W' : Nat → Nat → Nat → Nat} {r i j n : Nat} (hcl : Clo E n) (hr : r < n) (hE : ∀ q, E 6 q < 40) (b1 : ∀ t p q, W t p q < 1099511627776) (b2 : ∀ t p q, W' t p q < 1099511627776) (h : ∀ t p q, t < n → i ≤ p → p ≤ q → q ≤ j → bitsub (W t p q) (W' t p q)) : bitsub (fR E W r i j) (fR E W' r i j) := by
  unfold fR
  apply orR_mono
  intro p h1 h2
  exact rch_monoN hcl hr (by omega) hE b1 b2 h _ _ (Nat.le_refl _) (Nat.le_refl _)
def VS (V V9 : Nat → Nat) (i j : Nat) : Prop := ∀ t p q, p < 22 → q < 22 → ¬ (p = i ∧ q = j) → v3 V9 t p q = v3 V t p q
theorem VS.rf {V : Nat → Nat} {i j : Nat} : VS V V i j := fun _ _ _ _ _ _ => rfl
theorem VS.put {V V1 : Nat → Nat} {i j : Nat} (h : VS V V1 i j) (r v : Nat) (hi : i < 22) (hj : j < 22) : VS V (up V1 (22 * (22 * r + i) + j) v) i j := by
  intro t p q h1 h2 h3
  rw [← h t p q h1 h2 h3]
  show up V1 _ v _ = V1 _
  unfold up
  rw [if_neg (by omega)]
theorem v3_up {V1 : Nat → Nat} {r t i j v : Nat} (hi : i < 22) (hj : j < 22) : v3 (up V1 (22 * (22 * r + i) + j) v) t i j = if t = r then v else v3 V1 t i j := by
  show up V1 _ v _ = _
  unfold up
  by_cases e : t = r
  · subst e; rw [if_pos rfl, if_pos rfl]
  · rw [if_neg (by omega), if_neg e]; rfl
/-- all spans that end below j are right, and those that end at j from i on -/
def VOK (E : Nat → Nat → Nat) (n i j : Nat) (V : Nat → Nat) : Prop := SafeM V ∧ (∀ t p q, t < n → p ≤ q → q < j → v3 V t p q = wh E n t p q) ∧ (∀ t p, t < n → i ≤ p → p ≤ j → v3 V t p j = wh E n t p j)
def VpH (E : Nat → Nat → Nat) (n i j : Nat) (V : Nat → Nat) : Prop := ∀ t p q, t < n → i ≤ p → p ≤ q → q ≤ j → ¬ (p = i ∧ q = j) → v3 V t p q = wh E n t p q
theorem VOK.sp {E : Nat → Nat → Nat} {n i j : Nat} {V : Nat → Nat} (h : VOK E n (i + 1) j V) : VpH E n i j V := fun t p q h1 h2 h3 h4 h5 => by
  by_cases e : q = j
  · rw [e]; exact h.2.2 t p h1 (by omega) (by omega)
  · exact h.2.1 t p q h1 h3 (by omega)
theorem VpH.now {E : Nat → Nat → Nat} {n i j : Nat} {V V9 : Nat → Nat} (h : VpH E n i j V) (hj : j < 22) (hs : VS V V9 i j) : VpH E n i j V9 := fun t p q h1 h2 h3 h4 h5 => by
  rw [hs t p q (by omega) (by omega) h5]
  exact h t p q h1 h2 h3 h4 h5
def MpI (E : Nat → Nat → Nat) (n : Nat) (emp : Nat → Prop) (rk : Nat → Nat) (V : Nat → Nat) (i j ps x mp : Nat) (V3 : Nat → Nat) : Prop := (x ≤ n) ∧ (mp ≤ 1) ∧ (SafeM V3) ∧ (VS V V3 i j) ∧ (i = j → ∀ t, t < n → v3 V3 t i j ≠ 0 → emp t) ∧ (∀ t, t < n → rk t < ps → v3 V3 t i j = wh E n t i j) ∧ (∀ t, t < x → rk t < ps + 1 → v3 V3 t i j = wh E n t i j) ∧ (∀ t, t < n → bitsub (v3 V3 t i j) (wh E n t i j)) ∧ (mp = 0 → ∀ t, t < x → bitsub (fR E (v3 V3) t i j) (v3 V3 t i j)) ∧ (ps = n → mp = 0)
theorem MpI.x_le {E : Nat → Nat → Nat} {n : Nat} {emp : Nat → Prop} {rk : Nat → Nat} {V : Nat → Nat} {i j ps x mp : Nat} {V3 : Nat → Nat} (h : MpI E n emp rk V i j ps x mp V3) : x ≤ n := h.1
theorem MpI.mp_le {E : Nat → Nat → Nat} {n : Nat} {emp : Nat → Prop} {rk : Nat → Nat} {V : Nat → Nat} {i j ps x mp : Nat} {V3 : Nat → Nat} (h : MpI E n emp rk V i j ps x mp V3) : mp ≤ 1 := h.2.1
theorem MpI.sv {E : Nat → Nat → Nat} {n : Nat} {emp : Nat → Prop} {rk : Nat → Nat} {V : Nat → Nat} {i j ps x mp : Nat} {V3 : Nat → Nat} (h : MpI E n emp rk V i j ps x mp V3) : SafeM V3 := h.2.2.1
theorem MpI.vs {E : Nat → Nat → Nat} {n : Nat} {emp : Nat → Prop} {rk : Nat → Nat} {V : Nat → Nat} {i j ps x mp : Nat} {V3 : Nat → Nat} (h : MpI E n emp rk V i j ps x mp V3) : VS V V3 i j := h.2.2.2.1
theorem MpI.em {E : Nat → Nat → Nat} {n : Nat} {emp : Nat → Prop} {rk : Nat → Nat} {V : Nat → Nat} {i j ps x mp : Nat} {V3 : Nat → Nat} (h : MpI E n emp rk V i j ps x mp V3) : i = j → ∀ t, t < n → v3 V3 t i j ≠ 0 → emp t := h.2.2.2.2.1
theorem MpI.lo {E : Nat → Nat → Nat} {n : Nat} {emp : Nat → Prop} {rk : Nat → Nat} {V : Nat → Nat} {i j ps x mp : Nat} {V3 : Nat → Nat} (h : MpI E n emp rk V i j ps x mp V3) : ∀ t, t < n → rk t < ps → v3 V3 t i j = wh E n t i j := h.2.2.2.2.2.1
theorem MpI.hi {E : Nat → Nat → Nat} {n : Nat} {emp : Nat → Prop} {rk : Nat → Nat} {V : Nat → Nat} {i j ps x mp : Nat} {V3 : Nat → Nat} (h : MpI E n emp rk V i j ps x mp V3) : ∀ t, t < x → rk t < ps + 1 → v3 V3 t i j = wh E n t i j := h.2.2.2.2.2.2.1
theorem MpI.sub {E : Nat → Nat → Nat} {n : Nat} {emp : Nat → Prop} {rk : Nat → Nat} {V : Nat → Nat} {i j ps x mp : Nat} {V3 : Nat → Nat} (h : MpI E n emp rk V i j ps x mp V3) : ∀ t, t < n → bitsub (v3 V3 t i j) (wh E n t i j) := h.2.2.2.2.2.2.2.1
theorem MpI.done {E : Nat → Nat → Nat} {n : Nat} {emp : Nat → Prop} {rk : Nat → Nat} {V : Nat → Nat} {i j ps x mp : Nat} {V3 : Nat → Nat} (h : MpI E n emp rk V i j ps x mp V3) : mp = 0 → ∀ t, t < x → bitsub (fR E (v3 V3) t i j) (v3 V3 t i j) := h.2.2.2.2.2.2.2.2.1
theorem MpI.last {E : Nat → Nat → Nat} {n : Nat} {emp : Nat → Prop} {rk : Nat → Nat} {V : Nat → Nat} {i j ps x mp : Nat} {V3 : Nat → Nat} (h : MpI E n emp rk V i j ps x mp V3) : ps = n → mp = 0 := h.2.2.2.2.2.2.2.2.2
def MpP (E : Nat → Nat → Nat) (n : Nat) (emp : Nat → Prop) (rk : Nat → Nat) (V : Nat → Nat) (i j ps mo : Nat) (V3 : Nat → Nat) : Prop := (ps ≤ n + 1) ∧ (mo ≤ 1) ∧ (SafeM V3) ∧ (VS V V3 i j) ∧ (i = j → ∀ t, t < n → v3 V3 t i j ≠ 0 → emp t) ∧ (∀ t, t < n → rk t < ps → v3 V3 t i j = wh E n t i j) ∧ (∀ t, t < n → bitsub (v3 V3 t i j) (wh E n t i j)) ∧ (mo = 0 → ∀ t, t < n → v3 V3 t i j = wh E n t i j) ∧ (ps = n + 1 → mo = 0)
theorem MpP.ps_le {E : Nat → Nat → Nat} {n : Nat} {emp : Nat → Prop} {rk : Nat → Nat} {V : Nat → Nat} {i j ps mo : Nat} {V3 : Nat → Nat} (h : MpP E n emp rk V i j ps mo V3) : ps ≤ n + 1 := h.1
theorem MpP.mo_le {E : Nat → Nat → Nat} {n : Nat} {emp : Nat → Prop} {rk : Nat → Nat} {V : Nat → Nat} {i j ps mo : Nat} {V3 : Nat → Nat} (h : MpP E n emp rk V i j ps mo V3) : mo ≤ 1 := h.2.1
theorem MpP.sv {E : Nat → Nat → Nat} {n : Nat} {emp : Nat → Prop} {rk : Nat → Nat} {V : Nat → Nat} {i j ps mo : Nat} {V3 : Nat → Nat} (h : MpP E n emp rk V i j ps mo V3) : SafeM V3 := h.2.2.1
theorem MpP.vs {E : Nat → Nat → Nat} {n : Nat} {emp : Nat → Prop} {rk : Nat → Nat} {V : Nat → Nat} {i j ps mo : Nat} {V3 : Nat → Nat} (h : MpP E n emp rk V i j ps mo V3) : VS V V3 i j := h.2.2.2.1
theorem MpP.em {E : Nat → Nat → Nat} {n : Nat} {emp : Nat → Prop} {rk : Nat → Nat} {V : Nat → Nat} {i j ps mo : Nat} {V3 : Nat → Nat} (h : MpP E n emp rk V i j ps mo V3) : i = j → ∀ t, t < n → v3 V3 t i j ≠ 0 → emp t := h.2.2.2.2.1
theorem MpP.lo {E : Nat → Nat → Nat} {n : Nat} {emp : Nat → Prop} {rk : Nat → Nat} {V : Nat → Nat} {i j ps mo : Nat} {V3 : Nat → Nat} (h : MpP E n emp rk V i j ps mo V3) : ∀ t, t < n → rk t < ps → v3 V3 t i j = wh E n t i j := h.2.2.2.2.2.1
theorem MpP.sub {E : Nat → Nat → Nat} {n : Nat} {emp : Nat → Prop} {rk : Nat → Nat} {V : Nat → Nat} {i j ps mo : Nat} {V3 : Nat → Nat} (h : MpP E n emp rk V i j ps mo V3) : ∀ t, t < n → bitsub (v3 V3 t i j) (wh E n t i j) := h.2.2.2.2.2.2.1
theorem MpP.done {E : Nat → Nat → Nat} {n : Nat} {emp : Nat → Prop} {rk : Nat → Nat} {V : Nat → Nat} {i j ps mo : Nat} {V3 : Nat → Nat} (h : MpP E n emp rk V i j ps mo V3) : mo = 0 → ∀ t, t < n → v3 V3 t i j = wh E n t i j := h.2.2.2.2.2.2.2.1
theorem MpP.last {E : Nat → Nat → Nat} {n : Nat} {emp : Nat → Prop} {rk : Nat → Nat} {V : Nat → Nat} {i j ps mo : Nat} {V3 : Nat → Nat} (h : MpP E n emp rk V i j ps mo V3) : ps = n + 1 → mo = 0 := h.2.2.2.2.2.2.2.2
theorem MpP.start {E : Nat → Nat → Nat} {n : Nat} {emp : Nat → Prop} {rk : Nat → Nat} {V : Nat → Nat} {i j : Nat} {V3 : Nat → Nat} (sv : SafeM V3) (hs : VS V V3 i j) (h0 : ∀ t, t < n → v3 V3 t i j = 0) : MpP E n emp rk V i j 0 1 V3 :=
  ⟨by omega, Nat.le_refl _, sv, hs, fun _ t ht hq => absurd (h0 t ht) hq, fun t _ hk => by omega, fun t ht => by rw [h0 t ht]; exact bs_0 _, fun e => by omega, fun e => by omega⟩
theorem MpP.go {E : Nat → Nat → Nat} {n : Nat} {emp : Nat → Prop} {rk : Nat → Nat} {V : Nat → Nat} {i j ps mo : Nat} {V3 : Nat → Nat} (h : MpP E n emp rk V i j ps mo V3) : MpI E n emp rk V i j ps 0 0 V3 :=
  ⟨Nat.zero_le _, Nat.zero_le _, h.sv, h.vs, h.em, h.lo, fun t ht => by omega, h.sub, fun _ t ht => by omega, fun _ => rfl⟩
theorem or_sub {a b : Nat} (h : bitsub a b) : a ||| b = b := bs_eq (bs_or h (bs_rf _)) (bs_or2 _ _)
theorem or_eq_l {a b : Nat} (h : a ||| b = a) : bitsub b a := fun c hc => by rw [← h]; exact bs_or2 a b c hc
theorem MpI.step {E : Nat → Nat → Nat} {n : Nat} {emp : Nat → Prop} {rk : Nat → Nat} {V : Nat → Nat} {i j ps x mp : Nat} {V3 : Nat → Nat} (hA : Acyc E n emp rk) (hE : ∀ q, E 6 q < 40) (hij : i ≤ j) (hj : j < 22) (hw : VpH E n i j V) (h : MpI E n emp rk V i j ps x mp V3) (hx : x < n) : MpI E n emp rk V i j ps (x + 1) (if mp ≠ 0 ∨ v3 V3 x i j ||| fR E (v3 V3) x i j ≠ v3 V3 x i j then 1 else 0) (up V3 (22 * (22 * x + i) + j) (v3 V3 x i j ||| fR E (v3 V3) x i j)) := by
  have hi' : i < 22 := by omega
  have hws := VpH.now hw hj h.vs
  have hwh : rk x < ps + 1 → fR E (v3 V3) x i j = wh E n x i j := fun hk => wh_step hA hx hij hws h.em (fun t ht hlt => h.lo t ht (by omega))
  have hsb : bitsub (fR E (v3 V3) x i j) (wh E n x i j) := by
    rw [wh_fix hA hx hij]
    refine fR_monoN hA.1 hx hE (fun _ _ _ => h.sv _) (fun _ _ _ => wh_lt) (fun t p q ht h1 h2 h3 => ?_)
    by_cases g : p = i ∧ q = j
    · rw [g.1, g.2]; exact h.sub t ht
    · rw [hws t p q ht h1 h2 h3 g]; exact bs_rf _
  have hv : rk x < ps + 1 → v3 V3 x i j ||| fR E (v3 V3) x i j = wh E n x i j := fun hk => by rw [hwh hk]; exact or_sub (h.sub x hx)
  have hat : ∀ t, v3 (up V3 (22 * (22 * x + i) + j) (v3 V3 x i j ||| fR E (v3 V3) x i j)) t i j = if t = x then v3 V3 x i j ||| fR E (v3 V3) x i j else v3 V3 t i j := fun t => v3_up hi' hj
  refine ⟨by omega, by split <;> omega, safe_up h.sv (or_lt40 (h.sv _) fR_lt), h.vs.put _ _ hi' hj, ?_, ?_, ?_, ?_, ?_, ?_⟩
  · intro e t ht h0
    rw [hat] at h0
    by_cases g : t = x
    · rw [if_pos g] at h0
      subst e
      rw [g]
      by_cases z : v3 V3 x i i = 0
      · rw [z, Nat.zero_or] at h0
        exact fR_empN hA.1 hA.2.1 (fun t' h1 h2 => h.em rfl t' h1 h2) hx h0
      · exact h.em rfl x hx z
    · rw [if_neg g] at h0
      exact h.em e t ht h0
  · intro t ht hk
    rw [hat]
    by_cases g : t = x
    · rw [if_pos g, g]; rw [g] at hk; exact hv (by omega)
    · rw [if_neg g]; exact h.lo t ht hk
  · intro t ht hk
    rw [hat]
    by_cases g : t = x
    · rw [if_pos g, g]; rw [g] at hk; exact hv hk
    · rw [if_neg g]; exact h.hi t (by omega) hk
  · intro t ht
    rw [hat]
    by_cases g : t = x
    · rw [if_pos g, g]; exact bs_or (h.sub x hx) hsb
    · rw [if_neg g]; exact h.sub t ht
  · intro h0 t ht
    by_cases c : mp ≠ 0 ∨ v3 V3 x i j ||| fR E (v3 V3) x i j ≠ v3 V3 x i j
    · rw [if_pos c] at h0; cases h0
    · have c1 : mp = 0 := by omega
      have c2 : v3 V3 x i j ||| fR E (v3 V3) x i j = v3 V3 x i j := by
        rcases Nat.decEq (v3 V3 x i j ||| fR E (v3 V3) x i j) (v3 V3 x i j) with e | e
        · exact absurd (Or.inr e) c
        · exact e
      have c3 : up V3 (22 * (22 * x + i) + j) (v3 V3 x i j ||| fR E (v3 V3) x i j) = V3 := by rw [c2]; exact up_id _ _
      rw [c3]
      by_cases g : t = x
      · rw [g]; exact or_eq_l c2
      · exact h.done c1 t (by omega)
  · intro e
    have c1 := h.last e
    have c2 : rk x < n := (hA.2.2 _ hx).1
    rw [if_neg]
    rintro (q | q)
    · exact q c1
    · exact q (by rw [hv (by omega), h.lo _ hx (by omega)])
theorem wh_uniq2 {E : Nat → Nat → Nat} {n : Nat} {emp : Nat → Prop} {rk : Nat → Nat} (hA : Acyc E n emp rk) {i j : Nat} (hij : i ≤ j) {W : Nat → Nat → Nat → Nat} (hW : ∀ t p q, t < n → i ≤ p → p ≤ q → q ≤ j → ¬ (p = i ∧ q = j) → W t p q = wh E n t p q) (hV : i = j → ∀ t, t < n → W t i j ≠ 0 → emp t) (he : ∀ t, t < n → bitsub (fR E W t i j) (W t i j)) (hs : ∀ t, t < n → bitsub (W t i j) (wh E n t i j)) : ∀ (m t : Nat), t < n → rk t < m → W t i j = wh E n t i j
  | 0, t, ht, hm => by omega
  | m + 1, t, ht, hm => by
    have h1 := wh_step hA ht hij hW hV (fun t' h1 h2 => wh_uniq2 hA hij hW hV he hs m t' h1 (by omega))
    exact bs_eq (hs t ht) (h1 ▸ he t ht)
theorem MpI.fin {E : Nat → Nat → Nat} {n : Nat} {emp : Nat → Prop} {rk : Nat → Nat} {V : Nat → Nat} {i j ps mp : Nat} {V3 : Nat → Nat} (hA : Acyc E n emp rk) (hij : i ≤ j) (hj : j < 22) (hw : VpH E n i j V) {x : Nat} (h : MpI E n emp rk V i j ps x mp V3) (hx : x = n) (hp : ps ≤ n) : MpP E n emp rk V i j (ps + 1) mp V3 := by
  subst hx
  refine ⟨by omega, h.mp_le, h.sv, h.vs, h.em, fun t ht hk => h.hi t ht hk, h.sub, fun h0 t ht => ?_, fun e => h.last (by omega)⟩
  exact wh_uniq2 hA hij (VpH.now hw hj h.vs) h.em (fun t ht => h.done h0 t ht) h.sub (rk t + 1) t ht (Nat.lt_succ_self _)
theorem VOK.down {E : Nat → Nat → Nat} {n : Nat} {emp : Nat → Prop} {rk : Nat → Nat} {V V3 : Nat → Nat} {i j ps mo : Nat} (h : VOK E n (i + 1) j V) (hi : i ≤ j) (hj : j < 22) (h9 : MpP E n emp rk V i j ps mo V3) (hm : mo = 0) : VOK E n i j V3 := by
  refine ⟨h9.sv, fun t p q h1 h2 h3 => ?_, fun t p h1 h2 h3 => ?_⟩
  · rw [h9.vs t p q (by omega) (by omega) (by omega)]
    exact h.2.1 t p q h1 h2 h3
  · by_cases e : p = i
    · rw [e]; exact h9.done hm t h1
    · rw [h9.vs t p j (by omega) (by omega) (by omega)]
      exact h.2.2 t p h1 (by omega) h3
theorem VOK.sp1 {E : Nat → Nat → Nat} {n x j : Nat} {V : Nat → Nat} (h : VOK E n x j V) (hx : 0 < x) : VpH E n (x - 1) j V := by
  obtain ⟨y, rfl⟩ : ∃ y, x = y + 1 := ⟨x - 1, by omega⟩
  exact h.sp
theorem VOK.down1 {E : Nat → Nat → Nat} {n : Nat} {emp : Nat → Prop} {rk : Nat → Nat} {V V3 : Nat → Nat} {x j ps mo : Nat} (h : VOK E n x j V) (hx : 0 < x) (hi : x ≤ j + 1) (hj : j < 22) (h9 : MpP E n emp rk V (x - 1) j ps mo V3) (hm : mo = 0) : VOK E n (x - 1) j V3 := by
  obtain ⟨y, rfl⟩ : ∃ y, x = y + 1 := ⟨x - 1, by omega⟩
  exact h.down (by omega) hj h9 hm
/-- all spans that end below j are right -/
def VAll (E : Nat → Nat → Nat) (n j : Nat) (V : Nat → Nat) : Prop := ∀ t p q, t < n → p ≤ q → q < j → v3 V t p q = wh E n t p q
theorem VAll.ok {E : Nat → Nat → Nat} {n j : Nat} {V : Nat → Nat} (h : VAll E n j V) (hs : SafeM V) : VOK E n (j + 1) j V := ⟨hs, h, fun t p _ h2 h3 => by omega⟩
theorem VOK.all {E : Nat → Nat → Nat} {n j x : Nat} {V : Nat → Nat} (h : VOK E n x j V) (hx : x = 0) : VAll E n (j + 1) V := fun t p q h1 h2 h3 => by
  by_cases e : q = j
  · subst e; exact h.2.2 t p h1 (by omega) h2
  · exact h.2.1 t p q h1 h2 (by omega)
theorem VAll.zero {E : Nat → Nat → Nat} {n : Nat} {V : Nat → Nat} : VAll E n 0 V := fun t p q _ _ h => by omega
