/-! A SPAN of the chart: passes over the rules until nothing changes -/
theorem up_id (g : Nat → Nat) (k : Nat) : up g k (g k) = g := by
  funext q
  unfold up
  split
  · rename_i e; rw [e]
  · rfl
def WS (W W9 : Nat → Nat) (i j : Nat) : Prop := ∀ t p q, p < 21 → q < 21 → ¬ (p = i ∧ q = j) → w3 W9 t p q = w3 W t p q
theorem WS.put {W W1 : Nat → Nat} {i j : Nat} (h : WS W W1 i j) (r v : Nat) (hi : i < 21) (hj : j < 21) : WS W (up W1 ((r * 21 + i) * 21 + j) v) i j := by
  intro t p q h1 h2 h3
  rw [← h t p q h1 h2 h3]
  show up W1 _ v _ = W1 _
  unfold up
  rw [if_neg (by omega)]
theorem w3_up {W1 : Nat → Nat} {r t i j v : Nat} (hi : i < 21) (hj : j < 21) : w3 (up W1 ((r * 21 + i) * 21 + j) v) t i j = if t = r then v else w3 W1 t i j := by
  show up W1 _ v _ = _
  unfold up
  by_cases e : t = r
  · subst e; rw [if_pos rfl, if_pos rfl]
  · rw [if_neg (by omega), if_neg e]; rfl
/-- all that holds between two rules of a pass: W the columns before, W3 R3 those now, x rules are still to come -/
def SpI (E : Nat → Nat → Nat) (n : Nat) (emp : Nat → Prop) (rk : Nat → Nat) (W : Nat → Nat) (i j ps x mp : Nat) (W3 R3 : Nat → Nat) : Prop := (x ≤ n) ∧ (mp ≤ 1) ∧ (SafeM W3) ∧ (SafeM R3) ∧ (WS W W3 i j) ∧ (i = j → ∀ t, t < n → w3 W3 t i j ≠ 0 → emp t) ∧ (∀ t, t < n → rk t < ps → w3 W3 t i j = wh E n t i j) ∧ (∀ t, t < n → x ≤ t → rk t < ps + 1 → w3 W3 t i j = wh E n t i j) ∧ (∀ r, r < n → ∀ p, i ≤ p → p < j → RokAt R3 E (w3 W3) i r p) ∧ (mp = 0 → ∀ t, t < n → x ≤ t → RokAt R3 E (w3 W3) i t j ∧ w3 W3 t i j = fR E (w3 W3) t i j) ∧ (ps = n → mp = 0)
theorem SpI.x_le {E : Nat → Nat → Nat} {n : Nat} {emp : Nat → Prop} {rk : Nat → Nat} {W : Nat → Nat} {i j ps x mp : Nat} {W3 R3 : Nat → Nat} (h : SpI E n emp rk W i j ps x mp W3 R3) : x ≤ n := h.1
theorem SpI.mp_le {E : Nat → Nat → Nat} {n : Nat} {emp : Nat → Prop} {rk : Nat → Nat} {W : Nat → Nat} {i j ps x mp : Nat} {W3 R3 : Nat → Nat} (h : SpI E n emp rk W i j ps x mp W3 R3) : mp ≤ 1 := h.2.1
theorem SpI.sw {E : Nat → Nat → Nat} {n : Nat} {emp : Nat → Prop} {rk : Nat → Nat} {W : Nat → Nat} {i j ps x mp : Nat} {W3 R3 : Nat → Nat} (h : SpI E n emp rk W i j ps x mp W3 R3) : SafeM W3 := h.2.2.1
theorem SpI.sr {E : Nat → Nat → Nat} {n : Nat} {emp : Nat → Prop} {rk : Nat → Nat} {W : Nat → Nat} {i j ps x mp : Nat} {W3 R3 : Nat → Nat} (h : SpI E n emp rk W i j ps x mp W3 R3) : SafeM R3 := h.2.2.2.1
theorem SpI.ws {E : Nat → Nat → Nat} {n : Nat} {emp : Nat → Prop} {rk : Nat → Nat} {W : Nat → Nat} {i j ps x mp : Nat} {W3 R3 : Nat → Nat} (h : SpI E n emp rk W i j ps x mp W3 R3) : WS W W3 i j := h.2.2.2.2.1
theorem SpI.em {E : Nat → Nat → Nat} {n : Nat} {emp : Nat → Prop} {rk : Nat → Nat} {W : Nat → Nat} {i j ps x mp : Nat} {W3 R3 : Nat → Nat} (h : SpI E n emp rk W i j ps x mp W3 R3) : i = j → ∀ t, t < n → w3 W3 t i j ≠ 0 → emp t := h.2.2.2.2.2.1
theorem SpI.lo {E : Nat → Nat → Nat} {n : Nat} {emp : Nat → Prop} {rk : Nat → Nat} {W : Nat → Nat} {i j ps x mp : Nat} {W3 R3 : Nat → Nat} (h : SpI E n emp rk W i j ps x mp W3 R3) : ∀ t, t < n → rk t < ps → w3 W3 t i j = wh E n t i j := h.2.2.2.2.2.2.1
theorem SpI.hi {E : Nat → Nat → Nat} {n : Nat} {emp : Nat → Prop} {rk : Nat → Nat} {W : Nat → Nat} {i j ps x mp : Nat} {W3 R3 : Nat → Nat} (h : SpI E n emp rk W i j ps x mp W3 R3) : ∀ t, t < n → x ≤ t → rk t < ps + 1 → w3 W3 t i j = wh E n t i j := h.2.2.2.2.2.2.2.1
theorem SpI.rows {E : Nat → Nat → Nat} {n : Nat} {emp : Nat → Prop} {rk : Nat → Nat} {W : Nat → Nat} {i j ps x mp : Nat} {W3 R3 : Nat → Nat} (h : SpI E n emp rk W i j ps x mp W3 R3) : ∀ r, r < n → ∀ p, i ≤ p → p < j → RokAt R3 E (w3 W3) i r p := h.2.2.2.2.2.2.2.2.1
theorem SpI.done {E : Nat → Nat → Nat} {n : Nat} {emp : Nat → Prop} {rk : Nat → Nat} {W : Nat → Nat} {i j ps x mp : Nat} {W3 R3 : Nat → Nat} (h : SpI E n emp rk W i j ps x mp W3 R3) : mp = 0 → ∀ t, t < n → x ≤ t → RokAt R3 E (w3 W3) i t j ∧ w3 W3 t i j = fR E (w3 W3) t i j := h.2.2.2.2.2.2.2.2.2.1
theorem SpI.last {E : Nat → Nat → Nat} {n : Nat} {emp : Nat → Prop} {rk : Nat → Nat} {W : Nat → Nat} {i j ps x mp : Nat} {W3 R3 : Nat → Nat} (h : SpI E n emp rk W i j ps x mp W3 R3) : ps = n → mp = 0 := h.2.2.2.2.2.2.2.2.2.2
/-- between two passes -/
def SpP (E : Nat → Nat → Nat) (n : Nat) (emp : Nat → Prop) (rk : Nat → Nat) (W : Nat → Nat) (i j ps mo : Nat) (W3 R3 : Nat → Nat) : Prop := (ps ≤ n + 1) ∧ (mo ≤ 1) ∧ (SafeM W3) ∧ (SafeM R3) ∧ (WS W W3 i j) ∧ (i = j → ∀ t, t < n → w3 W3 t i j ≠ 0 → emp t) ∧ (∀ t, t < n → rk t < ps → w3 W3 t i j = wh E n t i j) ∧ (∀ r, r < n → ∀ p, i ≤ p → p < j → RokAt R3 E (w3 W3) i r p) ∧ (mo = 0 → ∀ t, t < n → RokAt R3 E (w3 W3) i t j ∧ w3 W3 t i j = wh E n t i j) ∧ (ps = n + 1 → mo = 0)
theorem SpP.ps_le {E : Nat → Nat → Nat} {n : Nat} {emp : Nat → Prop} {rk : Nat → Nat} {W : Nat → Nat} {i j ps mo : Nat} {W3 R3 : Nat → Nat} (h : SpP E n emp rk W i j ps mo W3 R3) : ps ≤ n + 1 := h.1
theorem SpP.mo_le {E : Nat → Nat → Nat} {n : Nat} {emp : Nat → Prop} {rk : Nat → Nat} {W : Nat → Nat} {i j ps mo : Nat} {W3 R3 : Nat → Nat} (h : SpP E n emp rk W i j ps mo W3 R3) : mo ≤ 1 := h.2.1
theorem SpP.sw {E : Nat → Nat → Nat} {n : Nat} {emp : Nat → Prop} {rk : Nat → Nat} {W : Nat → Nat} {i j ps mo : Nat} {W3 R3 : Nat → Nat} (h : SpP E n emp rk W i j ps mo W3 R3) : SafeM W3 := h.2.2.1
theorem SpP.sr {E : Nat → Nat → Nat} {n : Nat} {emp : Nat → Prop} {rk : Nat → Nat} {W : Nat → Nat} {i j ps mo : Nat} {W3 R3 : Nat → Nat} (h : SpP E n emp rk W i j ps mo W3 R3) : SafeM R3 := h.2.2.2.1
theorem SpP.ws {E : Nat → Nat → Nat} {n : Nat} {emp : Nat → Prop} {rk : Nat → Nat} {W : Nat → Nat} {i j ps mo : Nat} {W3 R3 : Nat → Nat} (h : SpP E n emp rk W i j ps mo W3 R3) : WS W W3 i j := h.2.2.2.2.1
theorem SpP.em {E : Nat → Nat → Nat} {n : Nat} {emp : Nat → Prop} {rk : Nat → Nat} {W : Nat → Nat} {i j ps mo : Nat} {W3 R3 : Nat → Nat} (h : SpP E n emp rk W i j ps mo W3 R3) : i = j → ∀ t, t < n → w3 W3 t i j ≠ 0 → emp t := h.2.2.2.2.2.1
theorem SpP.lo {E : Nat → Nat → Nat} {n : Nat} {emp : Nat → Prop} {rk : Nat → Nat} {W : Nat → Nat} {i j ps mo : Nat} {W3 R3 : Nat → Nat} (h : SpP E n emp rk W i j ps mo W3 R3) : ∀ t, t < n → rk t < ps → w3 W3 t i j = wh E n t i j := h.2.2.2.2.2.2.1
theorem SpP.rows {E : Nat → Nat → Nat} {n : Nat} {emp : Nat → Prop} {rk : Nat → Nat} {W : Nat → Nat} {i j ps mo : Nat} {W3 R3 : Nat → Nat} (h : SpP E n emp rk W i j ps mo W3 R3) : ∀ r, r < n → ∀ p, i ≤ p → p < j → RokAt R3 E (w3 W3) i r p := h.2.2.2.2.2.2.2.1
theorem SpP.done {E : Nat → Nat → Nat} {n : Nat} {emp : Nat → Prop} {rk : Nat → Nat} {W : Nat → Nat} {i j ps mo : Nat} {W3 R3 : Nat → Nat} (h : SpP E n emp rk W i j ps mo W3 R3) : mo = 0 → ∀ t, t < n → RokAt R3 E (w3 W3) i t j ∧ w3 W3 t i j = wh E n t i j := h.2.2.2.2.2.2.2.2.1
theorem SpP.last {E : Nat → Nat → Nat} {n : Nat} {emp : Nat → Prop} {rk : Nat → Nat} {W : Nat → Nat} {i j ps mo : Nat} {W3 R3 : Nat → Nat} (h : SpP E n emp rk W i j ps mo W3 R3) : ps = n + 1 → mo = 0 := h.2.2.2.2.2.2.2.2.2
def SpH (E : Nat → Nat → Nat) (n : Nat) (W : Nat → Nat) (i j : Nat) : Prop := ∀ t p q, t < n → i ≤ p → p ≤ q → q ≤ j → ¬ (p = i ∧ q = j) → w3 W t p q = wh E n t p q
theorem SpH.now {E : Nat → Nat → Nat} {n : Nat} {W W3 : Nat → Nat} {i j : Nat} (h : SpH E n W i j) (hj : j < 21) (hs : WS W W3 i j) : SpH E n W3 i j := fun t p q h1 h2 h3 h4 h5 => by
  rw [hs t p q (by omega) (by omega) h5]
  exact h t p q h1 h2 h3 h4 h5
theorem rows_up {E : Nat → Nat → Nat} {n : Nat} {W3 R3 : Nat → Nat} {i j r v : Nat} (hcl : Clo E n) (hi : i < 21) (hj : j < 21) (h : ∀ r, r < n → ∀ p, i ≤ p → p < j → RokAt R3 E (w3 W3) i r p) : ∀ t, t < n → ∀ p, i ≤ p → p < j → RokAt R3 E (w3 (up W3 ((r * 21 + i) * 21 + j) v)) i t p := fun t ht p p1 p2 =>
  (h t ht p p1 p2).congN hcl ht (fun t' p' q _ _ h2 h3 => ((WS.put (fun _ _ _ _ _ _ => rfl) r v hi hj : WS W3 _ i j) t' p' q (by omega) (by omega) (by omega)).symm)
theorem SpI.step {E : Nat → Nat → Nat} {n : Nat} {emp : Nat → Prop} {rk : Nat → Nat} {W : Nat → Nat} {i j ps x mp : Nat} {W3 R3 R9 : Nat → Nat} (hA : Acyc E n emp rk) (hal : ∀ q, E 0 q ≤ 4) (hit : ∀ q, E 1 q ≤ 5) (hij : i ≤ j) (hj : j < 21) (hw : SpH E n W i j) (h : SpI E n emp rk W i j ps x mp W3 R3) (hx : 0 < x) (h9 : SafeM R9) (hE : RokAt R9 E (w3 W3) i (x - 1) j) (hF : FilFr R3 R9 (x - 1) j) : SpI E n emp rk W i j ps (x - 1) (if mp ≠ 0 ∨ fR E (w3 W3) (x - 1) i j ≠ w3 W3 (x - 1) i j then 1 else 0) (up W3 (((x - 1) * 21 + i) * 21 + j) (fR E (w3 W3) (x - 1) i j)) R9 := by
  have hr : x - 1 < n := by have := h.x_le; omega
  have hi' : i < 21 := by omega
  have hws := SpH.now hw hj h.ws
  have hwh : rk (x - 1) < ps + 1 → fR E (w3 W3) (x - 1) i j = wh E n (x - 1) i j := fun hk => wh_step hA hr hij hws h.em (fun t ht hlt => h.lo t ht (by omega))
  have hat : ∀ t, w3 (up W3 (((x - 1) * 21 + i) * 21 + j) (fR E (w3 W3) (x - 1) i j)) t i j = if t = x - 1 then fR E (w3 W3) (x - 1) i j else w3 W3 t i j := fun t => w3_up hi' hj
  refine ⟨by have := h.x_le; omega, by split <;> omega, safe_up h.sw fR_lt, h9, h.ws.put _ _ hi' hj, ?_, ?_, ?_, ?_, ?_, ?_⟩
  · intro e t ht h0
    rw [hat] at h0
    by_cases g : t = x - 1
    · rw [if_pos g] at h0
      subst e
      rw [g]
      exact fR_empN hA.1 hA.2.1 (fun t' h1 h2 => h.em rfl t' h1 h2) hr h0
    · rw [if_neg g] at h0
      exact h.em e t ht h0
  · intro t ht hk
    rw [hat]
    by_cases g : t = x - 1
    · rw [if_pos g, g]; rw [g] at hk; exact hwh (by omega)
    · rw [if_neg g]; exact h.lo t ht hk
  · intro t ht hxt hk
    rw [hat]
    by_cases g : t = x - 1
    · rw [if_pos g, g]; rw [g] at hk; exact hwh hk
    · rw [if_neg g]; exact h.hi t ht (by omega) hk
  · intro t ht p p1 p2
    exact rows_up hA.1 hi' hj (fun t ht p p1 p2 => (h.rows t ht p p1 p2).keep hF hal hit hj (by omega) (Or.inr (by omega))) t ht p p1 p2
  · intro h0 t ht hxt
    by_cases c : mp ≠ 0 ∨ fR E (w3 W3) (x - 1) i j ≠ w3 W3 (x - 1) i j
    · rw [if_pos c] at h0; cases h0
    · have c1 : mp = 0 := by omega
      have c2 : fR E (w3 W3) (x - 1) i j = w3 W3 (x - 1) i j := by
        rcases Nat.decEq (fR E (w3 W3) (x - 1) i j) (w3 W3 (x - 1) i j) with e | e
        · exact absurd (Or.inr e) c
        · exact e
      have c3 : up W3 (((x - 1) * 21 + i) * 21 + j) (fR E (w3 W3) (x - 1) i j) = W3 := by rw [c2]; exact up_id _ _
      rw [c3]
      by_cases g : t = x - 1
      · rw [g]; exact ⟨hE, c2.symm⟩
      · obtain ⟨d1, d2⟩ := h.done c1 t ht (by omega)
        exact ⟨d1.keep hF hal hit hj hj (Or.inl g), d2⟩
  · intro e
    have c1 := h.last e
    have c2 : rk (x - 1) < n := (hA.2.2 _ hr).1
    rw [if_neg]
    rintro (q | q)
    · exact q c1
    · exact q (by rw [hwh (by omega), h.lo _ hr (by omega)])
theorem wh_uniq {E : Nat → Nat → Nat} {n : Nat} {emp : Nat → Prop} {rk : Nat → Nat} (hA : Acyc E n emp rk) {i j : Nat} (hij : i ≤ j) {W : Nat → Nat → Nat → Nat} (hW : ∀ t p q, t < n → i ≤ p → p ≤ q → q ≤ j → ¬ (p = i ∧ q = j) → W t p q = wh E n t p q) (hV : i = j → ∀ t, t < n → W t i j ≠ 0 → emp t) (he : ∀ t, t < n → W t i j = fR E W t i j) : ∀ (m t : Nat), t < n → rk t < m → W t i j = wh E n t i j
  | 0, t, ht, hm => by omega
  | m + 1, t, ht, hm => by
    rw [he t ht]
    exact wh_step hA ht hij hW hV (fun t' h1 h2 => wh_uniq hA hij hW hV he m t' h1 (by omega))
theorem SpI.fin {E : Nat → Nat → Nat} {n : Nat} {emp : Nat → Prop} {rk : Nat → Nat} {W : Nat → Nat} {i j ps mp : Nat} {W3 R3 : Nat → Nat} (hA : Acyc E n emp rk) (hij : i ≤ j) (hj : j < 21) (hw : SpH E n W i j) (h : SpI E n emp rk W i j ps 0 mp W3 R3) (hp : ps ≤ n) : SpP E n emp rk W i j (ps + 1) mp W3 R3 := by
  refine ⟨by omega, h.mp_le, h.sw, h.sr, h.ws, h.em, fun t ht hk => h.hi t ht (Nat.zero_le _) hk, h.rows, fun h0 t ht => ⟨(h.done h0 t ht (Nat.zero_le _)).1, ?_⟩, fun e => h.last (by omega)⟩
  exact wh_uniq hA hij (SpH.now hw hj h.ws) h.em (fun t ht => (h.done h0 t ht (Nat.zero_le _)).2) (rk t + 1) t ht (Nat.lt_succ_self _)
theorem SpP.go {E : Nat → Nat → Nat} {n : Nat} {emp : Nat → Prop} {rk : Nat → Nat} {W : Nat → Nat} {i j ps mo : Nat} {W3 R3 : Nat → Nat} (h : SpP E n emp rk W i j ps mo W3 R3) : SpI E n emp rk W i j ps n 0 W3 R3 :=
  ⟨Nat.le_refl _, Nat.zero_le _, h.sw, h.sr, h.ws, h.em, h.lo, fun t ht hx _ => by omega, h.rows, fun _ t ht hx => by omega, fun _ => rfl⟩
theorem SpP.start {E : Nat → Nat → Nat} {n : Nat} {emp : Nat → Prop} {rk : Nat → Nat} {W : Nat → Nat} {i j : Nat} {W3 R3 : Nat → Nat} (hA : Acyc E n emp rk) (hj : j < 21) (sw : SafeM W3) (sr : SafeM R3) (hs : WS W W3 i j) (h0 : ∀ t, t < n → w3 W3 t i j = 0) (hP : ∀ r, r < n → ∀ p, i ≤ p → p < j → RokAt R3 E (w3 W) i r p) : SpP E n emp rk W i j 0 1 W3 R3 :=
  ⟨by omega, Nat.le_refl _, sw, sr, hs, fun _ t ht hq => absurd (h0 t ht) hq, fun t _ hk => by omega, fun r hr p p1 p2 => (hP r hr p p1 p2).congN hA.1 hr (fun t p' q _ _ h2 h3 => (hs t p' q (by omega) (by omega) (by omega)).symm), fun e => by omega, fun e => by omega⟩
/-- between two spans of the chart: all spans from beyond i are right, and those from i up to below j; their rows too -/
def ChI (E : Nat → Nat → Nat) (n c i j : Nat) (W R : Nat → Nat) : Prop := (SafeM W) ∧ (SafeM R) ∧ (∀ t p q, t < n → i < p → p ≤ q → q ≤ c → w3 W t p q = wh E n t p q) ∧ (∀ t q, t < n → i ≤ q → q < j → w3 W t i q = wh E n t i q) ∧ (∀ r, r < n → ∀ p, i ≤ p → p < j → RokAt R E (w3 W) i r p)
theorem ChI.sw {E : Nat → Nat → Nat} {n c i j : Nat} {W R : Nat → Nat} (h : ChI E n c i j W R) : SafeM W := h.1
theorem ChI.sr {E : Nat → Nat → Nat} {n c i j : Nat} {W R : Nat → Nat} (h : ChI E n c i j W R) : SafeM R := h.2.1
theorem ChI.old {E : Nat → Nat → Nat} {n c i j : Nat} {W R : Nat → Nat} (h : ChI E n c i j W R) : ∀ t p q, t < n → i < p → p ≤ q → q ≤ c → w3 W t p q = wh E n t p q := h.2.2.1
theorem ChI.now {E : Nat → Nat → Nat} {n c i j : Nat} {W R : Nat → Nat} (h : ChI E n c i j W R) : ∀ t q, t < n → i ≤ q → q < j → w3 W t i q = wh E n t i q := h.2.2.2.1
theorem ChI.rows {E : Nat → Nat → Nat} {n c i j : Nat} {W R : Nat → Nat} (h : ChI E n c i j W R) : ∀ r, r < n → ∀ p, i ≤ p → p < j → RokAt R E (w3 W) i r p := h.2.2.2.2
theorem ChI.sp {E : Nat → Nat → Nat} {n c i j : Nat} {W R : Nat → Nat} (h : ChI E n c i j W R) (hj : j ≤ c) : SpH E n W i j := fun t p q h1 h2 h3 h4 h5 => by
  by_cases e : p = i
  · subst e; exact h.now t q h1 h3 (by omega)
  · exact h.old t p q h1 (by omega) h3 (by omega)
theorem ChI.step {E : Nat → Nat → Nat} {n c i j : Nat} {W R : Nat → Nat} {emp : Nat → Prop} {rk : Nat → Nat} {ps mo : Nat} {W9 R9 : Nat → Nat} (h : ChI E n c i j W R) (hc : c < 21) (hij : i ≤ j) (hj : j ≤ c) (h9 : SpP E n emp rk W i j ps mo W9 R9) (hm : mo = 0) : ChI E n c i (j + 1) W9 R9 := by
  refine ⟨h9.sw, h9.sr, fun t p q h1 h2 h3 h4 => ?_, fun t q h1 h2 h3 => ?_, fun r hr p p1 p2 => ?_⟩
  · rw [h9.ws t p q (by omega) (by omega) (by omega)]
    exact h.old t p q h1 h2 h3 h4
  · by_cases e : q = j
    · rw [e]; exact (h9.done hm t h1).2
    · rw [h9.ws t i q (by omega) (by omega) (by omega)]
      exact h.now t q h1 h2 (by omega)
  · by_cases e : p = j
    · rw [e]; exact (h9.done hm r hr).1
    · exact h9.rows r hr p p1 (by omega)
theorem ChI.down {E : Nat → Nat → Nat} {n c i : Nat} {W R : Nat → Nat} (h : ChI E n c i (c + 1) W R) (h0 : 0 < i) : ChI E n c (i - 1) (i - 1) W R :=
  ⟨h.sw, h.sr, fun t p q h1 h2 h3 h4 => by
    by_cases e : p = i
    · rw [e]; exact h.now t q h1 (by omega) (by omega)
    · exact h.old t p q h1 (by omega) h3 h4, fun t q h1 h2 h3 => by omega, fun r hr p p1 p2 => by omega⟩
/-- the chart stands: every span is right -/
def ChS (E : Nat → Nat → Nat) (n c : Nat) (W : Nat → Nat) : Prop := ∀ t p q, t < n → p ≤ q → q ≤ c → w3 W t p q = wh E n t p q
theorem ChI.all {E : Nat → Nat → Nat} {n c : Nat} {W R : Nat → Nat} (h : ChI E n c 0 (c + 1) W R) : ChS E n c W := fun t p q h1 h2 h3 => by
  by_cases e : p = 0
  · rw [e]; exact h.now t q h1 (by omega) (by omega)
  · exact h.old t p q h1 (by omega) h2 h3
theorem ChI.first {E : Nat → Nat → Nat} {n c : Nat} {W R : Nat → Nat} (sw : SafeM W) (sr : SafeM R) : ChI E n c c c W R := ⟨sw, sr, fun t p q _ h2 h3 h4 => by omega, fun t q _ h2 h3 => by omega, fun r _ p p1 p2 => by omega⟩
