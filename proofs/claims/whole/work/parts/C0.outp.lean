/-! OUTLOOK, purely: at which columns a sign may come behind the first m tokens -/
theorem Rea.ini {E : Nat → Nat → Nat} {n : Nat} {fr : Nat → Nat} {m r0 c : Nat} (h : c < 40) : Rea E n fr m r0 r0 0 c := fun Q hQ => hQ.1 c h
theorem Rea.ed {E : Nat → Nat → Nat} {n : Nat} {fr : Nat → Nat} {m r0 r i c t p d : Nat} (h : Rea E n fr m r0 r i c) (hr : r < n) (hi : i ≤ m) (he : oEd E n fr m r i c t p d) : Rea E n fr m r0 t p d := fun Q hQ => hQ.2 r i c t p d hr hi (h Q hQ) he
theorem ahC.c40 {E : Nat → Nat → Nat} {n : Nat} {fr : Nat → Nat} {m r i c a k p : Nat} (h : ahC E n fr m r i c a k p) : c < 40 := ((rch_path ..).mp h.2.2.2.2.1).1
/-! going back from the end -/
def oIt (E : Nat → Nat → Nat) (fr : Nat → Nat) (m : Nat) (Q : Nat → Nat → Nat → Prop) (x p c : Nat) : Prop := (E 2 x ≠ NO ∧ p < m ∧ ∃ d, d < 40 ∧ Q (E 2 x) p d ∧ fitB (E 4 x) c d) ∨ (E 2 x ≠ NO ∧ p = m ∧ ∃ d, (fr (E 2 x)).testBit d = true ∧ fitB (E 4 x) c d) ∨ (E 2 x = NO ∧ p = m ∧ ∃ d, d < 40 ∧ fitB (E 4 x) c d) ∨ (E 2 x = NO ∧ p + 1 = m ∧ (E 5 p = E 3 x ∨ E 5 p = 1) ∧ fitB (E 4 x) c (E 6 p))
def BwC (E : Nat → Nat → Nat) (n : Nat) (fr : Nat → Nat) (m : Nat) (Q : Nat → Nat → Nat → Prop) : Prop := ∀ r i c a k p, r < n → i < m → ahC E n fr m r i c a k p → oIt E fr m Q ((r * 4 + a) * 5 + k) p c → Q r i c
def BwP (E : Nat → Nat → Nat) (n : Nat) (fr : Nat → Nat) (m : Nat) (Q : Nat → Nat → Nat → Prop) : Prop := ∀ r i c a k p, r < n → i < m → p < m → ahC E n fr m r i c a k p → oIt E fr m Q ((r * 4 + a) * 5 + k) p c → Q r i c
def Bk (E : Nat → Nat → Nat) (n : Nat) (fr : Nat → Nat) (m r i c : Nat) : Prop := ∀ Q : Nat → Nat → Nat → Prop, BwC E n fr m Q → Q r i c
theorem oIt.mono {E : Nat → Nat → Nat} {fr : Nat → Nat} {m : Nat} {Q P : Nat → Nat → Nat → Prop} {x p c : Nat} (h : oIt E fr m Q x p c) (hq : ∀ d, E 2 x ≠ NO → p < m → d < 40 → Q (E 2 x) p d → P (E 2 x) p d) : oIt E fr m P x p c := by
  rcases h with ⟨a, b, d, e, f, g⟩ | h | h | h
  · exact Or.inl ⟨a, b, d, e, hq d a b e f, g⟩
  · exact Or.inr (Or.inl h)
  · exact Or.inr (Or.inr (Or.inl h))
  · exact Or.inr (Or.inr (Or.inr h))
theorem Bk.cl {E : Nat → Nat → Nat} {n : Nat} {fr : Nat → Nat} {m : Nat} : BwC E n fr m (Bk E n fr m) := fun r i c a k p hr hi ha ho Q hQ => hQ r i c a k p hr hi ha (ho.mono (fun _ _ _ _ h => h Q hQ))
/-- the last place at which a path is not yet at its end -/
theorem path_last {f : Nat → Nat} {m : Nat} : ∀ {k : Nat}, (∀ j, j < k → f j ≤ f (j + 1)) → f 0 < m → f k = m → ∃ l, l < k ∧ f l < m ∧ ∀ j, l < j → j ≤ k → f j = m
  | 0, _, h0, hk => by omega
  | k + 1, hm, h0, hk => by
    by_cases e : f k = m
    · obtain ⟨l, l1, l2, l3⟩ := path_last (k := k) (fun j hj => hm j (by omega)) h0 e
      refine ⟨l, by omega, l2, fun j j1 j2 => ?_⟩
      by_cases e2 : j = k + 1
      · rw [e2]; exact hk
      · exact l3 j j1 (by omega)
    · have := hm k (by omega)
      refine ⟨k, by omega, by omega, fun j j1 j2 => ?_⟩
      rw [show j = k + 1 by omega]; exact hk
/-- a part over any tokens is free -/
theorem wh_free {E : Nat → Nat → Nat} {n : Nat} {fr : Nat → Nat} (hcl : Clo E n) (hE : ∀ q, E 6 q < 40) (hs : SafeM fr) (hf : ∀ r, r < n → fr r = frR (E 0) (E 1) (E 2) (E 4) fr r) : ∀ (D r i j : Nat), r < n → i ≤ j → j - i ≤ D → bitsub (wh E n r i j) (fr r) := by
  have key : ∀ (W : Nat → Nat → Nat → Nat) (r i j : Nat), r < n → (∀ t p q, W t p q < 1099511627776) → (∀ t p q, t < n → i ≤ p → p ≤ q → q ≤ j → bitsub (W t p q) (fr t)) → bitsub (fR E W r i j) (fr r) := by
    intro W r i j hr hb hW c hc
    have h1 := fR_monoN (W' := fun t _ _ => fr t) hcl hr hE hb (fun t _ _ => hs t) hW c hc
    obtain ⟨a, ha, hc4, f, hp⟩ := (fR_bit ..).mp h1
    rw [hf r hr]
    refine (orR_bit _ _ _ _).mpr ⟨a, Nat.zero_le _, by omega, (andR_bit _ _ _ _).mpr ⟨hc4, fun k _ hk => ?_⟩⟩
    have h2 := (hp.2.2 k (by omega)).2
    unfold frI
    have hl : ∀ d, d < 40 → (A40).testBit d = true := fun d hd => by rw [show A40 = 2 ^ 40 - 1 from rfl, Nat.testBit_two_pow_sub_one]; exact decide_eq_true hd
    unfold itm at h2
    by_cases e : E 2 ((r * 4 + a) * 5 + k) = NO
    · rw [if_pos e] at h2 ⊢
      refine letsN_mono (m := _) ?_ (by decide) ?_ c h2
      · split
        · exact Nat.pow_lt_pow_right (by decide) (hE _)
        · decide
      · split
        · intro d hd
          rw [Nat.testBit_two_pow] at hd
          have : E 6 (f k) = d := by simpa using hd
          exact hl d (by have := hE (f k); omega)
        · exact bs_0 _
    · rw [if_neg e] at h2 ⊢
      exact h2
  have hsf : ∀ (W : Nat → Nat → Nat → Nat) (i j f t : Nat), sf E n W i j f t < 1099511627776 := fun W i j f t => by
    cases f with
    | zero => exact (by decide : 0 < 1099511627776)
    | succ f => rw [sf]; split
                · exact fR_lt
                · decide
  intro D
  induction D with
  | zero =>
    intro r i j hr hij hD
    obtain rfl : i = j := by omega
    rw [wh_eq hij]
    show bitsub (sf E n (wh E n) i i n r) _
    have : ∀ f t, t < n → bitsub (sf E n (wh E n) i i f t) (fr t) := by
      intro f
      induction f with
      | zero => intro t _; exact bs_0 _
      | succ f ih =>
        intro t ht
        rw [sf, if_pos ht]
        refine key _ t i i ht (fun u p q => ?_) (fun u p q hu h1 h2 h3 => ?_)
        · unfold setS; split
          · exact hsf _ _ _ _ _
          · exact wh_lt
        · rw [show p = i by omega, show q = i by omega, setS_at]; exact ih u hu
    exact this n r hr
  | succ D ihD =>
    intro r i j hr hij hD
    rw [wh_eq hij]
    show bitsub (sf E n (wh E n) i j n r) _
    have : ∀ f t, t < n → bitsub (sf E n (wh E n) i j f t) (fr t) := by
      intro f
      induction f with
      | zero => intro t _; exact bs_0 _
      | succ f ih =>
        intro t ht
        rw [sf, if_pos ht]
        refine key _ t i j ht (fun u p q => ?_) (fun u p q hu h1 h2 h3 => ?_)
        · unfold setS; split
          · exact hsf _ _ _ _ _
          · exact wh_lt
        · by_cases g : p = i ∧ q = j
          · rw [g.1, g.2, setS_at]; exact ih u hu
          · rw [setS_ne g]; exact ihD u p q hu h2 (by omega)
    exact this n r hr
/-- an item over no tokens is free -/
theorem it_free {E : Nat → Nat → Nat} {n : Nat} {fr : Nat → Nat} (hs : SafeM fr) (hw : ∀ t p, t < n → bitsub (wh E n t p p) (fr t)) {x p c : Nat} (ht : E 2 x = NO ∨ E 2 x < n) (h : (letsN (E 4 x) (itm E (wh E n) x p p)).testBit c = true) : E 2 x ≠ NO ∧ wh E n (E 2 x) p p ≠ 0 ∧ (frI (E 2) (E 4) fr x).testBit c = true := by
  have h1 := bit_lets_ne h
  unfold itm at h h1
  by_cases e : E 2 x = NO
  · rw [if_pos e, if_neg (by omega)] at h1; exact absurd rfl h1
  · rw [if_neg e] at h h1
    refine ⟨e, h1, ?_⟩
    unfold frI
    rw [if_neg e]
    exact letsN_mono wh_lt (hs _) (hw _ p (ht.resolve_left e)) c h
/-- what the outlook stands on -/
def oOK (E : Nat → Nat → Nat) (n : Nat) (fr : Nat → Nat) : Prop := (∃ emp rk, Acyc E n emp rk) ∧ (∀ q, E 6 q < 40) ∧ SafeM fr ∧ ∀ r, r < n → fr r = frR (E 0) (E 1) (E 2) (E 4) fr r
theorem oOK.wf {E : Nat → Nat → Nat} {n : Nat} {fr : Nat → Nat} (h : oOK E n fr) {r i j : Nat} (hr : r < n) (hij : i ≤ j) : bitsub (wh E n r i j) (fr r) := by
  obtain ⟨⟨emp, rk, hA⟩, h2, h3, h4⟩ := h
  exact wh_free hA.1 h2 h3 h4 (j - i) r i j hr hij (Nat.le_refl _)
/-- an item l of a path of k items, the last that is not at the end: those behind it are free there -/
theorem path_rst {E : Nat → Nat → Nat} {n : Nat} {fr : Nat → Nat} {emp : Nat → Prop} {rk : Nat → Nat} (hO : oOK E n fr) (hA : Acyc E n emp rk) {m r a c k i l : Nat} {f : Nat → Nat} (hr : r < n) (ha : a < E 0 r) (hk : k ≤ E 1 (r * 4 + a)) (hp : Pth E (wh E n) i (r * 4 + a) c k m f) (hl : l < k) (h3 : ∀ j, l < j → j ≤ k → f j = m) (hc : c < 40) (hrest : ∀ j, k ≤ j → j < E 1 (r * 4 + a) → (frI (E 2) (E 4) fr ((r * 4 + a) * 5 + j)).testBit c = true) : (rst E fr (r * 4 + a) l).testBit c = true := by
  refine (andR_bit _ _ _ _).mpr ⟨hc, fun j j1 j2 => ?_⟩
  by_cases e : k ≤ j
  · exact hrest j e (by omega)
  · have h4 := (hp.2.2 j (by omega)).2
    rw [h3 j (by omega) (by omega), h3 (j + 1) (by omega) (by omega)] at h4
    exact (it_free hO.2.2.1 (fun t p ht => hO.wf ht (Nat.le_refl p)) (hA.1 r hr a ha j (by omega)) h4).2.2
theorem Pth.cut {E : Nat → Nat → Nat} {W : Nat → Nat → Nat → Nat} {i y c K q : Nat} {f : Nat → Nat} (h : Pth E W i y c K q f) {l : Nat} (hl : l ≤ K) : Pth E W i y c l (f l) f := ⟨h.1, rfl, fun k hk => h.2.2 k (by omega)⟩
/-- a part over just the tokens goes on, too -/
theorem over_q {E : Nat → Nat → Nat} {n : Nat} {fr : Nat → Nat} (hO : oOK E n fr) {m : Nat} {Q : Nat → Nat → Nat → Prop} (hQ : BwP E n fr m Q) : ∀ r i c, r < n → i < m → (wh E n r i m).testBit c = true → Q r i c := by
  obtain ⟨emp, rk, hA⟩ := hO.1
  have main : ∀ D, ∀ R r i c, r < n → i < m → m - i ≤ D → rk r ≤ R → (wh E n r i m).testBit c = true → Q r i c := by
    intro D
    induction D with
    | zero => intro R r i c _ h1 h2; omega
    | succ D ihD =>
      intro R
      induction R with
      | zero =>
        intro r i c hr hi hD hR hc
        rw [wh_fix hA hr (by omega)] at hc
        obtain ⟨a, ha, hc4, f, hp⟩ := (fR_bit ..).mp hc
        obtain ⟨l, l1, l2, l3⟩ := path_last (fun j hj => (hp.2.2 j hj).1) (by rw [hp.1]; exact hi) hp.2.1
        have hil : i ≤ f l := by have := hp.mono (Nat.zero_le l) (by omega); rw [hp.1] at this; exact this
        have hah : ahC E n fr m r i c a l (f l) := ⟨ha, l1, hil, by omega, (rch_path ..).mpr ⟨hc4, f, hp.cut (by omega)⟩, path_rst hO hA hr ha (Nat.le_refl _) hp l1 l3 hc4 (fun j j1 j2 => by omega)⟩
        refine hQ r i c a l (f l) hr hi l2 hah ?_
        have h4 := (hp.2.2 l l1).2
        rw [l3 (l + 1) (by omega) (by omega)] at h4
        have hsm : itm E (wh E n) ((r * 4 + a) * 5 + l) (f l) m < 2 ^ 40 := itm_lt (fun _ _ _ => wh_lt) hO.2.1
        obtain ⟨-, d, d1, d2⟩ := (letsN_bit hsm c).mp h4
        unfold itm at d1
        by_cases e : E 2 ((r * 4 + a) * 5 + l) = NO
        · rw [if_pos e] at d1
          split at d1
          · rename_i q
            rw [Nat.testBit_two_pow] at d1
            have hd : E 6 (f l) = d := by simpa using d1
            exact Or.inr (Or.inr (Or.inr ⟨e, q.1.symm, q.2, by rw [hd]; exact d2⟩))
          · simp at d1
        · rw [if_neg e] at d1
          have ht := (hA.1 r hr a ha l l1).resolve_left e
          have hd4 : d < 40 := by
            rcases Nat.lt_or_ge d 40 with q | q
            · exact q
            · rw [testBit_hi (show wh E n (E 2 ((r * 4 + a) * 5 + l)) (f l) m < 2 ^ 40 from wh_lt) _ q] at d1; cases d1
          refine Or.inl ⟨e, l2, d, hd4, ?_, d2⟩
          by_cases q : f l = i
          · exfalso
            have hed : edg E emp r (E 2 ((r * 4 + a) * 5 + l)) := ⟨a, ha, l, l1, rfl, e, fun k' hk' hne => by
              have hz : f k' = f (k' + 1) := by
                rcases Nat.lt_or_ge k' l with g | g
                · have m1 := hp.mono (Nat.zero_le k') (by omega)
                  have m2 := hp.mono (show k' + 1 ≤ l by omega) (by omega)
                  have m3 := hp.mono (show k' ≤ k' + 1 by omega) (by omega)
                  rw [hp.1] at m1; omega
                · rw [l3 k' (by omega) (by omega), l3 (k' + 1) (by omega) (by omega)]
              have h5 := (hp.2.2 k' hk').2
              rw [← hz] at h5
              have h6 := it_free hO.2.2.1 (fun t p ht => hO.wf ht (Nat.le_refl p)) (hA.1 r hr a ha k' hk') h5
              exact ⟨h6.1, wh_emp hA.2.1 _ _ h6.2.1⟩⟩
            have := ((hA.2.2 r hr).2 _ hed).2
            omega
          · exact ihD (rk (E 2 ((r * 4 + a) * 5 + l))) _ (f l) d ht l2 (by omega) (Nat.le_refl _) d1
      | succ R ihR =>
        intro r i c hr hi hD hR hc
        rw [wh_fix hA hr (by omega)] at hc
        obtain ⟨a, ha, hc4, f, hp⟩ := (fR_bit ..).mp hc
        obtain ⟨l, l1, l2, l3⟩ := path_last (fun j hj => (hp.2.2 j hj).1) (by rw [hp.1]; exact hi) hp.2.1
        have hil : i ≤ f l := by have := hp.mono (Nat.zero_le l) (by omega); rw [hp.1] at this; exact this
        have hah : ahC E n fr m r i c a l (f l) := ⟨ha, l1, hil, by omega, (rch_path ..).mpr ⟨hc4, f, hp.cut (by omega)⟩, path_rst hO hA hr ha (Nat.le_refl _) hp l1 l3 hc4 (fun j j1 j2 => by omega)⟩
        refine hQ r i c a l (f l) hr hi l2 hah ?_
        have h4 := (hp.2.2 l l1).2
        rw [l3 (l + 1) (by omega) (by omega)] at h4
        have hsm : itm E (wh E n) ((r * 4 + a) * 5 + l) (f l) m < 2 ^ 40 := itm_lt (fun _ _ _ => wh_lt) hO.2.1
        obtain ⟨-, d, d1, d2⟩ := (letsN_bit hsm c).mp h4
        unfold itm at d1
        by_cases e : E 2 ((r * 4 + a) * 5 + l) = NO
        · rw [if_pos e] at d1
          split at d1
          · rename_i q
            rw [Nat.testBit_two_pow] at d1
            have hd : E 6 (f l) = d := by simpa using d1
            exact Or.inr (Or.inr (Or.inr ⟨e, q.1.symm, q.2, by rw [hd]; exact d2⟩))
          · simp at d1
        · rw [if_neg e] at d1
          have ht := (hA.1 r hr a ha l l1).resolve_left e
          have hd4 : d < 40 := by
            rcases Nat.lt_or_ge d 40 with q | q
            · exact q
            · rw [testBit_hi (show wh E n (E 2 ((r * 4 + a) * 5 + l)) (f l) m < 2 ^ 40 from wh_lt) _ q] at d1; cases d1
          refine Or.inl ⟨e, l2, d, hd4, ?_, d2⟩
          by_cases q : f l = i
          · have hed : edg E emp r (E 2 ((r * 4 + a) * 5 + l)) := ⟨a, ha, l, l1, rfl, e, fun k' hk' hne => by
              have hz : f k' = f (k' + 1) := by
                rcases Nat.lt_or_ge k' l with g | g
                · have m1 := hp.mono (Nat.zero_le k') (by omega)
                  have m2 := hp.mono (show k' + 1 ≤ l by omega) (by omega)
                  have m3 := hp.mono (show k' ≤ k' + 1 by omega) (by omega)
                  rw [hp.1] at m1; omega
                · rw [l3 k' (by omega) (by omega), l3 (k' + 1) (by omega) (by omega)]
              have h5 := (hp.2.2 k' hk').2
              rw [← hz] at h5
              have h6 := it_free hO.2.2.1 (fun t p ht => hO.wf ht (Nat.le_refl p)) (hA.1 r hr a ha k' hk') h5
              exact ⟨h6.1, wh_emp hA.2.1 _ _ h6.2.1⟩⟩
            have := ((hA.2.2 r hr).2 _ hed).2
            rw [q] at d1 ⊢
            exact ihR _ i d ht hi hD (by omega) d1
          · exact ihD (rk (E 2 ((r * 4 + a) * 5 + l))) _ (f l) d ht l2 (by omega) (Nat.le_refl _) d1
  exact fun r i c hr hi hc => main (m - i) (rk r) r i c hr hi (Nat.le_refl _) (Nat.le_refl _) hc
/-- items ahead that are over all tokens add nothing -/
theorem BwP.all {E : Nat → Nat → Nat} {n : Nat} {fr : Nat → Nat} (hO : oOK E n fr) {m : Nat} {Q : Nat → Nat → Nat → Prop} (hQ : BwP E n fr m Q) : BwC E n fr m Q := by
  obtain ⟨emp, rk, hA⟩ := hO.1
  intro r i c a k p hr hi hah ho
  rcases Nat.lt_or_ge p m with hpm | hpm
  · exact hQ r i c a k p hr hi hpm hah ho
  · obtain ⟨ha, hk, hip, hpm2, hb, hre⟩ := hah
    obtain rfl : p = m := by omega
    obtain ⟨hc4, f, hp⟩ := (rch_path ..).mp hb
    obtain ⟨l, l1, l2, l3⟩ := path_last (fun j hj => (hp.2.2 j hj).1) (by rw [hp.1]; exact hi) hp.2.1
    have hil : i ≤ f l := by have := hp.mono (Nat.zero_le l) (by omega); rw [hp.1] at this; exact this
    have hfk : (frI (E 2) (E 4) fr ((r * 4 + a) * 5 + k)).testBit c = true := by
      unfold frI
      rcases ho with ⟨-, h, -⟩ | ⟨h1, -, d, d1, d2⟩ | ⟨h1, -, d, d1, d2⟩ | ⟨-, h, -⟩
      · omega
      · rw [if_neg h1]; exact (letsN_bit (hO.2.2.1 _) c).mpr ⟨hc4, d, d1, d2⟩
      · rw [if_pos h1]
        exact (letsN_bit (by decide) c).mpr ⟨hc4, d, by rw [show A40 = 2 ^ 40 - 1 from rfl, Nat.testBit_two_pow_sub_one]; exact decide_eq_true d1, d2⟩
      · omega
    have hah : ahC E n fr p r i c a l (f l) := ⟨ha, by omega, hil, by omega, (rch_path ..).mpr ⟨hc4, f, hp.cut (by omega)⟩, path_rst hO hA hr ha (by omega) hp l1 l3 hc4 (fun j j1 j2 => by
      by_cases e : j = k
      · rw [e]; exact hfk
      · exact ((andR_bit _ _ _ _).mp hre).2 j (by omega) (by omega))⟩
    refine hQ r i c a l (f l) hr hi l2 hah ?_
    have h4 := (hp.2.2 l l1).2
    rw [l3 (l + 1) (by omega) (by omega)] at h4
    have hsm : itm E (wh E n) ((r * 4 + a) * 5 + l) (f l) p < 2 ^ 40 := itm_lt (fun _ _ _ => wh_lt) hO.2.1
    obtain ⟨-, d, d1, d2⟩ := (letsN_bit hsm c).mp h4
    unfold itm at d1
    by_cases e : E 2 ((r * 4 + a) * 5 + l) = NO
    · rw [if_pos e] at d1
      split at d1
      · rename_i q
        rw [Nat.testBit_two_pow] at d1
        have hd : E 6 (f l) = d := by simpa using d1
        exact Or.inr (Or.inr (Or.inr ⟨e, q.1.symm, q.2, by rw [hd]; exact d2⟩))
      · simp at d1
    · rw [if_neg e] at d1
      have hd4 : d < 40 := by
        rcases Nat.lt_or_ge d 40 with q | q
        · exact q
        · rw [testBit_hi (show wh E n (E 2 ((r * 4 + a) * 5 + l)) (f l) p < 2 ^ 40 from wh_lt) _ q] at d1; cases d1
      exact Or.inl ⟨e, l2, d, hd4, over_q hO hQ _ _ d ((hA.1 r hr a ha l (by omega)).resolve_left e) l2 d1, d2⟩
/-! both ways -/
theorem rst_cg {E E' : Nat → Nat → Nat} {fr fr' : Nat → Nat} {y k n : Nat} (h0 : ∀ x, x < 5 → E x = E' x) (hf : ∀ t, t < n → fr t = fr' t) (ht : ∀ j, j < E 1 y → E 2 (y * 5 + j) = NO ∨ E 2 (y * 5 + j) < n) : rst E fr y k = rst E' fr' y k := by
  unfold rst
  rw [← h0 1 (by decide), ← h0 2 (by decide), ← h0 4 (by decide)]
  apply bit_ext
  intro c
  rw [andR_bit, andR_bit]
  have e : ∀ p, k + 1 ≤ p → p < k + 1 + (E 1 y - (k + 1)) → frI (E 2) (E 4) fr (y * 5 + p) = frI (E 2) (E 4) fr' (y * 5 + p) := fun p p1 p2 => by
    unfold frI
    by_cases q : E 2 (y * 5 + p) = NO
    · rw [if_pos q, if_pos q]
    · rw [if_neg q, if_neg q, hf _ ((ht p (by omega)).resolve_left q)]
  exact ⟨fun ⟨h1, h2⟩ => ⟨h1, fun p p1 p2 => by rw [← e p p1 p2]; exact h2 p p1 p2⟩, fun ⟨h1, h2⟩ => ⟨h1, fun p p1 p2 => by rw [e p p1 p2]; exact h2 p p1 p2⟩⟩
theorem rch_same {E E' : Nat → Nat → Nat} {n Q : Nat} (h0 : ∀ x, x < 5 → E x = E' x) (h5 : ∀ p, p < Q → E 5 p = E' 5 p ∧ E 6 p = E' 6 p) {i y k p : Nat} (hp : p ≤ Q) : rch E (wh E n) i y k p = rch E' (wh E' n) i y k p := by
  rw [rch_congE (W := wh E n) h0 h5 k p hp]
  exact rch_cong (Q := Q) (fun t p' q h1 h2 h3 => wh_congE h0 h5 h3) k p hp
theorem ahC_same {E E' : Nat → Nat → Nat} {n : Nat} {fr : Nat → Nat} (hcl : Clo E n) {m m' : Nat} (h0 : ∀ x, x < 5 → E x = E' x) (h5 : ∀ p, p < m → E 5 p = E' 5 p ∧ E 6 p = E' 6 p) (hm : m ≤ m') {r i c a k p : Nat} (hr : r < n) (hp : p ≤ m) : ahC E n fr m r i c a k p ↔ ahC E' n fr m' r i c a k p := by
  unfold ahC
  rw [← h0 0 (by decide), ← h0 1 (by decide), rch_same h0 h5 hp]
  constructor
  · rintro ⟨a1, a2, a3, a4, a5, a6⟩
    exact ⟨a1, a2, a3, by omega, a5, by rw [← rst_cg (n := n) h0 (fun _ _ => rfl) (fun j hj => hcl r hr a a1 j hj)]; exact a6⟩
  · rintro ⟨a1, a2, a3, a4, a5, a6⟩
    exact ⟨a1, a2, a3, hp, a5, by rw [rst_cg (n := n) h0 (fun _ _ => rfl) (fun j hj => hcl r hr a a1 j hj)]; exact a6⟩
theorem fnd_bk {E E' : Nat → Nat → Nat} {n : Nat} {fr : Nat → Nat} (hO : oOK E' n fr) (hcl : Clo E n) {m s d r0 : Nat} (h0 : ∀ x, x < 5 → E x = E' x) (h5 : ∀ p, p < m → E 5 p = E' 5 p ∧ E 6 p = E' 6 p) (hd : E' 6 m = d) (hs : ∀ v, (s = 0 ∨ v = s) ↔ (E' 5 m = v ∨ E' 5 m = 1)) : Fnd E n fr m s r0 d ↔ ∃ c, c < 40 ∧ Bk E' n fr (m + 1) r0 0 c := by
  have hd4 : d < 40 := by rw [← hd]; exact hO.2.1 m
  constructor
  · rintro ⟨r, i, c, hr, hi, hre, a, k, hah, h2, h3, h4, -⟩
    have hX : FwC E n fr m r0 (fun t p e => Bk E' n fr (m + 1) t p e → ∃ c, c < 40 ∧ Bk E' n fr (m + 1) r0 0 c) := by
      refine ⟨fun c hc hb => ⟨c, hc, hb⟩, ?_⟩
      rintro r i c t p e hr hi hq ⟨a, k, g1, g2, g3, g4, g5⟩ hb
      refine hq (Bk.cl r i c a k p hr (by omega) ((ahC_same hcl h0 h5 (by omega) hr g1.2.2.2.1).mp g1) (Or.inl ?_))
      rw [← h0 2 (by decide), ← h0 4 (by decide)]
      exact ⟨by rw [g2]; exact g3, by have := g1.2.2.2.1; omega, e, g5, by rw [g2]; exact hb, g4⟩
    refine hre _ hX (Bk.cl r i c a k m hr (by omega) ((ahC_same hcl h0 h5 (by omega) hr (Nat.le_refl _)).mp hah) (Or.inr (Or.inr (Or.inr ?_))))
    rw [← h0 2 (by decide), ← h0 4 (by decide), ← h0 3 (by decide), hd]
    exact ⟨h2, rfl, (hs _).mp h3, h4⟩
  · rintro ⟨c, hc, hb⟩
    have hY : BwP E' n fr (m + 1) (fun t p e => Rea E n fr m r0 t p e → Fnd E n fr m s r0 d) := by
      intro r i c a k p hr hi hp hah ho hre
      have hah2 := (ahC_same hcl h0 h5 (by omega) hr (show p ≤ m by omega)).mpr hah
      rw [oIt, ← h0 2 (by decide), ← h0 4 (by decide), ← h0 3 (by decide)] at ho
      rcases ho with ⟨g1, g2, e, g3, g4, g5⟩ | ⟨-, g, -⟩ | ⟨-, g, -⟩ | ⟨g1, g2, g3, g4⟩
      · exact g4 (hre.ed hr (by omega) ⟨a, k, hah2, rfl, g1, g5, g3⟩)
      · omega
      · omega
      · obtain rfl : p = m := by omega
        exact ⟨r, i, c, hr, by omega, hre, a, k, hah2, g1, (hs _).mpr g3, by rw [← hd]; exact g4, hd4⟩
    exact hb _ (hY.all hO) (Rea.ini hc)
/-! signs with which a part can begin -/
def BgC (E : Nat → Nat → Nat) (n : Nat) (fr br : Nat → Nat) (s : Nat) (Q : Nat → Nat → Prop) : Prop := ∀ r c a k, r < n → a < E 0 r → k < E 1 (r * 4 + a) → (andR (fun j => brI (E 2) (E 4) br ((r * 4 + a) * 5 + j)) 0 k).testBit c = true → (rst E fr (r * 4 + a) k).testBit c = true → ((E 2 ((r * 4 + a) * 5 + k) ≠ NO ∧ ∃ d, d < 40 ∧ Q (E 2 ((r * 4 + a) * 5 + k)) d ∧ fitB (E 4 ((r * 4 + a) * 5 + k)) c d) ∨ (E 2 ((r * 4 + a) * 5 + k) = NO ∧ E 3 ((r * 4 + a) * 5 + k) = s ∧ ∃ d, d < 40 ∧ fitB (E 4 ((r * 4 + a) * 5 + k)) c d)) → Q r c
def Bg (E : Nat → Nat → Nat) (n : Nat) (fr br : Nat → Nat) (s r c : Nat) : Prop := ∀ Q : Nat → Nat → Prop, BgC E n fr br s Q → Q r c
theorem Bg.cl {E : Nat → Nat → Nat} {n : Nat} {fr br : Nat → Nat} {s : Nat} : BgC E n fr br s (Bg E n fr br s) := fun r c a k hr ha hk h1 h2 h3 Q hQ => hQ r c a k hr ha hk h1 h2 (by
  rcases h3 with ⟨g1, d, g2, g3, g4⟩ | g
  · exact Or.inl ⟨g1, d, g2, g3 Q hQ, g4⟩
  · exact Or.inr g)
theorem rch00 {E : Nat → Nat → Nat} {n : Nat} {br : Nat → Nat} (hb : ∀ t, t < n → br t = wh E n t 0 0) {y K : Nat} (ht : ∀ j, j < K → E 2 (y * 5 + j) = NO ∨ E 2 (y * 5 + j) < n) : ∀ k, k ≤ K → rch E (wh E n) 0 y k 0 = andR (fun j => brI (E 2) (E 4) br (y * 5 + j)) 0 k
  | 0, _ => by rw [rch, if_pos rfl]; rfl
  | k + 1, hk => by
    rw [rch, show 0 + 1 - 0 = 0 + 1 from rfl, orR, orR, Nat.zero_or, rch00 hb ht k (by omega), andR]
    congr 1
    show letsN _ (itm E (wh E n) (y * 5 + k) 0 0) = brI (E 2) (E 4) br (y * 5 + (0 + k))
    rw [Nat.zero_add]
    unfold itm brI
    by_cases e : E 2 (y * 5 + k) = NO
    · rw [if_pos e, if_pos e, if_neg (by omega), letsN_0]
    · rw [if_neg e, if_neg e, hb _ ((ht k (by omega)).resolve_left e)]
theorem fnd_bg {E : Nat → Nat → Nat} {n : Nat} {fr br : Nat → Nat} (hcl : Clo E n) (hb : ∀ t, t < n → br t = wh E n t 0 0) {s r0 : Nat} (hs : s ≠ 0) : (∃ d, Fnd E n fr 0 s r0 d) ↔ ∃ c, c < 40 ∧ Bg E n fr br s r0 c := by
  have hr0 : ∀ r a k, r < n → a < E 0 r → k ≤ E 1 (r * 4 + a) → rch E (wh E n) 0 (r * 4 + a) k 0 = andR (fun j => brI (E 2) (E 4) br ((r * 4 + a) * 5 + j)) 0 k := fun r a k hr ha hk => rch00 hb (fun j hj => hcl r hr a ha j hj) k hk
  constructor
  · rintro ⟨d, r, i, c, hr, hi, hre, a, k, ⟨a1, a2, a3, a4, a5, a6⟩, h2, h3, h4, h5⟩
    have hX : FwC E n fr 0 r0 (fun t p e => p = 0 ∧ (Bg E n fr br s t e → ∃ c, c < 40 ∧ Bg E n fr br s r0 c)) := by
      refine ⟨fun c hc => ⟨rfl, fun hb => ⟨c, hc, hb⟩⟩, ?_⟩
      rintro r i c t p e hr hi ⟨hi0, hq⟩ ⟨a, k, ⟨a1, a2, a3, a4, a5, a6⟩, g2, g3, g4, g5⟩
      obtain rfl : i = 0 := hi0
      obtain rfl : p = 0 := by omega
      refine ⟨rfl, fun hbt => hq (Bg.cl r c a k hr a1 a2 (by rw [← hr0 r a k hr a1 (by omega)]; exact a5) a6 (Or.inl ⟨by rw [g2]; exact g3, e, g5, by rw [g2]; exact hbt, g4⟩))⟩
    obtain ⟨hi0, hq⟩ := hre _ hX
    obtain rfl : i = 0 := hi0
    exact hq (Bg.cl r c a k hr a1 a2 (by rw [← hr0 r a k hr a1 (by omega)]; exact a5) a6 (Or.inr ⟨h2, h3.resolve_left hs, d, h5, h4⟩))
  · rintro ⟨c, hc, hbg⟩
    have hY : BgC E n fr br s (fun t e => Rea E n fr 0 r0 t 0 e → ∃ d, Fnd E n fr 0 s r0 d) := by
      intro r c a k hr ha hk h1 h2 h3 hre
      have hah : ahC E n fr 0 r 0 c a k 0 := ⟨ha, hk, Nat.le_refl _, Nat.le_refl _, by rw [hr0 r a k hr ha (by omega)]; exact h1, h2⟩
      rcases h3 with ⟨g1, d, g2, g3, g4⟩ | ⟨g1, g2, d, g3, g4⟩
      · exact g3 (hre.ed hr (Nat.le_refl _) ⟨a, k, hah, rfl, g1, g4, g2⟩)
      · exact ⟨d, r, 0, c, hr, Nat.le_refl _, hre, a, k, hah, g1, Or.inr g2, g4, g3⟩
    exact hbg _ hY (Rea.ini hc)
