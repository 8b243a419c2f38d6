/-! THE TREE'S ANSWERS -/
abbrev tFit (E : Nat → Nat → Nat) (n c : Nat) : Prop := 0 < n ∧ wh E n 0 0 c ≠ 0
def tSz (E : Nat → Nat → Nat) (n c : Nat) : Nat := srch (fun k => decide ((tI E n c k).2.1 = 0)) 0 400
def tRw (E : Nat → Nat → Nat) (n c q : Nat) : Nat := (tI E n c (tSz E n c)).1 (q / 8) (q % 8)
theorem TrS.can {E : Nat → Nat → Nat} {n c sz : Nat} {T : Nat → Nat} (h : TrS E n c sz T) (hs : sz < 400) : sz = tSz E n c ∧ ∀ k f, k < sz → f < 8 → T (k * 8 + f) = tRw E n c (k * 8 + f) := by
  have e : tSz E n c = sz := by
    have hN : tSz E n c ≠ NO := srch_ne (Nat.zero_le _) (show sz < 0 + 400 by omega) (decide_eq_true h.2.1) (by decide)
    obtain ⟨-, -, h3, h4⟩ := srch_sp hN
    have h3 := of_decide_eq_true h3
    rcases Nat.lt_trichotomy (tSz E n c) sz with q | q | q
    · exact absurd h3 (h.1 _ q)
    · exact q
    · have := of_decide_eq_false (h4 sz (Nat.zero_le _) q)
      exact absurd h.2.1 this
  refine ⟨e.symm, fun k f hk hf => ?_⟩
  unfold tRw
  rw [e, show (k * 8 + f) / 8 = k by omega, show (k * 8 + f) % 8 = f by omega, Nat.mul_comm]
  exact h.2.2 k f hk hf
/-- rows that are nodes -/
def TrR (E : Nat → Nat → Nat) (n c sz : Nat) (T : Nat → Nat) : Prop := (sz ≤ 312) ∧ (∀ k, k < sz → T (k * 8 + 0) < n) ∧ (∀ k, k < sz → T (k * 8 + 1) < E 0 (T (k * 8 + 0))) ∧ (∀ k, k < sz → T (k * 8 + 2) < T (k * 8 + 3)) ∧ (∀ k, k < sz → T (k * 8 + 3) ≤ c) ∧ (∀ k, k < sz → T (k * 8 + 4) < 40) ∧ (∀ k, k < sz → T (k * 8 + 5) = NO ∨ T (k * 8 + 5) < 312) ∧ (∀ k, k < sz → T (k * 8 + 6) ≤ 312) ∧ (∀ k, k < sz → T (k * 8 + 7) < 128)
theorem TrR.le {E : Nat → Nat → Nat} {n c sz : Nat} {T : Nat → Nat} (h : TrR E n c sz T) : sz ≤ 312 := h.1
theorem TrR.f0 {E : Nat → Nat → Nat} {n c sz : Nat} {T : Nat → Nat} (h : TrR E n c sz T) : ∀ k, k < sz → T (k * 8 + 0) < n := h.2.1
theorem TrR.f1 {E : Nat → Nat → Nat} {n c sz : Nat} {T : Nat → Nat} (h : TrR E n c sz T) : ∀ k, k < sz → T (k * 8 + 1) < E 0 (T (k * 8 + 0)) := h.2.2.1
theorem TrR.f23 {E : Nat → Nat → Nat} {n c sz : Nat} {T : Nat → Nat} (h : TrR E n c sz T) : ∀ k, k < sz → T (k * 8 + 2) < T (k * 8 + 3) := h.2.2.2.1
theorem TrR.f3 {E : Nat → Nat → Nat} {n c sz : Nat} {T : Nat → Nat} (h : TrR E n c sz T) : ∀ k, k < sz → T (k * 8 + 3) ≤ c := h.2.2.2.2.1
theorem TrR.f4 {E : Nat → Nat → Nat} {n c sz : Nat} {T : Nat → Nat} (h : TrR E n c sz T) : ∀ k, k < sz → T (k * 8 + 4) < 40 := h.2.2.2.2.2.1
theorem TrR.f5 {E : Nat → Nat → Nat} {n c sz : Nat} {T : Nat → Nat} (h : TrR E n c sz T) : ∀ k, k < sz → T (k * 8 + 5) = NO ∨ T (k * 8 + 5) < 312 := h.2.2.2.2.2.2.1
theorem TrR.f6 {E : Nat → Nat → Nat} {n c sz : Nat} {T : Nat → Nat} (h : TrR E n c sz T) : ∀ k, k < sz → T (k * 8 + 6) ≤ 312 := h.2.2.2.2.2.2.2.1
theorem TrR.f7 {E : Nat → Nat → Nat} {n c sz : Nat} {T : Nat → Nat} (h : TrR E n c sz T) : ∀ k, k < sz → T (k * 8 + 7) < 128 := h.2.2.2.2.2.2.2.2
theorem TrS.rows {E : Nat → Nat → Nat} {n : Nat} {emp : Nat → Prop} {rk : Nat → Nat} (hA : Acyc E n emp rk) (hn : n ≤ 8) (h4 : ∀ r, E 0 r ≤ 4) (hE : ∀ q, E 6 q < 40) (hB : ∀ q, E 4 q < 128) {c : Nat} (hc : c ≤ 20) (h0 : tFit E n c) {sz : Nat} {T : Nat → Nat} (h : TrS E n c sz T) : TrR E n c sz T := by
  have hR := tR.run hA hn h4 hE hB hc (fun _ => h0) sz h.1
  have hT : ∀ k f, k < sz → f < 8 → T (k * 8 + f) = (tI E n c sz).1 k f := fun k f hk hf => by rw [Nat.mul_comm]; exact h.2.2 k f hk hf
  have hs := hR.sum
  refine ⟨by omega, fun k hk => ?_, fun k hk => ?_, fun k hk => ?_, fun k hk => ?_, fun k hk => ?_, fun k hk => ?_, fun k hk => ?_, fun k hk => ?_⟩ <;> obtain ⟨hd, hd1⟩ := hR.don k hk
  · rw [hT k 0 hk (by decide)]; exact hd.ok.1
  · rw [hT k 0 hk (by decide), hT k 1 hk (by decide)]; exact hd1
  · rw [hT k 2 hk (by decide), hT k 3 hk (by decide)]; exact hd.ok.2.1
  · rw [hT k 3 hk (by decide)]; exact hd.ok.2.2.1
  · rw [hT k 4 hk (by decide)]; exact hd.ok.2.2.2.1
  · rw [hT k 5 hk (by decide)]; exact hd.ab.imp id (fun q => by omega)
  · rw [hT k 6 hk (by decide)]; have := hd.lv; omega
  · rw [hT k 7 hk (by decide)]; exact hd.bo
/-- the same rows -/
def tEq (sz : Nat) (T T2 : Nat → Nat) : Prop := ∀ k f, k < sz → f < 8 → T (k * 8 + f) = T2 (k * 8 + f)
def vld (x : Int32) (z : Nat) : Prop := 0 ≤ x.toInt ∧ x.toInt < z
abbrev vlp (x : Int32) (z : Nat) : Prop := 0 ≤ x.toInt ∧ x.toInt < z
theorem vlp_n {x : Int32} {z : Nat} (h : vlp x z) : x.toInt.toNat < z := by
  have := h.1; have := h.2; omega
def nodA (sz : Nat) (T : Nat → Nat) (x w : Int32) : Int32 := if (0 ≤ w.toInt ∧ w.toInt ≤ 6) ∧ vlp x sz then nI (T (x.toInt.toNat * 8 + w.toInt.toNat)) else -1
theorem nodA_cg {sz : Nat} {T T2 : Nat → Nat} {x w : Int32} (h : tEq sz T T2) : nodA sz T x w = nodA sz T2 x w := by
  unfold nodA
  split
  · rename_i q
    rw [h _ _ (vlp_n q.2) (by omega)]
  · rfl
/-- in how many ways the first items of an alt are over i up to q -/
def wS (E : Nat → Nat → Nat) (n y i d : Nat) : Nat → Nat → Nat
  | 0, q => if q = i then 1 else 0
  | k + 1, q => sumN (fun z => if tH E n (y * 5 + k) (i + z) q d = true then wS E n y i d k (i + z) else 0) (q + 1 - i)
def wyN (E : Nat → Nat → Nat) (n : Nat) (T : Nat → Nat) (k : Nat) : Nat := sumN (fun a => wS E n (T (k * 8 + 0) * 4 + a) (T (k * 8 + 2)) (T (k * 8 + 4)) (E 1 (T (k * 8 + 0) * 4 + a)) (T (k * 8 + 3))) (E 0 (T (k * 8 + 0)))
def wayA (E : Nat → Nat → Nat) (n sz : Nat) (T : Nat → Nat) (x : Int32) : Int32 := if vlp x sz then nI (wyN E n T x.toInt.toNat) else -1
theorem wayA_cg {E : Nat → Nat → Nat} {n sz : Nat} {T T2 : Nat → Nat} {x : Int32} (h : tEq sz T T2) : wayA E n sz T x = wayA E n sz T2 x := by
  unfold wayA wyN
  split
  · rename_i q
    rw [h _ 0 (vlp_n q) (by decide), h _ 2 (vlp_n q) (by decide), h _ 3 (vlp_n q) (by decide), h _ 4 (vlp_n q) (by decide)]
  · rfl
def extK (li co : Nat → Nat) (T : Nat → Nat) (k : Nat) (w : Int32) : Int32 := if w = nI 0 then nI (li (T (k * 8 + 2))) else if w = nI 1 then nI (li (T (k * 8 + 3) - 1)) else if w = nI 2 then nI (mnc co (T (k * 8 + 2)) (T (k * 8 + 3) - T (k * 8 + 2))) else if w = nI 3 then nI (mxc co (T (k * 8 + 2)) (T (k * 8 + 3) - T (k * 8 + 2))) else if w = nI 4 then nI (cnt (fun i => decide (T (k * 8 + 2) ≤ i ∧ co i < T (k * 8 + 4))) (T (k * 8 + 3))) else -1
def extA (li co : Nat → Nat) (sz : Nat) (T : Nat → Nat) (x w : Int32) : Int32 := if vlp x sz then extK li co T x.toInt.toNat w else -1
theorem extA_cg {li co : Nat → Nat} {sz : Nat} {T T2 : Nat → Nat} {x w : Int32} (h : tEq sz T T2) : extA li co sz T x w = extA li co sz T2 x w := by
  unfold extA extK
  split
  · rename_i q
    rw [h _ 2 (vlp_n q) (by decide), h _ 3 (vlp_n q) (by decide), h _ 4 (vlp_n q) (by decide)]
  · rfl
def hsB (T : Nat → Nat) (t k : Nat) : Bool := decide (T (k * 8 + 2) ≤ t ∧ t < T (k * 8 + 3))
def offN (T : Nat → Nat) (t sz : Nat) : Nat := cnt (fun k => hsB T t k && decide (T (k * 8 + 7) = 42)) sz
def offA (c sz : Nat) (T : Nat → Nat) (t : Int32) : Int32 := if vlp t c then nI (offN T t.toInt.toNat sz) else -1
theorem hsB_cg {sz : Nat} {T T2 : Nat → Nat} {t k : Nat} (h : tEq sz T T2) (hk : k < sz) : hsB T t k = hsB T2 t k := by
  unfold hsB; rw [h k 2 hk (by decide), h k 3 hk (by decide)]
theorem offA_cg {c sz : Nat} {T T2 : Nat → Nat} {t : Int32} (h : tEq sz T T2) : offA c sz T t = offA c sz T2 t := by
  unfold offA offN
  split
  · congr 1
    exact cnt_cong (fun k hk => by rw [hsB_cg h hk, h k 7 hk (by decide)])
  · rfl
def cnW (T : Nat → Nat) (f v sz : Nat) : Nat := cnt (fun k => decide (T (k * 8 + f) = v)) sz
theorem cnW_cg {sz f v : Nat} {T T2 : Nat → Nat} (h : tEq sz T T2) (hf : f < 8) : cnW T f v sz = cnW T2 f v sz := cnt_cong (fun k hk => by rw [h k f hk hf])
def lowN (T : Nat → Nat) (t : Nat) : Nat → Nat
  | 0 => NO
  | k + 1 => if hsB T t k = true then T (k * 8 + 0) else lowN T t k
theorem lowN_cg {sz t : Nat} {T T2 : Nat → Nat} (h : tEq sz T T2) : ∀ k, k ≤ sz → lowN T t k = lowN T2 t k
  | 0, _ => rfl
  | k + 1, hk => by rw [lowN, lowN, hsB_cg h (by omega), h k 0 (by omega) (by decide), lowN_cg h k (by omega)]
def aboK (sz : Nat) (T : Nat → Nat) (t : Nat) (w : Int32) : Int32 := if w = nI 0 then nI (cnW T 2 t sz) else if w = nI 1 then nI (cnW T 3 (t + 1) sz) else if w = nI 2 then nI (cnt (hsB T t) sz) else if w = nI 3 then nI (lowN T t sz) else -1
def aboA (c sz : Nat) (T : Nat → Nat) (t w : Int32) : Int32 := if vlp t c then aboK sz T t.toInt.toNat w else -1
theorem aboA_cg {c sz : Nat} {T T2 : Nat → Nat} {t w : Int32} (h : tEq sz T T2) : aboA c sz T t w = aboA c sz T2 t w := by
  unfold aboA aboK
  split
  · rw [cnW_cg h (by decide), cnW_cg h (by decide), cnt_cong (p := hsB T t.toInt.toNat) (q := hsB T2 t.toInt.toNat) (fun k hk => hsB_cg h hk), lowN_cg h sz (Nat.le_refl _)]
  · rfl
def depN (T : Nat → Nat) : Nat → Nat
  | 0 => 0
  | k + 1 => max (depN T k) (T (k * 8 + 6) + 1)
theorem depN_cg {sz : Nat} {T T2 : Nat → Nat} (h : tEq sz T T2) : ∀ k, k ≤ sz → depN T k = depN T2 k
  | 0, _ => rfl
  | k + 1, hk => by rw [depN, depN, h k 6 (by omega) (by decide), depN_cg h k (by omega)]
def asdN (co T : Nat → Nat) (sz : Nat) : Nat := cnt (fun k => decide (¬ T (k * 8 + 4) = co (T (k * 8 + 2)))) sz
theorem asdN_cg {co : Nat → Nat} {sz : Nat} {T T2 : Nat → Nat} (h : tEq sz T T2) : asdN co T sz = asdN co T2 sz := cnt_cong (fun k hk => by rw [h k 4 hk (by decide), h k 2 hk (by decide)])
def twoN (li : Nat → Nat) (c : Nat) (T : Nat → Nat) (sz : Nat) : Nat := cnt (fun t => decide ((t = 0 ∨ li (t - 1) ≠ li t) ∧ 2 ≤ cnW T 2 t sz)) c
theorem twoN_cg {li : Nat → Nat} {c sz : Nat} {T T2 : Nat → Nat} (h : tEq sz T T2) : twoN li c T sz = twoN li c T2 sz := cnt_cong (fun k hk => by rw [cnW_cg h (by decide)])
def treA (li co : Nat → Nat) (c sz : Nat) (T : Nat → Nat) (w : Int32) : Int32 := if w = nI 0 then nI (depN T sz) else if w = nI 1 then nI (asdN co T sz) else if w = nI 2 then nI (twoN li c T sz) else -1
theorem treA_cg {li co : Nat → Nat} {c sz : Nat} {T T2 : Nat → Nat} {w : Int32} (h : tEq sz T T2) : treA li co c sz T w = treA li co c sz T2 w := by
  unfold treA
  rw [depN_cg h sz (Nat.le_refl _), asdN_cg h, twoN_cg h]
/-- whether two trees are alike -/
def likR (gn gn2 T T2 : Nat → Nat) (k : Nat) : Bool := decide (gn (T (k * 8 + 0)) = gn2 (T2 (k * 8 + 0)) ∧ T (k * 8 + 1) = T2 (k * 8 + 1) ∧ T (k * 8 + 2) = T2 (k * 8 + 2) ∧ T (k * 8 + 3) = T2 (k * 8 + 3))
def likB (gn gn2 : Nat → Nat) (sz sz2 : Nat) (T T2 : Nat → Nat) : Prop := sz = sz2 ∧ ∀ k, k < sz → likR gn gn2 T T2 k = true
theorem likB_cg {gn gn2 : Nat → Nat} {sz sz2 : Nat} {T T2 U U2 : Nat → Nat} (h : tEq sz T U) (h2 : tEq sz2 T2 U2) : likB gn gn2 sz sz2 T T2 ↔ likB gn gn2 sz sz2 U U2 := by
  have hk : ∀ k, k < sz → sz = sz2 → likR gn gn2 T T2 k = likR gn gn2 U U2 k := fun k hk e => by
    unfold likR
    rw [h k 0 hk (by decide), h k 1 hk (by decide), h k 2 hk (by decide), h k 3 hk (by decide), h2 k 0 (by omega) (by decide), h2 k 1 (by omega) (by decide), h2 k 2 (by omega) (by decide), h2 k 3 (by omega) (by decide)]
  constructor
  · rintro ⟨e, h⟩; exact ⟨e, fun k q => by rw [← hk k q e]; exact h k q⟩
  · rintro ⟨e, h⟩; exact ⟨e, fun k q => by rw [hk k q e]; exact h k q⟩
theorem pow_mono21 (a : Nat) : 21 ^ (a + 1) = 21 * 21 ^ a := by rw [Nat.pow_succ, Nat.mul_comm]
theorem sumN_le {g : Nat → Nat} {B : Nat} : ∀ {n : Nat}, (∀ k, k < n → g k ≤ B) → sumN g n ≤ n * B
  | 0, _ => Nat.zero_le _
  | n + 1, h => by
    rw [sumN, Nat.succ_mul]
    exact Nat.add_le_add (sumN_le (fun k hk => h k (by omega))) (h n (by omega))
theorem wS_le {E : Nat → Nat → Nat} {n y i d : Nat} : ∀ k q, q < 21 → wS E n y i d k q ≤ 21 ^ k
  | 0, q, _ => by rw [wS]; split <;> decide
  | k + 1, q, hq => by
    rw [wS, pow_mono21]
    refine Nat.le_trans (sumN_le (B := 21 ^ k) (fun z hz => ?_)) (Nat.mul_le_mul_right _ (by omega))
    split
    · exact wS_le k (i + z) (by omega)
    · exact Nat.zero_le _
theorem pow5 {k : Nat} (h : k ≤ 5) : 21 ^ k ≤ 4084101 := Nat.le_trans (Nat.pow_le_pow_right (by decide) h) (by decide)
theorem wS_b {E : Nat → Nat → Nat} {n y i d k q : Nat} (hk : k ≤ 5) (hq : q < 21) : wS E n y i d k q ≤ 4084101 := Nat.le_trans (wS_le k q hq) (pow5 hk)
theorem sumN_s {g : Nat → Nat} {n a b : Nat} (h : a = sumN g n) (hb : b = g n) : a + b = sumN g (n + 1) := by rw [sumN, h, hb]
theorem fit_tH {E : Nat → Nat → Nat} {n c x p q d : Nat} {W : Nat → Nat} (hC : ChS E n c W) (hx : E 2 x = NO ∨ E 2 x < n) (hE : ∀ q, E 6 q < 40) (hd : d < 40) (hpq : p ≤ q) (hq : q ≤ c) : tH E n x p q d = true ↔ itm E (w3 W) x p q &&& prtN (E 4 x) (2 ^ d) ≠ 0 := by
  rw [itm_w3 hC hx hpq hq]
  exact tH_fit hE hd
def wG (E : Nat → Nat → Nat) (n y i d x q z : Nat) : Nat := if tH E n (y * 5 + x) (i + z) q d = true then wS E n y i d x (i + z) else 0
theorem wS_G {E : Nat → Nat → Nat} {n y i d x q : Nat} : wS E n y i d (x + 1) q = sumN (wG E n y i d x q) (q + 1 - i) := rfl
theorem wG_add {E : Nat → Nat → Nat} {n y i d x q p a v : Nat} (ha : a = sumN (wG E n y i d x q) (p - i)) (hp : i ≤ p) (hv : v = wG E n y i d x q (p - i)) : a + v = sumN (wG E n y i d x q) (p + 1 - i) := by
  rw [show p + 1 - i = (p - i) + 1 by omega, sumN, ha, hv]
theorem wG_z {E : Nat → Nat → Nat} {n y i d x q p v : Nat} (hp : i ≤ p) (hv : v = wS E n y i d x p) (h : v = 0 ∨ ¬ tH E n (y * 5 + x) p q d = true) : 0 = wG E n y i d x q (p - i) := by
  unfold wG
  rw [show i + (p - i) = p by omega]
  rcases h with h | h
  · rw [← hv, h]; split <;> rfl
  · rw [if_neg h]
theorem wG_y {E : Nat → Nat → Nat} {n y i d x q p v : Nat} (hp : i ≤ p) (hv : v = wS E n y i d x p) (h : tH E n (y * 5 + x) p q d = true) : v = wG E n y i d x q (p - i) := by
  unfold wG
  rw [show i + (p - i) = p by omega, if_pos h, hv]
theorem wG_b {E : Nat → Nat → Nat} {n y i d x q : Nat} (hx : x < 5) (hq : q < 21) {m : Nat} (hm : m ≤ q + 1 - i) : sumN (wG E n y i d x q) m ≤ 85766121 := by
  refine Nat.le_trans (sumN_le (B := 4084101) (fun z hz => ?_)) (Nat.le_trans (Nat.mul_le_mul_right 4084101 (show m ≤ 21 by omega)) (by decide))
  unfold wG
  split
  · exact wS_b (by omega) (by omega)
  · exact Nat.zero_le _
theorem wsum_b {E : Nat → Nat → Nat} {n r i d j m : Nat} (hm : m ≤ 4) (hj : j < 21) (h5 : ∀ q, E 1 q ≤ 5) : sumN (fun a => wS E n (r * 4 + a) i d (E 1 (r * 4 + a)) j) m ≤ 16336404 := Nat.le_trans (sumN_le (B := 4084101) (fun a _ => wS_b (h5 _) hj)) (Nat.le_trans (Nat.mul_le_mul_right 4084101 hm) (by decide))
theorem depN_b {T : Nat → Nat} {B : Nat} : ∀ k, (∀ q, q < k → T (q * 8 + 6) ≤ B) → depN T k ≤ B + 1
  | 0, _ => Nat.zero_le _
  | k + 1, h => by
    rw [depN]
    have h1 := depN_b k (fun q hq => h q (by omega))
    have h2 := h k (by omega)
    omega
theorem lowN_b {T : Nat → Nat} {n t : Nat} : ∀ k, (∀ q, q < k → T (q * 8 + 0) < n) → lowN T t k = NO ∨ lowN T t k < n
  | 0, _ => Or.inl rfl
  | k + 1, h => by
    rw [lowN]
    split
    · exact Or.inr (h k (by omega))
    · exact lowN_b k (fun q hq => h q (by omega))
theorem hsB_iff {T : Nat → Nat} {t k : Nat} : hsB T t k = true ↔ T (k * 8 + 2) ≤ t ∧ t < T (k * 8 + 3) := decide_eq_true_iff
