/-! GROWING: draws -/
def drN (s : Nat) : Nat := (1103 * s + 12345) % 1000003
def drV (m s : Nat) : Nat := if 0 < m then drN s % m else 0
theorem drN_lt (s : Nat) : drN s < 1000003 := Nat.mod_lt _ (by decide)
/-- the number behind so many others that p has, from i on (n of them); 0 where there is none -/
def nthC (p : Nat → Bool) : Nat → Nat → Nat → Nat
  | _, _, 0 => 0
  | l, i, n + 1 => if p i = true then (if l = 0 then i else nthC p (l - 1) (i + 1) n) else nthC p l (i + 1) n
theorem nthC_hit {p : Nat → Bool} {i n l : Nat} (hn : 0 < n) (hp : p i = true) (hl : l = 0) : nthC p l i n = i := by
  match n, hn with
  | n + 1, _ => rw [nthC, if_pos hp, if_pos hl]
theorem nthC_nx {p : Nat → Bool} {i n l : Nat} (hn : 0 < n) (hp : p i = true) (hl : ¬ l = 0) : nthC p l i n = nthC p (l - 1) (i + 1) (n - 1) := by
  match n, hn with
  | n + 1, _ => rw [nthC, if_pos hp, if_neg hl]; rfl
theorem nthC_no {p : Nat → Bool} {i n l : Nat} (hn : 0 < n) (hp : ¬ p i = true) : nthC p l i n = nthC p l (i + 1) (n - 1) := by
  match n, hn with
  | n + 1, _ => rw [nthC, if_neg hp]; rfl
theorem nthC_end {p : Nat → Bool} {i l : Nat} : nthC p l i 0 = 0 := by rw [nthC]
theorem drV_lt (m s : Nat) : drV m s < 1000003 := by
  unfold drV
  split
  · exact Nat.lt_of_le_of_lt (Nat.mod_le _ _) (drN_lt s)
  · decide
theorem zw_rem {d : Nat} {y : zY} {pc nx : Nat} {ls : zL} {st : List Value} {M : zM} {post : Option Value → zM → Prop} {ax : List Nat} {cI : Int32} {z : Int64} {x w : Int32} (h : z_at y.2.2.2.2.2 pc = some (.irem, nx, ax, cI, z)) (hw : ¬ w = 0) (k : Zw d y nx ls (.int (x - x / w * w) :: st) M post) : Zw d y pc ls (.int w :: .int x :: st) M post := by
  have e : z_st y pc ls (.int w :: .int x :: st) = some (nx, ls, .int (x - x / w * w) :: st) := by
    unfold z_st
    rw [h]
    show (if w = 0 then none else some (nx, ls, Value.int (x - x / w * w) :: st)) = _
    rw [if_neg hw]
  exact zw_1 e k
theorem nI_ne0b {m : Nat} (h : 0 < m) (hm : m < 2147483648) : ¬ nI m = 0 := fun e => by
  have h1 := nI_toInt hm
  rw [e] at h1
  have h2 : (0 : Int32).toInt = 0 := rfl
  omega
