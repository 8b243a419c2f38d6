/-! PARTS OVER NO TOKENS, purely -/
def brI (tg bd br : Nat → Nat) (x : Nat) : Nat := if tg x = NO then 0 else letsN (bd x) (br (tg x))
def brA (tg bd it br : Nat → Nat) (a : Nat) : Nat := andR (fun k => brI tg bd br (a * 5 + k)) 0 (it a)
def brR (al_ it tg bd br : Nat → Nat) (r : Nat) : Nat := orR (fun a => brA tg bd it br (r * 4 + a)) 0 (al_ r)
theorem brI_lt {tg bd br : Nat → Nat} (h : SafeM br) (x : Nat) : brI tg bd br x < 1099511627776 := by
  unfold brI; split
  · decide
  · exact letsN_lt (h _)
