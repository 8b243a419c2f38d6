/-! and what they hold -/
def iFz : Nat → Nat → Nat := fun a j => if a = 0 ∧ j = 17 then 4294967294 else if a = 125 ∧ j = 0 then 16 else if a = 125 ∧ j = 1 then 30 else if a = 2 ∧ j = 3 then 15 else 0
theorem allZ {P : Nat → Prop} : ∀ k, k < 0 → P k := fun k h => absurd h (Nat.not_lt_zero _)
theorem allS {P : Nat → Prop} {n : Nat} (h : ∀ k, k < n → P k) (hn : P n) : ∀ k, k < n + 1 → P k := fun k hk => if e : k = n then e ▸ hn else h k (by omega)
set_option maxHeartbeats 0 in
set_option maxRecDepth 1000000 in
theorem iW_cc : ∀ k, k < 139 → k ≠ 51 → k ≠ 94 → iW[k]? = some (ccl k (iFz k)) := by
  have h0 : ∀ k, k < 0 → k ≠ 51 → k ≠ 94 → iW[k]? = some (ccl k (iFz k)) := allZ (P := fun k => k ≠ 51 → k ≠ 94 → iW[k]? = some (ccl k (iFz k)))
  have h1 := allS (P := fun k => k ≠ 51 → k ≠ 94 → iW[k]? = some (ccl k (iFz k))) (n := 0) h0 (fun _ _ => rfl)
  have h2 := allS (P := fun k => k ≠ 51 → k ≠ 94 → iW[k]? = some (ccl k (iFz k))) (n := 1) h1 (fun _ _ => rfl)
  have h3 := allS (P := fun k => k ≠ 51 → k ≠ 94 → iW[k]? = some (ccl k (iFz k))) (n := 2) h2 (fun _ _ => rfl)
  have h4 := allS (P := fun k => k ≠ 51 → k ≠ 94 → iW[k]? = some (ccl k (iFz k))) (n := 3) h3 (fun _ _ => rfl)
  have h5 := allS (P := fun k => k ≠ 51 → k ≠ 94 → iW[k]? = some (ccl k (iFz k))) (n := 4) h4 (fun _ _ => rfl)
  have h6 := allS (P := fun k => k ≠ 51 → k ≠ 94 → iW[k]? = some (ccl k (iFz k))) (n := 5) h5 (fun _ _ => rfl)
  have h7 := allS (P := fun k => k ≠ 51 → k ≠ 94 → iW[k]? = some (ccl k (iFz k))) (n := 6) h6 (fun _ _ => rfl)
  have h8 := allS (P := fun k => k ≠ 51 → k ≠ 94 → iW[k]? = some (ccl k (iFz k))) (n := 7) h7 (fun _ _ => rfl)
  have h9 := allS (P := fun k => k ≠ 51 → k ≠ 94 → iW[k]? = some (ccl k (iFz k))) (n := 8) h8 (fun _ _ => rfl)
  have h10 := allS (P := fun k => k ≠ 51 → k ≠ 94 → iW[k]? = some (ccl k (iFz k))) (n := 9) h9 (fun _ _ => rfl)
  have h11 := allS (P := fun k => k ≠ 51 → k ≠ 94 → iW[k]? = some (ccl k (iFz k))) (n := 10) h10 (fun _ _ => rfl)
  have h12 := allS (P := fun k => k ≠ 51 → k ≠ 94 → iW[k]? = some (ccl k (iFz k))) (n := 11) h11 (fun _ _ => rfl)
  have h13 := allS (P := fun k => k ≠ 51 → k ≠ 94 → iW[k]? = some (ccl k (iFz k))) (n := 12) h12 (fun _ _ => rfl)
  have h14 := allS (P := fun k => k ≠ 51 → k ≠ 94 → iW[k]? = some (ccl k (iFz k))) (n := 13) h13 (fun _ _ => rfl)
  have h15 := allS (P := fun k => k ≠ 51 → k ≠ 94 → iW[k]? = some (ccl k (iFz k))) (n := 14) h14 (fun _ _ => rfl)
  have h16 := allS (P := fun k => k ≠ 51 → k ≠ 94 → iW[k]? = some (ccl k (iFz k))) (n := 15) h15 (fun _ _ => rfl)
  have h17 := allS (P := fun k => k ≠ 51 → k ≠ 94 → iW[k]? = some (ccl k (iFz k))) (n := 16) h16 (fun _ _ => rfl)
  have h18 := allS (P := fun k => k ≠ 51 → k ≠ 94 → iW[k]? = some (ccl k (iFz k))) (n := 17) h17 (fun _ _ => rfl)
  have h19 := allS (P := fun k => k ≠ 51 → k ≠ 94 → iW[k]? = some (ccl k (iFz k))) (n := 18) h18 (fun _ _ => rfl)
  have h20 := allS (P := fun k => k ≠ 51 → k ≠ 94 → iW[k]? = some (ccl k (iFz k))) (n := 19) h19 (fun _ _ => rfl)
  have h21 := allS (P := fun k => k ≠ 51 → k ≠ 94 → iW[k]? = some (ccl k (iFz k))) (n := 20) h20 (fun _ _ => rfl)
  have h22 := allS (P := fun k => k ≠ 51 → k ≠ 94 → iW[k]? = some (ccl k (iFz k))) (n := 21) h21 (fun _ _ => rfl)
  have h23 := allS (P := fun k => k ≠ 51 → k ≠ 94 → iW[k]? = some (ccl k (iFz k))) (n := 22) h22 (fun _ _ => rfl)
  have h24 := allS (P := fun k => k ≠ 51 → k ≠ 94 → iW[k]? = some (ccl k (iFz k))) (n := 23) h23 (fun _ _ => rfl)
  have h25 := allS (P := fun k => k ≠ 51 → k ≠ 94 → iW[k]? = some (ccl k (iFz k))) (n := 24) h24 (fun _ _ => rfl)
  have h26 := allS (P := fun k => k ≠ 51 → k ≠ 94 → iW[k]? = some (ccl k (iFz k))) (n := 25) h25 (fun _ _ => rfl)
  have h27 := allS (P := fun k => k ≠ 51 → k ≠ 94 → iW[k]? = some (ccl k (iFz k))) (n := 26) h26 (fun _ _ => rfl)
  have h28 := allS (P := fun k => k ≠ 51 → k ≠ 94 → iW[k]? = some (ccl k (iFz k))) (n := 27) h27 (fun _ _ => rfl)
  have h29 := allS (P := fun k => k ≠ 51 → k ≠ 94 → iW[k]? = some (ccl k (iFz k))) (n := 28) h28 (fun _ _ => rfl)
  have h30 := allS (P := fun k => k ≠ 51 → k ≠ 94 → iW[k]? = some (ccl k (iFz k))) (n := 29) h29 (fun _ _ => rfl)
  have h31 := allS (P := fun k => k ≠ 51 → k ≠ 94 → iW[k]? = some (ccl k (iFz k))) (n := 30) h30 (fun _ _ => rfl)
  have h32 := allS (P := fun k => k ≠ 51 → k ≠ 94 → iW[k]? = some (ccl k (iFz k))) (n := 31) h31 (fun _ _ => rfl)
  have h33 := allS (P := fun k => k ≠ 51 → k ≠ 94 → iW[k]? = some (ccl k (iFz k))) (n := 32) h32 (fun _ _ => rfl)
  have h34 := allS (P := fun k => k ≠ 51 → k ≠ 94 → iW[k]? = some (ccl k (iFz k))) (n := 33) h33 (fun _ _ => rfl)
  have h35 := allS (P := fun k => k ≠ 51 → k ≠ 94 → iW[k]? = some (ccl k (iFz k))) (n := 34) h34 (fun _ _ => rfl)
  have h36 := allS (P := fun k => k ≠ 51 → k ≠ 94 → iW[k]? = some (ccl k (iFz k))) (n := 35) h35 (fun _ _ => rfl)
  have h37 := allS (P := fun k => k ≠ 51 → k ≠ 94 → iW[k]? = some (ccl k (iFz k))) (n := 36) h36 (fun _ _ => rfl)
  have h38 := allS (P := fun k => k ≠ 51 → k ≠ 94 → iW[k]? = some (ccl k (iFz k))) (n := 37) h37 (fun _ _ => rfl)
  have h39 := allS (P := fun k => k ≠ 51 → k ≠ 94 → iW[k]? = some (ccl k (iFz k))) (n := 38) h38 (fun _ _ => rfl)
  have h40 := allS (P := fun k => k ≠ 51 → k ≠ 94 → iW[k]? = some (ccl k (iFz k))) (n := 39) h39 (fun _ _ => rfl)
  have h41 := allS (P := fun k => k ≠ 51 → k ≠ 94 → iW[k]? = some (ccl k (iFz k))) (n := 40) h40 (fun _ _ => rfl)
  have h42 := allS (P := fun k => k ≠ 51 → k ≠ 94 → iW[k]? = some (ccl k (iFz k))) (n := 41) h41 (fun _ _ => rfl)
  have h43 := allS (P := fun k => k ≠ 51 → k ≠ 94 → iW[k]? = some (ccl k (iFz k))) (n := 42) h42 (fun _ _ => rfl)
  have h44 := allS (P := fun k => k ≠ 51 → k ≠ 94 → iW[k]? = some (ccl k (iFz k))) (n := 43) h43 (fun _ _ => rfl)
  have h45 := allS (P := fun k => k ≠ 51 → k ≠ 94 → iW[k]? = some (ccl k (iFz k))) (n := 44) h44 (fun _ _ => rfl)
  have h46 := allS (P := fun k => k ≠ 51 → k ≠ 94 → iW[k]? = some (ccl k (iFz k))) (n := 45) h45 (fun _ _ => rfl)
  have h47 := allS (P := fun k => k ≠ 51 → k ≠ 94 → iW[k]? = some (ccl k (iFz k))) (n := 46) h46 (fun _ _ => rfl)
  have h48 := allS (P := fun k => k ≠ 51 → k ≠ 94 → iW[k]? = some (ccl k (iFz k))) (n := 47) h47 (fun _ _ => rfl)
  have h49 := allS (P := fun k => k ≠ 51 → k ≠ 94 → iW[k]? = some (ccl k (iFz k))) (n := 48) h48 (fun _ _ => rfl)
  have h50 := allS (P := fun k => k ≠ 51 → k ≠ 94 → iW[k]? = some (ccl k (iFz k))) (n := 49) h49 (fun _ _ => rfl)
  have h51 := allS (P := fun k => k ≠ 51 → k ≠ 94 → iW[k]? = some (ccl k (iFz k))) (n := 50) h50 (fun _ _ => rfl)
  have h52 := allS (P := fun k => k ≠ 51 → k ≠ 94 → iW[k]? = some (ccl k (iFz k))) (n := 51) h51 (fun q => absurd rfl q)
  have h53 := allS (P := fun k => k ≠ 51 → k ≠ 94 → iW[k]? = some (ccl k (iFz k))) (n := 52) h52 (fun _ _ => rfl)
  have h54 := allS (P := fun k => k ≠ 51 → k ≠ 94 → iW[k]? = some (ccl k (iFz k))) (n := 53) h53 (fun _ _ => rfl)
  have h55 := allS (P := fun k => k ≠ 51 → k ≠ 94 → iW[k]? = some (ccl k (iFz k))) (n := 54) h54 (fun _ _ => rfl)
  have h56 := allS (P := fun k => k ≠ 51 → k ≠ 94 → iW[k]? = some (ccl k (iFz k))) (n := 55) h55 (fun _ _ => rfl)
  have h57 := allS (P := fun k => k ≠ 51 → k ≠ 94 → iW[k]? = some (ccl k (iFz k))) (n := 56) h56 (fun _ _ => rfl)
  have h58 := allS (P := fun k => k ≠ 51 → k ≠ 94 → iW[k]? = some (ccl k (iFz k))) (n := 57) h57 (fun _ _ => rfl)
  have h59 := allS (P := fun k => k ≠ 51 → k ≠ 94 → iW[k]? = some (ccl k (iFz k))) (n := 58) h58 (fun _ _ => rfl)
  have h60 := allS (P := fun k => k ≠ 51 → k ≠ 94 → iW[k]? = some (ccl k (iFz k))) (n := 59) h59 (fun _ _ => rfl)
  have h61 := allS (P := fun k => k ≠ 51 → k ≠ 94 → iW[k]? = some (ccl k (iFz k))) (n := 60) h60 (fun _ _ => rfl)
  have h62 := allS (P := fun k => k ≠ 51 → k ≠ 94 → iW[k]? = some (ccl k (iFz k))) (n := 61) h61 (fun _ _ => rfl)
  have h63 := allS (P := fun k => k ≠ 51 → k ≠ 94 → iW[k]? = some (ccl k (iFz k))) (n := 62) h62 (fun _ _ => rfl)
  have h64 := allS (P := fun k => k ≠ 51 → k ≠ 94 → iW[k]? = some (ccl k (iFz k))) (n := 63) h63 (fun _ _ => rfl)
  have h65 := allS (P := fun k => k ≠ 51 → k ≠ 94 → iW[k]? = some (ccl k (iFz k))) (n := 64) h64 (fun _ _ => rfl)
  have h66 := allS (P := fun k => k ≠ 51 → k ≠ 94 → iW[k]? = some (ccl k (iFz k))) (n := 65) h65 (fun _ _ => rfl)
  have h67 := allS (P := fun k => k ≠ 51 → k ≠ 94 → iW[k]? = some (ccl k (iFz k))) (n := 66) h66 (fun _ _ => rfl)
  have h68 := allS (P := fun k => k ≠ 51 → k ≠ 94 → iW[k]? = some (ccl k (iFz k))) (n := 67) h67 (fun _ _ => rfl)
  have h69 := allS (P := fun k => k ≠ 51 → k ≠ 94 → iW[k]? = some (ccl k (iFz k))) (n := 68) h68 (fun _ _ => rfl)
  have h70 := allS (P := fun k => k ≠ 51 → k ≠ 94 → iW[k]? = some (ccl k (iFz k))) (n := 69) h69 (fun _ _ => rfl)
  have h71 := allS (P := fun k => k ≠ 51 → k ≠ 94 → iW[k]? = some (ccl k (iFz k))) (n := 70) h70 (fun _ _ => rfl)
  have h72 := allS (P := fun k => k ≠ 51 → k ≠ 94 → iW[k]? = some (ccl k (iFz k))) (n := 71) h71 (fun _ _ => rfl)
  have h73 := allS (P := fun k => k ≠ 51 → k ≠ 94 → iW[k]? = some (ccl k (iFz k))) (n := 72) h72 (fun _ _ => rfl)
  have h74 := allS (P := fun k => k ≠ 51 → k ≠ 94 → iW[k]? = some (ccl k (iFz k))) (n := 73) h73 (fun _ _ => rfl)
  have h75 := allS (P := fun k => k ≠ 51 → k ≠ 94 → iW[k]? = some (ccl k (iFz k))) (n := 74) h74 (fun _ _ => rfl)
  have h76 := allS (P := fun k => k ≠ 51 → k ≠ 94 → iW[k]? = some (ccl k (iFz k))) (n := 75) h75 (fun _ _ => rfl)
  have h77 := allS (P := fun k => k ≠ 51 → k ≠ 94 → iW[k]? = some (ccl k (iFz k))) (n := 76) h76 (fun _ _ => rfl)
  have h78 := allS (P := fun k => k ≠ 51 → k ≠ 94 → iW[k]? = some (ccl k (iFz k))) (n := 77) h77 (fun _ _ => rfl)
  have h79 := allS (P := fun k => k ≠ 51 → k ≠ 94 → iW[k]? = some (ccl k (iFz k))) (n := 78) h78 (fun _ _ => rfl)
  have h80 := allS (P := fun k => k ≠ 51 → k ≠ 94 → iW[k]? = some (ccl k (iFz k))) (n := 79) h79 (fun _ _ => rfl)
  have h81 := allS (P := fun k => k ≠ 51 → k ≠ 94 → iW[k]? = some (ccl k (iFz k))) (n := 80) h80 (fun _ _ => rfl)
  have h82 := allS (P := fun k => k ≠ 51 → k ≠ 94 → iW[k]? = some (ccl k (iFz k))) (n := 81) h81 (fun _ _ => rfl)
  have h83 := allS (P := fun k => k ≠ 51 → k ≠ 94 → iW[k]? = some (ccl k (iFz k))) (n := 82) h82 (fun _ _ => rfl)
  have h84 := allS (P := fun k => k ≠ 51 → k ≠ 94 → iW[k]? = some (ccl k (iFz k))) (n := 83) h83 (fun _ _ => rfl)
  have h85 := allS (P := fun k => k ≠ 51 → k ≠ 94 → iW[k]? = some (ccl k (iFz k))) (n := 84) h84 (fun _ _ => rfl)
  have h86 := allS (P := fun k => k ≠ 51 → k ≠ 94 → iW[k]? = some (ccl k (iFz k))) (n := 85) h85 (fun _ _ => rfl)
  have h87 := allS (P := fun k => k ≠ 51 → k ≠ 94 → iW[k]? = some (ccl k (iFz k))) (n := 86) h86 (fun _ _ => rfl)
  have h88 := allS (P := fun k => k ≠ 51 → k ≠ 94 → iW[k]? = some (ccl k (iFz k))) (n := 87) h87 (fun _ _ => rfl)
  have h89 := allS (P := fun k => k ≠ 51 → k ≠ 94 → iW[k]? = some (ccl k (iFz k))) (n := 88) h88 (fun _ _ => rfl)
  have h90 := allS (P := fun k => k ≠ 51 → k ≠ 94 → iW[k]? = some (ccl k (iFz k))) (n := 89) h89 (fun _ _ => rfl)
  have h91 := allS (P := fun k => k ≠ 51 → k ≠ 94 → iW[k]? = some (ccl k (iFz k))) (n := 90) h90 (fun _ _ => rfl)
  have h92 := allS (P := fun k => k ≠ 51 → k ≠ 94 → iW[k]? = some (ccl k (iFz k))) (n := 91) h91 (fun _ _ => rfl)
  have h93 := allS (P := fun k => k ≠ 51 → k ≠ 94 → iW[k]? = some (ccl k (iFz k))) (n := 92) h92 (fun _ _ => rfl)
  have h94 := allS (P := fun k => k ≠ 51 → k ≠ 94 → iW[k]? = some (ccl k (iFz k))) (n := 93) h93 (fun _ _ => rfl)
  have h95 := allS (P := fun k => k ≠ 51 → k ≠ 94 → iW[k]? = some (ccl k (iFz k))) (n := 94) h94 (fun _ q => absurd rfl q)
  have h96 := allS (P := fun k => k ≠ 51 → k ≠ 94 → iW[k]? = some (ccl k (iFz k))) (n := 95) h95 (fun _ _ => rfl)
  have h97 := allS (P := fun k => k ≠ 51 → k ≠ 94 → iW[k]? = some (ccl k (iFz k))) (n := 96) h96 (fun _ _ => rfl)
  have h98 := allS (P := fun k => k ≠ 51 → k ≠ 94 → iW[k]? = some (ccl k (iFz k))) (n := 97) h97 (fun _ _ => rfl)
  have h99 := allS (P := fun k => k ≠ 51 → k ≠ 94 → iW[k]? = some (ccl k (iFz k))) (n := 98) h98 (fun _ _ => rfl)
  have h100 := allS (P := fun k => k ≠ 51 → k ≠ 94 → iW[k]? = some (ccl k (iFz k))) (n := 99) h99 (fun _ _ => rfl)
  have h101 := allS (P := fun k => k ≠ 51 → k ≠ 94 → iW[k]? = some (ccl k (iFz k))) (n := 100) h100 (fun _ _ => rfl)
  have h102 := allS (P := fun k => k ≠ 51 → k ≠ 94 → iW[k]? = some (ccl k (iFz k))) (n := 101) h101 (fun _ _ => rfl)
  have h103 := allS (P := fun k => k ≠ 51 → k ≠ 94 → iW[k]? = some (ccl k (iFz k))) (n := 102) h102 (fun _ _ => rfl)
  have h104 := allS (P := fun k => k ≠ 51 → k ≠ 94 → iW[k]? = some (ccl k (iFz k))) (n := 103) h103 (fun _ _ => rfl)
  have h105 := allS (P := fun k => k ≠ 51 → k ≠ 94 → iW[k]? = some (ccl k (iFz k))) (n := 104) h104 (fun _ _ => rfl)
  have h106 := allS (P := fun k => k ≠ 51 → k ≠ 94 → iW[k]? = some (ccl k (iFz k))) (n := 105) h105 (fun _ _ => rfl)
  have h107 := allS (P := fun k => k ≠ 51 → k ≠ 94 → iW[k]? = some (ccl k (iFz k))) (n := 106) h106 (fun _ _ => rfl)
  have h108 := allS (P := fun k => k ≠ 51 → k ≠ 94 → iW[k]? = some (ccl k (iFz k))) (n := 107) h107 (fun _ _ => rfl)
  have h109 := allS (P := fun k => k ≠ 51 → k ≠ 94 → iW[k]? = some (ccl k (iFz k))) (n := 108) h108 (fun _ _ => rfl)
  have h110 := allS (P := fun k => k ≠ 51 → k ≠ 94 → iW[k]? = some (ccl k (iFz k))) (n := 109) h109 (fun _ _ => rfl)
  have h111 := allS (P := fun k => k ≠ 51 → k ≠ 94 → iW[k]? = some (ccl k (iFz k))) (n := 110) h110 (fun _ _ => rfl)
  have h112 := allS (P := fun k => k ≠ 51 → k ≠ 94 → iW[k]? = some (ccl k (iFz k))) (n := 111) h111 (fun _ _ => rfl)
  have h113 := allS (P := fun k => k ≠ 51 → k ≠ 94 → iW[k]? = some (ccl k (iFz k))) (n := 112) h112 (fun _ _ => rfl)
  have h114 := allS (P := fun k => k ≠ 51 → k ≠ 94 → iW[k]? = some (ccl k (iFz k))) (n := 113) h113 (fun _ _ => rfl)
  have h115 := allS (P := fun k => k ≠ 51 → k ≠ 94 → iW[k]? = some (ccl k (iFz k))) (n := 114) h114 (fun _ _ => rfl)
  have h116 := allS (P := fun k => k ≠ 51 → k ≠ 94 → iW[k]? = some (ccl k (iFz k))) (n := 115) h115 (fun _ _ => rfl)
  have h117 := allS (P := fun k => k ≠ 51 → k ≠ 94 → iW[k]? = some (ccl k (iFz k))) (n := 116) h116 (fun _ _ => rfl)
  have h118 := allS (P := fun k => k ≠ 51 → k ≠ 94 → iW[k]? = some (ccl k (iFz k))) (n := 117) h117 (fun _ _ => rfl)
  have h119 := allS (P := fun k => k ≠ 51 → k ≠ 94 → iW[k]? = some (ccl k (iFz k))) (n := 118) h118 (fun _ _ => rfl)
  have h120 := allS (P := fun k => k ≠ 51 → k ≠ 94 → iW[k]? = some (ccl k (iFz k))) (n := 119) h119 (fun _ _ => rfl)
  have h121 := allS (P := fun k => k ≠ 51 → k ≠ 94 → iW[k]? = some (ccl k (iFz k))) (n := 120) h120 (fun _ _ => rfl)
  have h122 := allS (P := fun k => k ≠ 51 → k ≠ 94 → iW[k]? = some (ccl k (iFz k))) (n := 121) h121 (fun _ _ => rfl)
  have h123 := allS (P := fun k => k ≠ 51 → k ≠ 94 → iW[k]? = some (ccl k (iFz k))) (n := 122) h122 (fun _ _ => rfl)
  have h124 := allS (P := fun k => k ≠ 51 → k ≠ 94 → iW[k]? = some (ccl k (iFz k))) (n := 123) h123 (fun _ _ => rfl)
  have h125 := allS (P := fun k => k ≠ 51 → k ≠ 94 → iW[k]? = some (ccl k (iFz k))) (n := 124) h124 (fun _ _ => rfl)
  have h126 := allS (P := fun k => k ≠ 51 → k ≠ 94 → iW[k]? = some (ccl k (iFz k))) (n := 125) h125 (fun _ _ => rfl)
  have h127 := allS (P := fun k => k ≠ 51 → k ≠ 94 → iW[k]? = some (ccl k (iFz k))) (n := 126) h126 (fun _ _ => rfl)
  have h128 := allS (P := fun k => k ≠ 51 → k ≠ 94 → iW[k]? = some (ccl k (iFz k))) (n := 127) h127 (fun _ _ => rfl)
  have h129 := allS (P := fun k => k ≠ 51 → k ≠ 94 → iW[k]? = some (ccl k (iFz k))) (n := 128) h128 (fun _ _ => rfl)
  have h130 := allS (P := fun k => k ≠ 51 → k ≠ 94 → iW[k]? = some (ccl k (iFz k))) (n := 129) h129 (fun _ _ => rfl)
  have h131 := allS (P := fun k => k ≠ 51 → k ≠ 94 → iW[k]? = some (ccl k (iFz k))) (n := 130) h130 (fun _ _ => rfl)
  have h132 := allS (P := fun k => k ≠ 51 → k ≠ 94 → iW[k]? = some (ccl k (iFz k))) (n := 131) h131 (fun _ _ => rfl)
  have h133 := allS (P := fun k => k ≠ 51 → k ≠ 94 → iW[k]? = some (ccl k (iFz k))) (n := 132) h132 (fun _ _ => rfl)
  have h134 := allS (P := fun k => k ≠ 51 → k ≠ 94 → iW[k]? = some (ccl k (iFz k))) (n := 133) h133 (fun _ _ => rfl)
  have h135 := allS (P := fun k => k ≠ 51 → k ≠ 94 → iW[k]? = some (ccl k (iFz k))) (n := 134) h134 (fun _ _ => rfl)
  have h136 := allS (P := fun k => k ≠ 51 → k ≠ 94 → iW[k]? = some (ccl k (iFz k))) (n := 135) h135 (fun _ _ => rfl)
  have h137 := allS (P := fun k => k ≠ 51 → k ≠ 94 → iW[k]? = some (ccl k (iFz k))) (n := 136) h136 (fun _ _ => rfl)
  have h138 := allS (P := fun k => k ≠ 51 → k ≠ 94 → iW[k]? = some (ccl k (iFz k))) (n := 137) h137 (fun _ _ => rfl)
  have h139 := allS (P := fun k => k ≠ 51 → k ≠ 94 → iW[k]? = some (ccl k (iFz k))) (n := 138) h138 (fun _ _ => rfl)
  exact h139
set_option maxHeartbeats 0 in
set_option maxRecDepth 1000000 in
theorem iW_mm : ∀ k, k < 37 → iW[140 + k]? = some (mcl (140 + k) (fun _ => 0)) := by
  have h0 : ∀ k, k < 0 → iW[140 + k]? = some (mcl (140 + k) (fun _ => 0)) := allZ (P := fun k => iW[140 + k]? = some (mcl (140 + k) (fun _ => 0)))
  have h1 := allS (P := fun k => iW[140 + k]? = some (mcl (140 + k) (fun _ => 0))) (n := 0) h0 rfl
  have h2 := allS (P := fun k => iW[140 + k]? = some (mcl (140 + k) (fun _ => 0))) (n := 1) h1 rfl
  have h3 := allS (P := fun k => iW[140 + k]? = some (mcl (140 + k) (fun _ => 0))) (n := 2) h2 rfl
  have h4 := allS (P := fun k => iW[140 + k]? = some (mcl (140 + k) (fun _ => 0))) (n := 3) h3 rfl
  have h5 := allS (P := fun k => iW[140 + k]? = some (mcl (140 + k) (fun _ => 0))) (n := 4) h4 rfl
  have h6 := allS (P := fun k => iW[140 + k]? = some (mcl (140 + k) (fun _ => 0))) (n := 5) h5 rfl
  have h7 := allS (P := fun k => iW[140 + k]? = some (mcl (140 + k) (fun _ => 0))) (n := 6) h6 rfl
  have h8 := allS (P := fun k => iW[140 + k]? = some (mcl (140 + k) (fun _ => 0))) (n := 7) h7 rfl
  have h9 := allS (P := fun k => iW[140 + k]? = some (mcl (140 + k) (fun _ => 0))) (n := 8) h8 rfl
  have h10 := allS (P := fun k => iW[140 + k]? = some (mcl (140 + k) (fun _ => 0))) (n := 9) h9 rfl
  have h11 := allS (P := fun k => iW[140 + k]? = some (mcl (140 + k) (fun _ => 0))) (n := 10) h10 rfl
  have h12 := allS (P := fun k => iW[140 + k]? = some (mcl (140 + k) (fun _ => 0))) (n := 11) h11 rfl
  have h13 := allS (P := fun k => iW[140 + k]? = some (mcl (140 + k) (fun _ => 0))) (n := 12) h12 rfl
  have h14 := allS (P := fun k => iW[140 + k]? = some (mcl (140 + k) (fun _ => 0))) (n := 13) h13 rfl
  have h15 := allS (P := fun k => iW[140 + k]? = some (mcl (140 + k) (fun _ => 0))) (n := 14) h14 rfl
  have h16 := allS (P := fun k => iW[140 + k]? = some (mcl (140 + k) (fun _ => 0))) (n := 15) h15 rfl
  have h17 := allS (P := fun k => iW[140 + k]? = some (mcl (140 + k) (fun _ => 0))) (n := 16) h16 rfl
  have h18 := allS (P := fun k => iW[140 + k]? = some (mcl (140 + k) (fun _ => 0))) (n := 17) h17 rfl
  have h19 := allS (P := fun k => iW[140 + k]? = some (mcl (140 + k) (fun _ => 0))) (n := 18) h18 rfl
  have h20 := allS (P := fun k => iW[140 + k]? = some (mcl (140 + k) (fun _ => 0))) (n := 19) h19 rfl
  have h21 := allS (P := fun k => iW[140 + k]? = some (mcl (140 + k) (fun _ => 0))) (n := 20) h20 rfl
  have h22 := allS (P := fun k => iW[140 + k]? = some (mcl (140 + k) (fun _ => 0))) (n := 21) h21 rfl
  have h23 := allS (P := fun k => iW[140 + k]? = some (mcl (140 + k) (fun _ => 0))) (n := 22) h22 rfl
  have h24 := allS (P := fun k => iW[140 + k]? = some (mcl (140 + k) (fun _ => 0))) (n := 23) h23 rfl
  have h25 := allS (P := fun k => iW[140 + k]? = some (mcl (140 + k) (fun _ => 0))) (n := 24) h24 rfl
  have h26 := allS (P := fun k => iW[140 + k]? = some (mcl (140 + k) (fun _ => 0))) (n := 25) h25 rfl
  have h27 := allS (P := fun k => iW[140 + k]? = some (mcl (140 + k) (fun _ => 0))) (n := 26) h26 rfl
  have h28 := allS (P := fun k => iW[140 + k]? = some (mcl (140 + k) (fun _ => 0))) (n := 27) h27 rfl
  have h29 := allS (P := fun k => iW[140 + k]? = some (mcl (140 + k) (fun _ => 0))) (n := 28) h28 rfl
  have h30 := allS (P := fun k => iW[140 + k]? = some (mcl (140 + k) (fun _ => 0))) (n := 29) h29 rfl
  have h31 := allS (P := fun k => iW[140 + k]? = some (mcl (140 + k) (fun _ => 0))) (n := 30) h30 rfl
  have h32 := allS (P := fun k => iW[140 + k]? = some (mcl (140 + k) (fun _ => 0))) (n := 31) h31 rfl
  have h33 := allS (P := fun k => iW[140 + k]? = some (mcl (140 + k) (fun _ => 0))) (n := 32) h32 rfl
  have h34 := allS (P := fun k => iW[140 + k]? = some (mcl (140 + k) (fun _ => 0))) (n := 33) h33 rfl
  have h35 := allS (P := fun k => iW[140 + k]? = some (mcl (140 + k) (fun _ => 0))) (n := 34) h34 rfl
  have h36 := allS (P := fun k => iW[140 + k]? = some (mcl (140 + k) (fun _ => 0))) (n := 35) h35 rfl
  have h37 := allS (P := fun k => iW[140 + k]? = some (mcl (140 + k) (fun _ => 0))) (n := 36) h36 rfl
  exact h37
set_option maxHeartbeats 0 in
set_option maxRecDepth 1000000 in
theorem iW_CC : CC iW iFz := ⟨fun k h1 h2 h3 => iW_cc k (by omega) h2 h3, ⟨_, 4, rfl, rfl, fun j hj => by
  rcases (show j = 0 ∨ j = 1 ∨ j = 2 ∨ j = 3 ∨ j = 4 ∨ j = 5 ∨ j = 6 ∨ j = 7 ∨ j = 8 ∨ j = 9 by omega) with rfl | rfl | rfl | rfl | rfl | rfl | rfl | rfl | rfl | rfl <;> rfl⟩, ⟨_, 5, rfl, rfl, fun j hj => by
  rcases (show j = 0 ∨ j = 1 by omega) with rfl | rfl <;> rfl⟩⟩
set_option maxHeartbeats 0 in
set_option maxRecDepth 1000000 in
theorem iW_MM : MM iW (fun _ => 0) (fun _ _ => 0) := ⟨rfl, fun k h1 h2 => by
  obtain ⟨j, rfl⟩ : ∃ j, k = 140 + j := ⟨k - 140, by omega⟩
  exact iW_mm j (by omega)⟩
theorem iW_shp : Shp iW := ⟨rfl, ⟨_, iW_CC⟩, ⟨_, _, iW_MM⟩, fun _ => 0, rfl⟩
theorem iGOK : GOK 0 (fun _ => 0) (fun _ => 0) (fun _ => 0) (fun _ => 0) (fun _ => 0) (fun _ => 0) 0 (fun _ => 0) (fun _ => 0) (fun _ => 0) :=
  ⟨⟨by decide, fun _ => (by decide : 0 < 128), fun _ => (by decide : 0 ≤ 4), fun _ => (by decide : 0 ≤ 5), fun _ => (by decide : 0 < 128), fun _ => Or.inr (by decide : 0 < 8), fun _ => (by decide : 0 < 128)⟩, fun _ => (by decide : 0 < 1099511627776), fun _ => (by decide : 0 < 1099511627776), fun _ => (by decide : 0 < 1099511627776), by decide, fun r h => absurd h (Nat.not_lt_zero _), fun r h => absurd h (Nat.not_lt_zero _), fun x h => by obtain ⟨r, a, k, h1, -⟩ := h; exact absurd h1 (Nat.not_lt_zero _), fun x h => by obtain ⟨r, a, k, h1, -⟩ := h; exact absurd h1 (Nat.not_lt_zero _), ⟨fun _ => True, fun _ => 0, fun r h => absurd h (Nat.not_lt_zero _), fun r h => absurd h (Nat.not_lt_zero _), fun r h => absurd h (Nat.not_lt_zero _)⟩, ⟨fun r h => absurd h (Nat.not_lt_zero _), fun g _ _ r h => absurd h (Nat.not_lt_zero _)⟩, fun r a h => absurd h (Nat.not_lt_zero _), fun r a k h => absurd h (Nat.not_lt_zero _), ⟨fun r h => absurd h (Nat.not_lt_zero _), fun g _ r h => absurd h (Nat.not_lt_zero _)⟩⟩
theorem iTOK : TOK 300 0 (fun _ => 0) (fun _ => 0) (fun _ => 0) := ⟨⟨by decide, fun _ => ⟨(by decide : 0 < 128), (by decide : 0 ≠ 1)⟩, fun _ => (by decide : 0 < 1000000), fun _ => (by decide : 0 < 40)⟩, fun _ => (by decide : 0 < 300), fun q h => absurd h (Nat.not_lt_zero _), fun a b _ h => absurd h (Nat.not_lt_zero _)⟩
set_option maxHeartbeats 0 in
set_option maxRecDepth 1000000 in
theorem iBase : CBase 300 iFz :=
  ⟨by decide, fun _ => (by decide : 0 < 256), iGOK, iTOK, iTOK.any, iTOK.any, iTOK.any, by decide, by decide, ⟨iTOK, iTOK, iTOK, iTOK, iTOK, iTOK, iTOK, iTOK, iTOK, iTOK⟩, by decide, ⟨by decide, by decide⟩, ⟨iGOK, iGOK⟩, ⟨iTOK, iTOK⟩, by decide, fun _ => (by decide : 0 < 1099511627776), fun _ => (by decide : 0 < 1099511627776), by decide, fun _ => (by decide : 0 < 1099511627776), fun _ => (by decide : 0 < 1099511627776), by decide, by decide, ⟨fun _ => (by decide : 0 < 128), fun _ => (by decide : 0 ≤ 4), fun _ => (by decide : 0 ≤ 5), fun _ => (by decide : 0 < 128), fun _ => Or.inr (by decide : 0 < 8), fun _ => (by decide : 0 < 128), fun _ => (by decide : 0 < 1099511627776), fun _ => (by decide : 0 < 1099511627776), fun _ => (by decide : 0 < 1099511627776)⟩, fun _ => (by decide : 0 < 1099511627776)⟩
theorem iInv : CInv 300 iFz := ⟨iBase, fun q => absurd rfl q, fun q => absurd rfl q, fun q => absurd rfl q, fun q => absurd rfl q⟩
theorem iRel : Rel 300 iFz (fun _ => 0) (fun _ _ => 0) :=
  ⟨iInv, rfl, fun q h => absurd h (Nat.not_lt_zero _), ⟨rfl, fun r h => absurd h (Nat.not_lt_zero _), fun r h => absurd h (Nat.not_lt_zero _), fun r a h => absurd h (Nat.not_lt_zero _), fun x h => by obtain ⟨r, a, k, h1, -⟩ := h; exact absurd h1 (Nat.not_lt_zero _)⟩, ⟨rfl, fun k h => absurd h (Nat.not_lt_zero _)⟩, ⟨fun _ => (by decide : 0 < 2147483648), fun _ => (by decide : 0 < 2147483648), fun _ => (by decide : 0 < 40), fun _ => (by decide : 0 < 1099511627776), fun _ => (by decide : 0 < 1099511627776), fun _ => (by decide : 0 < 1099511627776)⟩, fun _ => (by decide : 0 < 1099511627776), fun _ => (by decide : 0 < 1099511627776), ⟨fun r h => absurd h (Nat.not_lt_zero _), fun g _ _ r h => absurd h (Nat.not_lt_zero _)⟩, ⟨fun r h => absurd h (Nat.not_lt_zero _), fun g _ _ r h => absurd h (Nat.not_lt_zero _)⟩, rfl, fun k h => absurd h (Nat.not_lt_zero _), rfl, fun q h => absurd h (Nat.not_lt_zero _), ⟨rfl, fun q => absurd rfl q⟩, ⟨rfl, fun q => absurd rfl q⟩, fun _ => (by decide : 0 < 2147483648), fun _ => (by decide : 0 < 2147483648), fun _ => (by decide : 0 < 2147483648), fun _ => (by decide : 0 ≤ 1), fun _ => (by decide : 0 < 1099511627776), fun _ => (by decide : 0 ≤ 1), fun _ => (by decide : 0 < 1099511627776)⟩
