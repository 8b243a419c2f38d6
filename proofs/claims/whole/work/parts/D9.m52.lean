set_option maxHeartbeats 4000000 in
set_option maxRecDepth 100000 in
theorem c_extent (Mq : zM) (f : Nat → Nat → Nat) (L : Nat) (hC : CC Mq f) (hI : CInv L f) (x w : Int32) : Zm 7 zm_CG_extent [.ref 0, .int x, .int w] Mq (fun r9 M1 => r9 = some (.int (if tFit (eAt f 16 26) (f 16 0) (f 26 0) then extA (f 28) (f 29) (tSz (eAt f 16 26) (f 16 0) (f 26 0)) (tRw (eAt f 16 26) (f 16 0) (f 26 0)) x w else -1)) ∧ ∃ f9, CC M1 f9 ∧ CInv L f9 ∧ Smc Mq M1 ∧ Asame f f9) := by
  show Zw 7 zm_CG_extent 0 [some (.ref 0), some (.int x), some (.int w), none, none] [] Mq _
  have hG : SafeG (f 16 0) (f 17) (f 18) (f 19) (f 20) (f 21) (f 22) := hI.gram.safe
  have hS : SafeT (f 26 0) (f 27) (f 28) (f 29) := hI.tok.safe
  have hn8 := hG.1
  have hc20 := hS.1
  obtain ⟨emp, rk, hA⟩ := hI.gram.acy
  refine zw_n 1 rfl ?_
  refine zw_callV (as := []) (rest := []) rfl rfl rfl (hC.1 0 (by decide) (by decide) (by decide)) rfl rfl rfl (by decide) (c_hasTree Mq f L hC hI) (fun rz4984 Mz4985 hz4986 => ?_)
  obtain ⟨hAz4977, fz4978, hCz4979, hIz4980, hSmz4981, hAsz4982, hTz4983⟩ := hz4986
  rw [hAz4977]
  show Zw 7 zm_CG_extent 4 [some (.ref 0), some (.int x), some (.int w), none, none] [.int (nI (if tFit (eAt f 16 26) (f 16 0) (f 26 0) then 1 else 0))] Mz4985 _
  refine zw_eq0N (a := if tFit (eAt f 16 26) (f 16 0) (f 26 0) then 1 else 0) rfl rfl (ite_b) (fun c4 => ?_) (fun c4 => ?_)
  · -- 4 to 18
    refine zw_n 1 rfl ?_
    exact zw_iret rfl rfl (⟨by rw [if_neg (ite_eq0 c4)], fz4978, hCz4979, hIz4980, hSmz4981, hAsz4982⟩)
  · -- 4 to 7
    have hfit := ite_ne c4
    have hTs : TrS (eAt f 16 26) (f 16 0) (f 26 0) (fz4978 37 0) (fz4978 38) := hAsz4982.tre (hIz4980.tre (hTz4983 hfit).1)
    have hTr : TrR (eAt f 16 26) (f 16 0) (f 26 0) (fz4978 37 0) (fz4978 38) := hTs.rows (E := eAt f 16 26) hA hn8 hG.2.2.1 hS.2.2.2 hG.2.2.2.2.2.2 hc20 hfit
    have hle := hTr.le
    obtain ⟨hcz, hcT⟩ := hTs.can (by omega)
    have hcq : tEq (fz4978 37 0) (fz4978 38) (tRw (eAt f 16 26) (f 16 0) (f 26 0)) := hcT
    refine zw_n 1 rfl ?_
    refine zw_get (v := .ref 37) rfl (hCz4979.1 0 (by decide) (by decide) (by decide)) rfl ?_
    refine zw_n 1 rfl ?_
    refine zw_callV (as := [.int x]) (rest := []) rfl rfl rfl (hCz4979.1 37 (by decide) (by decide) (by decide)) rfl rfl rfl (by decide) (c_isNode Mz4985 34 (fz4978 37 0) (fz4978 37 3) (fz4978 38) (fz4978 39) (fz4978 40) (fz4978 41) (fz4978 42) (seg6 (hCz4979.1 37 (by decide) (by decide) (by decide)) (hCz4979.1 38 (by decide) (by decide) (by decide)) (hCz4979.1 39 (by decide) (by decide) (by decide)) (hCz4979.1 40 (by decide) (by decide) (by decide)) (hCz4979.1 41 (by decide) (by decide) (by decide)) (hCz4979.1 42 (by decide) (by decide) (by decide))) (by omega) x) (fun rz4987 Mz4988 hz4989 => ?_)
    rw [hz4989.1, hz4989.2]
    show Zw 7 zm_CG_extent 15 [some (.ref 0), some (.int x), some (.int w), none, none] [.int (nI (if 0 ≤ x.toInt ∧ x.toInt < fz4978 37 0 then 1 else 0))] Mz4985 _
    refine zw_ne0N (a := if 0 ≤ x.toInt ∧ x.toInt < fz4978 37 0 then 1 else 0) rfl rfl (ite_b) (fun c15 => ?_) (fun c15 => ?_)
    · -- 15 to 20
      have hx9 := ite_ne c15
      obtain ⟨xq, hqx⟩ : ∃ xq : Nat, x.toInt.toNat = xq := ⟨_, rfl⟩
      have hex : x = nI xq := by rw [← hqx]; exact i32_nat (hx9.1)
      refine zw_lse (ls' := [some (.ref 0), some (.int (nI xq)), some (.int w), none, none]) (by rw [← hex]) ?_
      have h23 := hTr.f23 xq (by omega)
      have h3 := hTr.f3 xq (by omega)
      have h4 := hTr.f4 xq (by omega)
      refine zw_n 1 rfl ?_
      refine zw_get (v := .ref 37) rfl (hCz4979.1 0 (by decide) (by decide) (by decide)) rfl ?_
      refine zw_n 2 rfl ?_
      refine zw_callV (as := [.int (nI xq), .int 2]) (rest := []) rfl rfl rfl (hCz4979.1 37 (by decide) (by decide) (by decide)) rfl rfl rfl (by decide) (c_field Mz4985 34 (fz4978 37 0) (fz4978 37 3) (fz4978 38) (fz4978 39) (fz4978 40) (fz4978 41) (fz4978 42) (seg6 (hCz4979.1 37 (by decide) (by decide) (by decide)) (hCz4979.1 38 (by decide) (by decide) (by decide)) (hCz4979.1 39 (by decide) (by decide) (by decide)) (hCz4979.1 40 (by decide) (by decide) (by decide)) (hCz4979.1 41 (by decide) (by decide) (by decide)) (hCz4979.1 42 (by decide) (by decide) (by decide))) xq 2 (by omega) (by omega)) (fun rz4990 Mz4991 hz4992 => ?_)
      rw [hz4992.1, hz4992.2]
      show Zw 7 zm_CG_extent 29 [some (.ref 0), some (.int (nI xq)), some (.int w), none, none] [.int (nI ((fz4978 38) (xq * 8 + 2)))] Mz4985 _
      refine zw_n 2 (ls' := [some (.ref 0), some (.int (nI xq)), some (.int w), some (.int (nI ((fz4978 38) (xq * 8 + 2)))), none]) rfl ?_
      refine zw_get (v := .ref 37) rfl (hCz4979.1 0 (by decide) (by decide) (by decide)) rfl ?_
      refine zw_n 2 rfl ?_
      refine zw_callV (as := [.int (nI xq), .int 3]) (rest := []) rfl rfl rfl (hCz4979.1 37 (by decide) (by decide) (by decide)) rfl rfl rfl (by decide) (c_field Mz4985 34 (fz4978 37 0) (fz4978 37 3) (fz4978 38) (fz4978 39) (fz4978 40) (fz4978 41) (fz4978 42) (seg6 (hCz4979.1 37 (by decide) (by decide) (by decide)) (hCz4979.1 38 (by decide) (by decide) (by decide)) (hCz4979.1 39 (by decide) (by decide) (by decide)) (hCz4979.1 40 (by decide) (by decide) (by decide)) (hCz4979.1 41 (by decide) (by decide) (by decide)) (hCz4979.1 42 (by decide) (by decide) (by decide))) xq 3 (by omega) (by omega)) (fun rz4993 Mz4994 hz4995 => ?_)
      rw [hz4995.1, hz4995.2]
      show Zw 7 zm_CG_extent 39 [some (.ref 0), some (.int (nI xq)), some (.int w), some (.int (nI ((fz4978 38) (xq * 8 + 2)))), none] [.int (nI ((fz4978 38) (xq * 8 + 3)))] Mz4985 _
      refine zw_n 2 (ls' := [some (.ref 0), some (.int (nI xq)), some (.int w), some (.int (nI ((fz4978 38) (xq * 8 + 2)))), some (.int (nI ((fz4978 38) (xq * 8 + 3))))]) rfl ?_
      refine zw_sw rfl (fun k42 hk42 c42 => ?_) (fun c42 => ?_)
      · rcases (show k42 = 0 ∨ k42 = 1 ∨ k42 = 2 ∨ k42 = 3 ∨ k42 = 4 by simp at hk42; omega) with rfl | rfl | rfl | rfl | rfl
        · show Zw 7 zm_CG_extent 76 [some (.ref 0), some (.int (nI xq)), some (.int w), some (.int (nI ((fz4978 38) (xq * 8 + 2)))), some (.int (nI ((fz4978 38) (xq * 8 + 3))))] [] Mz4985 _
          refine zw_n 1 rfl ?_
          refine zw_get (v := .ref 26) rfl (hCz4979.1 0 (by decide) (by decide) (by decide)) rfl ?_
          refine zw_get (v := .ref 28) rfl (hCz4979.core hAsz4982 (a := 26) rfl (by decide) (by decide) (by decide)) rfl ?_
          refine zw_n 1 rfl ?_
          refine zw_iald (f := ai (f 28)) (j := ((fz4978 38) (xq * 8 + 2))) rfl (hCz4979.core hAsz4982 (a := 28) rfl (by decide) (by decide) (by decide)) rfl (by decide) (by omega) ?_
          exact zw_iret rfl rfl (⟨by rw [if_pos hfit, ← hcz, ← extA_cg hcq]; unfold extA extK; rw [if_pos hx9, hqx, if_pos c42]; rfl, fz4978, hCz4979, hIz4980, hSmz4981, hAsz4982⟩)
        · show Zw 7 zm_CG_extent 86 [some (.ref 0), some (.int (nI xq)), some (.int w), some (.int (nI ((fz4978 38) (xq * 8 + 2)))), some (.int (nI ((fz4978 38) (xq * 8 + 3))))] [] Mz4985 _
          refine zw_n 1 rfl ?_
          refine zw_get (v := .ref 26) rfl (hCz4979.1 0 (by decide) (by decide) (by decide)) rfl ?_
          refine zw_get (v := .ref 28) rfl (hCz4979.core hAsz4982 (a := 26) rfl (by decide) (by decide) (by decide)) rfl ?_
          refine zw_n 3 rfl ?_
          refine zw_top (ns (a := (fz4978 38) (xq * 8 + 3)) (b := 1) rfl rfl (by omega)) ?_
          refine zw_iald (f := ai (f 28)) (j := (((fz4978 38) (xq * 8 + 3)) - 1)) rfl (hCz4979.core hAsz4982 (a := 28) rfl (by decide) (by decide) (by decide)) rfl (by decide) (by omega) ?_
          exact zw_iret rfl rfl (⟨by rw [if_pos hfit, ← hcz, ← extA_cg hcq]; unfold extA extK; rw [if_pos hx9, hqx, if_neg (by rw [c42]; decide), if_pos c42]; rfl, fz4978, hCz4979, hIz4980, hSmz4981, hAsz4982⟩)
        · show Zw 7 zm_CG_extent 99 [some (.ref 0), some (.int (nI xq)), some (.int w), some (.int (nI ((fz4978 38) (xq * 8 + 2)))), some (.int (nI ((fz4978 38) (xq * 8 + 3))))] [] Mz4985 _
          refine zw_n 1 rfl ?_
          refine zw_get (v := .ref 26) rfl (hCz4979.1 0 (by decide) (by decide) (by decide)) rfl ?_
          refine zw_n 2 rfl ?_
          refine zw_callV (as := [.int (nI ((fz4978 38) (xq * 8 + 2))), .int (nI ((fz4978 38) (xq * 8 + 3)))]) (rest := []) rfl rfl rfl (hCz4979.core hAsz4982 (a := 26) rfl (by decide) (by decide) (by decide)) rfl rfl rfl (by decide) (c_leastColumn Mz4985 26 (f 26 0) (f 27) (f 28) (f 29) (seg4 (hCz4979.core hAsz4982 (a := 26) rfl (by decide) (by decide) (by decide)) (hCz4979.core hAsz4982 (a := 27) rfl (by decide) (by decide) (by decide)) (hCz4979.core hAsz4982 (a := 28) rfl (by decide) (by decide) (by decide)) (hCz4979.core hAsz4982 (a := 29) rfl (by decide) (by decide) (by decide))) ((fz4978 38) (xq * 8 + 2)) ((fz4978 38) (xq * 8 + 3)) (by omega) (by omega) hS.2.2.2) (fun rz4996 Mz4997 hz4998 => ?_)
          rw [hz4998.1, hz4998.2]
          show Zw 7 zm_CG_extent 109 [some (.ref 0), some (.int (nI xq)), some (.int w), some (.int (nI ((fz4978 38) (xq * 8 + 2)))), some (.int (nI ((fz4978 38) (xq * 8 + 3))))] [.int (nI (mnc (f 29) ((fz4978 38) (xq * 8 + 2)) (((fz4978 38) (xq * 8 + 3)) - ((fz4978 38) (xq * 8 + 2)))))] Mz4985 _
          exact zw_iret rfl rfl (⟨by rw [if_pos hfit, ← hcz, ← extA_cg hcq]; unfold extA extK; rw [if_pos hx9, hqx, if_neg (by rw [c42]; decide), if_neg (by rw [c42]; decide), if_pos c42], fz4978, hCz4979, hIz4980, hSmz4981, hAsz4982⟩)
        · show Zw 7 zm_CG_extent 110 [some (.ref 0), some (.int (nI xq)), some (.int w), some (.int (nI ((fz4978 38) (xq * 8 + 2)))), some (.int (nI ((fz4978 38) (xq * 8 + 3))))] [] Mz4985 _
          refine zw_n 1 rfl ?_
          refine zw_get (v := .ref 26) rfl (hCz4979.1 0 (by decide) (by decide) (by decide)) rfl ?_
          refine zw_n 2 rfl ?_
          refine zw_callV (as := [.int (nI ((fz4978 38) (xq * 8 + 2))), .int (nI ((fz4978 38) (xq * 8 + 3)))]) (rest := []) rfl rfl rfl (hCz4979.core hAsz4982 (a := 26) rfl (by decide) (by decide) (by decide)) rfl rfl rfl (by decide) (c_greatestColumn Mz4985 26 (f 26 0) (f 27) (f 28) (f 29) (seg4 (hCz4979.core hAsz4982 (a := 26) rfl (by decide) (by decide) (by decide)) (hCz4979.core hAsz4982 (a := 27) rfl (by decide) (by decide) (by decide)) (hCz4979.core hAsz4982 (a := 28) rfl (by decide) (by decide) (by decide)) (hCz4979.core hAsz4982 (a := 29) rfl (by decide) (by decide) (by decide))) ((fz4978 38) (xq * 8 + 2)) ((fz4978 38) (xq * 8 + 3)) (by omega) (by omega) hS.2.2.2) (fun rz4999 Mz5000 hz5001 => ?_)
          rw [hz5001.1, hz5001.2]
          show Zw 7 zm_CG_extent 120 [some (.ref 0), some (.int (nI xq)), some (.int w), some (.int (nI ((fz4978 38) (xq * 8 + 2)))), some (.int (nI ((fz4978 38) (xq * 8 + 3))))] [.int (nI (mxc (f 29) ((fz4978 38) (xq * 8 + 2)) (((fz4978 38) (xq * 8 + 3)) - ((fz4978 38) (xq * 8 + 2)))))] Mz4985 _
          exact zw_iret rfl rfl (⟨by rw [if_pos hfit, ← hcz, ← extA_cg hcq]; unfold extA extK; rw [if_pos hx9, hqx, if_neg (by rw [c42]; decide), if_neg (by rw [c42]; decide), if_neg (by rw [c42]; decide), if_pos c42], fz4978, hCz4979, hIz4980, hSmz4981, hAsz4982⟩)
        · show Zw 7 zm_CG_extent 121 [some (.ref 0), some (.int (nI xq)), some (.int w), some (.int (nI ((fz4978 38) (xq * 8 + 2)))), some (.int (nI ((fz4978 38) (xq * 8 + 3))))] [] Mz4985 _
          refine zw_n 1 rfl ?_
          refine zw_get (v := .ref 26) rfl (hCz4979.1 0 (by decide) (by decide) (by decide)) rfl ?_
          refine zw_n 1 rfl ?_
          refine zw_get (v := .ref 37) rfl (hCz4979.1 0 (by decide) (by decide) (by decide)) rfl ?_
          refine zw_n 2 rfl ?_
          refine zw_callV (as := [.int (nI xq), .int 4]) (rest := [.ref 26]) rfl rfl rfl (hCz4979.1 37 (by decide) (by decide) (by decide)) rfl rfl rfl (by decide) (c_field Mz4985 34 (fz4978 37 0) (fz4978 37 3) (fz4978 38) (fz4978 39) (fz4978 40) (fz4978 41) (fz4978 42) (seg6 (hCz4979.1 37 (by decide) (by decide) (by decide)) (hCz4979.1 38 (by decide) (by decide) (by decide)) (hCz4979.1 39 (by decide) (by decide) (by decide)) (hCz4979.1 40 (by decide) (by decide) (by decide)) (hCz4979.1 41 (by decide) (by decide) (by decide)) (hCz4979.1 42 (by decide) (by decide) (by decide))) xq 4 (by omega) (by omega)) (fun rz5002 Mz5003 hz5004 => ?_)
          rw [hz5004.1, hz5004.2]
          show Zw 7 zm_CG_extent 134 [some (.ref 0), some (.int (nI xq)), some (.int w), some (.int (nI ((fz4978 38) (xq * 8 + 2)))), some (.int (nI ((fz4978 38) (xq * 8 + 3))))] [.int (nI ((fz4978 38) (xq * 8 + 4))), .ref 26] Mz4985 _
          refine zw_n 2 rfl ?_
          refine zw_callV (as := [.int (nI ((fz4978 38) (xq * 8 + 4))), .int (nI ((fz4978 38) (xq * 8 + 2))), .int (nI ((fz4978 38) (xq * 8 + 3)))]) (rest := []) rfl rfl rfl (hCz4979.core hAsz4982 (a := 26) rfl (by decide) (by decide) (by decide)) rfl rfl rfl (by decide) (c_howManyAheadOf Mz4985 26 (f 26 0) (f 27) (f 28) (f 29) (seg4 (hCz4979.core hAsz4982 (a := 26) rfl (by decide) (by decide) (by decide)) (hCz4979.core hAsz4982 (a := 27) rfl (by decide) (by decide) (by decide)) (hCz4979.core hAsz4982 (a := 28) rfl (by decide) (by decide) (by decide)) (hCz4979.core hAsz4982 (a := 29) rfl (by decide) (by decide) (by decide))) ((fz4978 38) (xq * 8 + 4)) ((fz4978 38) (xq * 8 + 2)) ((fz4978 38) (xq * 8 + 3)) (by omega) (by omega) (by omega) hS.2.2.2) (fun rz5005 Mz5006 hz5007 => ?_)
          rw [hz5007.1, hz5007.2]
          show Zw 7 zm_CG_extent 140 [some (.ref 0), some (.int (nI xq)), some (.int w), some (.int (nI ((fz4978 38) (xq * 8 + 2)))), some (.int (nI ((fz4978 38) (xq * 8 + 3))))] [.int (nI (cnt (fun i => decide (((fz4978 38) (xq * 8 + 2)) ≤ i ∧ f 29 i < ((fz4978 38) (xq * 8 + 4)))) ((fz4978 38) (xq * 8 + 3))))] Mz4985 _
          exact zw_iret rfl rfl (⟨by rw [if_pos hfit, ← hcz, ← extA_cg hcq]; unfold extA extK; rw [if_pos hx9, hqx, if_neg (by rw [c42]; decide), if_neg (by rw [c42]; decide), if_neg (by rw [c42]; decide), if_neg (by rw [c42]; decide), if_pos c42], fz4978, hCz4979, hIz4980, hSmz4981, hAsz4982⟩)
      · 
        show Zw 7 zm_CG_extent 141 [some (.ref 0), some (.int (nI xq)), some (.int w), some (.int (nI ((fz4978 38) (xq * 8 + 2)))), some (.int (nI ((fz4978 38) (xq * 8 + 3))))] [] Mz4985 _
        refine zw_n 1 rfl ?_
        exact zw_iret rfl rfl (⟨by rw [if_pos hfit, ← hcz, ← extA_cg hcq]; unfold extA extK; rw [if_pos hx9, hqx, if_neg (c42 0 (by decide)), if_neg (c42 1 (by decide)), if_neg (c42 2 (by decide)), if_neg (c42 3 (by decide)), if_neg (c42 4 (by decide))], fz4978, hCz4979, hIz4980, hSmz4981, hAsz4982⟩)
    · -- 15 to 18
      refine zw_n 1 rfl ?_
      exact zw_iret rfl rfl (⟨by rw [if_pos hfit, ← hcz]; unfold extA; rw [if_neg (ite_eq0 c15)], fz4978, hCz4979, hIz4980, hSmz4981, hAsz4982⟩)

set_option maxHeartbeats 4000000 in
set_option maxRecDepth 100000 in
theorem c_off (Mq : zM) (f : Nat → Nat → Nat) (L : Nat) (hC : CC Mq f) (hI : CInv L f) (x : Int32) : Zm 7 zm_CG_off [.ref 0, .int x] Mq (fun r9 M1 => r9 = some (.int (if tFit (eAt f 16 26) (f 16 0) (f 26 0) then offA (f 26 0) (tSz (eAt f 16 26) (f 16 0) (f 26 0)) (tRw (eAt f 16 26) (f 16 0) (f 26 0)) x else -1)) ∧ ∃ f9, CC M1 f9 ∧ CInv L f9 ∧ Smc Mq M1 ∧ Asame f f9) := by
  show Zw 7 zm_CG_off 0 [some (.ref 0), some (.int x), none, none] [] Mq _
  have hG : SafeG (f 16 0) (f 17) (f 18) (f 19) (f 20) (f 21) (f 22) := hI.gram.safe
  have hS : SafeT (f 26 0) (f 27) (f 28) (f 29) := hI.tok.safe
  have hn8 := hG.1
  have hc20 := hS.1
  obtain ⟨emp, rk, hA⟩ := hI.gram.acy
  refine zw_n 2 rfl ?_
  refine zw_callV (as := [.int x]) (rest := []) rfl rfl rfl (hC.1 0 (by decide) (by decide) (by decide)) rfl rfl rfl (by decide) (c_isToken Mq f hC (by omega) x) (fun rz5008 Mz5009 hz5010 => ?_)
  rw [hz5010.1, hz5010.2]
  show Zw 7 zm_CG_off 5 [some (.ref 0), some (.int x), none, none] [.int (nI (if 0 ≤ x.toInt ∧ x.toInt < f 26 0 then 1 else 0))] Mq _
  refine zw_eq0N (a := if 0 ≤ x.toInt ∧ x.toInt < f 26 0 then 1 else 0) rfl rfl (ite_b) (fun c5 => ?_) (fun c5 => ?_)
  · -- 5 to 15
    refine zw_n 1 rfl ?_
    exact zw_iret rfl rfl (⟨by split; (unfold offA; rw [if_neg (ite_eq0 c5)]); rfl, f, hC, hI, Smc.rf, Asame.rf⟩)
  · -- 5 to 8
    refine zw_n 1 rfl ?_
    refine zw_callV (as := []) (rest := []) rfl rfl rfl (hC.1 0 (by decide) (by decide) (by decide)) rfl rfl rfl (by decide) (c_hasTree Mq f L hC hI) (fun rz5018 Mz5019 hz5020 => ?_)
    obtain ⟨hAz5011, fz5012, hCz5013, hIz5014, hSmz5015, hAsz5016, hTz5017⟩ := hz5020
    rw [hAz5011]
    show Zw 7 zm_CG_off 12 [some (.ref 0), some (.int x), none, none] [.int (nI (if tFit (eAt f 16 26) (f 16 0) (f 26 0) then 1 else 0))] Mz5019 _
    refine zw_ne0N (a := if tFit (eAt f 16 26) (f 16 0) (f 26 0) then 1 else 0) rfl rfl (ite_b) (fun c12 => ?_) (fun c12 => ?_)
    · -- 12 to 17
      have hfit := ite_ne c12
      have hTs : TrS (eAt f 16 26) (f 16 0) (f 26 0) (fz5012 37 0) (fz5012 38) := hAsz5016.tre (hIz5014.tre (hTz5017 hfit).1)
      have hTr : TrR (eAt f 16 26) (f 16 0) (f 26 0) (fz5012 37 0) (fz5012 38) := hTs.rows (E := eAt f 16 26) hA hn8 hG.2.2.1 hS.2.2.2 hG.2.2.2.2.2.2 hc20 hfit
      have hle := hTr.le
      obtain ⟨hcz, hcT⟩ := hTs.can (by omega)
      have hcq : tEq (fz5012 37 0) (fz5012 38) (tRw (eAt f 16 26) (f 16 0) (f 26 0)) := hcT
      have hx9 := ite_ne c5
      obtain ⟨xq, hqx⟩ : ∃ xq : Nat, x.toInt.toNat = xq := ⟨_, rfl⟩
      have hex : x = nI xq := by rw [← hqx]; exact i32_nat (hx9.1)
      refine zw_lse (ls' := [some (.ref 0), some (.int (nI xq)), none, none]) (by rw [← hex]) ?_
      refine zw_n 4 (ls' := [some (.ref 0), some (.int (nI xq)), some (.int 0), some (.int 0)]) rfl ?_
      have lp21 : ∀ (n21 : Nat) (a : Nat) (q : Nat), (q ≤ fz5012 37 0 ∧ a = offN (fz5012 38) xq q) → fz5012 37 0 - q < n21 → Zw 7 zm_CG_off 21 [some (.ref 0), some (.int (nI xq)), some (.int (nI a)), some (.int (nI q))] [] Mz5019 (fun r9 M1 => r9 = some (.int (if tFit (eAt f 16 26) (f 16 0) (f 26 0) then offA (f 26 0) (tSz (eAt f 16 26) (f 16 0) (f 26 0)) (tRw (eAt f 16 26) (f 16 0) (f 26 0)) x else -1)) ∧ ∃ f9, CC M1 f9 ∧ CInv L f9 ∧ Smc Mq M1 ∧ Asame f f9) := by
        intro n21
        induction n21 with
        | zero => intro a q _ h; exact absurd h (Nat.not_lt_zero _)
        | succ n21 ih21 =>
          intro a q hi21 hm21
          refine zw_n 2 rfl ?_
          refine zw_get (v := .ref 37) rfl (hCz5013.1 0 (by decide) (by decide) (by decide)) rfl ?_
          refine zw_get (v := .int (nI (fz5012 37 0))) rfl (hCz5013.1 37 (by decide) (by decide) (by decide)) rfl ?_
          refine zw_igeN (a := q) (b := fz5012 37 0) rfl rfl rfl (by omega) (by omega) (fun c29 => ?_) (fun c29 => ?_)
          · -- 29 to 68
            refine zw_n 1 rfl ?_
            exact zw_iret rfl rfl (⟨by rw [if_pos hfit, ← hcz, ← offA_cg hcq]; unfold offA; rw [if_pos hx9, hqx, hi21.2, show q = fz5012 37 0 by omega], fz5012, hCz5013, hIz5014, hSmz5015, hAsz5016⟩)
          · -- 29 to 32
            have h7 := hTr.f7 q (by omega)
            refine zw_n 1 rfl ?_
            refine zw_get (v := .ref 37) rfl (hCz5013.1 0 (by decide) (by decide) (by decide)) rfl ?_
            refine zw_n 2 rfl ?_
            refine zw_callV (as := [.int (nI q), .int (nI xq)]) (rest := []) rfl rfl rfl (hCz5013.1 37 (by decide) (by decide) (by decide)) rfl rfl rfl (by decide) (c_has Mz5019 34 (fz5012 37 0) (fz5012 37 3) (fz5012 38) (fz5012 39) (fz5012 40) (fz5012 41) (fz5012 42) (seg6 (hCz5013.1 37 (by decide) (by decide) (by decide)) (hCz5013.1 38 (by decide) (by decide) (by decide)) (hCz5013.1 39 (by decide) (by decide) (by decide)) (hCz5013.1 40 (by decide) (by decide) (by decide)) (hCz5013.1 41 (by decide) (by decide) (by decide)) (hCz5013.1 42 (by decide) (by decide) (by decide))) (eAt f 16 26) (f 16 0) (f 26 0) hTr hn8 hc20 q xq (by omega) (by omega)) (fun rz5021 Mz5022 hz5023 => ?_)
            rw [hz5023.1, hz5023.2]
            show Zw 7 zm_CG_off 41 [some (.ref 0), some (.int (nI xq)), some (.int (nI a)), some (.int (nI q))] [.int (nI (if hsB (fz5012 38) xq q = true then 1 else 0))] Mz5019 _
            refine zw_eq0N (a := if hsB (fz5012 38) xq q = true then 1 else 0) rfl rfl (ite_b) (fun c41 => ?_) (fun c41 => ?_)
            · -- 41 to 62
              refine zw_inc rfl (x' := (nI (q + 1))) (ls' := [some (.ref 0), some (.int (nI xq)), some (.int (nI a)), some (.int (nI (q + 1)))]) rfl (na (a := q) (b := 1) rfl rfl) rfl ?_
              refine zw_n 1 rfl ?_
              exact ih21 a (q + 1) (⟨by omega, by first | exact offN_y hi21.2 (ite_ne c41) c56 | exact offN_n hi21.2 (fun q9 => ite_eq0 c41 q9.1) | exact offN_n hi21.2 (fun q9 => c56 q9.2)⟩) (by omega)
            · -- 41 to 44
              refine zw_n 1 rfl ?_
              refine zw_get (v := .ref 37) rfl (hCz5013.1 0 (by decide) (by decide) (by decide)) rfl ?_
              refine zw_n 2 rfl ?_
              refine zw_callV (as := [.int (nI q), .int 7]) (rest := []) rfl rfl rfl (hCz5013.1 37 (by decide) (by decide) (by decide)) rfl rfl rfl (by decide) (c_field Mz5019 34 (fz5012 37 0) (fz5012 37 3) (fz5012 38) (fz5012 39) (fz5012 40) (fz5012 41) (fz5012 42) (seg6 (hCz5013.1 37 (by decide) (by decide) (by decide)) (hCz5013.1 38 (by decide) (by decide) (by decide)) (hCz5013.1 39 (by decide) (by decide) (by decide)) (hCz5013.1 40 (by decide) (by decide) (by decide)) (hCz5013.1 41 (by decide) (by decide) (by decide)) (hCz5013.1 42 (by decide) (by decide) (by decide))) q 7 (by omega) (by omega)) (fun rz5024 Mz5025 hz5026 => ?_)
              rw [hz5026.1, hz5026.2]
              show Zw 7 zm_CG_off 54 [some (.ref 0), some (.int (nI xq)), some (.int (nI a)), some (.int (nI q))] [.int (nI ((fz5012 38) (q * 8 + 7)))] Mz5019 _
              refine zw_n 1 rfl ?_
              refine zw_ineN (a := (fz5012 38) (q * 8 + 7)) (b := 42) rfl rfl rfl (by omega) (by omega) (fun c56 => ?_) (fun c56 => ?_)
              · -- 56 to 62
                refine zw_inc rfl (x' := (nI (q + 1))) (ls' := [some (.ref 0), some (.int (nI xq)), some (.int (nI a)), some (.int (nI (q + 1)))]) rfl (na (a := q) (b := 1) rfl rfl) rfl ?_
                refine zw_n 1 rfl ?_
                exact ih21 a (q + 1) (⟨by omega, by first | exact offN_y hi21.2 (ite_ne c41) c56 | exact offN_n hi21.2 (fun q9 => ite_eq0 c41 q9.1) | exact offN_n hi21.2 (fun q9 => c56 q9.2)⟩) (by omega)
              · -- 56 to 59
                refine zw_inc rfl (x' := (nI (a + 1))) (ls' := [some (.ref 0), some (.int (nI xq)), some (.int (nI (a + 1))), some (.int (nI q))]) rfl (na (a := a) (b := 1) rfl rfl) rfl ?_
                refine zw_inc rfl (x' := (nI (q + 1))) (ls' := [some (.ref 0), some (.int (nI xq)), some (.int (nI (a + 1))), some (.int (nI (q + 1)))]) rfl (na (a := q) (b := 1) rfl rfl) rfl ?_
                refine zw_n 1 rfl ?_
                exact ih21 (a + 1) (q + 1) (⟨by omega, by first | exact offN_y hi21.2 (ite_ne c41) c56 | exact offN_n hi21.2 (fun q9 => ite_eq0 c41 q9.1) | exact offN_n hi21.2 (fun q9 => c56 q9.2)⟩) (by omega)
      exact lp21 _ 0 0 (⟨Nat.zero_le _, rfl⟩) (Nat.lt_succ_self _)
    · -- 12 to 15
      refine zw_n 1 rfl ?_
      exact zw_iret rfl rfl (⟨by rw [if_neg (ite_eq0 c12)], fz5012, hCz5013, hIz5014, hSmz5015, hAsz5016⟩)

set_option maxHeartbeats 4000000 in
set_option maxRecDepth 100000 in
theorem c_about (Mq : zM) (f : Nat → Nat → Nat) (L : Nat) (hC : CC Mq f) (hI : CInv L f) (x w : Int32) : Zm 7 zm_CG_about [.ref 0, .int x, .int w] Mq (fun r9 M1 => r9 = some (.int (if tFit (eAt f 16 26) (f 16 0) (f 26 0) then aboA (f 26 0) (tSz (eAt f 16 26) (f 16 0) (f 26 0)) (tRw (eAt f 16 26) (f 16 0) (f 26 0)) x w else -1)) ∧ ∃ f9, CC M1 f9 ∧ CInv L f9 ∧ Smc Mq M1 ∧ Asame f f9) := by
  show Zw 7 zm_CG_about 0 [some (.ref 0), some (.int x), some (.int w)] [] Mq _
  have hG : SafeG (f 16 0) (f 17) (f 18) (f 19) (f 20) (f 21) (f 22) := hI.gram.safe
  have hS : SafeT (f 26 0) (f 27) (f 28) (f 29) := hI.tok.safe
  have hn8 := hG.1
  have hc20 := hS.1
  obtain ⟨emp, rk, hA⟩ := hI.gram.acy
  refine zw_n 2 rfl ?_
  refine zw_callV (as := [.int x]) (rest := []) rfl rfl rfl (hC.1 0 (by decide) (by decide) (by decide)) rfl rfl rfl (by decide) (c_isToken Mq f hC (by omega) x) (fun rz5027 Mz5028 hz5029 => ?_)
  rw [hz5029.1, hz5029.2]
  show Zw 7 zm_CG_about 5 [some (.ref 0), some (.int x), some (.int w)] [.int (nI (if 0 ≤ x.toInt ∧ x.toInt < f 26 0 then 1 else 0))] Mq _
  refine zw_eq0N (a := if 0 ≤ x.toInt ∧ x.toInt < f 26 0 then 1 else 0) rfl rfl (ite_b) (fun c5 => ?_) (fun c5 => ?_)
  · -- 5 to 15
    refine zw_n 1 rfl ?_
    exact zw_iret rfl rfl (⟨by split; (unfold aboA; rw [if_neg (ite_eq0 c5)]); rfl, f, hC, hI, Smc.rf, Asame.rf⟩)
  · -- 5 to 8
    refine zw_n 1 rfl ?_
    refine zw_callV (as := []) (rest := []) rfl rfl rfl (hC.1 0 (by decide) (by decide) (by decide)) rfl rfl rfl (by decide) (c_hasTree Mq f L hC hI) (fun rz5037 Mz5038 hz5039 => ?_)
    obtain ⟨hAz5030, fz5031, hCz5032, hIz5033, hSmz5034, hAsz5035, hTz5036⟩ := hz5039
    rw [hAz5030]
    show Zw 7 zm_CG_about 12 [some (.ref 0), some (.int x), some (.int w)] [.int (nI (if tFit (eAt f 16 26) (f 16 0) (f 26 0) then 1 else 0))] Mz5038 _
    refine zw_ne0N (a := if tFit (eAt f 16 26) (f 16 0) (f 26 0) then 1 else 0) rfl rfl (ite_b) (fun c12 => ?_) (fun c12 => ?_)
    · -- 12 to 17
      have hfit := ite_ne c12
      have hTs : TrS (eAt f 16 26) (f 16 0) (f 26 0) (fz5031 37 0) (fz5031 38) := hAsz5035.tre (hIz5033.tre (hTz5036 hfit).1)
      have hTr : TrR (eAt f 16 26) (f 16 0) (f 26 0) (fz5031 37 0) (fz5031 38) := hTs.rows (E := eAt f 16 26) hA hn8 hG.2.2.1 hS.2.2.2 hG.2.2.2.2.2.2 hc20 hfit
      have hle := hTr.le
      obtain ⟨hcz, hcT⟩ := hTs.can (by omega)
      have hcq : tEq (fz5031 37 0) (fz5031 38) (tRw (eAt f 16 26) (f 16 0) (f 26 0)) := hcT
      have hx9 := ite_ne c5
      obtain ⟨xq, hqx⟩ : ∃ xq : Nat, x.toInt.toNat = xq := ⟨_, rfl⟩
      have hex : x = nI xq := by rw [← hqx]; exact i32_nat (hx9.1)
      refine zw_lse (ls' := [some (.ref 0), some (.int (nI xq)), some (.int w)]) (by rw [← hex]) ?_
      refine zw_n 1 rfl ?_
      refine zw_sw rfl (fun k18 hk18 c18 => ?_) (fun c18 => ?_)
      · rcases (show k18 = 0 ∨ k18 = 1 ∨ k18 = 2 ∨ k18 = 3 by simp at hk18; omega) with rfl | rfl | rfl | rfl
        · show Zw 7 zm_CG_about 48 [some (.ref 0), some (.int (nI xq)), some (.int w)] [] Mz5038 _
          refine zw_n 1 rfl ?_
          refine zw_get (v := .ref 37) rfl (hCz5032.1 0 (by decide) (by decide) (by decide)) rfl ?_
          refine zw_n 2 rfl ?_
          refine zw_callV (as := [.int 2, .int (nI xq)]) (rest := []) rfl rfl rfl (hCz5032.1 37 (by decide) (by decide) (by decide)) rfl rfl rfl (by decide) (c_howManyWith Mz5038 34 (fz5031 37 0) (fz5031 37 3) (fz5031 38) (fz5031 39) (fz5031 40) (fz5031 41) (fz5031 42) (seg6 (hCz5032.1 37 (by decide) (by decide) (by decide)) (hCz5032.1 38 (by decide) (by decide) (by decide)) (hCz5032.1 39 (by decide) (by decide) (by decide)) (hCz5032.1 40 (by decide) (by decide) (by decide)) (hCz5032.1 41 (by decide) (by decide) (by decide)) (hCz5032.1 42 (by decide) (by decide) (by decide))) (eAt f 16 26) (f 16 0) (f 26 0) hTr hn8 hc20 2 xq (by decide) (by omega)) (fun rz5040 Mz5041 hz5042 => ?_)
          rw [hz5042.1, hz5042.2]
          show Zw 7 zm_CG_about 57 [some (.ref 0), some (.int (nI xq)), some (.int w)] [.int (nI (cnW (fz5031 38) 2 xq (fz5031 37 0)))] Mz5038 _
          exact zw_iret rfl rfl (⟨by rw [if_pos hfit, ← hcz, ← aboA_cg hcq]; unfold aboA aboK; rw [if_pos hx9, hqx, if_pos c18], fz5031, hCz5032, hIz5033, hSmz5034, hAsz5035⟩)
        · show Zw 7 zm_CG_about 58 [some (.ref 0), some (.int (nI xq)), some (.int w)] [] Mz5038 _
          refine zw_n 1 rfl ?_
          refine zw_get (v := .ref 37) rfl (hCz5032.1 0 (by decide) (by decide) (by decide)) rfl ?_
          refine zw_n 4 rfl ?_
          refine zw_top (na (a := xq) (b := 1) rfl rfl) ?_
          refine zw_callV (as := [.int 3, .int (nI (xq + 1))]) (rest := []) rfl rfl rfl (hCz5032.1 37 (by decide) (by decide) (by decide)) rfl rfl rfl (by decide) (c_howManyWith Mz5038 34 (fz5031 37 0) (fz5031 37 3) (fz5031 38) (fz5031 39) (fz5031 40) (fz5031 41) (fz5031 42) (seg6 (hCz5032.1 37 (by decide) (by decide) (by decide)) (hCz5032.1 38 (by decide) (by decide) (by decide)) (hCz5032.1 39 (by decide) (by decide) (by decide)) (hCz5032.1 40 (by decide) (by decide) (by decide)) (hCz5032.1 41 (by decide) (by decide) (by decide)) (hCz5032.1 42 (by decide) (by decide) (by decide))) (eAt f 16 26) (f 16 0) (f 26 0) hTr hn8 hc20 3 (xq + 1) (by decide) (by omega)) (fun rz5043 Mz5044 hz5045 => ?_)
          rw [hz5045.1, hz5045.2]
          show Zw 7 zm_CG_about 69 [some (.ref 0), some (.int (nI xq)), some (.int w)] [.int (nI (cnW (fz5031 38) 3 (xq + 1) (fz5031 37 0)))] Mz5038 _
          exact zw_iret rfl rfl (⟨by rw [if_pos hfit, ← hcz, ← aboA_cg hcq]; unfold aboA aboK; rw [if_pos hx9, hqx, if_neg (by rw [c18]; decide), if_pos c18], fz5031, hCz5032, hIz5033, hSmz5034, hAsz5035⟩)
        · show Zw 7 zm_CG_about 70 [some (.ref 0), some (.int (nI xq)), some (.int w)] [] Mz5038 _
          refine zw_n 1 rfl ?_
          refine zw_get (v := .ref 37) rfl (hCz5032.1 0 (by decide) (by decide) (by decide)) rfl ?_
          refine zw_n 1 rfl ?_
          refine zw_callV (as := [.int (nI xq)]) (rest := []) rfl rfl rfl (hCz5032.1 37 (by decide) (by decide) (by decide)) rfl rfl rfl (by decide) (c_howManyHave Mz5038 34 (fz5031 37 0) (fz5031 37 3) (fz5031 38) (fz5031 39) (fz5031 40) (fz5031 41) (fz5031 42) (seg6 (hCz5032.1 37 (by decide) (by decide) (by decide)) (hCz5032.1 38 (by decide) (by decide) (by decide)) (hCz5032.1 39 (by decide) (by decide) (by decide)) (hCz5032.1 40 (by decide) (by decide) (by decide)) (hCz5032.1 41 (by decide) (by decide) (by decide)) (hCz5032.1 42 (by decide) (by decide) (by decide))) (eAt f 16 26) (f 16 0) (f 26 0) hTr hn8 hc20 xq (by omega)) (fun rz5046 Mz5047 hz5048 => ?_)
          rw [hz5048.1, hz5048.2]
          show Zw 7 zm_CG_about 78 [some (.ref 0), some (.int (nI xq)), some (.int w)] [.int (nI (cnt (hsB (fz5031 38) xq) (fz5031 37 0)))] Mz5038 _
          exact zw_iret rfl rfl (⟨by rw [if_pos hfit, ← hcz, ← aboA_cg hcq]; unfold aboA aboK; rw [if_pos hx9, hqx, if_neg (by rw [c18]; decide), if_neg (by rw [c18]; decide), if_pos c18], fz5031, hCz5032, hIz5033, hSmz5034, hAsz5035⟩)
        · show Zw 7 zm_CG_about 79 [some (.ref 0), some (.int (nI xq)), some (.int w)] [] Mz5038 _
          refine zw_n 1 rfl ?_
          refine zw_get (v := .ref 37) rfl (hCz5032.1 0 (by decide) (by decide) (by decide)) rfl ?_
          refine zw_n 1 rfl ?_
          refine zw_callV (as := [.int (nI xq)]) (rest := []) rfl rfl rfl (hCz5032.1 37 (by decide) (by decide) (by decide)) rfl rfl rfl (by decide) (c_lowestRule Mz5038 34 (fz5031 37 0) (fz5031 37 3) (fz5031 38) (fz5031 39) (fz5031 40) (fz5031 41) (fz5031 42) (seg6 (hCz5032.1 37 (by decide) (by decide) (by decide)) (hCz5032.1 38 (by decide) (by decide) (by decide)) (hCz5032.1 39 (by decide) (by decide) (by decide)) (hCz5032.1 40 (by decide) (by decide) (by decide)) (hCz5032.1 41 (by decide) (by decide) (by decide)) (hCz5032.1 42 (by decide) (by decide) (by decide))) (eAt f 16 26) (f 16 0) (f 26 0) hTr hn8 hc20 xq (by omega)) (fun rz5049 Mz5050 hz5051 => ?_)
          rw [hz5051.1, hz5051.2]
          show Zw 7 zm_CG_about 87 [some (.ref 0), some (.int (nI xq)), some (.int w)] [.int (nI (lowN (fz5031 38) xq (fz5031 37 0)))] Mz5038 _
          exact zw_iret rfl rfl (⟨by rw [if_pos hfit, ← hcz, ← aboA_cg hcq]; unfold aboA aboK; rw [if_pos hx9, hqx, if_neg (by rw [c18]; decide), if_neg (by rw [c18]; decide), if_neg (by rw [c18]; decide), if_pos c18], fz5031, hCz5032, hIz5033, hSmz5034, hAsz5035⟩)
      · 
        show Zw 7 zm_CG_about 88 [some (.ref 0), some (.int (nI xq)), some (.int w)] [] Mz5038 _
        refine zw_n 1 rfl ?_
        exact zw_iret rfl rfl (⟨by rw [if_pos hfit, ← hcz, ← aboA_cg hcq]; unfold aboA aboK; rw [if_pos hx9, hqx, if_neg (c18 0 (by decide)), if_neg (c18 1 (by decide)), if_neg (c18 2 (by decide)), if_neg (c18 3 (by decide))], fz5031, hCz5032, hIz5033, hSmz5034, hAsz5035⟩)
    · -- 12 to 15
      refine zw_n 1 rfl ?_
      exact zw_iret rfl rfl (⟨by rw [if_neg (ite_eq0 c12)], fz5031, hCz5032, hIz5033, hSmz5034, hAsz5035⟩)

set_option maxHeartbeats 4000000 in
set_option maxRecDepth 100000 in
theorem c_lines2 (Mq : zM) (f : Nat → Nat → Nat) (hC : CC Mq f) (E : Nat → Nat → Nat) (n c : Nat) (hTr : TrR E n c (f 37 0) (f 38)) (hn8 : n ≤ 8) (hc20 : c ≤ 20) (hS : SafeT (f 26 0) (f 27) (f 28) (f 29)) : Zm 2 zm_CG_linesThatBeginTwo [.ref 0] Mq (fun r9 M1 => r9 = some (.int (nI (twoN (f 28) (f 26 0) (f 38) (f 37 0)))) ∧ M1 = Mq) := by
  show Zw 2 zm_CG_linesThatBeginTwo 0 [some (.ref 0), none, none] [] Mq _
  have hle := hTr.le
  have hc29 := hS.1
  have hcw : ∀ t, cnW (f 38) 2 t (f 37 0) ≤ f 37 0 := fun t => cnt_le _ _
  refine zw_n 4 (ls' := [some (.ref 0), some (.int 0), some (.int 0)]) rfl ?_
  have lp4 : ∀ (n4 : Nat) (a : Nat) (t : Nat), (t ≤ f 26 0 ∧ a = twoN (f 28) t (f 38) (f 37 0)) → f 26 0 - t < n4 → Zw 2 zm_CG_linesThatBeginTwo 4 [some (.ref 0), some (.int (nI a)), some (.int (nI t))] [] Mq (fun r9 M1 => r9 = some (.int (nI (twoN (f 28) (f 26 0) (f 38) (f 37 0)))) ∧ M1 = Mq) := by
    intro n4
    induction n4 with
    | zero => intro a t _ h; exact absurd h (Nat.not_lt_zero _)
    | succ n4 ih4 =>
      intro a t hi4 hm4
      refine zw_n 2 rfl ?_
      refine zw_get (v := .ref 26) rfl (hC.1 0 (by decide) (by decide) (by decide)) rfl ?_
      refine zw_get (v := .int (nI (f 26 0))) rfl (hC.1 26 (by decide) (by decide) (by decide)) rfl ?_
      refine zw_igeN (a := t) (b := f 26 0) rfl rfl rfl (by omega) (by omega) (fun c12 => ?_) (fun c12 => ?_)
      · -- 12 to 48
        refine zw_n 1 rfl ?_
        exact zw_iret rfl rfl (⟨by rw [hi4.2, show t = f 26 0 by omega], rfl⟩)
      · -- 12 to 15
        refine zw_n 1 rfl ?_
        refine zw_get (v := .ref 26) rfl (hC.1 0 (by decide) (by decide) (by decide)) rfl ?_
        refine zw_n 1 rfl ?_
        refine zw_callV (as := [.int (nI t)]) (rest := []) rfl rfl rfl (hC.1 26 (by decide) (by decide) (by decide)) rfl rfl rfl (by decide) (c_beginsLine Mq 26 (f 26 0) (f 27) (f 28) (f 29) (seg4 (hC.1 26 (by decide) (by decide) (by decide)) (hC.1 27 (by decide) (by decide) (by decide)) (hC.1 28 (by decide) (by decide) (by decide)) (hC.1 29 (by decide) (by decide) (by decide))) t (by omega) (fun q => Nat.lt_trans (hS.2.2.1 q) (by decide))) (fun rz5052 Mz5053 hz5054 => ?_)
        rw [hz5054.1, hz5054.2]
        show Zw 2 zm_CG_linesThatBeginTwo 23 [some (.ref 0), some (.int (nI a)), some (.int (nI t))] [.int (nI (if t = 0 ∨ f 28 (t - 1) ≠ f 28 t then 1 else 0))] Mq _
        refine zw_eq0N (a := if t = 0 ∨ f 28 (t - 1) ≠ f 28 t then 1 else 0) rfl rfl (ite_b) (fun c23 => ?_) (fun c23 => ?_)
        · -- 23 to 42
          refine zw_inc rfl (x' := (nI (t + 1))) (ls' := [some (.ref 0), some (.int (nI a)), some (.int (nI (t + 1)))]) rfl (na (a := t) (b := 1) rfl rfl) rfl ?_
          refine zw_n 1 rfl ?_
          exact ih4 a (t + 1) (⟨by omega, by first | exact twoN_y hi4.2 (ite_ne c23) (by omega) | exact twoN_n hi4.2 (fun q9 => ite_eq0 c23 q9.1) | exact twoN_n hi4.2 (fun q9 => by have := q9.2; omega)⟩) (by omega)
        · -- 23 to 26
          have hcw9 := hcw t
          refine zw_n 1 rfl ?_
          refine zw_get (v := .ref 37) rfl (hC.1 0 (by decide) (by decide) (by decide)) rfl ?_
          refine zw_n 2 rfl ?_
          refine zw_callV (as := [.int 2, .int (nI t)]) (rest := []) rfl rfl rfl (hC.1 37 (by decide) (by decide) (by decide)) rfl rfl rfl (by decide) (c_howManyWith Mq 34 (f 37 0) (f 37 3) (f 38) (f 39) (f 40) (f 41) (f 42) (seg6 (hC.1 37 (by decide) (by decide) (by decide)) (hC.1 38 (by decide) (by decide) (by decide)) (hC.1 39 (by decide) (by decide) (by decide)) (hC.1 40 (by decide) (by decide) (by decide)) (hC.1 41 (by decide) (by decide) (by decide)) (hC.1 42 (by decide) (by decide) (by decide))) E n c hTr hn8 hc20 2 t (by decide) (by omega)) (fun rz5055 Mz5056 hz5057 => ?_)
          rw [hz5057.1, hz5057.2]
          show Zw 2 zm_CG_linesThatBeginTwo 35 [some (.ref 0), some (.int (nI a)), some (.int (nI t))] [.int (nI (cnW (f 38) 2 t (f 37 0)))] Mq _
          refine zw_n 1 rfl ?_
          refine zw_iltN (a := cnW (f 38) 2 t (f 37 0)) (b := 2) rfl rfl rfl (by omega) (by omega) (fun c36 => ?_) (fun c36 => ?_)
          · -- 36 to 42
            refine zw_inc rfl (x' := (nI (t + 1))) (ls' := [some (.ref 0), some (.int (nI a)), some (.int (nI (t + 1)))]) rfl (na (a := t) (b := 1) rfl rfl) rfl ?_
            refine zw_n 1 rfl ?_
            exact ih4 a (t + 1) (⟨by omega, by first | exact twoN_y hi4.2 (ite_ne c23) (by omega) | exact twoN_n hi4.2 (fun q9 => ite_eq0 c23 q9.1) | exact twoN_n hi4.2 (fun q9 => by have := q9.2; omega)⟩) (by omega)
          · -- 36 to 39
            refine zw_inc rfl (x' := (nI (a + 1))) (ls' := [some (.ref 0), some (.int (nI (a + 1))), some (.int (nI t))]) rfl (na (a := a) (b := 1) rfl rfl) rfl ?_
            refine zw_inc rfl (x' := (nI (t + 1))) (ls' := [some (.ref 0), some (.int (nI (a + 1))), some (.int (nI (t + 1)))]) rfl (na (a := t) (b := 1) rfl rfl) rfl ?_
            refine zw_n 1 rfl ?_
            exact ih4 (a + 1) (t + 1) (⟨by omega, by first | exact twoN_y hi4.2 (ite_ne c23) (by omega) | exact twoN_n hi4.2 (fun q9 => ite_eq0 c23 q9.1) | exact twoN_n hi4.2 (fun q9 => by have := q9.2; omega)⟩) (by omega)
  exact lp4 _ 0 0 (⟨Nat.zero_le _, rfl⟩) (Nat.lt_succ_self _)

set_option maxHeartbeats 4000000 in
set_option maxRecDepth 100000 in
theorem c_tree (Mq : zM) (f : Nat → Nat → Nat) (L : Nat) (hC : CC Mq f) (hI : CInv L f) (w : Int32) : Zm 7 zm_CG_tree [.ref 0, .int w] Mq (fun r9 M1 => r9 = some (.int (if tFit (eAt f 16 26) (f 16 0) (f 26 0) then treA (f 28) (f 29) (f 26 0) (tSz (eAt f 16 26) (f 16 0) (f 26 0)) (tRw (eAt f 16 26) (f 16 0) (f 26 0)) w else -1)) ∧ ∃ f9, CC M1 f9 ∧ CInv L f9 ∧ Smc Mq M1 ∧ Asame f f9) := by
  show Zw 7 zm_CG_tree 0 [some (.ref 0), some (.int w)] [] Mq _
  have hG : SafeG (f 16 0) (f 17) (f 18) (f 19) (f 20) (f 21) (f 22) := hI.gram.safe
  have hS : SafeT (f 26 0) (f 27) (f 28) (f 29) := hI.tok.safe
  have hn8 := hG.1
  have hc20 := hS.1
  obtain ⟨emp, rk, hA⟩ := hI.gram.acy
  refine zw_n 1 rfl ?_
  refine zw_callV (as := []) (rest := []) rfl rfl rfl (hC.1 0 (by decide) (by decide) (by decide)) rfl rfl rfl (by decide) (c_hasTree Mq f L hC hI) (fun rz5065 Mz5066 hz5067 => ?_)
  obtain ⟨hAz5058, fz5059, hCz5060, hIz5061, hSmz5062, hAsz5063, hTz5064⟩ := hz5067
  rw [hAz5058]
  show Zw 7 zm_CG_tree 4 [some (.ref 0), some (.int w)] [.int (nI (if tFit (eAt f 16 26) (f 16 0) (f 26 0) then 1 else 0))] Mz5066 _
  refine zw_ne0N (a := if tFit (eAt f 16 26) (f 16 0) (f 26 0) then 1 else 0) rfl rfl (ite_b) (fun c4 => ?_) (fun c4 => ?_)
  · -- 4 to 9
    have hfit := ite_ne c4
    have hTs : TrS (eAt f 16 26) (f 16 0) (f 26 0) (fz5059 37 0) (fz5059 38) := hAsz5063.tre (hIz5061.tre (hTz5064 hfit).1)
    have hTr : TrR (eAt f 16 26) (f 16 0) (f 26 0) (fz5059 37 0) (fz5059 38) := hTs.rows (E := eAt f 16 26) hA hn8 hG.2.2.1 hS.2.2.2 hG.2.2.2.2.2.2 hc20 hfit
    have hle := hTr.le
    obtain ⟨hcz, hcT⟩ := hTs.can (by omega)
    have hcq : tEq (fz5059 37 0) (fz5059 38) (tRw (eAt f 16 26) (f 16 0) (f 26 0)) := hcT
    refine zw_n 1 rfl ?_
    refine zw_sw rfl (fun k10 hk10 c10 => ?_) (fun c10 => ?_)
    · rcases (show k10 = 0 ∨ k10 = 1 ∨ k10 = 2 by simp at hk10; omega) with rfl | rfl | rfl
      · show Zw 7 zm_CG_tree 36 [some (.ref 0), some (.int w)] [] Mz5066 _
        refine zw_n 1 rfl ?_
        refine zw_get (v := .ref 37) rfl (hCz5060.1 0 (by decide) (by decide) (by decide)) rfl ?_
        refine zw_callV (as := []) (rest := []) rfl rfl rfl (hCz5060.1 37 (by decide) (by decide) (by decide)) rfl rfl rfl (by decide) (c_depth Mz5066 34 (fz5059 37 0) (fz5059 37 3) (fz5059 38) (fz5059 39) (fz5059 40) (fz5059 41) (fz5059 42) (seg6 (hCz5060.1 37 (by decide) (by decide) (by decide)) (hCz5060.1 38 (by decide) (by decide) (by decide)) (hCz5060.1 39 (by decide) (by decide) (by decide)) (hCz5060.1 40 (by decide) (by decide) (by decide)) (hCz5060.1 41 (by decide) (by decide) (by decide)) (hCz5060.1 42 (by decide) (by decide) (by decide))) (eAt f 16 26) (f 16 0) (f 26 0) hTr hn8 hc20) (fun rz5068 Mz5069 hz5070 => ?_)
        rw [hz5070.1, hz5070.2]
        show Zw 7 zm_CG_tree 43 [some (.ref 0), some (.int w)] [.int (nI (depN (fz5059 38) (fz5059 37 0)))] Mz5066 _
        exact zw_iret rfl rfl (⟨by rw [if_pos hfit, ← hcz, ← treA_cg hcq]; unfold treA; rw [if_pos c10], fz5059, hCz5060, hIz5061, hSmz5062, hAsz5063⟩)
      · show Zw 7 zm_CG_tree 44 [some (.ref 0), some (.int w)] [] Mz5066 _
        refine zw_n 1 rfl ?_
        refine zw_get (v := .ref 37) rfl (hCz5060.1 0 (by decide) (by decide) (by decide)) rfl ?_
        refine zw_n 1 rfl ?_
        refine zw_get (v := .ref 26) rfl (hCz5060.1 0 (by decide) (by decide) (by decide)) rfl ?_
        refine zw_callV (as := [.ref 26]) (rest := []) rfl rfl rfl (hCz5060.1 37 (by decide) (by decide) (by decide)) rfl rfl rfl (by decide) (c_howManyAside Mz5066 34 (fz5059 37 0) (fz5059 37 3) (fz5059 38) (fz5059 39) (fz5059 40) (fz5059 41) (fz5059 42) (seg6 (hCz5060.1 37 (by decide) (by decide) (by decide)) (hCz5060.1 38 (by decide) (by decide) (by decide)) (hCz5060.1 39 (by decide) (by decide) (by decide)) (hCz5060.1 40 (by decide) (by decide) (by decide)) (hCz5060.1 41 (by decide) (by decide) (by decide)) (hCz5060.1 42 (by decide) (by decide) (by decide))) (eAt f 16 26) (f 16 0) (f 26 0) (f 27) (f 28) (f 29) hTr hn8 hc20 26 (seg4 (hCz5060.core hAsz5063 (a := 26) rfl (by decide) (by decide) (by decide)) (hCz5060.core hAsz5063 (a := 27) rfl (by decide) (by decide) (by decide)) (hCz5060.core hAsz5063 (a := 28) rfl (by decide) (by decide) (by decide)) (hCz5060.core hAsz5063 (a := 29) rfl (by decide) (by decide) (by decide))) hS.2.2.2) (fun rz5071 Mz5072 hz5073 => ?_)
        rw [hz5073.1, hz5073.2]
        show Zw 7 zm_CG_tree 55 [some (.ref 0), some (.int w)] [.int (nI (asdN (f 29) (fz5059 38) (fz5059 37 0)))] Mz5066 _
        exact zw_iret rfl rfl (⟨by rw [if_pos hfit, ← hcz, ← treA_cg hcq]; unfold treA; rw [if_neg (by rw [c10]; decide), if_pos c10], fz5059, hCz5060, hIz5061, hSmz5062, hAsz5063⟩)
      · show Zw 7 zm_CG_tree 56 [some (.ref 0), some (.int w)] [] Mz5066 _
        refine zw_n 1 rfl ?_
        refine zw_callV (as := []) (rest := []) rfl rfl rfl (hCz5060.1 0 (by decide) (by decide) (by decide)) rfl rfl rfl (by decide) (c_lines2 Mz5066 fz5059 hCz5060 (eAt f 16 26) (f 16 0) (f 26 0) hTr hn8 hc20 (by rw [hAsz5063.2 26 rfl, hAsz5063.2 27 rfl, hAsz5063.2 28 rfl, hAsz5063.2 29 rfl]; exact hS)) (fun rz5074 Mz5075 hz5076 => ?_)
        rw [hz5076.1, hz5076.2, hAsz5063.2 26 rfl, hAsz5063.2 28 rfl]
        show Zw 7 zm_CG_tree 60 [some (.ref 0), some (.int w)] [.int (nI (twoN (f 28) (f 26 0) (fz5059 38) (fz5059 37 0)))] Mz5066 _
        exact zw_iret rfl rfl (⟨by rw [if_pos hfit, ← hcz, ← treA_cg hcq]; unfold treA; rw [if_neg (by rw [c10]; decide), if_neg (by rw [c10]; decide), if_pos c10], fz5059, hCz5060, hIz5061, hSmz5062, hAsz5063⟩)
    · 
      show Zw 7 zm_CG_tree 61 [some (.ref 0), some (.int w)] [] Mz5066 _
      refine zw_n 1 rfl ?_
      exact zw_iret rfl rfl (⟨by rw [if_pos hfit, ← hcz, ← treA_cg hcq]; unfold treA; rw [if_neg (c10 0 (by decide)), if_neg (c10 1 (by decide)), if_neg (c10 2 (by decide))], fz5059, hCz5060, hIz5061, hSmz5062, hAsz5063⟩)
  · -- 4 to 7
    refine zw_n 1 rfl ?_
    exact zw_iret rfl rfl (⟨by rw [if_neg (ite_eq0 c4)], fz5059, hCz5060, hIz5061, hSmz5062, hAsz5063⟩)
