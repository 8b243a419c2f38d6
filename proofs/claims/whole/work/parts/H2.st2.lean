/-! THE STEPS of the calls, where they ask of the text -/
set_option maxHeartbeats 2000000 in
set_option maxRecDepth 20000 in
theorem st_where (L : Nat) (hL1 : 240 < L) (hL : L < 100000) (x y z : Int32) : St zm_CG_where zm_MO_where [.int x, .int y, .int z] L := by
  intro Mq f o g hC hM hR
  have hI := hR.inv
  have hn8 : f 16 0 ≤ 8 := hI.gram.safe.1
  have hc20 : f 26 0 ≤ 20 := hI.tok.safe.1
  obtain ⟨emp, rk, hA0⟩ := hI.gram.acy
  have hA : Acyc (eAt f 16 26) (f 16 0) emp rk := hA0
  by_cases hx : 0 ≤ x.toInt ∧ x.toInt < f 16 0 ∧ 0 ≤ y.toInt ∧ y.toInt ≤ z.toInt ∧ z.toInt ≤ f 26 0
  · obtain ⟨r, rfl, hr⟩ := i32_ex (x := x) hx.1
    obtain ⟨i, rfl, hi⟩ := i32_ex (x := y) hx.2.2.1
    obtain ⟨j, rfl, hj⟩ := i32_ex (x := z) (Int.le_trans hx.2.2.1 hx.2.2.2.1)
    refine St.mk1 (dM := 98) (f := f) hM (by decide) (Nat.le_refl _) (c_whereOk Mq f L hC hI r i j (by omega) (by omega) (by omega)) (fun r9 M1 hp => ?_)
    obtain ⟨rfl, f9, h1, h2, h3, h4⟩ := hp
    refine ⟨_, f9, rfl, h1, h3, fun hM1 => Zm.mono (m_whereOk M1 o g hM1 (f 16 0) (f 17) (f 18) (f 19) (f 20) (f 21) (f 22) hR.rg hI.gram.safe hR.sf (f 26 0) (f 27) (f 28) (f 29) hR.rt hI.tok.safe emp rk hA r i j (by omega) (by omega) (by omega)) (by decide) (fun r8 M2 hq => ?_)⟩
    obtain ⟨rfl, g9, q1, q2, q3, q4⟩ := hq
    exact ⟨rfl, _, _, _, q1, q2, by decide, hR.kF h2 h4 rfl rfl rfl q3 (by decide) q4 (by rw [q3 161 (by decide)]; exact hR.b61)⟩
  · exact St.mk0 hC hM hR (by decide) (by decide) (c_whereNo Mq f L hC hI x y z hx) (m_whereNo Mq o g hM (f 16 0) (f 17) (f 18) (f 19) (f 20) (f 21) (f 22) hR.rg hI.gram.safe hR.sf (f 26 0) (f 27) (f 28) (f 29) hR.rt hI.tok.safe x y z hx)

set_option maxHeartbeats 2000000 in
set_option maxRecDepth 20000 in
theorem st_fits (L : Nat) (hL1 : 240 < L) (hL : L < 100000) : St zm_CG_fits zm_MO_fits [] L := by
  intro Mq f o g hC hM hR
  have hI := hR.inv
  have hn8 : f 16 0 ≤ 8 := hI.gram.safe.1
  have hc20 : f 26 0 ≤ 20 := hI.tok.safe.1
  obtain ⟨emp, rk, hA0⟩ := hI.gram.acy
  have hA : Acyc (eAt f 16 26) (f 16 0) emp rk := hA0
  refine St.mk1 (dM := 98) (f := f) hM (by decide) (Nat.le_refl _) (c_fits Mq f L hC hI) (fun r9 M1 hp => ?_)
  obtain ⟨rfl, f9, h1, h2, h3, h4⟩ := hp
  refine ⟨_, f9, rfl, h1, h3, fun hM1 => ?_⟩
  by_cases hn : f 16 0 = 0
  · refine Zm.mono (m_fitsNo M1 o g hM1 (f 16 0) (f 17) (f 18) (f 19) (f 20) (f 21) (f 22) hR.rg hI.gram.safe hR.sf hn) (by decide) (fun r8 M2 hq => ?_)
    obtain ⟨rfl, q1, q2⟩ := hq
    exact ⟨by rw [if_pos hn]; decide, _, _, _, q1, q2, by decide, hR.no1 h2 h4⟩
  · refine Zm.mono (m_fitsOk M1 o g hM1 (f 16 0) (f 17) (f 18) (f 19) (f 20) (f 21) (f 22) hR.rg hI.gram.safe hR.sf (f 26 0) (f 27) (f 28) (f 29) hR.rt hI.tok.safe emp rk hA (by omega)) (by decide) (fun r8 M2 hq => ?_)
    obtain ⟨rfl, g9, q1, q2, q3, q4⟩ := hq
    refine ⟨?_, _, _, _, q1, q2, by decide, hR.kF h2 h4 rfl rfl rfl q3 (by decide) q4 (by rw [q3 161 (by decide)]; exact hR.b61)⟩
    rw [if_neg hn]
    show some (Value.int (nI (if wh (eAt f 16 26) (f 16 0) 0 0 (f 26 0) ≠ 0 then 1 else 0))) = some (Value.int (nI (fitN (eAt f 16 26) (f 16 0) (f 26 0))))
    unfold fitN
    by_cases e : wh (eAt f 16 26) (f 16 0) 0 0 (f 26 0) ≠ 0
    · rw [if_pos e, if_pos ⟨by omega, e⟩]
    · rw [if_neg e, if_neg (fun q => e q.2)]

set_option maxHeartbeats 2000000 in
set_option maxRecDepth 20000 in
theorem st_blame (L : Nat) (hL1 : 240 < L) (hL : L < 100000) (w : Int32) : St zm_CG_blame zm_MO_blame [.int w] L := by
  intro Mq f o g hC hM hR
  have hI := hR.inv
  have hn8 : f 16 0 ≤ 8 := hI.gram.safe.1
  have hc20 : f 26 0 ≤ 20 := hI.tok.safe.1
  obtain ⟨emp, rk, hA0⟩ := hI.gram.acy
  have hA : Acyc (eAt f 16 26) (f 16 0) emp rk := hA0
  refine St.mk1 (dM := 98) (f := f) hM (by decide) (Nat.le_refl _) (c_blame Mq f L hC hI w) (fun r9 M1 hp => ?_)
  obtain ⟨k, rfl, hk, f9, h1, h2, h3, h4⟩ := hp
  refine ⟨_, f9, rfl, h1, h3, fun hM1 => Zm.mono (m_blame M1 o g hM1 (f 16 0) (f 17) (f 18) (f 19) (f 20) (f 21) (f 22) hR.rg hI.gram.safe hR.sf (f 26 0) (f 27) (f 28) (f 29) hR.rt hI.tok.safe emp rk hA hR.s4 hR.s5 hR.b61 hR.lf (fun q hq => (hI.tok.sgn q hq).1) w) (by decide) (fun r8 M2 hq => ?_)⟩
  obtain ⟨k2, g9, rfl, q1, q2, q3, q4, q5, q6⟩ := hq
  refine ⟨?_, _, _, _, q1, q2, by decide, hR.kF h2 h4 rfl rfl rfl q3 (by decide) q4 q5⟩
  by_cases hw : w = nI 0 ∨ w = nI 1
  · have hB : k2 = k := BlK.uniq (BlK_cg hA.1 hR.fr (q6 hw)) (hk hw)
    rw [hB]
  · unfold blV
    rw [if_neg (fun q => hw (Or.inl q)), if_neg (fun q => hw (Or.inr q)), if_neg (fun q => hw (Or.inl q)), if_neg (fun q => hw (Or.inr q))]

set_option maxHeartbeats 2000000 in
set_option maxRecDepth 20000 in
theorem st_goesOn (L : Nat) (hL1 : 240 < L) (hL : L < 100000) (x : Int32) : St zm_CG_goesOn zm_MO_goesOn [.int x] L := by
  intro Mq f o g hC hM hR
  have hI := hR.inv
  have hn8 : f 16 0 ≤ 8 := hI.gram.safe.1
  have hc20 : f 26 0 ≤ 20 := hI.tok.safe.1
  obtain ⟨emp, rk, hA0⟩ := hI.gram.acy
  have hA : Acyc (eAt f 16 26) (f 16 0) emp rk := hA0
  by_cases hx : 0 < f 16 0 ∧ 0 ≤ x.toInt ∧ x.toInt ≤ f 26 0
  · obtain ⟨m, rfl, hm⟩ := i32_ex (x := x) hx.2.1
    refine St.mk1 (dM := 98) (f := f) hM (by decide) (Nat.le_refl _) (c_goesOnOk Mq f L hC hI hx.1 m (by omega)) (fun r9 M1 hp => ?_)
    obtain ⟨b, rfl, hb1, hb, f9, h1, h2, h3, h4⟩ := hp
    refine ⟨_, f9, rfl, h1, h3, fun hM1 => Zm.mono (m_goesOnOk M1 o g hM1 (f 16 0) (f 17) (f 18) (f 19) (f 20) (f 21) (f 22) hR.rg hI.gram.safe hR.sf (f 26 0) (f 27) (f 28) (f 29) hR.rt hI.tok.safe emp rk hA hR.s4 hR.s5 hR.b61 hR.lf (fun q hq => (hI.tok.sgn q hq).1) hx.1 m (by omega)) (by decide) (fun r8 M2 hq => ?_)⟩
    obtain ⟨b2, g9, rfl, q1, q2, q3, q4, q5, q6, q7⟩ := hq
    have hB : b2 = b := by have h9 := q7.trans ((GoN_cg hA.1 hR.fr hx.1).trans hb.symm); omega
    exact ⟨by rw [hB], _, _, _, q1, q2, by decide, hR.kF h2 h4 rfl rfl rfl q3 (by decide) q4 q5⟩
  · exact St.mk0 hC hM hR (by decide) (by decide) (c_goesOnNo Mq f L hC hI x hx) (m_goesOnNo Mq o g hM (f 16 0) (f 17) (f 18) (f 19) (f 20) (f 21) (f 22) hR.rg hI.gram.safe hR.sf (f 26 0) (f 27) (f 28) (f 29) hR.rt hI.tok.safe emp rk hA x hx)

set_option maxHeartbeats 2000000 in
set_option maxRecDepth 20000 in
theorem st_next (L : Nat) (hL1 : 240 < L) (hL : L < 100000) (x z : Int32) : St zm_CG_next zm_MO_next2 [.int x, .int z] L := by
  intro Mq f o g hC hM hR
  have hI := hR.inv
  have hn8 : f 16 0 ≤ 8 := hI.gram.safe.1
  have hc20 : f 26 0 ≤ 20 := hI.tok.safe.1
  obtain ⟨emp, rk, hA0⟩ := hI.gram.acy
  have hA : Acyc (eAt f 16 26) (f 16 0) emp rk := hA0
  by_cases hx : 0 < f 16 0 ∧ (0 ≤ x.toInt ∧ x.toInt ≤ f 26 0) ∧ 33 ≤ z.toInt ∧ z.toInt ≤ 126
  · obtain ⟨m, rfl, hm⟩ := i32_ex (x := x) hx.2.1.1
    obtain ⟨s, rfl, hs⟩ := i32_ex (x := z) (by omega)
    refine St.mk1 (dM := 98) (f := f) hM (by decide) (Nat.le_refl _) (c_nextOk Mq f L hC hI hx.1 m s (by omega) (by omega)) (fun r9 M1 hp => ?_)
    obtain ⟨F, rfl, hFl, hF, f9, h1, h2, h3, h4⟩ := hp
    refine ⟨_, f9, rfl, h1, h3, fun hM1 => Zm.mono (m_nextOk M1 o g hM1 (f 16 0) (f 17) (f 18) (f 19) (f 20) (f 21) (f 22) hR.rg hI.gram.safe hR.sf (f 26 0) (f 27) (f 28) (f 29) hR.rt hI.tok.safe emp rk hA hR.s4 hR.s5 hR.b61 hR.lf (fun q hq => (hI.tok.sgn q hq).1) hx.1 m s (by omega) (by omega)) (by decide) (fun r8 M2 hq => ?_)⟩
    obtain ⟨F2, g9, rfl, q1, q2, q3, q4, q5, q6, q7⟩ := hq
    have hB : F2 = F := bit_ext (fun d => (q7 d).trans ((Fnd_iff hA.1 hR.fr).trans (hF d).symm))
    exact ⟨by rw [hB], _, _, _, q1, q2, by decide, hR.kF h2 h4 rfl rfl rfl q3 (by decide) q4 q5⟩
  · exact St.mk0 hC hM hR (by decide) (by decide) (c_nextNo Mq f L hC hI x z hx) (m_nextNo Mq o g hM (f 16 0) (f 17) (f 18) (f 19) (f 20) (f 21) (f 22) hR.rg hI.gram.safe hR.sf (f 26 0) (f 27) (f 28) (f 29) hR.rt hI.tok.safe emp rk hA x z hx)

set_option maxHeartbeats 2000000 in
set_option maxRecDepth 20000 in
theorem st_room (L : Nat) (hL1 : 240 < L) (hL : L < 100000) (x : Int32) : St zm_CG_room zm_MO_room [.int x] L := by
  intro Mq f o g hC hM hR
  have hI := hR.inv
  have hn8 : f 16 0 ≤ 8 := hI.gram.safe.1
  have hc20 : f 26 0 ≤ 20 := hI.tok.safe.1
  obtain ⟨emp, rk, hA0⟩ := hI.gram.acy
  have hA : Acyc (eAt f 16 26) (f 16 0) emp rk := hA0
  by_cases hx : 0 < f 16 0 ∧ 0 ≤ x.toInt ∧ x.toInt ≤ f 26 0
  · obtain ⟨m, rfl, hm⟩ := i32_ex (x := x) hx.2.1
    refine St.mk1 (dM := 98) (f := f) hM (by decide) (Nat.le_refl _) (c_roomOk Mq f L hC hI hx.1 m (by omega)) (fun r9 M1 hp => ?_)
    obtain ⟨F, rfl, hFl, hF, f9, h1, h2, h3, h4⟩ := hp
    refine ⟨_, f9, rfl, h1, h3, fun hM1 => Zm.mono (m_roomOk M1 o g hM1 (f 16 0) (f 17) (f 18) (f 19) (f 20) (f 21) (f 22) hR.rg hI.gram.safe hR.sf (f 26 0) (f 27) (f 28) (f 29) hR.rt hI.tok.safe emp rk hA hR.s4 hR.s5 hR.b61 hR.lf (fun q hq => (hI.tok.sgn q hq).1) hx.1 m (by omega)) (by decide) (fun r8 M2 hq => ?_)⟩
    obtain ⟨F2, g9, rfl, q1, q2, q3, q4, q5, q6, q7⟩ := hq
    have hB : F2 = F := bit_ext (fun d => (q7 d).trans ((Fnd_iff hA.1 hR.fr).trans (hF d).symm))
    exact ⟨by rw [hB], _, _, _, q1, q2, by decide, hR.kF h2 h4 rfl rfl rfl q3 (by decide) q4 q5⟩
  · exact St.mk0 hC hM hR (by decide) (by decide) (c_roomNo Mq f L hC hI x hx) (m_roomNo Mq o g hM (f 16 0) (f 17) (f 18) (f 19) (f 20) (f 21) (f 22) hR.rg hI.gram.safe hR.sf (f 26 0) (f 27) (f 28) (f 29) hR.rt hI.tok.safe emp rk hA x hx)

set_option maxHeartbeats 2000000 in
set_option maxRecDepth 20000 in
theorem st_hint (L : Nat) (hL1 : 240 < L) (hL : L < 100000) (w : Int32) : St zm_CG_hint zm_MO_hint [.int w] L := by
  intro Mq f o g hC hM hR
  have hI := hR.inv
  have hn8 : f 16 0 ≤ 8 := hI.gram.safe.1
  have hc20 : f 26 0 ≤ 20 := hI.tok.safe.1
  obtain ⟨emp, rk, hA0⟩ := hI.gram.acy
  have hA : Acyc (eAt f 16 26) (f 16 0) emp rk := hA0
  refine St.mk1 (dM := 98) (f := f) hM (by decide) (Nat.le_refl _) (c_hint Mq f L hC hI w) (fun r9 M1 hp => ?_)
  obtain ⟨k, F, v, rfl, hk, f9, h1, h2, h3, h4⟩ := hp
  refine ⟨_, f9, rfl, h1, h3, fun hM1 => Zm.mono (m_hint M1 o g hM1 (f 16 0) (f 17) (f 18) (f 19) (f 20) (f 21) (f 22) hR.rg hI.gram.safe hR.sf (f 26 0) (f 27) (f 28) (f 29) hR.rt hI.tok.safe emp rk hA hR.s4 hR.s5 hR.b61 hR.lf (fun q hq => (hI.tok.sgn q hq).1) w) (by decide) (fun r8 M2 hq => ?_)⟩
  obtain ⟨k2, F2, v2, g9, rfl, q1, q2, q3, q4, q5, q6⟩ := hq
  refine ⟨?_, _, _, _, q1, q2, by decide, hR.kF h2 h4 rfl rfl rfl q3 (by decide) q4 q5⟩
  by_cases hw : w = nI 0 ∨ w = nI 1
  · have hB : k2 = k := BlK.uniq (BlK_cg hA.1 hR.fr (q6 hw).1) (hk hw).1
    subst hB
    by_cases hz : k2 = NO ∨ k2 = f 26 0
    · rw [if_pos hz, if_pos hz, if_pos hz, if_pos hz]
    · have hlt : k2 < f 26 0 := by
        have h9 := (hk hw).1
        by_cases e : f 16 0 = 0 ∨ wh (eAt f 16 26) (f 16 0) 0 0 (f 26 0) ≠ 0
        · exact absurd (Or.inl (h9.1 e)) hz
        · have h8 := (h9.2 (by omega) (Classical.byContradiction fun q => e (Or.inr q))).1
          omega
      obtain ⟨-, a1, a2⟩ := (hk hw).2 hlt
      obtain ⟨-, b1, b2⟩ := (q6 hw).2 hlt
      have hF : F2 = F := bit_ext (fun d => (b1 d).trans ((Fnd_iff hA.1 hR.fr).trans (a1 d).symm))
      subst hF
      have hV : v2 = v := NrS.uniq b2 a2
      subst hV
      rfl
  · rw [if_neg (fun q => hw (Or.inl q)), if_neg (fun q => hw (Or.inr q)), if_neg (fun q => hw (Or.inl q)), if_neg (fun q => hw (Or.inr q))]

set_option maxHeartbeats 2000000 in
set_option maxRecDepth 20000 in
theorem st_nodes (L : Nat) (hL1 : 240 < L) (hL : L < 100000) : St zm_CG_nodes zm_MO_nodes [] L := by
  intro Mq f o g hC hM hR
  have hI := hR.inv
  have hn8 : f 16 0 ≤ 8 := hI.gram.safe.1
  have hc20 : f 26 0 ≤ 20 := hI.tok.safe.1
  obtain ⟨emp, rk, hA0⟩ := hI.gram.acy
  have hA : Acyc (eAt f 16 26) (f 16 0) emp rk := hA0
  refine St.mk1 (dM := 98) (f := f) hM (by decide) (Nat.le_refl _) (c_nodes Mq f L hC hI ) (fun r9 M1 hp => ?_)
  obtain ⟨rfl, f9, h1, h2, h3, h4⟩ := hp
  refine ⟨_, f9, rfl, h1, h3, fun hM1 => Zm.mono (m_nodes M1 o g hM1 (f 16 0) (f 17) (f 18) (f 19) (f 20) (f 21) (f 22) hR.rg hI.gram.safe hR.sf (f 26 0) (f 27) (f 28) (f 29) hR.rt hI.tok.safe emp rk hA ) (by decide) (fun r8 M2 hq => ?_)⟩
  obtain ⟨rfl, o9, g9, q1, q2, q3, q4, q5, q6⟩ := hq
  exact ⟨rfl, _, _, _, q1, q2, by decide, hR.kF h2 h4 (q5 5 (by decide) (by decide) (by decide)) (q5 7 (by decide) (by decide) (by decide)) (q5 31 (by decide) (by decide) (by decide)) q3 (by decide) q4 (by rw [q3 161 (by decide)]; exact hR.b61)⟩

set_option maxHeartbeats 2000000 in
set_option maxRecDepth 20000 in
theorem st_node (L : Nat) (hL1 : 240 < L) (hL : L < 100000) (x w : Int32) : St zm_CG_node zm_MO_node [.int x, .int w] L := by
  intro Mq f o g hC hM hR
  have hI := hR.inv
  have hn8 : f 16 0 ≤ 8 := hI.gram.safe.1
  have hc20 : f 26 0 ≤ 20 := hI.tok.safe.1
  obtain ⟨emp, rk, hA0⟩ := hI.gram.acy
  have hA : Acyc (eAt f 16 26) (f 16 0) emp rk := hA0
  refine St.mk1 (dM := 98) (f := f) hM (by decide) (Nat.le_refl _) (c_node Mq f L hC hI x w) (fun r9 M1 hp => ?_)
  obtain ⟨rfl, f9, h1, h2, h3, h4⟩ := hp
  refine ⟨_, f9, rfl, h1, h3, fun hM1 => Zm.mono (m_node M1 o g hM1 (f 16 0) (f 17) (f 18) (f 19) (f 20) (f 21) (f 22) hR.rg hI.gram.safe hR.sf (f 26 0) (f 27) (f 28) (f 29) hR.rt hI.tok.safe emp rk hA x w) (by decide) (fun r8 M2 hq => ?_)⟩
  obtain ⟨rfl, o9, g9, q1, q2, q3, q4, q5, q6⟩ := hq
  exact ⟨rfl, _, _, _, q1, q2, by decide, hR.kF h2 h4 (q5 5 (by decide) (by decide) (by decide)) (q5 7 (by decide) (by decide) (by decide)) (q5 31 (by decide) (by decide) (by decide)) q3 (by decide) q4 (by rw [q3 161 (by decide)]; exact hR.b61)⟩

set_option maxHeartbeats 2000000 in
set_option maxRecDepth 20000 in
theorem st_ways (L : Nat) (hL1 : 240 < L) (hL : L < 100000) (x : Int32) : St zm_CG_ways zm_MO_ways [.int x] L := by
  intro Mq f o g hC hM hR
  have hI := hR.inv
  have hn8 : f 16 0 ≤ 8 := hI.gram.safe.1
  have hc20 : f 26 0 ≤ 20 := hI.tok.safe.1
  obtain ⟨emp, rk, hA0⟩ := hI.gram.acy
  have hA : Acyc (eAt f 16 26) (f 16 0) emp rk := hA0
  refine St.mk1 (dM := 98) (f := f) hM (by decide) (Nat.le_refl _) (c_ways Mq f L hC hI x) (fun r9 M1 hp => ?_)
  obtain ⟨rfl, f9, h1, h2, h3, h4⟩ := hp
  refine ⟨_, f9, rfl, h1, h3, fun hM1 => Zm.mono (m_ways M1 o g hM1 (f 16 0) (f 17) (f 18) (f 19) (f 20) (f 21) (f 22) hR.rg hI.gram.safe hR.sf (f 26 0) (f 27) (f 28) (f 29) hR.rt hI.tok.safe emp rk hA x) (by decide) (fun r8 M2 hq => ?_)⟩
  obtain ⟨rfl, o9, g9, q1, q2, q3, q4, q5, q6⟩ := hq
  exact ⟨rfl, _, _, _, q1, q2, by decide, hR.kF h2 h4 (q5 5 (by decide) (by decide) (by decide)) (q5 7 (by decide) (by decide) (by decide)) (q5 31 (by decide) (by decide) (by decide)) q3 (by decide) q4 (by rw [q3 161 (by decide)]; exact hR.b61)⟩

set_option maxHeartbeats 2000000 in
set_option maxRecDepth 20000 in
theorem st_extent (L : Nat) (hL1 : 240 < L) (hL : L < 100000) (x w : Int32) : St zm_CG_extent zm_MO_extent [.int x, .int w] L := by
  intro Mq f o g hC hM hR
  have hI := hR.inv
  have hn8 : f 16 0 ≤ 8 := hI.gram.safe.1
  have hc20 : f 26 0 ≤ 20 := hI.tok.safe.1
  obtain ⟨emp, rk, hA0⟩ := hI.gram.acy
  have hA : Acyc (eAt f 16 26) (f 16 0) emp rk := hA0
  refine St.mk1 (dM := 98) (f := f) hM (by decide) (Nat.le_refl _) (c_extent Mq f L hC hI x w) (fun r9 M1 hp => ?_)
  obtain ⟨rfl, f9, h1, h2, h3, h4⟩ := hp
  refine ⟨_, f9, rfl, h1, h3, fun hM1 => Zm.mono (m_extent M1 o g hM1 (f 16 0) (f 17) (f 18) (f 19) (f 20) (f 21) (f 22) hR.rg hI.gram.safe hR.sf (f 26 0) (f 27) (f 28) (f 29) hR.rt hI.tok.safe emp rk hA x w) (by decide) (fun r8 M2 hq => ?_)⟩
  obtain ⟨rfl, o9, g9, q1, q2, q3, q4, q5, q6⟩ := hq
  exact ⟨rfl, _, _, _, q1, q2, by decide, hR.kF h2 h4 (q5 5 (by decide) (by decide) (by decide)) (q5 7 (by decide) (by decide) (by decide)) (q5 31 (by decide) (by decide) (by decide)) q3 (by decide) q4 (by rw [q3 161 (by decide)]; exact hR.b61)⟩

set_option maxHeartbeats 2000000 in
set_option maxRecDepth 20000 in
theorem st_off (L : Nat) (hL1 : 240 < L) (hL : L < 100000) (x : Int32) : St zm_CG_off zm_MO_off [.int x] L := by
  intro Mq f o g hC hM hR
  have hI := hR.inv
  have hn8 : f 16 0 ≤ 8 := hI.gram.safe.1
  have hc20 : f 26 0 ≤ 20 := hI.tok.safe.1
  obtain ⟨emp, rk, hA0⟩ := hI.gram.acy
  have hA : Acyc (eAt f 16 26) (f 16 0) emp rk := hA0
  refine St.mk1 (dM := 98) (f := f) hM (by decide) (Nat.le_refl _) (c_off Mq f L hC hI x) (fun r9 M1 hp => ?_)
  obtain ⟨rfl, f9, h1, h2, h3, h4⟩ := hp
  refine ⟨_, f9, rfl, h1, h3, fun hM1 => Zm.mono (m_off M1 o g hM1 (f 16 0) (f 17) (f 18) (f 19) (f 20) (f 21) (f 22) hR.rg hI.gram.safe hR.sf (f 26 0) (f 27) (f 28) (f 29) hR.rt hI.tok.safe emp rk hA x) (by decide) (fun r8 M2 hq => ?_)⟩
  obtain ⟨rfl, o9, g9, q1, q2, q3, q4, q5, q6⟩ := hq
  exact ⟨rfl, _, _, _, q1, q2, by decide, hR.kF h2 h4 (q5 5 (by decide) (by decide) (by decide)) (q5 7 (by decide) (by decide) (by decide)) (q5 31 (by decide) (by decide) (by decide)) q3 (by decide) q4 (by rw [q3 161 (by decide)]; exact hR.b61)⟩

set_option maxHeartbeats 2000000 in
set_option maxRecDepth 20000 in
theorem st_about (L : Nat) (hL1 : 240 < L) (hL : L < 100000) (x w : Int32) : St zm_CG_about zm_MO_about [.int x, .int w] L := by
  intro Mq f o g hC hM hR
  have hI := hR.inv
  have hn8 : f 16 0 ≤ 8 := hI.gram.safe.1
  have hc20 : f 26 0 ≤ 20 := hI.tok.safe.1
  obtain ⟨emp, rk, hA0⟩ := hI.gram.acy
  have hA : Acyc (eAt f 16 26) (f 16 0) emp rk := hA0
  refine St.mk1 (dM := 98) (f := f) hM (by decide) (Nat.le_refl _) (c_about Mq f L hC hI x w) (fun r9 M1 hp => ?_)
  obtain ⟨rfl, f9, h1, h2, h3, h4⟩ := hp
  refine ⟨_, f9, rfl, h1, h3, fun hM1 => Zm.mono (m_about M1 o g hM1 (f 16 0) (f 17) (f 18) (f 19) (f 20) (f 21) (f 22) hR.rg hI.gram.safe hR.sf (f 26 0) (f 27) (f 28) (f 29) hR.rt hI.tok.safe emp rk hA x w) (by decide) (fun r8 M2 hq => ?_)⟩
  obtain ⟨rfl, o9, g9, q1, q2, q3, q4, q5, q6⟩ := hq
  exact ⟨rfl, _, _, _, q1, q2, by decide, hR.kF h2 h4 (q5 5 (by decide) (by decide) (by decide)) (q5 7 (by decide) (by decide) (by decide)) (q5 31 (by decide) (by decide) (by decide)) q3 (by decide) q4 (by rw [q3 161 (by decide)]; exact hR.b61)⟩

set_option maxHeartbeats 2000000 in
set_option maxRecDepth 20000 in
theorem st_tree (L : Nat) (hL1 : 240 < L) (hL : L < 100000) (w : Int32) : St zm_CG_tree zm_MO_tree [.int w] L := by
  intro Mq f o g hC hM hR
  have hI := hR.inv
  have hn8 : f 16 0 ≤ 8 := hI.gram.safe.1
  have hc20 : f 26 0 ≤ 20 := hI.tok.safe.1
  obtain ⟨emp, rk, hA0⟩ := hI.gram.acy
  have hA : Acyc (eAt f 16 26) (f 16 0) emp rk := hA0
  refine St.mk1 (dM := 98) (f := f) hM (by decide) (Nat.le_refl _) (c_tree Mq f L hC hI w) (fun r9 M1 hp => ?_)
  obtain ⟨rfl, f9, h1, h2, h3, h4⟩ := hp
  refine ⟨_, f9, rfl, h1, h3, fun hM1 => Zm.mono (m_tree M1 o g hM1 (f 16 0) (f 17) (f 18) (f 19) (f 20) (f 21) (f 22) hR.rg hI.gram.safe hR.sf (f 26 0) (f 27) (f 28) (f 29) hR.rt hI.tok.safe emp rk hA w) (by decide) (fun r8 M2 hq => ?_)⟩
  obtain ⟨rfl, o9, g9, q1, q2, q3, q4, q5, q6⟩ := hq
  exact ⟨rfl, _, _, _, q1, q2, by decide, hR.kF h2 h4 (q5 5 (by decide) (by decide) (by decide)) (q5 7 (by decide) (by decide) (by decide)) (q5 31 (by decide) (by decide) (by decide)) q3 (by decide) q4 (by rw [q3 161 (by decide)]; exact hR.b61)⟩
