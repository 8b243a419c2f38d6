/-! THE STEPS of the calls -/
set_option maxHeartbeats 2000000 in
set_option maxRecDepth 20000 in
theorem st_sign (L : Nat) (hL1 : 240 < L) (hL : L < 100000) (x : Int32) : St zm_CG_sign zm_MO_sign [.int x] L := by
  intro Mq f o g hC hM hR
  have hI := hR.inv
  have hn8 : f 16 0 ≤ 8 := hI.gram.safe.1
  have hc20 : f 26 0 ≤ 20 := hI.tok.safe.1
  obtain ⟨emp, rk, hA0⟩ := hI.gram.acy
  have hA : Acyc (eAt f 16 26) (f 16 0) emp rk := hA0
  by_cases hx : f 0 1 + 4 ≤ 240
  · refine St.mk1 (dM := 98) (f := f) hM (by decide) (Nat.le_refl _) (c_signOk Mq f L hC hI x hx) (fun r9 M1 hp => ?_)
    obtain ⟨rfl, h1, h2, h3⟩ := hp
    refine ⟨_, _, rfl, h1, h2, fun hM1 => Zm.mono (m_signOk M1 o g hM1 x (by rw [hR.len]; exact hx)) (by decide) (fun r8 M2 hq => ?_)⟩
    obtain ⟨rfl, q1, q2⟩ := hq
    exact ⟨by rw [hR.len], _, _, _, q1, q2, by decide, hR.sign h3⟩
  · exact St.mk0 hC hM hR (by decide) (by decide) (c_signNo Mq f L hC hI x (by omega)) (m_signNo Mq o g hM x (by rw [hR.len]; exact hI.tl) (by rw [hR.len]; omega))

set_option maxHeartbeats 2000000 in
set_option maxRecDepth 20000 in
theorem st_end (L : Nat) (hL1 : 240 < L) (hL : L < 100000) (x : Int32) : St zm_CG_end zm_MO_end [.int x] L := by
  intro Mq f o g hC hM hR
  have hI := hR.inv
  have hn8 : f 16 0 ≤ 8 := hI.gram.safe.1
  have hc20 : f 26 0 ≤ 20 := hI.tok.safe.1
  obtain ⟨emp, rk, hA0⟩ := hI.gram.acy
  have hA : Acyc (eAt f 16 26) (f 16 0) emp rk := hA0
  by_cases hx : 0 ≤ x.toInt ∧ x.toInt ≤ f 0 1
  · obtain ⟨k, rfl, hk⟩ := i32_ex (x := x) hx.1
    refine St.mk1 (dM := 98) (f := f) hM (by decide) (Nat.le_refl _) (c_endOk Mq f L hC hI k (by omega)) (fun r9 M1 hp => ?_)
    obtain ⟨rfl, h1, h2, h3⟩ := hp
    refine ⟨_, _, rfl, h1, h2, fun hM1 => Zm.mono (m_endOk M1 o g hM1 (by rw [hR.len]; exact hI.tl) k (by rw [hR.len]; omega)) (by decide) (fun r8 M2 hq => ?_)⟩
    obtain ⟨rfl, q1, q2⟩ := hq
    exact ⟨rfl, _, _, _, q1, q2, by decide, hR.shut (by omega) h3⟩
  · exact St.mk0 hC hM hR (by decide) (by decide) (c_endNo Mq f L hC hI x hx) (m_endNo Mq o g hM (by rw [hR.len]; exact hI.tl) x (by rw [hR.len]; exact hx))

set_option maxHeartbeats 2000000 in
set_option maxRecDepth 20000 in
theorem st_grammar (L : Nat) (hL1 : 240 < L) (hL : L < 100000) : St zm_CG_grammar zm_MO_grammar [] L := by
  intro Mq f o g hC hM hR
  have hI := hR.inv
  have hn8 : f 16 0 ≤ 8 := hI.gram.safe.1
  have hc20 : f 26 0 ≤ 20 := hI.tok.safe.1
  obtain ⟨emp, rk, hA0⟩ := hI.gram.acy
  have hA : Acyc (eAt f 16 26) (f 16 0) emp rk := hA0
  refine St.mk1 (dM := 98) (f := f) hM (by decide) (Nat.le_refl _) (c_grammar Mq f L hC hI) (fun r9 M1 hp => ?_)
  obtain ⟨v, hv, hA1, hA2⟩ := hp
  by_cases e : v = NO
  · obtain ⟨f9, rfl, h1, h2, h3, h4, h5, h6⟩ := hA2 e
    subst e
    refine ⟨_, f9, rfl, h1, h2, fun hM1 => Zm.mono (m_grammarOk M1 o g hM1 (f 1) (by rw [hR.len]; exact hR.txt) hI.tx (by rw [hR.len]; exact hI.tl) hR.b5 hR.b8 (by rw [hR.len]; exact hv) (f9 16 0) (f9 17) (f9 18) (f9 19) (f9 20) (f9 21) (f9 22) (by rw [hR.len]; exact h5) h3.gram.safe hR.sf h3.gram.dr hR.s4 hR.s5) (by decide) (fun r8 M2 hq => ?_)⟩
    obtain ⟨rfl, P, g9, q1, q2, q3, q4, q5, q6, q7, q8, q9, q10, q11, q12⟩ := hq
    exact ⟨rfl, _, _, _, q1, q2, by decide, hR.newG h3 h4 h6 rfl rfl rfl q3 q4 q5 q6 q7 q8 q9 q10 q11 q12⟩
  · obtain ⟨rfl, f9, h1, h2, h3, h4, h5⟩ := hA1 e
    refine ⟨_, f9, rfl, h1, h2, fun hM1 => Zm.mono (m_grammarNo M1 o g hM1 (f 1) (by rw [hR.len]; exact hR.txt) hI.tx (by rw [hR.len]; exact hI.tl) hR.b5 hR.b8 v (by rw [hR.len]; exact hv) e) (by decide) (fun r8 M2 hq => ?_)⟩
    obtain ⟨rfl, P, g9, q1, q2, q3, q4, q5⟩ := hq
    exact ⟨rfl, _, _, _, q1, q2, by decide, hR.keepG (h3.mono (Nat.le_succ _)) (fun a ha _ => h5 a ha) h4.symm (fun q hq => by rw [h4] at hq; omega) rfl rfl (fun a ha => q3 a ((by decide : ∀ a, a ∈ [140, 141, 142, 143, 153, 154, 155, 156, 157, 158, 159, 160, 161, 162, 163, 164] → a ∉ [139, 145, 146, 147, 148, 149]) a ha)) q4 q5⟩

set_option maxHeartbeats 2000000 in
set_option maxRecDepth 20000 in
theorem st_text (L : Nat) (hL1 : 240 < L) (hL : L < 100000) : St zm_CG_text zm_MO_text [] L := by
  intro Mq f o g hC hM hR
  have hI := hR.inv
  have hn8 : f 16 0 ≤ 8 := hI.gram.safe.1
  have hc20 : f 26 0 ≤ 20 := hI.tok.safe.1
  obtain ⟨emp, rk, hA0⟩ := hI.gram.acy
  have hA : Acyc (eAt f 16 26) (f 16 0) emp rk := hA0
  by_cases hx : srch (bdT (f 1)) 0 (f 0 1) = NO
  · refine St.mk1 (dM := 98) (f := f) hM (by decide) (Nat.le_refl _) (c_textOk Mq f L hC hI hL1 hx) (fun r9 M1 hp => ?_)
    obtain ⟨rfl, f9, h1, h2, h3, h4, h5, h6, h7, h8, h9⟩ := hp
    refine ⟨_, f9, rfl, h1, h2, fun hM1 => Zm.mono (m_textOk M1 o g hM1 (f 1) (by rw [hR.len]; exact hR.txt) hI.tx (by rw [hR.len]; exact hI.tl) hR.sf.1 (by rw [hR.len]; exact hx)) (by decide) (fun r8 M2 hq => ?_)⟩
    obtain ⟨rfl, R, A, B, C, q1, q2, q3, q4, q5⟩ := hq
    exact ⟨by rw [hR.len], _, _, _, q1, q2, by decide, hR.newT h3 h4 h5 h6 h7 h9 q3 q4 q5⟩
  · refine St.mk1 (dM := 98) (f := f) hM (by decide) (Nat.le_refl _) (c_textNo Mq f L hC hI hL1 hx) (fun r9 M1 hp => ?_)
    obtain ⟨rfl, f9, h1, h2, h3, h4, h5⟩ := hp
    refine ⟨_, f9, rfl, h1, h2, fun hM1 => Zm.mono (m_textNo M1 o g hM1 (f 1) (by rw [hR.len]; exact hR.txt) hI.tx (by rw [hR.len]; exact hI.tl) (by rw [hR.len]; exact hx)) (by decide) (fun r8 M2 hq => ?_)⟩
    obtain ⟨rfl, A, B, C, q1, q2⟩ := hq
    exact ⟨by rw [hR.len], _, _, _, q1, q2, by decide, hR.keepG (h3.mono (Nat.le_succ _)) (fun a ha _ => h5 a ha) h4.symm (fun q hq => by rw [h4] at hq; omega) rfl rfl (fun a ha => by rw [fset_n (fun q => by rw [q] at ha; revert ha; decide), fset_n (fun q => by rw [q] at ha; revert ha; decide), fset_n (fun q => by rw [q] at ha; revert ha; decide)]) hR.b5 hR.b8⟩

set_option maxHeartbeats 2000000 in
set_option maxRecDepth 20000 in
theorem st_item (L : Nat) (hL1 : 240 < L) (hL : L < 100000) (x y z w : Int32) : St zm_CG_item zm_MO_item [.int x, .int y, .int z, .int w] L := by
  intro Mq f o g hC hM hR
  have hI := hR.inv
  have hn8 : f 16 0 ≤ 8 := hI.gram.safe.1
  have hc20 : f 26 0 ≤ 20 := hI.tok.safe.1
  obtain ⟨emp, rk, hA0⟩ := hI.gram.acy
  have hA : Acyc (eAt f 16 26) (f 16 0) emp rk := hA0
  by_cases hx : 0 ≤ x.toInt ∧ x.toInt < f 16 0 ∧ 0 ≤ y.toInt ∧ y.toInt < f 18 x.toInt.toNat
  · obtain ⟨r, rfl, hr⟩ := i32_ex (x := x) hx.1
    obtain ⟨a, rfl, ha⟩ := i32_ex (x := y) hx.2.2.1
    have hra : a < f 18 r := by have h9 := hx.2.2.2; rw [hr, Int.toNat_natCast, ha] at h9; omega
    by_cases hz : z = -1
    · subst hz
      exact St.mk0 hC hM hR (by decide) (by decide) (c_itemM Mq f L hC hI r a (by omega) hra w) (m_itemM Mq o g hM (f 16 0) (f 17) (f 18) (f 19) (f 20) (f 21) (f 22) hR.rg hI.gram.safe hR.sf r a (by omega) hra w)
    · by_cases hz2 : 0 ≤ z.toInt ∧ z.toInt < f 19 (r * 4 + a)
      · obtain ⟨k, rfl, hk⟩ := i32_ex (x := z) hz2.1
        have hkk : k < f 19 (r * 4 + a) := by omega
        by_cases w0 : w = nI 0
        · subst w0
          exact St.mk0 hC hM hR (by decide) (by decide) (Zm.mono (c_itemOk Mq f L hC hI r a (by omega) hra k (nI 0) hkk) (Nat.le_refl _) (fun r M1 h => ⟨h.1.trans (by rw [if_pos rfl]), h.2⟩)) (m_item0 Mq o g hM (f 16 0) (f 17) (f 18) (f 19) (f 20) (f 21) (f 22) hR.rg hI.gram.safe hR.sf r a (by omega) hra k hkk)
        · by_cases w1 : w = nI 1
          · subst w1
            exact St.mk0 hC hM hR (by decide) (by decide) (Zm.mono (c_itemOk Mq f L hC hI r a (by omega) hra k (nI 1) hkk) (Nat.le_refl _) (fun r M1 h => ⟨h.1.trans (by rw [if_neg (by decide), if_pos rfl]), h.2⟩)) (m_item1 Mq o g hM (f 16 0) (f 17) (f 18) (f 19) (f 20) (f 21) (f 22) hR.rg hI.gram.safe hR.sf r a (by omega) hra k hkk)
          · by_cases w2 : w = nI 2
            · subst w2
              exact St.mk0 hC hM hR (by decide) (by decide) (Zm.mono (c_itemOk Mq f L hC hI r a (by omega) hra k (nI 2) hkk) (Nat.le_refl _) (fun r M1 h => ⟨h.1.trans (by rw [if_neg (by decide), if_neg (by decide), if_pos rfl]), h.2⟩)) (m_item2 Mq o g hM (f 16 0) (f 17) (f 18) (f 19) (f 20) (f 21) (f 22) hR.rg hI.gram.safe hR.sf r a (by omega) hra k hkk)
            · exact St.mk0 hC hM hR (by decide) (by decide) (Zm.mono (c_itemOk Mq f L hC hI r a (by omega) hra k w hkk) (Nat.le_refl _) (fun r M1 h => ⟨h.1.trans (by rw [if_neg w0, if_neg w1, if_neg w2]), h.2⟩)) (m_itemD Mq o g hM (f 16 0) (f 17) (f 18) (f 19) (f 20) (f 21) (f 22) hR.rg hI.gram.safe hR.sf r a (by omega) hra k w hkk (fun q9 => by obtain ⟨j, rfl, hj⟩ := i32_ex q9.1; rcases (show j = 0 ∨ j = 1 ∨ j = 2 by omega) with rfl | rfl | rfl; exact w0 rfl; exact w1 rfl; exact w2 rfl))
      · exact St.mk0 hC hM hR (by decide) (by decide) (c_itemK Mq f L hC hI r a (by omega) hra z w hz hz2) (m_itemK Mq o g hM (f 16 0) (f 17) (f 18) (f 19) (f 20) (f 21) (f 22) hR.rg hI.gram.safe hR.sf r a (by omega) hra z w hz hz2)
  · exact St.mk0 hC hM hR (by decide) (by decide) (c_itemNo Mq f L hC hI x y z w hx) (m_itemNo Mq o g hM (f 16 0) (f 17) (f 18) (f 19) (f 20) (f 21) (f 22) hR.rg hI.gram.safe hR.sf x y z w hx)

set_option maxHeartbeats 2000000 in
set_option maxRecDepth 20000 in
theorem st_first (L : Nat) (hL1 : 240 < L) (hL : L < 100000) (x w : Int32) : St zm_CG_first zm_MO_first [.int x, .int w] L := by
  intro Mq f o g hC hM hR
  have hI := hR.inv
  have hn8 : f 16 0 ≤ 8 := hI.gram.safe.1
  have hc20 : f 26 0 ≤ 20 := hI.tok.safe.1
  obtain ⟨emp, rk, hA0⟩ := hI.gram.acy
  have hA : Acyc (eAt f 16 26) (f 16 0) emp rk := hA0
  by_cases hx : ¬ (0 ≤ x.toInt ∧ x.toInt < f 16 0) ∨ w.toInt < -1
  · exact St.mk0 hC hM hR (by decide) (by decide) (c_firstNo Mq f L hC hI x w hx) (m_firstNo Mq o g hM (f 16 0) hR.rg.1 hn8 x w hx)
  · have hx1 : 0 ≤ x.toInt ∧ x.toInt < f 16 0 := Classical.not_not.mp (fun q => hx (Or.inl q))
    have hx2 : -1 ≤ w.toInt := by have h9 : ¬ w.toInt < -1 := fun q => hx (Or.inr q); omega
    obtain ⟨r, rfl, hr⟩ := i32_ex (x := x) hx1.1
    refine St.mk1 (dM := 98) (f := f) hM (by decide) (Nat.le_refl _) (c_firstOk Mq f L hC hI r w (by omega) hx2) (fun r9 M1 hp => ?_)
    obtain ⟨rfl, f9, h1, h2, h3, h4⟩ := hp
    refine ⟨_, f9, rfl, h1, h3, fun hM1 => Zm.mono (m_firstOk M1 o g hM1 (f 16 0) (f 17) (f 18) (f 19) (f 20) (f 21) (f 22) hR.rg hI.gram.safe hR.sf (f 26 0) (f 27) (f 28) (f 29) hR.rt hI.tok.safe emp rk hA hR.s4 hR.s5 hR.b63 (br_wh hA hR.lb) r w (by omega) hx2) (by decide) (fun r8 M2 hq => ?_)⟩
    obtain ⟨rfl, BG, q1, q2, q3⟩ := hq
    exact ⟨congrArg (fun Q => some (Value.int (fsV Q w 94 33 0))) (fsQ_cg hA.1 hR.fr r), _, _, _, q1, q2, by decide, hR.keep (h2.mono (Nat.le_succ _)) h4 rfl rfl rfl (fun a ha => fset_n (fun q => by rw [q] at ha; revert ha; decide)) hR.sf hR.b61 hR.b62 q3⟩

set_option maxHeartbeats 2000000 in
set_option maxRecDepth 20000 in
theorem st_write (L : Nat) (hL1 : 240 < L) (hL : L < 100000) : St zm_CG_write zm_MO_write [] L := by
  intro Mq f o g hC hM hR
  have hI := hR.inv
  have hn8 : f 16 0 ≤ 8 := hI.gram.safe.1
  have hc20 : f 26 0 ≤ 20 := hI.tok.safe.1
  obtain ⟨emp, rk, hA0⟩ := hI.gram.acy
  have hA : Acyc (eAt f 16 26) (f 16 0) emp rk := hA0
  by_cases hx : f 16 0 = 0
  · exact St.mk0 hC hM hR (by decide) (by decide) (c_writeNo Mq f L hC hI hx) (m_writeNo Mq o g hM (f 16 0) (f 17) (f 18) (f 19) (f 20) (f 21) (f 22) hR.rg hI.gram.safe hR.sf hx)
  · refine St.mk1 (dM := 98) (f := f) hM (by decide) (Nat.le_refl _) (c_writeOk Mq f L hC hI (by omega)) (fun r9 M1 hp => ?_)
    obtain ⟨rfl, f9, h1, h2, h3, h4, h5⟩ := hp
    refine ⟨_, f9, rfl, h1, h2, fun hM1 => Zm.mono (m_writeOk M1 o g hM1 (f 16 0) (f 17) (f 18) (f 19) (f 20) (f 21) (f 22) hR.rg hI.gram.safe hR.sf (by omega) hI.gram.al1 (fun r _ => hI.gram.safe.2.1 r) (fun x _ => ⟨hI.gram.safe.2.2.2.2.1 x, hI.gram.safe.2.2.2.2.2.2 x⟩)) (by decide) (fun r8 M2 hq => ?_)⟩
    obtain ⟨rfl, n9, g9, q1, q2, q3, q4⟩ := hq
    exact ⟨rfl, _, _, _, q1, q2, by decide, hR.line h3 h5 h4 q3⟩

set_option maxHeartbeats 2000000 in
set_option maxRecDepth 20000 in
theorem st_print (L : Nat) (hL1 : 240 < L) (hL : L < 100000) : St zm_CG_print zm_MO_print [] L := by
  intro Mq f o g hC hM hR
  have hI := hR.inv
  have hn8 : f 16 0 ≤ 8 := hI.gram.safe.1
  have hc20 : f 26 0 ≤ 20 := hI.tok.safe.1
  obtain ⟨emp, rk, hA0⟩ := hI.gram.acy
  have hA : Acyc (eAt f 16 26) (f 16 0) emp rk := hA0
  refine St.mk1 (dM := 98) (f := f) hM (by decide) (Nat.le_refl _) (c_print Mq f L hC hI) (fun r9 M1 hp => ?_)
  obtain ⟨rfl, f9, h1, h2, h3, h4, h5⟩ := hp
  refine ⟨_, f9, rfl, h1, h2, fun hM1 => Zm.mono (m_print M1 o g hM1 (f 26 0) (f 27) (f 28) (f 29) hR.rt hI.tok.safe hI.tok.srt (fun q hq => by have h9 := (hI.tok.sgn q hq).2; show f 27 q < 128; exact Nat.lt_of_le_of_lt h9 (by decide))) (by decide) (fun r8 M2 hq => ?_)⟩
  obtain ⟨rfl, n9, g9, q1, q2, q3, q4⟩ := hq
  exact ⟨rfl, _, _, _, q1, q2, by decide, hR.line h3 h5 h4 q3⟩

set_option maxHeartbeats 2000000 in
set_option maxRecDepth 20000 in
theorem st_free (L : Nat) (hL1 : 240 < L) (hL : L < 100000) (x : Int32) : St zm_CG_free zm_MO_free [.int x] L := by
  intro Mq f o g hC hM hR
  have hI := hR.inv
  have hn8 : f 16 0 ≤ 8 := hI.gram.safe.1
  have hc20 : f 26 0 ≤ 20 := hI.tok.safe.1
  obtain ⟨emp, rk, hA0⟩ := hI.gram.acy
  have hA : Acyc (eAt f 16 26) (f 16 0) emp rk := hA0
  by_cases hx : 0 ≤ x.toInt ∧ x.toInt < f 16 0
  · obtain ⟨k, rfl, hk⟩ := i32_ex (x := x) hx.1
    exact St.mk0 hC hM hR (by decide) (by decide) (Zm.mono (c_free Mq f L hC hI (nI k)) (Nat.le_refl _) (fun r M1 h => ⟨h.1.trans (by rw [if_pos hx, hk, Int.toNat_natCast]), h.2⟩)) (Zm.mono (m_freeOk Mq o g hM (f 16 0) hR.rg.1 hn8 k (by omega)) (Nat.le_refl _) (fun r M1 h => ⟨h.1.trans (by rw [hR.fr k (by omega)]), h.2⟩))
  · exact St.mk0 hC hM hR (by decide) (by decide) (Zm.mono (c_free Mq f L hC hI x) (Nat.le_refl _) (fun r M1 h => ⟨h.1.trans (by rw [if_neg hx]), h.2⟩)) (m_freeNo Mq o g hM (f 16 0) hR.rg.1 hn8 x hx)

set_option maxHeartbeats 2000000 in
set_option maxRecDepth 20000 in
theorem st_token (L : Nat) (hL1 : 240 < L) (hL : L < 100000) (x w : Int32) : St zm_CG_token zm_MO_token [.int x, .int w] L := by
  intro Mq f o g hC hM hR
  have hI := hR.inv
  have hn8 : f 16 0 ≤ 8 := hI.gram.safe.1
  have hc20 : f 26 0 ≤ 20 := hI.tok.safe.1
  obtain ⟨emp, rk, hA0⟩ := hI.gram.acy
  have hA : Acyc (eAt f 16 26) (f 16 0) emp rk := hA0
  by_cases hx : 0 ≤ x.toInt ∧ x.toInt < f 26 0
  · obtain ⟨k, rfl, hk⟩ := i32_ex (x := x) hx.1
    exact St.mk0 hC hM hR (by decide) (by decide) (Zm.mono (c_token Mq f L hC hI (nI k) w) (Nat.le_refl _) (fun r M1 h => ⟨h.1.trans (by rw [if_pos hx, hk, Int.toNat_natCast]), h.2⟩)) (m_tokenOk Mq o g hM (f 26 0) (f 27) (f 28) (f 29) hR.rt hI.tok.safe k w (by omega))
  · exact St.mk0 hC hM hR (by decide) (by decide) (Zm.mono (c_token Mq f L hC hI x w) (Nat.le_refl _) (fun r M1 h => ⟨h.1.trans (by rw [if_neg hx]), h.2⟩)) (m_tokenNo Mq o g hM (f 26 0) (f 27) (f 28) (f 29) hR.rt hI.tok.safe x w hx)

set_option maxHeartbeats 2000000 in
set_option maxRecDepth 20000 in
theorem st_letter (L : Nat) (hL1 : 240 < L) (hL : L < 100000) (x : Int32) : St zm_CG_letter zm_MO_letter [.int x] L := by
  intro Mq f o g hC hM hR
  have hI := hR.inv
  have hn8 : f 16 0 ≤ 8 := hI.gram.safe.1
  have hc20 : f 26 0 ≤ 20 := hI.tok.safe.1
  obtain ⟨emp, rk, hA0⟩ := hI.gram.acy
  have hA : Acyc (eAt f 16 26) (f 16 0) emp rk := hA0
  by_cases hx : 0 ≤ x.toInt ∧ x.toInt < f 92 0
  · obtain ⟨k, rfl, hk⟩ := i32_ex (x := x) hx.1
    exact St.mk0 hC hM hR (by decide) (by decide) (Zm.mono (c_letter Mq f L hC hI (nI k)) (Nat.le_refl _) (fun r M1 h => ⟨h.1.trans (by rw [if_pos hx, hk, Int.toNat_natCast]), h.2⟩)) (Zm.mono (m_letterOk Mq o g hM (by rw [hR.ln]; have h9 := hI.lln; omega) k (by rw [hR.ln]; omega)) (Nat.le_refl _) (fun r M1 h => ⟨h.1.trans (by rw [hR.lt k (by omega)]), h.2⟩))
  · exact St.mk0 hC hM hR (by decide) (by decide) (Zm.mono (c_letter Mq f L hC hI x) (Nat.le_refl _) (fun r M1 h => ⟨h.1.trans (by rw [if_neg hx]), h.2⟩)) (m_letterNo Mq o g hM (by rw [hR.ln]; have h9 := hI.lln; omega) x (by rw [hR.ln]; exact hx))

set_option maxHeartbeats 2000000 in
set_option maxRecDepth 20000 in
theorem st_count (L : Nat) (hL1 : 240 < L) (hL : L < 100000) (w : Int32) : St zm_CG_count zm_MO_count [.int w] L := by
  intro Mq f o g hC hM hR
  have hI := hR.inv
  have hn8 : f 16 0 ≤ 8 := hI.gram.safe.1
  have hc20 : f 26 0 ≤ 20 := hI.tok.safe.1
  obtain ⟨emp, rk, hA0⟩ := hI.gram.acy
  have hA : Acyc (eAt f 16 26) (f 16 0) emp rk := hA0
  exact St.mk0 hC hM hR (by decide) (by decide) (c_count Mq f L hC hI w) (Zm.mono (m_count Mq o g hM (f 16 0) hR.rg.1 (f 26 0) (f 27) (f 28) (f 29) hR.rt hI.tok.safe w) (Nat.le_refl _) (fun r M1 h => ⟨h.1.trans (by rw [hR.len, hR.ln, hR.un]), h.2⟩))
