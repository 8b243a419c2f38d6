/-! THE LAW: the tables at its start, its constructors' calls, its switch -/
set_option maxHeartbeats 4000000 in
theorem lw_Cx {s : State} {args : Array Value} (hts : ∀ w ∈ lw_tbl, w.before args s = true) : ∃ (D : va_G) (ca : Nat → ClassId), z_Cx D ca s := by
  have hg : ∀ w ∈ zG, w.before args s = true := fun w hw => hts w (List.mem_filter.mp hw).1
  obtain ⟨c0, iS0, h0⟩ := u_known (C := z_C0) (T := z_T0) (N := 5) (n := 5) hg z_in0 (hts _ (List.mem_of_getElem? (i := 301) (by decide +kernel)))
  obtain ⟨c1, iS1, h1⟩ := u_known (C := z_C1) (T := z_T1) (N := 6) (n := 6) hg z_in1 (hts _ (List.mem_of_getElem? (i := 147) (by decide +kernel)))
  obtain ⟨c2, iS2, h2⟩ := u_known (C := z_C2) (T := z_T2) (N := 3) (n := 3) hg z_in2 (hts _ (List.mem_of_getElem? (i := 382) (by decide +kernel)))
  obtain ⟨c3, iS3, h3⟩ := u_known (C := z_C3) (T := z_T3) (N := 3) (n := 3) hg z_in3 (hts _ (List.mem_of_getElem? (i := 401) (by decide +kernel)))
  obtain ⟨c4, iS4, h4⟩ := u_known (C := z_C4) (T := z_T4) (N := 3) (n := 3) hg z_in4 (hts _ (List.mem_of_getElem? (i := 437) (by decide +kernel)))
  obtain ⟨c5, iS5, h5⟩ := u_known (C := z_C5) (T := z_T5) (N := 2) (n := 2) hg z_in5 (hts _ (List.mem_of_getElem? (i := 421) (by decide +kernel)))
  obtain ⟨c6, iS6, h6⟩ := u_known (C := z_C6) (T := z_T6) (N := 5) (n := 5) hg z_in6 (hts _ (List.mem_of_getElem? (i := 360) (by decide +kernel)))
  obtain ⟨c7, iS7, h7⟩ := u_known (C := z_C7) (T := z_T7) (N := 4) (n := 4) hg z_in7 (hts _ (List.mem_of_getElem? (i := 460) (by decide +kernel)))
  obtain ⟨c8, iS8, h8⟩ := u_known (C := z_C8) (T := z_T8) (N := 11) (n := 11) hg z_in8 (hts _ (List.mem_of_getElem? (i := 153) (by decide +kernel)))
  obtain ⟨c9, iS9, h9⟩ := u_known (C := z_C9) (T := z_T9) (N := 4) (n := 4) hg z_in9 (hts _ (List.mem_of_getElem? (i := 265) (by decide +kernel)))
  obtain ⟨c10, iS10, h10⟩ := u_known (C := z_C10) (T := z_T10) (N := 8) (n := 8) hg z_in10 (hts _ (List.mem_of_getElem? (i := 328) (by decide +kernel)))
  obtain ⟨c11, iS11, h11⟩ := u_known (C := z_C11) (T := z_T11) (N := 18) (n := 18) hg z_in11 (hts _ (List.mem_of_getElem? (i := 139) (by decide +kernel)))
  obtain ⟨c12, iS12, h12⟩ := u_known (C := z_C12) (T := z_T12) (N := 50) (n := 50) hg z_in12 (hts _ (List.mem_of_getElem? (i := 1216) (by decide +kernel)))
  obtain ⟨a0, ka0, co0, fa0, ga0, qa0⟩ := Cond.arrayClass_spec (type := .int) (hts _ (List.mem_of_getElem? (i := 240) (by decide +kernel)))
  obtain ⟨a1, ka1, co1, fa1, ga1, qa1⟩ := Cond.arrayClass_spec (type := .long) (hts _ (List.mem_of_getElem? (i := 241) (by decide +kernel)))
  obtain ⟨a2, ka2, co2, fa2, ga2, qa2⟩ := Cond.arrayClass_spec (type := .byte) (hts _ (List.mem_of_getElem? (i := 1373) (by decide +kernel)))
  obtain ⟨a3, ka3, co3, fa3, ga3, qa3⟩ := Cond.arrayClass_spec (type := .boolean) (hts _ (List.mem_of_getElem? (i := 1372) (by decide +kernel)))
  obtain ⟨co4, a4, ka4, fc4, -, ga4, qa4, fa4⟩ := Cond.arrayOver_spec (n := "ColumnGrammar$Tokens") (hts _ (List.mem_of_getElem? (i := 407) (by decide +kernel)))
  obtain ⟨co5, a5, ka5, fc5, -, ga5, qa5, fa5⟩ := Cond.arrayOver_spec (n := "ColumnGrammar$Kept") (hts _ (List.mem_of_getElem? (i := 436) (by decide +kernel)))
  refine ⟨(fun k => match k with | 0 => c0 | 1 => c1 | 2 => c2 | 3 => c3 | 4 => c4 | 5 => c5 | 6 => c6 | 7 => c7 | 8 => c8 | 9 => c9 | 10 => c10 | 11 => c11 | _ => c12, fun k => match k with | 0 => iS0 | 1 => iS1 | 2 => iS2 | 3 => iS3 | 4 => iS4 | 5 => iS5 | 6 => iS6 | 7 => iS7 | 8 => iS8 | 9 => iS9 | 10 => iS10 | 11 => iS11 | _ => iS12), fun k => match k with | 0 => a0 | 1 => a1 | 2 => a2 | 3 => a3 | 4 => a4 | _ => a5, ⟨fun k q hq => ?_, fun k q hq => ?_⟩, fun w hw => ?_, ?_, ?_⟩
  · match k, hq with
    | 0, hq => cases hq; exact h0
    | 1, hq => cases hq; exact h1
    | 2, hq => cases hq; exact h2
    | 3, hq => cases hq; exact h3
    | 4, hq => cases hq; exact h4
    | 5, hq => cases hq; exact h5
    | 6, hq => cases hq; exact h6
    | 7, hq => cases hq; exact h7
    | 8, hq => cases hq; exact h8
    | 9, hq => cases hq; exact h9
    | 10, hq => cases hq; exact h10
    | 11, hq => cases hq; exact h11
    | 12, hq => cases hq; exact h12
    | k + 13, hq => simp [z_cl] at hq
  · match k, hq with
    | 0, hq => cases hq; exact ⟨fun n z => ⟨fun k h => (by cases h), ka0, ga0, co0, qa0⟩, fa0⟩
    | 1, hq => cases hq; exact ⟨fun n z => ⟨fun k h => (by cases h), ka1, ga1, co1, qa1⟩, fa1⟩
    | 2, hq => cases hq; exact ⟨fun n z => ⟨fun k h => (by cases h), ka2, ga2, co2, qa2⟩, fa2⟩
    | 3, hq => cases hq; exact ⟨fun n z => ⟨fun k h => (by cases h), ka3, ga3, co3, qa3⟩, fa3⟩
    | 4, hq => cases hq; exact ⟨fun n z => ⟨fun k h => (by cases h), ka4, ga4, co4, qa4⟩, ka4, co4, ga4, qa4, fc4, fa4⟩
    | 5, hq => cases hq; exact ⟨fun n z => ⟨fun k h => (by cases h), ka5, ga5, co5, qa5⟩, ka5, co5, ga5, qa5, fc5, fa5⟩
    | k + 6, hq => simp [z_tys] at hq
  · obtain ⟨q1, q2, q3, q4, rfl⟩ := zN_all w hw
    exact va_Nw.of rfl (hts _ (zN_in _ hw))
  · exact va_AO.of (hts _ (List.mem_of_getElem? (i := 407) (by decide +kernel)))
  · exact va_AO.of (hts _ (List.mem_of_getElem? (i := 436) (by decide +kernel)))
section LWI
variable {p : Program} {l : Launch} {e : Env} {s : State} {m : MethodId} {below : List Frame} {meth : Method} {c : Code} {H : Heap} {locs : List Loc} {cells slots : Nat} {Q : State → Prop} {b : Nat} {N0 : Nat} {D : va_G} {ca : Nat → ClassId}
set_option maxHeartbeats 4000000 in
theorem lw_callI (X : lwX p s m c b D ca) {y : zY} {n d ix pc a i1 i2 k1 k2 : Nat} {M M1 : zM} {rls : Array Slot} {rest : List Value}
    (hy : z_good zprog y) (hgo : z_go zprog n d y 0 (z_ent y [.ref a]) [] M = some (none, M1)) (hd : d ≤ 100) (hargs : Nat.ble (z_args [.ref a]).length y.2.2.1 = true) (hnn : 0 = y.2.2.2.2.1) (hrn : y.2.2.2.1 = none) (hnm : y.1.name = "<init>")
    (h1 : lw_tbl[i1]? = some (Cond.methodLink "ColumnGrammarLaw" ix y.1)) (h2 : lw_tbl[i2]? = some (Cond.instanceMethod y.1))
    (hH : z_H N0 D ca M H) (hS : va_S (z_A N0) s.heap H locs) (hN : N0 = s.heap.size) (hc : cells = M.length) (hrls : rls.size = 7) (hcat : z_cat rest ≤ 8) (hdg : decode code pc = .ok (.invokespecial ix, 3))
    (e1 : cells + (M1.length - M.length) = k1) (e2 : slots + (z_sz M1 - z_sz M) ≤ k2) (hR1 : k1 ≤ 601024) (hR2 : k2 ≤ 7293034)
    (kk : ∀ (H1 : Heap) (locs1 : List Loc), z_H N0 D ca M1 H1 → va_S (z_A N0) s.heap H1 locs1 → W p l e room_1 s m #[Value.ref b] below meth c H1 locs1 k1 k2 Q (F0 m (pc + 3) rls (rest.map (z_v N0)))) :
    W p l e room_1 s m #[Value.ref b] below meth c H locs cells slots Q (F0 m pc rls (.ref (N0 + a) :: rest.map (z_v N0))) := by
  have hts := X.zg
  obtain ⟨hx, hb, hml, hown, hta, hC⟩ := X
  have hM := z_met zprog_ok l hy (Nat.le_of_ble_eq_true hargs) hgo N0 D ca
  have hG := z_goodIn hy
  have hroom : (z_rm d (M1.length - M.length) (z_sz M1 - z_sz M)).frames + 1 ≤ room_1.frames ∧ 8 + (y.2.2.1 + 11) + (z_rm d (M1.length - M.length) (z_sz M1 - z_sz M)).locals ≤ room_1.locals := by
    have h9 := hy.2.2.2.2.1
    refine ⟨?_, ?_⟩
    · show d + 1 ≤ 2048; omega
    · show 8 + (y.2.2.1 + 11) + 64 * d ≤ 84000; omega
  refine z_size hH (by omega) (by omega) (fun hz => ?_)
  have hPre : ∀ U : State, U.heap = H → s.WarmedH U.vm → z_Pc N0 D ca [.ref a] M M1 (([Value.ref a]).map (z_v N0)).toArray U := fun U hU hW => ⟨rfl, by rw [hU]; exact hH, Or.inr (by rw [hU]; exact hz), hC.moved hW⟩
  have hini : (Cond.initialized y.1.cls).before #[Value.ref b] s = true := hts _ (z_g hy.2.1 rfl)
  have hfit : cells + (M1.length - M.length) ≤ room_1.cells ∧ slots + (z_sz M1 - z_sz M) ≤ room_1.slots := by
    refine ⟨?_, ?_⟩
    · show _ ≤ 601024; omega
    · show _ ≤ 7293034; omega
  have hfix : CallFix p m c code 7 s #[Value.ref b] zG "ColumnGrammarLaw" := ⟨hx, hb, hml, hown, hts⟩
  have hlink : (Cond.methodLink "ColumnGrammarLaw" ix y.1).before #[Value.ref b] s = true := hts _ (z_gi _ h1 rfl)
  have hins : (Cond.instanceMethod y.1).before #[Value.ref b] s = true := hts _ (z_gi _ h2 rfl)
  have hct : 2 * (F0 m pc rls (.ref (N0 + a) :: rest.map (z_v N0))).monitorRoom + ((rest.map (z_v N0)).map fun v => v.category).sum ≤ 8 := lv_room (by rw [z_cat_map]; exact hcat)
  refine z_call (va_runI (As := []) (b := N0 + a) (rest := rest.map (z_v N0)) hfix hM ⟨callB_of y.2.2.2.2.1 hts hG (by unfold z_wds; rw [hrn]) rfl rfl hini hlink hy.2.2.1 hroom, hnm, hins⟩ ⟨z_blind, hPre⟩ rfl hnn hrls rfl hct hdg hfit) hS (fun H1 locs1 hH1 hS9 => ?_)
  rw [e1]
  exact W.widen (Nat.le_refl _) e2 (kk H1 locs1 hH1 hS9)
end LWI
theorem and63 (x : Int32) : ∃ k : Nat, k < 64 ∧ x &&& 63 = nI k := by
  have h1 : ((x &&& 63).toBitVec).toNat ≤ 63 := by
    rw [Int32.toBitVec_and, BitVec.toNat_and]
    exact Nat.and_le_right
  have h2 : (x &&& 63).toInt = (((x &&& 63).toBitVec).toNat : Int) := BitVec.toInt_eq_toNat_of_lt (by omega)
  have h3 := i32_nat (x := x &&& 63) (by omega)
  exact ⟨_, by omega, h3⟩
theorem lw_in {i L : Nat} (hL : L ≤ 2560) (hi : i + 5 ≤ L) (j : Int32) (h0 : 0 ≤ j.toInt) (h5 : j.toInt < 5) : vp_in (nI i + j) L := by
  obtain ⟨k, rfl, hk⟩ := i32_ex h0
  rw [nI_add]
  have h9 : (nI (i + k)).toInt = ((i + k : Nat) : Int) := nI_toInt (by omega)
  exact nI_in (by omega) (by omega)
theorem lw_le {i L : Nat} (hL : L ≤ 2560) (hi : i ≤ L + 5) (h : ¬ Int32.ofNat L - 5 < nI i) : i + 5 ≤ L := by
  have h1 : (nI i).toInt = (i : Int) := nI_toInt (by omega)
  have h2 : (Int32.ofNat L).toInt = (L : Int) := nI_toInt (n := L) (by omega)
  have h3 : (Int32.ofNat L - 5).toInt = (L : Int) - 5 := by
    rw [Int32.toInt_sub, h2]
    have : (5 : Int32).toInt = 5 := rfl
    rw [this]
    exact Int.bmod_eq_of_le (by omega) (by omega)
  rw [Int32.lt_iff_toInt_lt, h1, h3] at h
  omega
