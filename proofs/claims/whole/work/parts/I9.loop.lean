/-! THE LAW: its loop, its start -/
theorem lwS.mono {N0 K K2 : Nat} {D : va_G} {ca : Nat → ClassId} {M : zM} {H : Heap} (h : lwS N0 D ca K M H) (hk : K ≤ K2) : lwS N0 D ca K2 M H := by
  obtain ⟨h1, h2, f, o, g, h3, h4, h5⟩ := h
  exact ⟨h1, h2, f, o, g, h3, h4, h5.mono hk⟩
theorem ck_new8 (nm : String) : z_ckm "ColumnGrammarLaw" nm (.new 8) [11, 138, 139, 117] = true := by
  have h : z_ckm "ColumnGrammarLaw" "" (.new 8) [11, 138, 139, 117] = true := by decide +kernel
  exact h
theorem ck_new16 (nm : String) : z_ckm "ColumnGrammarLaw" nm (.new 16) [12, 1215, 1216, 129] = true := by
  have h : z_ckm "ColumnGrammarLaw" "" (.new 16) [12, 1215, 1216, 129] = true := by decide +kernel
  exact h
theorem ck_newl (nm : String) : z_ckm "ColumnGrammarLaw" nm (.newarray .long) [1, 241] = true := by
  have h : z_ckm "ColumnGrammarLaw" "" (.newarray .long) [1, 241] = true := by decide +kernel
  exact h
theorem nI_5 (i : Nat) : nI i + Int32.ofInt 5 = nI (i + 5) := by
  rw [show Int32.ofInt 5 = nI 5 from by decide, nI_add]
set_option maxHeartbeats 4000000 in
set_option maxRecDepth 100000 in
theorem lw_loop {p : Program} {l : Launch} {e : Env} {s : State} {m : MethodId} {below : List Frame} {meth : Method} {c : Code} {b L : Nat} {N0 : Nat} {D : va_G} {ca : Nat → ClassId} {xs : Nat → Int32} (hflags : l.flags = flags0) (X : lwX p s m c b D ca) (hX : va_X b L xs s s.heap) (hbl : b < s.heap.size) (hN : N0 = s.heap.size) (hL : L ≤ 2560) (hr : meth.sig.returnType = ret) (hlocks : meth.locks = false) (hgv : (Jvm.Cond.and given_1 narrow_1).before #[Value.ref b] s = true) : ∀ (n i : Nat), i ≤ L + 5 → L + 10 - i < n → ∀ (M : zM) (H : Heap) (locs : List Loc) (ls : Array Slot), lwS N0 D ca (300 + i) M H → va_S (z_A N0) s.heap H locs → lv_has ls 7 [(0, .ref b), (1, .ref (N0 + 0)), (2, .ref (N0 + 139)), (3, .ref (N0 + 177)), (4, .int (nI i))] → W p l e room_1 s m #[Value.ref b] below meth c H locs (178 + i) (300000 + 6 * i) (lw_Z below #[Value.ref b] s) (F0 m 23 ls []) := by
  obtain ⟨hx, hb, hml, hown, hta, hCx⟩ := id X
  have hbA : ¬ z_A N0 b := by rw [hN]; exact Nat.not_le.mpr hbl
  intro n
  induction n with
  | zero => intro i _ h; exact absurd h (Nat.not_lt_zero _)
  | succ n ih =>
    intro i hi hn M H locs ls hs0 hS hl
    refine lv_iload hx hb d_law_23 (lv_at hl 4 rfl) ?_
    refine lv_aload_n hx hb d_law_25 rfl (lv_at hl 0 rfl) ?_
    refine va_slen hx hb hX hbl hbA hS d_law_26 ?_
    refine lv_iconst (v := 5) hx hb d_law_27 (by decide) ?_
    refine lv_isub hx hb d_law_28 ?_
    refine lv_icmp_gt (tgt := 1314) hx hb d_law_29 (by decide) (fun q => ?_) (fun q => ?_)
    · refine lv_iconst (v := 1) hx hb d_law_1314 (by decide) ?_
      refine va_forget (fun q hq => by have h9 : N0 ≤ q.base := hS.2.2 q hq; omega) ?_
      refine W.widen (k := 601024) (n := 7293034) (by omega) (by omega) ?_
      exact lw_ret hx hb hr hlocks d_law_1315
    · have hi5 := lw_le hL hi q
      have hin := lw_in hL hi5
      have cont : ∀ (M1 : zM) (H1 : Heap) (locs1 : List Loc) (ls1 : Array Slot), lv_has ls1 7 [(0, .ref b), (1, .ref (N0 + 0)), (2, .ref (N0 + 139)), (3, .ref (N0 + 177)), (4, .int (nI i))] → lwS N0 D ca (300 + i + 1) M1 H1 → va_S (z_A N0) s.heap H1 locs1 → W p l e room_1 s m #[Value.ref b] below meth c H1 locs1 (178 + i + 1) (300000 + 6 * i + 6) (lw_Z below #[Value.ref b] s) (F0 m 1308 ls1 []) := by
        intro M1 H1 locs1 ls1 hl1 hs1 hS1
        refine lv_iinc (v := nI (i + 5)) (lv' := [(4, .int (nI (i + 5))), (0, .ref b), (1, .ref (N0 + 0)), (2, .ref (N0 + 139)), (3, .ref (N0 + 177))]) hx hb d_law_1308 hl1 (k := 4) rfl (nI_5 i) (by decide) rfl (fun ls2 hl2 => ?_)
        refine lv_goto (tgt := 23) hx hb d_law_1311 (by decide) ?_
        refine W.widen (k := 178 + (i + 5)) (n := 300000 + 6 * (i + 5)) (by omega) (by omega) ?_
        exact ih (i + 5) (by omega) (by omega) M1 H1 locs1 ls2 (hs1.mono (by omega)) hS1 (lv_sub hl2 [1, 2, 3, 4, 0] rfl)
      refine lv_aload_n hx hb d_law_32 rfl (lv_at hl 0 rfl) ?_
      refine lv_iload hx hb d_law_33 (lv_at hl 4 rfl) ?_
      refine va_sld hx hb hX hbl hbA hS (nI_in (by omega) (by omega)) d_law_35 ?_
      refine lv_bipush (v := 63) hx hb d_law_36 (by decide) ?_
      refine lv_iand hx hb d_law_38 ?_
      obtain ⟨k, hk, ek⟩ := and63 (xs (nI i).toNatClampNeg)
      rw [ek]
      rcases (show k = 0 ∨ k = 1 ∨ k = 2 ∨ k = 3 ∨ k = 4 ∨ k = 5 ∨ k = 6 ∨ k = 7 ∨ k = 8 ∨ k = 9 ∨ k = 10 ∨ k = 11 ∨ k = 12 ∨ k = 13 ∨ k = 14 ∨ k = 15 ∨ k = 16 ∨ k = 17 ∨ k = 18 ∨ k = 19 ∨ k = 20 ∨ k = 21 ∨ k = 22 ∨ k = 23 ∨ k = 24 ∨ k = 25 ∨ k = 26 ∨ k = 27 ∨ k = 28 ∨ k = 29 ∨ k = 30 ∨ k = 31 ∨ k = 32 ∨ k = 33 ∨ k = 34 ∨ k = 35 ∨ k = 36 ∨ k = 37 ∨ 37 < k by omega) with rfl | rfl | rfl | rfl | rfl | rfl | rfl | rfl | rfl | rfl | rfl | rfl | rfl | rfl | rfl | rfl | rfl | rfl | rfl | rfl | rfl | rfl | rfl | rfl | rfl | rfl | rfl | rfl | rfl | rfl | rfl | rfl | rfl | rfl | rfl | rfl | rfl | rfl | hk37
      · refine lv_tableIn (off := 165) (tgt := 204) hx hb d_law_39 (by decide) (by decide) (by decide) (by decide) ?_
        exact lw_case0 X hX hbl hN (by omega) (by omega) hin (by omega) (by omega) hl hs0 hS (fun M1 H1 locs1 a1 a2 => W.widen (by omega) (by omega) (cont M1 H1 locs1 ls hl a1 a2))
      · refine lv_tableIn (off := 190) (tgt := 229) hx hb d_law_39 (by decide) (by decide) (by decide) (by decide) ?_
        exact lw_case1 X hX hbl hN (by omega) (by omega) hin (by omega) (by omega) hl hs0 hS (fun M1 H1 locs1 a1 a2 => W.widen (by omega) (by omega) (cont M1 H1 locs1 ls hl a1 a2))
      · refine lv_tableIn (off := 215) (tgt := 254) hx hb d_law_39 (by decide) (by decide) (by decide) (by decide) ?_
        exact lw_case2 X hX hbl hN (by omega) (by omega) hin (by omega) (by omega) hl hs0 hS (fun M1 H1 locs1 a1 a2 => W.widen (by omega) (by omega) (cont M1 H1 locs1 ls hl a1 a2))
      · refine lv_tableIn (off := 228) (tgt := 267) hx hb d_law_39 (by decide) (by decide) (by decide) (by decide) ?_
        exact lw_case3 X hX hbl hN (by omega) (by omega) hin (by omega) (by omega) hl hs0 hS (fun M1 H1 locs1 a1 a2 => W.widen (by omega) (by omega) (cont M1 H1 locs1 ls hl a1 a2))
      · refine lv_tableIn (off := 241) (tgt := 280) hx hb d_law_39 (by decide) (by decide) (by decide) (by decide) ?_
        exact lw_case4 hflags hgv X hX hbl hN (by omega) (by omega) hin (by omega) (by omega) hl hs0 hS cont
      · refine lv_tableIn (off := 309) (tgt := 348) hx hb d_law_39 (by decide) (by decide) (by decide) (by decide) ?_
        exact lw_case5 X hX hbl hN (by omega) (by omega) hin (by omega) (by omega) hl hs0 hS (fun M1 H1 locs1 a1 a2 => W.widen (by omega) (by omega) (cont M1 H1 locs1 ls hl a1 a2))
      · refine lv_tableIn (off := 370) (tgt := 409) hx hb d_law_39 (by decide) (by decide) (by decide) (by decide) ?_
        exact lw_case6 X hX hbl hN (by omega) (by omega) hin (by omega) (by omega) hl hs0 hS (fun M1 H1 locs1 a1 a2 => W.widen (by omega) (by omega) (cont M1 H1 locs1 ls hl a1 a2))
      · refine lv_tableIn (off := 407) (tgt := 446) hx hb d_law_39 (by decide) (by decide) (by decide) (by decide) ?_
        exact lw_case7 X hX hbl hN (by omega) (by omega) hin (by omega) (by omega) hl hs0 hS (fun M1 H1 locs1 a1 a2 => W.widen (by omega) (by omega) (cont M1 H1 locs1 ls hl a1 a2))
      · refine lv_tableIn (off := 420) (tgt := 459) hx hb d_law_39 (by decide) (by decide) (by decide) (by decide) ?_
        exact lw_case8 X hX hbl hN (by omega) (by omega) hin (by omega) (by omega) hl hs0 hS (fun M1 H1 locs1 a1 a2 => W.widen (by omega) (by omega) (cont M1 H1 locs1 ls hl a1 a2))
      · refine lv_tableIn (off := 446) (tgt := 485) hx hb d_law_39 (by decide) (by decide) (by decide) (by decide) ?_
        exact lw_case9 X hX hbl hN (by omega) (by omega) hin (by omega) (by omega) hl hs0 hS (fun M1 H1 locs1 a1 a2 => W.widen (by omega) (by omega) (cont M1 H1 locs1 ls hl a1 a2))
      · refine lv_tableIn (off := 483) (tgt := 522) hx hb d_law_39 (by decide) (by decide) (by decide) (by decide) ?_
        exact lw_case10 X hX hbl hN (by omega) (by omega) hin (by omega) (by omega) hl hs0 hS (fun M1 H1 locs1 a1 a2 => W.widen (by omega) (by omega) (cont M1 H1 locs1 ls hl a1 a2))
      · refine lv_tableIn (off := 533) (tgt := 572) hx hb d_law_39 (by decide) (by decide) (by decide) (by decide) ?_
        exact lw_case11 X hX hbl hN (by omega) (by omega) hin (by omega) (by omega) hl hs0 hS (fun M1 H1 locs1 a1 a2 => W.widen (by omega) (by omega) (cont M1 H1 locs1 ls hl a1 a2))
      · refine lv_tableIn (off := 546) (tgt := 585) hx hb d_law_39 (by decide) (by decide) (by decide) (by decide) ?_
        exact lw_case12 X hX hbl hN (by omega) (by omega) hin (by omega) (by omega) hl hs0 hS (fun M1 H1 locs1 a1 a2 => W.widen (by omega) (by omega) (cont M1 H1 locs1 ls hl a1 a2))
      · refine lv_tableIn (off := 571) (tgt := 610) hx hb d_law_39 (by decide) (by decide) (by decide) (by decide) ?_
        exact lw_case13 X hX hbl hN (by omega) (by omega) hin (by omega) (by omega) hl hs0 hS (fun M1 H1 locs1 a1 a2 => W.widen (by omega) (by omega) (cont M1 H1 locs1 ls hl a1 a2))
      · refine lv_tableIn (off := 596) (tgt := 635) hx hb d_law_39 (by decide) (by decide) (by decide) (by decide) ?_
        exact lw_case14 X hX hbl hN (by omega) (by omega) hin (by omega) (by omega) hl hs0 hS (fun M1 H1 locs1 a1 a2 => W.widen (by omega) (by omega) (cont M1 H1 locs1 ls hl a1 a2))
      · refine lv_tableIn (off := 621) (tgt := 660) hx hb d_law_39 (by decide) (by decide) (by decide) (by decide) ?_
        exact lw_case15 X hX hbl hN (by omega) (by omega) hin (by omega) (by omega) hl hs0 hS (fun M1 H1 locs1 a1 a2 => W.widen (by omega) (by omega) (cont M1 H1 locs1 ls hl a1 a2))
      · refine lv_tableIn (off := 659) (tgt := 698) hx hb d_law_39 (by decide) (by decide) (by decide) (by decide) ?_
        exact lw_case16 X hX hbl hN (by omega) (by omega) hin (by omega) (by omega) hl hs0 hS (fun M1 H1 locs1 a1 a2 => W.widen (by omega) (by omega) (cont M1 H1 locs1 ls hl a1 a2))
      · refine lv_tableIn (off := 684) (tgt := 723) hx hb d_law_39 (by decide) (by decide) (by decide) (by decide) ?_
        exact lw_case17 X hX hbl hN (by omega) (by omega) hin (by omega) (by omega) hl hs0 hS (fun M1 H1 locs1 a1 a2 => W.widen (by omega) (by omega) (cont M1 H1 locs1 ls hl a1 a2))
      · refine lv_tableIn (off := 697) (tgt := 736) hx hb d_law_39 (by decide) (by decide) (by decide) (by decide) ?_
        exact lw_case18 X hX hbl hN (by omega) (by omega) hin (by omega) (by omega) hl hs0 hS (fun M1 H1 locs1 a1 a2 => W.widen (by omega) (by omega) (cont M1 H1 locs1 ls hl a1 a2))
      · refine lv_tableIn (off := 734) (tgt := 773) hx hb d_law_39 (by decide) (by decide) (by decide) (by decide) ?_
        exact lw_case19 X hX hbl hN (by omega) (by omega) hin (by omega) (by omega) hl hs0 hS (fun M1 H1 locs1 a1 a2 => W.widen (by omega) (by omega) (cont M1 H1 locs1 ls hl a1 a2))
      · refine lv_tableIn (off := 759) (tgt := 798) hx hb d_law_39 (by decide) (by decide) (by decide) (by decide) ?_
        exact lw_case20 X hX hbl hN (by omega) (by omega) hin (by omega) (by omega) hl hs0 hS (fun M1 H1 locs1 a1 a2 => W.widen (by omega) (by omega) (cont M1 H1 locs1 ls hl a1 a2))
      · refine lv_tableIn (off := 796) (tgt := 835) hx hb d_law_39 (by decide) (by decide) (by decide) (by decide) ?_
        exact lw_case21 X hX hbl hN (by omega) (by omega) hin (by omega) (by omega) hl hs0 hS (fun M1 H1 locs1 a1 a2 => W.widen (by omega) (by omega) (cont M1 H1 locs1 ls hl a1 a2))
      · refine lv_tableIn (off := 821) (tgt := 860) hx hb d_law_39 (by decide) (by decide) (by decide) (by decide) ?_
        exact lw_case22 X hX hbl hN (by omega) (by omega) hin (by omega) (by omega) hl hs0 hS (fun M1 H1 locs1 a1 a2 => W.widen (by omega) (by omega) (cont M1 H1 locs1 ls hl a1 a2))
      · refine lv_tableIn (off := 858) (tgt := 897) hx hb d_law_39 (by decide) (by decide) (by decide) (by decide) ?_
        exact lw_case23 X hX hbl hN (by omega) (by omega) hin (by omega) (by omega) hl hs0 hS (fun M1 H1 locs1 a1 a2 => W.widen (by omega) (by omega) (cont M1 H1 locs1 ls hl a1 a2))
      · refine lv_tableIn (off := 883) (tgt := 922) hx hb d_law_39 (by decide) (by decide) (by decide) (by decide) ?_
        exact lw_case24 X hX hbl hN (by omega) (by omega) hin (by omega) (by omega) hl hs0 hS (fun M1 H1 locs1 a1 a2 => W.widen (by omega) (by omega) (cont M1 H1 locs1 ls hl a1 a2))
      · refine lv_tableIn (off := 920) (tgt := 959) hx hb d_law_39 (by decide) (by decide) (by decide) (by decide) ?_
        exact lw_case25 X hX hbl hN (by omega) (by omega) hin (by omega) (by omega) hl hs0 hS (fun M1 H1 locs1 a1 a2 => W.widen (by omega) (by omega) (cont M1 H1 locs1 ls hl a1 a2))
      · refine lv_tableIn (off := 969) (tgt := 1008) hx hb d_law_39 (by decide) (by decide) (by decide) (by decide) ?_
        exact lw_case26 X hX hbl hN (by omega) (by omega) hin (by omega) (by omega) hl hs0 hS (fun M1 H1 locs1 a1 a2 => W.widen (by omega) (by omega) (cont M1 H1 locs1 ls hl a1 a2))
      · refine lv_tableIn (off := 994) (tgt := 1033) hx hb d_law_39 (by decide) (by decide) (by decide) (by decide) ?_
        exact lw_case27 X hX hbl hN (by omega) (by omega) hin (by omega) (by omega) hl hs0 hS (fun M1 H1 locs1 a1 a2 => W.widen (by omega) (by omega) (cont M1 H1 locs1 ls hl a1 a2))
      · refine lv_tableIn (off := 1031) (tgt := 1070) hx hb d_law_39 (by decide) (by decide) (by decide) (by decide) ?_
        exact lw_case28 X hX hbl hN (by omega) (by omega) hin (by omega) (by omega) hl hs0 hS (fun M1 H1 locs1 a1 a2 => W.widen (by omega) (by omega) (cont M1 H1 locs1 ls hl a1 a2))
      · refine lv_tableIn (off := 1068) (tgt := 1107) hx hb d_law_39 (by decide) (by decide) (by decide) (by decide) ?_
        exact lw_case29 X hX hbl hN (by omega) (by omega) hin (by omega) (by omega) hl hs0 hS (fun M1 H1 locs1 a1 a2 => W.widen (by omega) (by omega) (cont M1 H1 locs1 ls hl a1 a2))
      · refine lv_tableIn (off := 1093) (tgt := 1132) hx hb d_law_39 (by decide) (by decide) (by decide) (by decide) ?_
        exact lw_case30 X hX hbl hN (by omega) (by omega) hin (by omega) (by omega) hl hs0 hS (fun M1 H1 locs1 a1 a2 => W.widen (by omega) (by omega) (cont M1 H1 locs1 ls hl a1 a2))
      · refine lv_tableIn (off := 1106) (tgt := 1145) hx hb d_law_39 (by decide) (by decide) (by decide) (by decide) ?_
        exact lw_case31 X hX hbl hN (by omega) (by omega) hin (by omega) (by omega) hl hs0 hS (fun M1 H1 locs1 a1 a2 => W.widen (by omega) (by omega) (cont M1 H1 locs1 ls hl a1 a2))
      · refine lv_tableIn (off := 1131) (tgt := 1170) hx hb d_law_39 (by decide) (by decide) (by decide) (by decide) ?_
        exact lw_case32 X hX hbl hN (by omega) (by omega) hin (by omega) (by omega) hl hs0 hS (fun M1 H1 locs1 a1 a2 => W.widen (by omega) (by omega) (cont M1 H1 locs1 ls hl a1 a2))
      · refine lv_tableIn (off := 1144) (tgt := 1183) hx hb d_law_39 (by decide) (by decide) (by decide) (by decide) ?_
        exact lw_case33 X hX hbl hN (by omega) (by omega) hin (by omega) (by omega) hl hs0 hS (fun M1 H1 locs1 a1 a2 => W.widen (by omega) (by omega) (cont M1 H1 locs1 ls hl a1 a2))
      · refine lv_tableIn (off := 1169) (tgt := 1208) hx hb d_law_39 (by decide) (by decide) (by decide) (by decide) ?_
        exact lw_case34 X hX hbl hN (by omega) (by omega) hin (by omega) (by omega) hl hs0 hS (fun M1 H1 locs1 a1 a2 => W.widen (by omega) (by omega) (cont M1 H1 locs1 ls hl a1 a2))
      · refine lv_tableIn (off := 1194) (tgt := 1233) hx hb d_law_39 (by decide) (by decide) (by decide) (by decide) ?_
        exact lw_case35 X hX hbl hN (by omega) (by omega) hin (by omega) (by omega) hl hs0 hS (fun M1 H1 locs1 a1 a2 => W.widen (by omega) (by omega) (cont M1 H1 locs1 ls hl a1 a2))
      · refine lv_tableIn (off := 1219) (tgt := 1258) hx hb d_law_39 (by decide) (by decide) (by decide) (by decide) ?_
        exact lw_case36 X hX hbl hN (by omega) (by omega) hin (by omega) (by omega) hl hs0 hS (fun M1 H1 locs1 a1 a2 => W.widen (by omega) (by omega) (cont M1 H1 locs1 ls hl a1 a2))
      · refine lv_tableIn (off := 1244) (tgt := 1283) hx hb d_law_39 (by decide) (by decide) (by decide) (by decide) ?_
        exact lw_case37 X hX hbl hN (by omega) (by omega) hin (by omega) (by omega) hl hs0 hS (fun M1 H1 locs1 a1 a2 => W.widen (by omega) (by omega) (cont M1 H1 locs1 ls hl a1 a2))
      · refine lv_tableOut (tgt := 1308) hx hb d_law_39 (Or.inr (by rw [nI_toInt (by omega)]; omega)) (by decide) ?_
        exact W.widen (by omega) (by omega) (cont M H locs ls hl (hs0.mono (by omega)) hS)
set_option maxHeartbeats 4000000 in
set_option maxRecDepth 100000 in
/-- THE LAW, from its entry -/
theorem whole_start {p : Program} {e : Env} {s : State} {m : MethodId} {below : List Frame} {meth : Method} {c : Code} (l : Launch) (hflags : l.flags = flags0) {b L : Nat} {xs : Nat → Int32} (hL : L ≤ 2560) (C0 : lw_At p s m meth c b L xs) : W p l e room_1 s m #[Value.ref b] below meth c s.heap [] 0 0 (lw_Z below #[Value.ref b] s) (entryFrame m ([Value.ref b] : List Value).toArray 7) := by
  obtain ⟨hx, hb, hr, hml, hown, hts, hX, hbl, hlocks, hgv⟩ := id C0
  obtain ⟨D, ca, hCx⟩ := lw_Cx hts
  obtain ⟨N0, hN⟩ : ∃ N0, N0 = s.heap.size := ⟨_, rfl⟩
  have X : lwX p s m c b D ca := ⟨hx, hb, hml, hown, hts, hCx⟩
  have hzg := X.zg
  have hS : va_S (z_A N0) s.heap s.heap [] := va_S.rf
  have hH : z_H N0 D ca [] s.heap := fun k q h => by simp [z_ws] at h
  have hl := lv_entry ([.ref b]) (n := 7) (Nat.le_of_ble_eq_true rfl)
  rw [lg_entry_eq]
  generalize (lg_sl ([.ref b]) ++ List.replicate (7 - (lg_sl ([.ref b])).length) Slot.unset).toArray = ls at hl ⊢
  have hl : lv_has ls 7 [(0, .ref b)] := hl
  refine z_m_sound (own := "ColumnGrammarLaw") (nm := meth.name) (N0 := N0) (pc := 0) (nx := 3) (d := 0) (i := .new 8) (ax := [11, 138, 139, 117]) (st := []) (st' := [.ref 0]) (M := []) (M' := [.inr (11, z_df 11)]) hx hb hown rfl hzg hCx (hml.trans hl.1.symm) d_law_0 (Or.inr rfl) (ck_new8 _) rfl hH hS (Or.inr ⟨Nat.le_of_eq hN, by rw [hN]; rfl⟩) (Nat.zero_le _) (Nat.zero_le _) (by decide) (by decide) (fun H1 locs1 hH hS => ?_)
  refine W.widen (k := 1) (n := 18) (by decide) (by decide) ?_
  show W p l e room_1 s m #[Value.ref b] below meth c H1 locs1 1 18 (lw_Z below #[Value.ref b] s) (F0 m 3 ls [.ref (N0 + 0)])
  refine lv_dup hx hb d_law_3 rfl ?_
  refine lw_callI (N0 := N0) (n := 300) (d := 8) (a := 0) (i1 := 140) (i2 := 141) (k1 := 139) (k2 := 100000) (rest := [.ref 0]) X zg_CG_init iC_run (by decide) rfl rfl rfl rfl (by decide +kernel) (by decide +kernel) hH hS hN rfl hl.1 (Nat.le_of_ble_eq_true rfl) d_law_4 rfl (by decide +kernel) (by decide) (by decide) (fun H2 locs2 hH hS => ?_)
  show W p l e room_1 s m #[Value.ref b] below meth c H2 locs2 139 100000 (lw_Z below #[Value.ref b] s) (F0 m 7 ls [.ref (N0 + 0)])
  refine lv_astore_n (lv' := [(1, .ref (N0 + 0)), (0, .ref b)]) hx hb d_law_7 rfl hl (by decide) rfl (fun ls hl => ?_)
  refine z_m_sound (own := "ColumnGrammarLaw") (nm := meth.name) (N0 := N0) (pc := 8) (nx := 11) (d := 0) (i := .new 16) (ax := [12, 1215, 1216, 129]) (st := []) (st' := [.ref 139]) (M := iC) (M' := iC ++ [.inr (12, z_df 12)]) hx hb hown rfl hzg hCx (hml.trans hl.1.symm) d_law_8 (Or.inr rfl) (ck_new16 _) rfl hH hS (Or.inr ⟨Nat.le_of_eq hN, by rw [hN]; rfl⟩) (Nat.zero_le _) (Nat.zero_le _) (by decide +kernel) (by decide +kernel) (fun H3 locs3 hH hS => ?_)
  refine W.widen (k := 140) (n := 100050) (by decide +kernel) (by decide +kernel) ?_
  show W p l e room_1 s m #[Value.ref b] below meth c H3 locs3 140 100050 (lw_Z below #[Value.ref b] s) (F0 m 11 ls [.ref (N0 + 139)])
  refine lv_dup hx hb d_law_11 rfl ?_
  refine lw_callI (N0 := N0) (n := 300) (d := 8) (a := 139) (i1 := 1217) (i2 := 1218) (k1 := 177) (k2 := 250000) (rest := [.ref 139]) X zg_MO_init iM_run (by decide) rfl rfl rfl rfl (by decide +kernel) (by decide +kernel) hH hS hN rfl hl.1 (Nat.le_of_ble_eq_true rfl) d_law_12 rfl (by decide +kernel) (by decide) (by decide) (fun H4 locs4 hH hS => ?_)
  show W p l e room_1 s m #[Value.ref b] below meth c H4 locs4 177 250000 (lw_Z below #[Value.ref b] s) (F0 m 15 ls [.ref (N0 + 139)])
  refine lv_astore_n (lv' := [(2, .ref (N0 + 139)), (1, .ref (N0 + 0)), (0, .ref b)]) hx hb d_law_15 rfl hl (by decide) rfl (fun ls hl => ?_)
  refine lv_iconst (v := 1) hx hb d_law_16 (by decide) ?_
  refine z_m_sound (own := "ColumnGrammarLaw") (nm := meth.name) (N0 := N0) (pc := 17) (nx := 19) (d := 0) (i := .newarray .long) (ax := [1, 241]) (st := [.int 1]) (st' := [.ref 177]) (M := iC ++ iM) (M' := iW) hx hb hown rfl hzg hCx (hml.trans hl.1.symm) d_law_17 (Or.inr rfl) (ck_newl _) rfl hH hS (Or.inr ⟨Nat.le_of_eq hN, by rw [hN]; rfl⟩) (Nat.zero_le _) (Nat.zero_le _) (by decide +kernel) (by decide +kernel) (fun H5 locs5 hH hS => ?_)
  refine W.widen (k := 178 + 0) (n := 300000 + 6 * 0) (by decide +kernel) (by decide +kernel) ?_
  show W p l e room_1 s m #[Value.ref b] below meth c H5 locs5 (178 + 0) (300000 + 6 * 0) (lw_Z below #[Value.ref b] s) (F0 m 19 ls [.ref (N0 + 177)])
  refine lv_astore_n (lv' := [(3, .ref (N0 + 177)), (2, .ref (N0 + 139)), (1, .ref (N0 + 0)), (0, .ref b)]) hx hb d_law_19 rfl hl (by decide) rfl (fun ls hl => ?_)
  refine lv_iconst (v := nI 0) hx hb d_law_20 (by decide) ?_
  refine lv_istore (lv' := [(4, .int (nI 0)), (3, .ref (N0 + 177)), (2, .ref (N0 + 139)), (1, .ref (N0 + 0)), (0, .ref b)]) hx hb d_law_21 hl (by decide) rfl (fun ls hl => ?_)
  exact lw_loop hflags X hX hbl hN hL hr hlocks hgv (L + 11) 0 (Nat.zero_le _) (by omega) iW H5 locs5 ls ⟨hH, iW_shp, iFz, _, _, iW_CC, iW_MM, iRel⟩ hS (lv_sub hl [4, 3, 2, 1, 0] rfl)
