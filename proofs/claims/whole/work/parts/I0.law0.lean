/-! THE LAW: cells that never change their shape, its calls -/
theorem ccl_sl (a : Nat) (g g2 : Nat → Nat) : z_sl (ccl a g) = z_sl (ccl a g2) := by unfold ccl; split <;> rfl
theorem mcl_sl (a : Nat) (g g2 : Nat → Nat) : z_sl (mcl a g) = z_sl (mcl a g2) := by unfold mcl; split <;> rfl
def Shp (M : zM) : Prop := M.length = 178 ∧ (∃ f, CC M f) ∧ (∃ o g, MM M o g) ∧ ∃ gx, M[177]? = some (.inl (1, 1, .inr (.inl gx)))
def slF (a : Nat) : Nat := if a = 51 then 10 else if a = 94 then 2 else if a ≤ 138 then z_sl (ccl a (fun _ => 0)) else if a = 139 then z_nN 12 else if a = 177 then 1 else z_sl (mcl a (fun _ => 0))
theorem Shp.at {M : zM} (h : Shp M) {a : Nat} (ha : a < 178) : ∃ x, M[a]? = some x ∧ z_sl x = slF a := by
  obtain ⟨h1, ⟨f, hf⟩, ⟨o, g, hg⟩, gx, hx⟩ := h
  unfold slF
  by_cases e1 : a = 51
  · obtain ⟨gg, t, -, h3, -⟩ := hf.2.1
    rw [e1, if_pos rfl]; exact ⟨_, h3, rfl⟩
  · rw [if_neg e1]
    by_cases e2 : a = 94
    · obtain ⟨gg, t, -, h3, -⟩ := hf.2.2
      rw [e2, if_pos rfl]; exact ⟨_, h3, rfl⟩
    · rw [if_neg e2]
      by_cases e3 : a ≤ 138
      · rw [if_pos e3]; exact ⟨_, hf.1 a e3 e1 e2, ccl_sl _ _ _⟩
      · rw [if_neg e3]
        by_cases e4 : a = 139
        · rw [e4, if_pos rfl]; exact ⟨_, hg.1, rfl⟩
        · rw [if_neg e4]
          by_cases e5 : a = 177
          · rw [e5, if_pos rfl]; exact ⟨_, hx, rfl⟩
          · rw [if_neg e5]; exact ⟨_, hg.2 a (by omega) (by omega), mcl_sl _ _ _⟩
theorem Shp.sl {M : zM} (h : Shp M) : M.map z_sl = (List.range 178).map slF := by
  apply List.ext_getElem?
  intro a
  rw [List.getElem?_map, List.getElem?_map]
  by_cases ha : a < 178
  · obtain ⟨x, h1, h2⟩ := h.at ha
    rw [h1, List.getElem?_range ha]
    exact congrArg some h2
  · rw [List.getElem?_eq_none (by have := h.1; omega), List.getElem?_eq_none (by rw [List.length_range]; omega)]
    rfl
theorem Shp.sz {M M1 : zM} (h : Shp M) (h1 : Shp M1) : z_sz M1 = z_sz M := by unfold z_sz; rw [h.sl, h1.sl]
def lwX (p : Program) (s : State) (m : MethodId) (c : Code) (b : Nat) (D : va_G) (ca : Nat → ClassId) : Prop := p.tables.exec = Jvm.exec ∧ c.code = code ∧ c.maxLocals = 7 ∧ s.vm.findClass "ColumnGrammarLaw" = some m.cls ∧ (∀ w ∈ lw_tbl, w.before #[Value.ref b] s = true) ∧ z_Cx D ca s
section LWC
variable {p : Program} {l : Launch} {e : Env} {s : State} {m : MethodId} {below : List Frame} {meth : Method} {c : Code} {H : Heap} {locs : List Loc} {cells slots : Nat} {Q : State → Prop} {b : Nat} {N0 : Nat} {D : va_G} {ca : Nat → ClassId}
theorem lwX.zg (X : lwX p s m c b D ca) : ∀ w ∈ zG, w.before #[Value.ref b] s = true := fun w hw => X.2.2.2.2.1 w (List.mem_filter.mp hw).1
set_option maxHeartbeats 4000000 in
theorem lw_call (X : lwX p s m c b D ca) {y : zY} {d ix pc a ci i1 i2 i3 N : Nat} {as rest fs : List Value} {C : String} {T : u_T} {M : zM} {post : Option Value → zM → Prop} {rls : Array Slot} {st0 : List Value}
    (hy : z_good zprog y) (hz : Zm d y (.ref a :: as) M post) (hd : d ≤ 100) (hargs : Nat.ble (z_args (.ref a :: as)).length y.2.2.1 = true) (hcl : z_cl[ci]? = some (C, T, N)) (hMa : M[a]? = some (.inr (ci, fs))) (hnn : as.length = y.2.2.2.2.1)
    (h1 : lw_tbl[i1]? = some (Cond.methodLink "ColumnGrammarLaw" ix y.1)) (h2 : lw_tbl[i2]? = some (Cond.instanceMethod y.1)) (h3 : lw_tbl[i3]? = some (Cond.selects C y.1 y.1))
    (hH : z_H N0 D ca M H) (hS : va_S (z_A N0) s.heap H locs) (hShp : Shp M) (hpp : ∀ r M1, post r M1 → Shp M1) (hrls : rls.size = 7) (hst : st0 = (as.map (z_v N0)).reverse ++ .ref (N0 + a) :: rest.map (z_v N0)) (hcat : z_cat rest ≤ 8) (hdg : decode code pc = .ok (.invokevirtual ix, 3)) (hR1 : cells ≤ 601024) (hR2 : slots ≤ 7293034)
    (kk : ∀ (r : Option Value) (M1 : zM) (H1 : Heap) (locs1 : List Loc), post r M1 → z_H N0 D ca M1 H1 → va_S (z_A N0) s.heap H1 locs1 → W p l e room_1 s m #[Value.ref b] below meth c H1 locs1 cells slots Q (F0 m (pc + 3) rls ((r.map (z_v N0)).toList ++ rest.map (z_v N0)))) :
    W p l e room_1 s m #[Value.ref b] below meth c H locs cells slots Q (F0 m pc rls st0) := by
  have hts := X.zg
  obtain ⟨hx, hb, hml, hown, hta, hC⟩ := X
  obtain ⟨n, r, M1, hgo, hp⟩ := hz
  have hM := z_met zprog_ok l hy (Nat.le_of_ble_eq_true hargs) hgo N0 D ca
  have hS1 := hpp r M1 hp
  have hl : M1.length = M.length := hS1.1.trans hShp.1.symm
  have e1 : M1.length - M.length = 0 := by omega
  have e2 : z_sz M1 - z_sz M = 0 := by rw [hShp.sz hS1]; exact Nat.sub_self _
  have hG := z_goodIn hy
  have hroom : (z_rm d (M1.length - M.length) (z_sz M1 - z_sz M)).frames + 1 ≤ room_1.frames ∧ 8 + (y.2.2.1 + 11) + (z_rm d (M1.length - M.length) (z_sz M1 - z_sz M)).locals ≤ room_1.locals := by
    have h9 := hy.2.2.2.2.1
    refine ⟨?_, ?_⟩
    · show d + 1 ≤ 2048; omega
    · show 8 + (y.2.2.1 + 11) + 64 * d ≤ 84000; omega
  have hPre : ∀ U : State, U.heap = H → s.WarmedH U.vm → z_Pc N0 D ca (.ref a :: as) M M1 ((Value.ref a :: as).map (z_v N0)).toArray U := fun U hU hW => ⟨rfl, by rw [hU]; exact hH, Or.inl hl, hC.moved hW⟩
  have hini : (Cond.initialized y.1.cls).before #[Value.ref b] s = true := hts _ (z_g hy.2.1 rfl)
  have hfit : cells + (M1.length - M.length) ≤ room_1.cells ∧ slots + (z_sz M1 - z_sz M) ≤ room_1.slots := by
    rw [e1, e2]
    exact ⟨hR1, hR2⟩
  have hfix : CallFix p m c code 7 s #[Value.ref b] zG "ColumnGrammarLaw" := ⟨hx, hb, hml, hown, hts⟩
  have hlink : (Cond.methodLink "ColumnGrammarLaw" ix y.1).before #[Value.ref b] s = true := hts _ (z_gi _ h1 rfl)
  have hins : (Cond.instanceMethod y.1).before #[Value.ref b] s = true := hts _ (z_gi _ h2 rfl)
  have hsel : (Cond.selects C y.1 y.1).before #[Value.ref b] s = true := hts _ (z_gi _ h3 rfl)
  have hrv := va_recv hC.1 hH hcl (z_ws_get (N0 := N0) (ca := ca) hMa)
  have hstk : (F0 m pc rls st0).stack = (as.map (z_v N0)).reverse ++ .ref (N0 + a) :: rest.map (z_v N0) := hst
  have hct : 2 * (F0 m pc rls st0).monitorRoom + ((rest.map (z_v N0)).map fun v => v.category).sum ≤ 8 := lv_room (by rw [z_cat_map]; exact hcat)
  refine z_call (va_runV (C := C) (As := as.map (z_v N0)) hfix hM ⟨callB_of y.2.2.2.2.1 hts hG rfl rfl rfl hini hlink hy.2.2.1 hroom, hins, hsel⟩ ⟨z_blind, hrv, hPre⟩ rfl (by rw [List.length_map, hnn]) hrls hstk hct hdg hfit) hS (fun H1 locs1 hH1 hS9 => ?_)
  rw [e1, e2, Nat.add_zero, Nat.add_zero]
  exact kk r M1 H1 locs1 hp hH1 hS9
end LWC
