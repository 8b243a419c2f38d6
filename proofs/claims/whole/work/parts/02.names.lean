def z_C0 : String := "ColumnGrammar$Chart"
def z_T0 : u_T := fun k => match k with
  | 0 => ("ColumnGrammar$Chart", "rules", "LColumnGrammar$Rules;", false)
  | 1 => ("ColumnGrammar$Chart", "tokens", "LColumnGrammar$Tokens;", false)
  | 2 => ("ColumnGrammar$Chart", "stands", "Z", false)
  | 3 => ("ColumnGrammar$Chart", "where", "[J", true)
  | _ => ("ColumnGrammar$Chart", "rows", "[J", true)
def z_ty0 : Nat → FieldType := fun k => match k with
  | 0 => .object "ColumnGrammar$Rules"
  | 1 => .object "ColumnGrammar$Tokens"
  | 2 => .boolean
  | 3 => .array .long
  | _ => .array .long
def z_df0 : List Value := [.null, .null, .int 0, .null, .null]
def z_C1 : String := "ColumnGrammar$GrammarReader"
def z_T1 : u_T := fun k => match k with
  | 0 => ("ColumnGrammar$GrammarReader", "found", "LColumnGrammar$Rules;", true)
  | 1 => ("ColumnGrammar$GrammarReader", "namePlaces", "[I", true)
  | 2 => ("ColumnGrammar$GrammarReader", "partPlaces", "[I", true)
  | 3 => ("ColumnGrammar$GrammarReader", "signs", "[I", false)
  | 4 => ("ColumnGrammar$GrammarReader", "length", "I", false)
  | _ => ("ColumnGrammar$GrammarReader", "place", "I", false)
def z_ty1 : Nat → FieldType := fun k => match k with
  | 0 => .object "ColumnGrammar$Rules"
  | 1 => .array .int
  | 2 => .array .int
  | 3 => .array .int
  | 4 => .int
  | _ => .int
def z_df1 : List Value := [.null, .null, .null, .null, .int 0, .int 0]
def z_C2 : String := "ColumnGrammar$Grower"
def z_T2 : u_T := fun k => match k with
  | 0 => ("ColumnGrammar$Grower", "grown", "LColumnGrammar$Tokens;", true)
  | 1 => ("ColumnGrammar$Grower", "rules", "LColumnGrammar$Rules;", true)
  | _ => ("ColumnGrammar$Grower", "drawn", "I", false)
def z_ty2 : Nat → FieldType := fun k => match k with
  | 0 => .object "ColumnGrammar$Tokens"
  | 1 => .object "ColumnGrammar$Rules"
  | _ => .int
def z_df2 : List Value := [.null, .null, .int 0]
def z_C3 : String := "ColumnGrammar$History"
def z_T3 : u_T := fun k => match k with
  | 0 => ("ColumnGrammar$History", "size", "I", false)
  | 1 => ("ColumnGrammar$History", "end", "I", false)
  | _ => ("ColumnGrammar$History", "past", "[LColumnGrammar$Tokens;", true)
def z_ty3 : Nat → FieldType := fun k => match k with
  | 0 => .int
  | 1 => .int
  | _ => .array (.object "ColumnGrammar$Tokens")
def z_df3 : List Value := [.int 0, .int 0, .null]
def z_C4 : String := "ColumnGrammar$Kept"
def z_T4 : u_T := fun k => match k with
  | 0 => ("ColumnGrammar$Kept", "holds", "Z", false)
  | 1 => ("ColumnGrammar$Kept", "rules", "LColumnGrammar$Rules;", true)
  | _ => ("ColumnGrammar$Kept", "tokens", "LColumnGrammar$Tokens;", true)
def z_ty4 : Nat → FieldType := fun k => match k with
  | 0 => .boolean
  | 1 => .object "ColumnGrammar$Rules"
  | _ => .object "ColumnGrammar$Tokens"
def z_df4 : List Value := [.int 0, .null, .null]
def z_C5 : String := "ColumnGrammar$Letters"
def z_T5 : u_T := fun k => match k with
  | 0 => ("ColumnGrammar$Letters", "length", "I", false)
  | _ => ("ColumnGrammar$Letters", "letters", "[I", true)
def z_ty5 : Nat → FieldType := fun k => match k with
  | 0 => .int
  | _ => .array .int
def z_df5 : List Value := [.int 0, .null]
def z_C6 : String := "ColumnGrammar$Outlook"
def z_T6 : u_T := fun k => match k with
  | 0 => ("ColumnGrammar$Outlook", "chart", "LColumnGrammar$Chart;", true)
  | 1 => ("ColumnGrammar$Outlook", "open", "[J", true)
  | 2 => ("ColumnGrammar$Outlook", "last", "I", false)
  | 3 => ("ColumnGrammar$Outlook", "sign", "I", false)
  | _ => ("ColumnGrammar$Outlook", "found", "J", false)
def z_ty6 : Nat → FieldType := fun k => match k with
  | 0 => .object "ColumnGrammar$Chart"
  | 1 => .array .long
  | 2 => .int
  | 3 => .int
  | _ => .long
def z_df6 : List Value := [.null, .null, .int 0, .int 0, .long 0]
def z_C7 : String := "ColumnGrammar$Repairs"
def z_T7 : u_T := fun k => match k with
  | 0 => ("ColumnGrammar$Repairs", "known", "Z", false)
  | 1 => ("ColumnGrammar$Repairs", "line", "I", false)
  | 2 => ("ColumnGrammar$Repairs", "by", "I", false)
  | _ => ("ColumnGrammar$Repairs", "moved", "LColumnGrammar$Tokens;", true)
def z_ty7 : Nat → FieldType := fun k => match k with
  | 0 => .boolean
  | 1 => .int
  | 2 => .int
  | _ => .object "ColumnGrammar$Tokens"
def z_df7 : List Value := [.int 0, .int 0, .int 0, .null]
def z_C8 : String := "ColumnGrammar$Rules"
def z_T8 : u_T := fun k => match k with
  | 0 => ("ColumnGrammar$Rules", "count", "I", false)
  | 1 => ("ColumnGrammar$Rules", "names", "[I", true)
  | 2 => ("ColumnGrammar$Rules", "alts", "[I", true)
  | 3 => ("ColumnGrammar$Rules", "items", "[I", true)
  | 4 => ("ColumnGrammar$Rules", "parts", "[I", true)
  | 5 => ("ColumnGrammar$Rules", "targets", "[I", true)
  | 6 => ("ColumnGrammar$Rules", "bonds", "[I", true)
  | 7 => ("ColumnGrammar$Rules", "empties", "I", false)
  | 8 => ("ColumnGrammar$Rules", "free", "[J", true)
  | 9 => ("ColumnGrammar$Rules", "altFree", "[J", true)
  | _ => ("ColumnGrammar$Rules", "freeBehind", "[J", true)
def z_ty8 : Nat → FieldType := fun k => match k with
  | 0 => .int
  | 1 => .array .int
  | 2 => .array .int
  | 3 => .array .int
  | 4 => .array .int
  | 5 => .array .int
  | 6 => .array .int
  | 7 => .int
  | 8 => .array .long
  | 9 => .array .long
  | _ => .array .long
def z_df8 : List Value := [.int 0, .null, .null, .null, .null, .null, .null, .int 0, .null, .null, .null]
def z_C9 : String := "ColumnGrammar$Tokens"
def z_T9 : u_T := fun k => match k with
  | 0 => ("ColumnGrammar$Tokens", "count", "I", false)
  | 1 => ("ColumnGrammar$Tokens", "signs", "[I", true)
  | 2 => ("ColumnGrammar$Tokens", "lines", "[I", true)
  | _ => ("ColumnGrammar$Tokens", "columns", "[I", true)
def z_ty9 : Nat → FieldType := fun k => match k with
  | 0 => .int
  | 1 => .array .int
  | 2 => .array .int
  | _ => .array .int
def z_df9 : List Value := [.int 0, .null, .null, .null]
def z_C10 : String := "ColumnGrammar$Tree"
def z_T10 : u_T := fun k => match k with
  | 0 => ("ColumnGrammar$Tree", "size", "I", false)
  | 1 => ("ColumnGrammar$Tree", "rows", "[I", true)
  | 2 => ("ColumnGrammar$Tree", "waiting", "[I", true)
  | 3 => ("ColumnGrammar$Tree", "waits", "I", false)
  | 4 => ("ColumnGrammar$Tree", "reaching", "[I", true)
  | 5 => ("ColumnGrammar$Tree", "ends", "[I", true)
  | 6 => ("ColumnGrammar$Tree", "sums", "[I", true)
  | _ => ("ColumnGrammar$Tree", "chart", "LColumnGrammar$Chart;", true)
def z_ty10 : Nat → FieldType := fun k => match k with
  | 0 => .int
  | 1 => .array .int
  | 2 => .array .int
  | 3 => .int
  | 4 => .array .int
  | 5 => .array .int
  | 6 => .array .int
  | _ => .object "ColumnGrammar$Chart"
def z_df10 : List Value := [.int 0, .null, .null, .int 0, .null, .null, .null, .null]
def z_C11 : String := "ColumnGrammar"
def z_T11 : u_T := fun k => match k with
  | 0 => ("ColumnGrammar", "text", "[I", true)
  | 1 => ("ColumnGrammar", "textLength", "I", false)
  | 2 => ("ColumnGrammar", "reader", "LColumnGrammar$GrammarReader;", true)
  | 3 => ("ColumnGrammar", "rules", "LColumnGrammar$Rules;", true)
  | 4 => ("ColumnGrammar", "tokens", "LColumnGrammar$Tokens;", true)
  | 5 => ("ColumnGrammar", "before", "LColumnGrammar$Tokens;", true)
  | 6 => ("ColumnGrammar", "chart", "LColumnGrammar$Chart;", true)
  | 7 => ("ColumnGrammar", "tree", "LColumnGrammar$Tree;", true)
  | 8 => ("ColumnGrammar", "outlook", "LColumnGrammar$Outlook;", true)
  | 9 => ("ColumnGrammar", "grower", "LColumnGrammar$Grower;", true)
  | 10 => ("ColumnGrammar", "history", "LColumnGrammar$History;", true)
  | 11 => ("ColumnGrammar", "theLine", "LColumnGrammar$Letters;", true)
  | 12 => ("ColumnGrammar", "kept", "[LColumnGrammar$Kept;", true)
  | 13 => ("ColumnGrammar", "otherChart", "LColumnGrammar$Chart;", true)
  | 14 => ("ColumnGrammar", "otherTree", "LColumnGrammar$Tree;", true)
  | 15 => ("ColumnGrammar", "repairs", "LColumnGrammar$Repairs;", true)
  | 16 => ("ColumnGrammar", "treeStands", "Z", false)
  | _ => ("ColumnGrammar", "blamed", "I", false)
def z_ty11 : Nat → FieldType := fun k => match k with
  | 0 => .array .int
  | 1 => .int
  | 2 => .object "ColumnGrammar$GrammarReader"
  | 3 => .object "ColumnGrammar$Rules"
  | 4 => .object "ColumnGrammar$Tokens"
  | 5 => .object "ColumnGrammar$Tokens"
  | 6 => .object "ColumnGrammar$Chart"
  | 7 => .object "ColumnGrammar$Tree"
  | 8 => .object "ColumnGrammar$Outlook"
  | 9 => .object "ColumnGrammar$Grower"
  | 10 => .object "ColumnGrammar$History"
  | 11 => .object "ColumnGrammar$Letters"
  | 12 => .array (.object "ColumnGrammar$Kept")
  | 13 => .object "ColumnGrammar$Chart"
  | 14 => .object "ColumnGrammar$Tree"
  | 15 => .object "ColumnGrammar$Repairs"
  | 16 => .boolean
  | _ => .int
def z_df11 : List Value := [.null, .int 0, .null, .null, .null, .null, .null, .null, .null, .null, .null, .null, .null, .null, .null, .null, .int 0, .int 0]
def z_C12 : String := "ColumnGrammarModel"
def z_T12 : u_T := fun k => match k with
  | 0 => ("ColumnGrammarModel", "thrown", "I", false)
  | 1 => ("ColumnGrammarModel", "row", "[I", true)
  | 2 => ("ColumnGrammarModel", "kept", "[I", true)
  | 3 => ("ColumnGrammarModel", "isKept", "[Z", true)
  | 4 => ("ColumnGrammarModel", "undos", "[I", true)
  | 5 => ("ColumnGrammarModel", "nUndo", "I", false)
  | 6 => ("ColumnGrammarModel", "text", "[B", true)
  | 7 => ("ColumnGrammarModel", "texted", "I", false)
  | 8 => ("ColumnGrammarModel", "reading", "I", false)
  | 9 => ("ColumnGrammarModel", "fault", "I", false)
  | 10 => ("ColumnGrammarModel", "isGood", "Z", false)
  | 11 => ("ColumnGrammarModel", "draft", "[I", true)
  | 12 => ("ColumnGrammarModel", "nameAt", "[I", true)
  | 13 => ("ColumnGrammarModel", "partAt", "[I", true)
  | 14 => ("ColumnGrammarModel", "empties", "[Z", true)
  | 15 => ("ColumnGrammarModel", "comesTo", "[I", true)
  | 16 => ("ColumnGrammarModel", "draftSign", "[I", true)
  | 17 => ("ColumnGrammarModel", "draftLine", "[I", true)
  | 18 => ("ColumnGrammarModel", "draftColumn", "[I", true)
  | 19 => ("ColumnGrammarModel", "partRule", "[I", true)
  | 20 => ("ColumnGrammarModel", "free", "[J", true)
  | 21 => ("ColumnGrammarModel", "bare", "[J", true)
  | 22 => ("ColumnGrammarModel", "sign", "[I", true)
  | 23 => ("ColumnGrammarModel", "column", "[I", true)
  | 24 => ("ColumnGrammarModel", "where", "[J", true)
  | 25 => ("ColumnGrammarModel", "reach", "[J", true)
  | 26 => ("ColumnGrammarModel", "reachNext", "[J", true)
  | 27 => ("ColumnGrammarModel", "open", "[J", true)
  | 28 => ("ColumnGrammarModel", "empty", "[Z", true)
  | 29 => ("ColumnGrammarModel", "begins", "[J", true)
  | 30 => ("ColumnGrammarModel", "line", "[B", true)
  | 31 => ("ColumnGrammarModel", "lined", "I", false)
  | 32 => ("ColumnGrammarModel", "tree", "[I", true)
  | 33 => ("ColumnGrammarModel", "nodeMany", "I", false)
  | 34 => ("ColumnGrammarModel", "other", "[I", true)
  | 35 => ("ColumnGrammarModel", "waits", "[I", true)
  | 36 => ("ColumnGrammarModel", "ends", "[I", true)
  | 37 => ("ColumnGrammarModel", "can", "[Z", true)
  | 38 => ("ColumnGrammarModel", "waiting", "I", false)
  | 39 => ("ColumnGrammarModel", "count", "[I", true)
  | 40 => ("ColumnGrammarModel", "countNext", "[I", true)
  | 41 => ("ColumnGrammarModel", "openRule", "[I", true)
  | 42 => ("ColumnGrammarModel", "openAlt", "[I", true)
  | 43 => ("ColumnGrammarModel", "openColumn", "[I", true)
  | 44 => ("ColumnGrammarModel", "openItem", "[I", true)
  | 45 => ("ColumnGrammarModel", "opens", "I", false)
  | 46 => ("ColumnGrammarModel", "grown", "I", false)
  | 47 => ("ColumnGrammarModel", "isGrown", "Z", false)
  | 48 => ("ColumnGrammarModel", "seeded", "J", false)
  | _ => ("ColumnGrammarModel", "aside", "[I", true)
def z_ty12 : Nat → FieldType := fun k => match k with
  | 0 => .int
  | 1 => .array .int
  | 2 => .array .int
  | 3 => .array .boolean
  | 4 => .array .int
  | 5 => .int
  | 6 => .array .byte
  | 7 => .int
  | 8 => .int
  | 9 => .int
  | 10 => .boolean
  | 11 => .array .int
  | 12 => .array .int
  | 13 => .array .int
  | 14 => .array .boolean
  | 15 => .array .int
  | 16 => .array .int
  | 17 => .array .int
  | 18 => .array .int
  | 19 => .array .int
  | 20 => .array .long
  | 21 => .array .long
  | 22 => .array .int
  | 23 => .array .int
  | 24 => .array .long
  | 25 => .array .long
  | 26 => .array .long
  | 27 => .array .long
  | 28 => .array .boolean
  | 29 => .array .long
  | 30 => .array .byte
  | 31 => .int
  | 32 => .array .int
  | 33 => .int
  | 34 => .array .int
  | 35 => .array .int
  | 36 => .array .int
  | 37 => .array .boolean
  | 38 => .int
  | 39 => .array .int
  | 40 => .array .int
  | 41 => .array .int
  | 42 => .array .int
  | 43 => .array .int
  | 44 => .array .int
  | 45 => .int
  | 46 => .int
  | 47 => .boolean
  | 48 => .long
  | _ => .array .int
def z_df12 : List Value := [.int 0, .null, .null, .null, .null, .int 0, .null, .int 0, .int 0, .int 0, .int 0, .null, .null, .null, .null, .null, .null, .null, .null, .null, .null, .null, .null, .null, .null, .null, .null, .null, .null, .null, .null, .int 0, .null, .int 0, .null, .null, .null, .null, .int 0, .null, .null, .null, .null, .null, .null, .int 0, .int 0, .int 0, .long 0, .null]
abbrev z_cl : List vw_C := [(z_C0, z_T0, 5), (z_C1, z_T1, 6), (z_C2, z_T2, 3), (z_C3, z_T3, 3), (z_C4, z_T4, 3), (z_C5, z_T5, 2), (z_C6, z_T6, 5), (z_C7, z_T7, 4), (z_C8, z_T8, 11), (z_C9, z_T9, 4), (z_C10, z_T10, 8), (z_C11, z_T11, 18), (z_C12, z_T12, 50)]
def z_ty (ci : Nat) : Nat → FieldType := match ci with
  | 0 => z_ty0
  | 1 => z_ty1
  | 2 => z_ty2
  | 3 => z_ty3
  | 4 => z_ty4
  | 5 => z_ty5
  | 6 => z_ty6
  | 7 => z_ty7
  | 8 => z_ty8
  | 9 => z_ty9
  | 10 => z_ty10
  | 11 => z_ty11
  | _ => z_ty12
def z_df (ci : Nat) : List Value := match ci with
  | 0 => z_df0
  | 1 => z_df1
  | 2 => z_df2
  | 3 => z_df3
  | 4 => z_df4
  | 5 => z_df5
  | 6 => z_df6
  | 7 => z_df7
  | 8 => z_df8
  | 9 => z_df9
  | 10 => z_df10
  | 11 => z_df11
  | _ => z_df12
def z_nN (ci : Nat) : Nat := match ci with
  | 0 => 5
  | 1 => 6
  | 2 => 3
  | 3 => 3
  | 4 => 3
  | 5 => 2
  | 6 => 5
  | 7 => 4
  | 8 => 11
  | 9 => 4
  | 10 => 8
  | 11 => 18
  | _ => 50
def zG : List Cond := lw_tbl.filter goodWord
theorem z_g {w : Cond} (h : w ∈ lw_tbl) (hg : goodWord w = true) : w ∈ zG := List.mem_filter.mpr ⟨h, hg⟩
theorem z_gi {w : Cond} (i : Nat) (h : lw_tbl[i]? = some w) (hg : goodWord w = true) : w ∈ zG := z_g (List.mem_of_getElem? h) hg
theorem z_gp (ws : List Cond) (ps : List Nat) (hp : ws = ps.filterMap (fun i => lw_tbl[i]?)) (h : ws.all goodWord = true) : ∀ w ∈ ws, w ∈ zG := by
  intro w hw
  have h1 := List.all_eq_true.mp h w hw
  rw [hp] at hw
  obtain ⟨i, -, hi⟩ := List.mem_filterMap.mp hw
  exact z_gi i hi h1
theorem z_in0 : ∀ w ∈ u_ws z_C0 z_T0 5, w ∈ zG := z_gp _ [316, 318, 320, 322, 324] (by decide +kernel) (by decide +kernel)
theorem z_tk0 : ∀ k, k < 5 → parseFieldDescriptor (z_T0 k).2.2.1 = some (z_ty0 k) := by decide +kernel
theorem z_nm0 : ∀ a, a < 5 → ∀ b, b < 5 → a ≠ b → (z_T0 a).2.1 ≠ (z_T0 b).2.1 := by decide +kernel
theorem z_dv0 : ∀ k, k < 5 → defaultValue (z_ty0 k) = vp_V z_df0 k := by decide +kernel
theorem z_in1 : ∀ w ∈ u_ws z_C1 z_T1 6, w ∈ zG := z_gp _ [249, 251, 253, 255, 257, 259] (by decide +kernel) (by decide +kernel)
theorem z_tk1 : ∀ k, k < 6 → parseFieldDescriptor (z_T1 k).2.2.1 = some (z_ty1 k) := by decide +kernel
theorem z_nm1 : ∀ a, a < 6 → ∀ b, b < 6 → a ≠ b → (z_T1 a).2.1 ≠ (z_T1 b).2.1 := by decide +kernel
theorem z_dv1 : ∀ k, k < 6 → defaultValue (z_ty1 k) = vp_V z_df1 k := by decide +kernel
theorem z_in2 : ∀ w ∈ u_ws z_C2 z_T2 3, w ∈ zG := z_gp _ [393, 395, 397] (by decide +kernel) (by decide +kernel)
theorem z_tk2 : ∀ k, k < 3 → parseFieldDescriptor (z_T2 k).2.2.1 = some (z_ty2 k) := by decide +kernel
theorem z_nm2 : ∀ a, a < 3 → ∀ b, b < 3 → a ≠ b → (z_T2 a).2.1 ≠ (z_T2 b).2.1 := by decide +kernel
theorem z_dv2 : ∀ k, k < 3 → defaultValue (z_ty2 k) = vp_V z_df2 k := by decide +kernel
theorem z_in3 : ∀ w ∈ u_ws z_C3 z_T3 3, w ∈ zG := z_gp _ [413, 415, 417] (by decide +kernel) (by decide +kernel)
theorem z_tk3 : ∀ k, k < 3 → parseFieldDescriptor (z_T3 k).2.2.1 = some (z_ty3 k) := by decide +kernel
theorem z_nm3 : ∀ a, a < 3 → ∀ b, b < 3 → a ≠ b → (z_T3 a).2.1 ≠ (z_T3 b).2.1 := by decide +kernel
theorem z_dv3 : ∀ k, k < 3 → defaultValue (z_ty3 k) = vp_V z_df3 k := by decide +kernel
theorem z_in4 : ∀ w ∈ u_ws z_C4 z_T4 3, w ∈ zG := z_gp _ [452, 454, 456] (by decide +kernel) (by decide +kernel)
theorem z_tk4 : ∀ k, k < 3 → parseFieldDescriptor (z_T4 k).2.2.1 = some (z_ty4 k) := by decide +kernel
theorem z_nm4 : ∀ a, a < 3 → ∀ b, b < 3 → a ≠ b → (z_T4 a).2.1 ≠ (z_T4 b).2.1 := by decide +kernel
theorem z_dv4 : ∀ k, k < 3 → defaultValue (z_ty4 k) = vp_V z_df4 k := by decide +kernel
theorem z_in5 : ∀ w ∈ u_ws z_C5 z_T5 2, w ∈ zG := z_gp _ [430, 432] (by decide +kernel) (by decide +kernel)
theorem z_tk5 : ∀ k, k < 2 → parseFieldDescriptor (z_T5 k).2.2.1 = some (z_ty5 k) := by decide +kernel
theorem z_nm5 : ∀ a, a < 2 → ∀ b, b < 2 → a ≠ b → (z_T5 a).2.1 ≠ (z_T5 b).2.1 := by decide +kernel
theorem z_dv5 : ∀ k, k < 2 → defaultValue (z_ty5 k) = vp_V z_df5 k := by decide +kernel
theorem z_in6 : ∀ w ∈ u_ws z_C6 z_T6 5, w ∈ zG := z_gp _ [370, 372, 374, 376, 378] (by decide +kernel) (by decide +kernel)
theorem z_tk6 : ∀ k, k < 5 → parseFieldDescriptor (z_T6 k).2.2.1 = some (z_ty6 k) := by decide +kernel
theorem z_nm6 : ∀ a, a < 5 → ∀ b, b < 5 → a ≠ b → (z_T6 a).2.1 ≠ (z_T6 b).2.1 := by decide +kernel
theorem z_dv6 : ∀ k, k < 5 → defaultValue (z_ty6 k) = vp_V z_df6 k := by decide +kernel
theorem z_in7 : ∀ w ∈ u_ws z_C7 z_T7 4, w ∈ zG := z_gp _ [474, 476, 478, 480] (by decide +kernel) (by decide +kernel)
theorem z_tk7 : ∀ k, k < 4 → parseFieldDescriptor (z_T7 k).2.2.1 = some (z_ty7 k) := by decide +kernel
theorem z_nm7 : ∀ a, a < 4 → ∀ b, b < 4 → a ≠ b → (z_T7 a).2.1 ≠ (z_T7 b).2.1 := by decide +kernel
theorem z_dv7 : ∀ k, k < 4 → defaultValue (z_ty7 k) = vp_V z_df7 k := by decide +kernel
theorem z_in8 : ∀ w ∈ u_ws z_C8 z_T8 11, w ∈ zG := z_gp _ [217, 219, 221, 223, 225, 227, 229, 231, 233, 235, 237] (by decide +kernel) (by decide +kernel)
theorem z_tk8 : ∀ k, k < 11 → parseFieldDescriptor (z_T8 k).2.2.1 = some (z_ty8 k) := by decide +kernel
theorem z_nm8 : ∀ a, a < 11 → ∀ b, b < 11 → a ≠ b → (z_T8 a).2.1 ≠ (z_T8 b).2.1 := by decide +kernel
theorem z_dv8 : ∀ k, k < 11 → defaultValue (z_ty8 k) = vp_V z_df8 k := by decide +kernel
theorem z_in9 : ∀ w ∈ u_ws z_C9 z_T9 4, w ∈ zG := z_gp _ [291, 293, 295, 297] (by decide +kernel) (by decide +kernel)
theorem z_tk9 : ∀ k, k < 4 → parseFieldDescriptor (z_T9 k).2.2.1 = some (z_ty9 k) := by decide +kernel
theorem z_nm9 : ∀ a, a < 4 → ∀ b, b < 4 → a ≠ b → (z_T9 a).2.1 ≠ (z_T9 b).2.1 := by decide +kernel
theorem z_dv9 : ∀ k, k < 4 → defaultValue (z_ty9 k) = vp_V z_df9 k := by decide +kernel
theorem z_in10 : ∀ w ∈ u_ws z_C10 z_T10 8, w ∈ zG := z_gp _ [342, 344, 346, 348, 350, 352, 354, 356] (by decide +kernel) (by decide +kernel)
theorem z_tk10 : ∀ k, k < 8 → parseFieldDescriptor (z_T10 k).2.2.1 = some (z_ty10 k) := by decide +kernel
theorem z_nm10 : ∀ a, a < 8 → ∀ b, b < 8 → a ≠ b → (z_T10 a).2.1 ≠ (z_T10 b).2.1 := by decide +kernel
theorem z_dv10 : ∀ k, k < 8 → defaultValue (z_ty10 k) = vp_V z_df10 k := by decide +kernel
theorem z_in11 : ∀ w ∈ u_ws z_C11 z_T11 18, w ∈ zG := z_gp _ [501, 503, 505, 507, 509, 511, 513, 515, 517, 519, 521, 523, 525, 527, 529, 531, 533, 535] (by decide +kernel) (by decide +kernel)
theorem z_tk11 : ∀ k, k < 18 → parseFieldDescriptor (z_T11 k).2.2.1 = some (z_ty11 k) := by decide +kernel
theorem z_nm11 : ∀ a, a < 18 → ∀ b, b < 18 → a ≠ b → (z_T11 a).2.1 ≠ (z_T11 b).2.1 := by decide +kernel
theorem z_dv11 : ∀ k, k < 18 → defaultValue (z_ty11 k) = vp_V z_df11 k := by decide +kernel
theorem z_in12 : ∀ w ∈ u_ws z_C12 z_T12 50, w ∈ zG := z_gp _ [1271, 1273, 1275, 1277, 1279, 1281, 1283, 1285, 1287, 1289, 1291, 1293, 1295, 1297, 1299, 1301, 1303, 1305, 1307, 1309, 1311, 1313, 1315, 1317, 1319, 1321, 1323, 1325, 1327, 1329, 1331, 1333, 1335, 1337, 1339, 1341, 1343, 1345, 1347, 1349, 1351, 1353, 1355, 1357, 1359, 1361, 1363, 1365, 1367, 1369] (by decide +kernel) (by decide +kernel)
theorem z_tk12 : ∀ k, k < 50 → parseFieldDescriptor (z_T12 k).2.2.1 = some (z_ty12 k) := by decide +kernel
theorem z_nm12 : ∀ a, a < 50 → ∀ b, b < 50 → a ≠ b → (z_T12 a).2.1 ≠ (z_T12 b).2.1 := by decide +kernel
theorem z_dv12 : ∀ k, k < 50 → defaultValue (z_ty12 k) = vp_V z_df12 k := by decide +kernel
/-- what the tables say of a class of the worlds -/
def z_Cls (ci : Nat) (q : vw_C) : Prop := (∀ w ∈ u_ws q.1 q.2.1 q.2.2, w ∈ zG) ∧ (∀ k, k < q.2.2 → parseFieldDescriptor (q.2.1 k).2.2.1 = some (z_ty ci k)) ∧ (∀ a, a < q.2.2 → ∀ b, b < q.2.2 → a ≠ b → (q.2.1 a).2.1 ≠ (q.2.1 b).2.1) ∧ (∀ k, k < q.2.2 → defaultValue (z_ty ci k) = vp_V (z_df ci) k) ∧ (z_df ci).length = q.2.2 ∧ z_nN ci = q.2.2
theorem z_cls : ∀ (ci : Nat) (q : vw_C), z_cl[ci]? = some q → z_Cls ci q := by
  intro ci q h
  match ci, h with
  | 0, h => cases h; exact ⟨z_in0, z_tk0, z_nm0, z_dv0, rfl, rfl⟩
  | 1, h => cases h; exact ⟨z_in1, z_tk1, z_nm1, z_dv1, rfl, rfl⟩
  | 2, h => cases h; exact ⟨z_in2, z_tk2, z_nm2, z_dv2, rfl, rfl⟩
  | 3, h => cases h; exact ⟨z_in3, z_tk3, z_nm3, z_dv3, rfl, rfl⟩
  | 4, h => cases h; exact ⟨z_in4, z_tk4, z_nm4, z_dv4, rfl, rfl⟩
  | 5, h => cases h; exact ⟨z_in5, z_tk5, z_nm5, z_dv5, rfl, rfl⟩
  | 6, h => cases h; exact ⟨z_in6, z_tk6, z_nm6, z_dv6, rfl, rfl⟩
  | 7, h => cases h; exact ⟨z_in7, z_tk7, z_nm7, z_dv7, rfl, rfl⟩
  | 8, h => cases h; exact ⟨z_in8, z_tk8, z_nm8, z_dv8, rfl, rfl⟩
  | 9, h => cases h; exact ⟨z_in9, z_tk9, z_nm9, z_dv9, rfl, rfl⟩
  | 10, h => cases h; exact ⟨z_in10, z_tk10, z_nm10, z_dv10, rfl, rfl⟩
  | 11, h => cases h; exact ⟨z_in11, z_tk11, z_nm11, z_dv11, rfl, rfl⟩
  | 12, h => cases h; exact ⟨z_in12, z_tk12, z_nm12, z_dv12, rfl, rfl⟩
  | k + 13, h => simp at h
/-- the links of private members among nest mates -/
def zN : List Cond := [.methodLinkNest "ColumnGrammar" 15 ⟨"ColumnGrammar$GrammarReader", "<init>", "()V"⟩ "ColumnGrammar", .methodLinkNest "ColumnGrammar$GrammarReader" 11 ⟨"ColumnGrammar$Rules", "<init>", "()V"⟩ "ColumnGrammar", .methodLinkNest "ColumnGrammar" 22 ⟨"ColumnGrammar$Rules", "<init>", "()V"⟩ "ColumnGrammar", .methodLinkNest "ColumnGrammar" 29 ⟨"ColumnGrammar$Tokens", "<init>", "()V"⟩ "ColumnGrammar", .methodLinkNest "ColumnGrammar$Grower" 11 ⟨"ColumnGrammar$Tokens", "<init>", "()V"⟩ "ColumnGrammar", .methodLinkNest "ColumnGrammar$History" 17 ⟨"ColumnGrammar$Tokens", "<init>", "()V"⟩ "ColumnGrammar", .methodLinkNest "ColumnGrammar" 80 ⟨"ColumnGrammar$Letters", "<init>", "()V"⟩ "ColumnGrammar", .methodLinkNest "ColumnGrammar" 87 ⟨"ColumnGrammar$Kept", "<init>", "()V"⟩ "ColumnGrammar", .methodLinkNest "ColumnGrammar$Kept" 9 ⟨"ColumnGrammar$Rules", "<init>", "()V"⟩ "ColumnGrammar", .methodLinkNest "ColumnGrammar$Kept" 18 ⟨"ColumnGrammar$Tokens", "<init>", "()V"⟩ "ColumnGrammar", .methodLinkNest "ColumnGrammar" 100 ⟨"ColumnGrammar$Repairs", "<init>", "()V"⟩ "ColumnGrammar", .methodLinkNest "ColumnGrammar$Repairs" 11 ⟨"ColumnGrammar$Tokens", "<init>", "()V"⟩ "ColumnGrammar", .methodLinkNest "ColumnGrammar$GrammarReader" 101 ⟨"ColumnGrammar", "isSign", "(I)Z"⟩ "ColumnGrammar", .methodLinkNest "ColumnGrammar$Rules" 82 ⟨"ColumnGrammar", "wholesOf", "(IJ)J"⟩ "ColumnGrammar", .methodLinkNest "ColumnGrammar$Tokens" 31 ⟨"ColumnGrammar", "isSign", "(I)Z"⟩ "ColumnGrammar", .methodLinkNest "ColumnGrammar$Chart" 80 ⟨"ColumnGrammar", "wholesOf", "(IJ)J"⟩ "ColumnGrammar", .methodLinkNest "ColumnGrammar$Outlook" 78 ⟨"ColumnGrammar", "partsOf", "(IJ)J"⟩ "ColumnGrammar", .methodLinkNest "ColumnGrammar$Tree" 53 ⟨"ColumnGrammar", "leastOf", "(J)I"⟩ "ColumnGrammar", .methodLinkNest "ColumnGrammar$Tree" 109 ⟨"ColumnGrammar", "partsOf", "(IJ)J"⟩ "ColumnGrammar", .methodLinkNest "ColumnGrammar$Tokens" 39 ⟨"ColumnGrammar", "isColumn", "(I)Z"⟩ "ColumnGrammar", .methodLinkNest "ColumnGrammar$Grower" 87 ⟨"ColumnGrammar", "hasColumn", "(JI)Z"⟩ "ColumnGrammar", .methodLinkNest "ColumnGrammar$Grower" 61 ⟨"ColumnGrammar", "partsOf", "(IJ)J"⟩ "ColumnGrammar"]
theorem zN_in : ∀ w ∈ zN, w ∈ lw_tbl := by
  have h : zN = [148, 154, 263, 266, 388, 408, 422, 438, 443, 445, 461, 466, 595, 642, 665, 719, 748, 847, 876, 977, 1050, 1063].filterMap (fun i => lw_tbl[i]?) := by decide +kernel
  intro w hw
  rw [h] at hw
  obtain ⟨i, -, hi⟩ := List.mem_filterMap.mp hw
  exact List.mem_of_getElem? hi
theorem zN_all : ∀ w ∈ zN, ∃ a i x h, w = .methodLinkNest a i x h := by
  intro w hw
  simp only [zN, List.mem_cons, List.not_mem_nil, or_false] at hw
  rcases hw with rfl | rfl | rfl | rfl | rfl | rfl | rfl | rfl | rfl | rfl | rfl | rfl | rfl | rfl | rfl | rfl | rfl | rfl | rfl | rfl | rfl | rfl <;> exact ⟨_, _, _, _, rfl⟩
