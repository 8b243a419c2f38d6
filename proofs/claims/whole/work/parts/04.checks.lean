def z_lkc (pc : Nat) : List (Int × Int) → List Nat → Bool
  | q :: r, k :: t :: r' => decide (q.1 = (k : Int)) && decide ((pc : Int) + q.2 = (t : Int)) && z_lkc pc r r'
  | [], [] => true
  | _, _ => false
/-- what is looked at, once, of a row that leaves the cells -/
def z_cks (own : String) (pc : Nat) (i : Instr) (ax : List Nat) (c : Int32) (z : Int64) : Bool := match i with
  | .iconst n => decide (Int32.ofInt n = c)
  | .bipush n => decide ((Int8.ofInt n).toInt32 = c)
  | .sipush n => decide ((Int16.ofInt n).toInt32 = c)
  | .ldc ix => decide (lw_tbl[z_a0 ax]? = some (.constant own ix c))
  | .ldc_w ix => decide (lw_tbl[z_a0 ax]? = some (.constant own ix c))
  | .lconst n => decide (Int64.ofNat n.val = z)
  | .ldc2_w ix => decide (lw_tbl[z_a0 ax]? = some (.constantLong own ix z))
  | .iinc _ n => decide (Int32.ofInt n = c)
  | .goto off => decide ((pc : Int) + off = (z_tg ax : Int))
  | .ifCond _ off => decide ((pc : Int) + off = (z_tg ax : Int))
  | .if_icmp _ off => decide ((pc : Int) + off = (z_tg ax : Int))
  | .tableswitch d lo hi offs => (match ax with
    | t :: ts => decide ((pc : Int) + d = (t : Int)) && decide (lo = 0) && decide (hi + 1 = (ts.length : Int)) && decide (offs.toList.map (fun o => (pc : Int) + o) = ts.map (fun (t : Nat) => (t : Int)))
    | [] => false)
  | .lookupswitch d ps => (match ax with
    | t :: ts => decide ((pc : Int) + d = (t : Int)) && (ps.toList.zip (ps.toList.drop 1)).all (fun (a, next) => a.1 < next.1) && z_lkc pc ps.toList ts
    | [] => false)
  | _ => true
def z_aty (t : Nat) : FieldType := match t with
  | 0 => .int
  | 1 => .long
  | 2 => .byte
  | 3 => .boolean
  | 4 => .object "ColumnGrammar$Tokens"
  | _ => .object "ColumnGrammar$Kept"
/-- what is looked at, once, of a row that works on the cells -/
def z_ckm (own nm : String) (i : Instr) (ax : List Nat) : Bool := match i with
  | .getfield ix => (match ax with
    | ci :: k :: w :: _ => (match z_cl[ci]? with
      | some (C, T, N) => Nat.blt k N && decide (lw_tbl[w]? = some (.fieldLink own ix (T k).1 (T k).2.1 (T k).2.2.1))
      | none => false)
    | [] => true
    | _ => false)
  | .putfield ix => (match ax with
    | ci :: k :: w :: _ => (match z_cl[ci]? with
      | some (C, T, N) => Nat.blt k N && decide (lw_tbl[w]? = some (.fieldLink own ix (T k).1 (T k).2.1 (T k).2.2.1)) && (!(T k).2.2.2 || (decide (nm = "<init>") && decide ((T k).1 = own)))
      | none => false)
    | [] => true
    | _ => false)
  | .new ix => (match ax with
    | ci :: w1 :: w2 :: w3 :: _ => (match z_cl[ci]? with
      | some (C, T, N) => decide (lw_tbl[w1]? = some (.classLink own ix C)) && decide (lw_tbl[w2]? = some (.instantiable C N)) && decide (lw_tbl[w3]? = some (.initialized C))
      | none => false)
    | [] => true
    | _ => false)
  | .newarray at' => (match ax with
    | t :: w :: _ => Nat.blt t 6 && decide (newarray.typeOf at' = z_aty t) && decide (lw_tbl[w]? = some (.arrayClass (z_aty t)))
    | [] => true
    | _ => false)
  | .anewarray ix => (match ax with
    | t :: w :: _ => (bif Nat.beq t 4 then decide (lw_tbl[w]? = some (.classLink own ix "ColumnGrammar$Tokens")) else (bif Nat.beq t 5 then decide (lw_tbl[w]? = some (.classLink own ix "ColumnGrammar$Kept")) else false))
    | [] => true
    | _ => false)
  | .invokespecial ix => (match ax with
    | 1 :: w1 :: w2 :: w3 :: _ => decide (lw_tbl[w1]? = some (.methodLink own ix Lib.objectInit)) && decide (lw_tbl[w2]? = some (.instanceMethod Lib.objectInit)) && decide (lw_tbl[w3]? = some (.code Lib.objectInit ⟨#[0xb1]⟩ 1 none))
    | 0 :: _ => true
    | [] => true
    | _ => false)
  | .invokestatic ix => (match ax with
    | 2 :: w1 :: w2 :: w3 :: w4 :: _ => decide (lw_tbl[w1]? = some (.methodLink own ix arraycopyName)) && decide (lw_tbl[w2]? = some (.native arraycopyName)) && decide (lw_tbl[w3]? = some (.static arraycopyName)) && decide (lw_tbl[w4]? = some (.initialized "java/lang/System"))
    | 3 :: w1 :: w2 :: w3 :: w4 :: _ => decide (lw_tbl[w1]? = some (.methodLink own ix Lib.Math.max.name)) && decide (lw_tbl[w2]? = some (.static Lib.Math.max.name)) && decide (lw_tbl[w3]? = some (.initialized "java/lang/Math")) && decide (lw_tbl[w4]? = some (.code Lib.Math.max.name Lib.Math.max.code 2 (some .int)))
    | 4 :: w1 :: w2 :: w3 :: w4 :: _ => decide (lw_tbl[w1]? = some (.methodLink own ix Lib.Math.min.name)) && decide (lw_tbl[w2]? = some (.static Lib.Math.min.name)) && decide (lw_tbl[w3]? = some (.initialized "java/lang/Math")) && decide (lw_tbl[w4]? = some (.code Lib.Math.min.name Lib.Math.min.code 2 (some .int)))
    | 0 :: _ => true
    | [] => true
    | _ => false)
  | _ => true
/-- what is looked at, once, of a row that calls -/
def z_ckc (P : List zY) (own : String) (i : Instr) (ax : List Nat) : Bool := match i, ax with
  | .invokevirtual ix, 0 :: y :: n :: ci :: _ :: w :: w2 :: w3 :: _ => (match P[y]?, z_cl[ci]? with
    | some y', some (C, _, _) => decide (y'.1.cls = C) && decide (n = y'.2.2.2.2.1) && decide (lw_tbl[w]? = some (.methodLink own ix y'.1)) && decide (lw_tbl[w2]? = some (.instanceMethod y'.1)) && decide (lw_tbl[w3]? = some (.selects C y'.1 y'.1))
    | _, _ => false)
  | .invokestatic ix, 0 :: y :: n :: _ :: nest :: w :: w2 :: _ => (match P[y]? with
    | some y' => decide (n = y'.2.2.2.2.1) && (bif Nat.beq nest 0 then decide (lw_tbl[w]? = some (.methodLink own ix y'.1)) else decide (zN[w]? = some (.methodLinkNest own ix y'.1 "ColumnGrammar"))) && decide (lw_tbl[w2]? = some (.static y'.1))
    | none => false)
  | .invokespecial ix, 0 :: y :: n :: _ :: nest :: w :: w2 :: _ => (match P[y]? with
    | some y' => decide (n = y'.2.2.2.2.1) && (bif Nat.beq nest 0 then decide (lw_tbl[w]? = some (.methodLink own ix y'.1)) else decide (zN[w]? = some (.methodLinkNest own ix y'.1 "ColumnGrammar"))) && decide (lw_tbl[w2]? = some (.instanceMethod y'.1)) && decide (y'.1.name = "<init>") && decide (y'.2.2.2.1 = none)
    | none => false)
  | .invokevirtual _, 0 :: _ => false
  | .invokestatic _, 0 :: _ => false
  | .invokespecial _, 0 :: _ => false
  | _, _ => true
def z_chk (P : List zY) (y : zY) (q : Nat × zI) : Bool :=
  decide (decode y.2.1 q.1 = .ok (q.2.1, q.2.2.1 - q.1)) && (Nat.beq (z_len q.2.1) 0 || Nat.beq (q.1 + z_len q.2.1) q.2.2.1) && z_cks y.1.cls q.1 q.2.1 q.2.2.2.1 q.2.2.2.2.1 q.2.2.2.2.2 && z_ckm y.1.cls y.1.name q.2.1 q.2.2.2.1 && z_ckc P y.1.cls q.2.1 q.2.2.2.1
/-- a method that is as the tables have it -/
def z_good (P : List zY) (y : zY) : Prop := Cond.code y.1 y.2.1 y.2.2.1 y.2.2.2.1 ∈ lw_tbl ∧ Cond.initialized y.1.cls ∈ lw_tbl ∧ (y.1.cls ≠ "java/lang/invoke/MethodHandle" ∧ y.1.cls ≠ "java/lang/invoke/VarHandle" ∧ (parseMethodDescriptor y.1.desc).map (fun d => d.parameters.length) = some y.2.2.2.2.1) ∧ plainName y.1.cls = true ∧ y.2.2.1 ≤ 16 ∧ y.2.2.2.2.2.all (z_chk P y) = true
def z_Ok (P : List zY) : Prop := ∀ (k : Nat) (y : zY), P[k]? = some y → z_good P y
