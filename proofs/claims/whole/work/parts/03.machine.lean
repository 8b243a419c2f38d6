/-! A SMALL MACHINE of its own over virtual addresses: cells are numbered as they are made (0, 1, ..); the real address of cell k is N0 + k. -/
abbrev zM : Type := List va_E
abbrev zL : Type := List (Option Value)
/-- an instruction, the next pc, what it links, an int, a long -/
abbrev zI : Type := Instr × Nat × List Nat × Int32 × Int64
/-- a method: name, bytes, locals, what it returns, how many parameters its descriptor has, its rows -/
abbrev zY : Type := MethodName × ByteArray × Nat × Option FieldType × Nat × List (Nat × zI)
def z_at : List (Nat × zI) → Nat → Option zI
  | [], _ => none
  | q :: t, pc => bif Nat.beq q.1 pc then some q.2 else z_at t pc
theorem z_at_mem {l : List (Nat × zI)} {pc : Nat} {r : zI} (h : z_at l pc = some r) : (pc, r) ∈ l := by
  induction l with
  | nil => cases h
  | cons q t ih =>
    unfold z_at at h
    cases hb : Nat.beq q.1 pc with
    | true =>
      rw [hb] at h
      have e1 : q.1 = pc := Nat.eq_of_beq_eq_true hb
      have e2 : q.2 = r := Option.some.inj h
      rw [← e1, ← e2]
      exact List.mem_cons_self
    | false =>
      rw [hb] at h
      exact List.mem_cons_of_mem _ (ih h)
def z_len : Instr → Nat
  | .aload _ | .astore _ | .bipush _ | .iload _ | .istore _ | .lload _ | .lstore _ | .ldc _ | .newarray _ => 2
  | .anewarray _ | .getfield _ | .putfield _ | .goto _ | .if_icmp .. | .ifCond .. | .iinc .. | .invokespecial _ | .invokestatic _ | .invokevirtual _ | .new _ | .ldc_w _ | .ldc2_w _ | .sipush _ | .checkcast _ | .getstatic _ => 3
  | .tableswitch .. | .lookupswitch .. => 0
  | _ => 1
/-! locals -/
def z_get (ls : zL) (i : Nat) : Option Value := match ls[i]? with
  | some (some v) => some v
  | _ => none
def z_kill (ls : zL) (i : Nat) : zL := match i with
  | 0 => ls
  | j + 1 => match ls[j]? with
    | some (some v) => bif Nat.beq v.category 2 then ls.set j none else ls
    | _ => ls
def z_s1 (ls : zL) (i : Nat) (v : Value) : zL := (z_kill ls i).set i (some v)
def z_s2 (ls : zL) (i : Nat) (v : Value) : zL := ((z_kill ls i).set i (some v)).set (i + 1) none
def z_ldi (ls : zL) (i : Nat) : Option Int32 := match ls[i]? with
  | some (some (.int x)) => some x
  | _ => none
def z_ldl (ls : zL) (i : Nat) : Option Int64 := match ls[i]? with
  | some (some (.long x)) => some x
  | _ => none
def z_lda (ls : zL) (i : Nat) : Option Nat := match ls[i]? with
  | some (some (.ref x)) => some x
  | _ => none
abbrev zO : Type := Option (Nat × zL × List Value)
def z_iload (nx : Nat) (ls : zL) (st : List Value) (i : Nat) : zO := match z_ldi ls i with
  | some x => some (nx, ls, .int x :: st)
  | none => none
def z_lload (nx : Nat) (ls : zL) (st : List Value) (i : Nat) : zO := match z_ldl ls i with
  | some x => some (nx, ls, .long x :: st)
  | none => none
def z_aload (nx : Nat) (ls : zL) (st : List Value) (i : Nat) : zO := match z_lda ls i with
  | some x => some (nx, ls, .ref x :: st)
  | none => none
def z_istore (nx : Nat) (ls : zL) (st : List Value) (i : Nat) : zO := match st with
  | .int x :: r => bif Nat.blt i ls.length then some (nx, z_s1 ls i (.int x), r) else none
  | _ => none
def z_astore (nx : Nat) (ls : zL) (st : List Value) (i : Nat) : zO := match st with
  | .ref x :: r => bif Nat.blt i ls.length then some (nx, z_s1 ls i (.ref x), r) else none
  | _ => none
def z_lstore (nx : Nat) (ls : zL) (st : List Value) (i : Nat) : zO := match st with
  | .long x :: r => bif Nat.blt (i + 1) ls.length then some (nx, z_s2 ls i (.long x), r) else none
  | _ => none
def z_iinc (nx : Nat) (ls : zL) (st : List Value) (i : Nat) (c : Int32) : zO := match z_ldi ls i with
  | some x => bif Nat.blt i ls.length then some (nx, z_s1 ls i (.int (x + c)), st) else none
  | none => none
def z_ii (f : Int32 → Int32 → Int32) (nx : Nat) (ls : zL) (st : List Value) : zO := match st with
  | .int y :: .int x :: r => some (nx, ls, .int (f x y) :: r)
  | _ => none
def z_i (f : Int32 → Int32) (nx : Nat) (ls : zL) (st : List Value) : zO := match st with
  | .int x :: r => some (nx, ls, .int (f x) :: r)
  | _ => none
def z_ll (f : Int64 → Int64 → Int64) (nx : Nat) (ls : zL) (st : List Value) : zO := match st with
  | .long y :: .long x :: r => some (nx, ls, .long (f x y) :: r)
  | _ => none
def z_l (f : Int64 → Int64) (nx : Nat) (ls : zL) (st : List Value) : zO := match st with
  | .long x :: r => some (nx, ls, .long (f x) :: r)
  | _ => none
def z_li (f : Int64 → Int32 → Int64) (nx : Nat) (ls : zL) (st : List Value) : zO := match st with
  | .int y :: .long x :: r => some (nx, ls, .long (f x y) :: r)
  | _ => none
def z_lcmp (nx : Nat) (ls : zL) (st : List Value) : zO := match st with
  | .long y :: .long x :: r => some (nx, ls, .int (lg_cmp x y) :: r)
  | _ => none
def z_i2l (nx : Nat) (ls : zL) (st : List Value) : zO := match st with
  | .int x :: r => some (nx, ls, .long x.toInt64 :: r)
  | _ => none
def z_l2i (nx : Nat) (ls : zL) (st : List Value) : zO := match st with
  | .long x :: r => some (nx, ls, .int x.toInt32 :: r)
  | _ => none
/-- division: where the divisor isn't 0 -/
def z_dv (f : Int32 → Int32 → Int32) (nx : Nat) (ls : zL) (st : List Value) : zO := match st with
  | .int y :: .int x :: r => if y = 0 then none else some (nx, ls, .int (f x y) :: r)
  | _ => none
def z_ldv (f : Int64 → Int64 → Int64) (nx : Nat) (ls : zL) (st : List Value) : zO := match st with
  | .long y :: .long x :: r => if y = 0 then none else some (nx, ls, .long (f x y) :: r)
  | _ => none
def z_dup (nx : Nat) (ls : zL) (st : List Value) : zO := match st with
  | v :: r => bif Nat.beq v.category 1 then some (nx, ls, v :: v :: r) else none
  | _ => none
def z_dup2 (nx : Nat) (ls : zL) (st : List Value) : zO := match st with
  | v :: r => bif Nat.beq v.category 2 then some (nx, ls, v :: v :: r) else (match r with
    | w :: r2 => bif Nat.beq w.category 1 then some (nx, ls, v :: w :: v :: w :: r2) else none
    | _ => none)
  | _ => none
def z_pop (nx : Nat) (ls : zL) (st : List Value) : zO := match st with
  | v :: r => bif Nat.beq v.category 1 then some (nx, ls, r) else none
  | _ => none
def z_pop2 (nx : Nat) (ls : zL) (st : List Value) : zO := match st with
  | v :: r => bif Nat.beq v.category 2 then some (nx, ls, r) else none
  | _ => none
def z_tg (ax : List Nat) : Nat := match ax with
  | t :: _ => t
  | [] => 0
def z_c0 (c : Jvm.ClassFile.Cond) (x : Int32) (tgt nx : Nat) : Nat := match c with
  | .eq => if x = 0 then tgt else nx
  | .ne => if ¬ x = 0 then tgt else nx
  | .lt => if x < 0 then tgt else nx
  | .ge => if 0 ≤ x then tgt else nx
  | .gt => if 0 < x then tgt else nx
  | .le => if x ≤ 0 then tgt else nx
def z_c2 (c : Jvm.ClassFile.Cond) (x y : Int32) (tgt nx : Nat) : Nat := match c with
  | .eq => if x = y then tgt else nx
  | .ne => if ¬ x = y then tgt else nx
  | .lt => if x < y then tgt else nx
  | .ge => if y ≤ x then tgt else nx
  | .gt => if y < x then tgt else nx
  | .le => if x ≤ y then tgt else nx
def z_if (c : Jvm.ClassFile.Cond) (tgt nx : Nat) (ls : zL) (st : List Value) : zO := match st with
  | .int x :: r => some (z_c0 c x tgt nx, ls, r)
  | _ => none
def z_icmp (c : Jvm.ClassFile.Cond) (tgt nx : Nat) (ls : zL) (st : List Value) : zO := match st with
  | .int y :: .int x :: r => some (z_c2 c x y tgt nx, ls, r)
  | _ => none
def z_swt (ts : List Nat) (d : Nat) (x : Int32) : Nat := if x.toInt < 0 ∨ (ts.length : Int) ≤ x.toInt then d else ts.getD x.toInt.toNat d
def z_tsw (ax : List Nat) (ls : zL) (st : List Value) : zO := match st, ax with
  | .int x :: r, d :: ts => some (z_swt ts d x, ls, r)
  | _, _ => none
def z_lkt : List Nat → Nat → Int32 → Nat
  | k :: t :: r, d, x => if x.toInt = (k : Int) then t else z_lkt r d x
  | _, d, _ => d
def z_lsw (ax : List Nat) (ls : zL) (st : List Value) : zO := match st, ax with
  | .int x :: r, d :: ts => some (z_lkt ts d x, ls, r)
  | _, _ => none
/-- instructions that leave the cells -/
def z_s (i : Instr) (nx : Nat) (ax : List Nat) (c : Int32) (z : Int64) (ls : zL) (st : List Value) : zO := match i with
  | .iconst _ | .bipush _ | .sipush _ | .ldc _ | .ldc_w _ => some (nx, ls, .int c :: st)
  | .lconst _ | .ldc2_w _ => some (nx, ls, .long z :: st)
  | .iload_n k => z_iload nx ls st k.val
  | .iload k => z_iload nx ls st k
  | .lload_n k => z_lload nx ls st k.val
  | .lload k => z_lload nx ls st k
  | .aload_n k => z_aload nx ls st k.val
  | .aload k => z_aload nx ls st k
  | .istore_n k => z_istore nx ls st k.val
  | .istore k => z_istore nx ls st k
  | .lstore_n k => z_lstore nx ls st k.val
  | .lstore k => z_lstore nx ls st k
  | .astore_n k => z_astore nx ls st k.val
  | .astore k => z_astore nx ls st k
  | .iinc k _ => z_iinc nx ls st k c
  | .iadd => z_ii (fun x y => x + y) nx ls st
  | .isub => z_ii (fun x y => x - y) nx ls st
  | .imul => z_ii (fun x y => x * y) nx ls st
  | .iand => z_ii (fun x y => x &&& y) nx ls st
  | .ior => z_ii (fun x y => x ||| y) nx ls st
  | .ishl => z_ii (fun x y => x <<< (y &&& 31)) nx ls st
  | .ishr => z_ii (fun x y => x >>> (y &&& 31)) nx ls st
  | .iushr => z_ii (fun x y => (x.toUInt32 >>> (y.toUInt32 &&& Int32.toUInt32 31)).toInt32) nx ls st
  | .idiv => z_dv (fun x y => x / y) nx ls st
  | .irem => z_dv (fun x y => x - x / y * y) nx ls st
  | .ineg => z_i (fun x => -x) nx ls st
  | .i2b => z_i (fun x => x.toInt8.toInt32) nx ls st
  | .ladd => z_ll (fun x y => x + y) nx ls st
  | .lsub => z_ll (fun x y => x - y) nx ls st
  | .lmul => z_ll (fun x y => x * y) nx ls st
  | .land => z_ll (fun x y => x &&& y) nx ls st
  | .lor => z_ll (fun x y => x ||| y) nx ls st
  | .lxor => z_ll (fun x y => x ^^^ y) nx ls st
  | .lrem => z_ldv (fun x y => x - x / y * y) nx ls st
  | .lneg => z_l (fun x => -x) nx ls st
  | .lushr => z_li (fun x y => (x.toUInt64 >>> (y.toInt64.toUInt64 &&& Int64.toUInt64 63)).toInt64) nx ls st
  | .lshl => z_li (fun x y => x <<< (y.toInt64 &&& 63)) nx ls st
  | .lcmp => z_lcmp nx ls st
  | .i2l => z_i2l nx ls st
  | .l2i => z_l2i nx ls st
  | .dup => z_dup nx ls st
  | .dup2 => z_dup2 nx ls st
  | .pop => z_pop nx ls st
  | .pop2 => z_pop2 nx ls st
  | .goto _ => some (z_tg ax, ls, st)
  | .ifCond cd _ => z_if cd (z_tg ax) nx ls st
  | .if_icmp cd _ => z_icmp cd (z_tg ax) nx ls st
  | .tableswitch .. => z_tsw ax ls st
  | .lookupswitch .. => z_lsw ax ls st
  | _ => none
/-! cells -/
abbrev zP : Type := Option (List Value × zM)
def z_fit (ty : FieldType) (v : Value) : Bool := match ty, v with
  | .int, .int _ => true
  | .long, .long _ => true
  | .boolean, .int x => x == 0 || x == 1
  | .object _, .ref _ => true
  | .array _, .ref _ => true
  | _, _ => false
def z_gf (ci k : Nat) (st : List Value) (M : zM) : zP := match st with
  | .ref a :: r => match M[a]? with
    | some (.inr (cj, fs)) => bif Nat.beq cj ci then (match fs[k]? with
      | some v => some (v :: r, M)
      | none => none) else none
    | _ => none
  | _ => none
def z_pf (ci k : Nat) (st : List Value) (M : zM) : zP := match st with
  | v :: .ref a :: r => match M[a]? with
    | some (.inr (cj, fs)) => bif Nat.beq cj ci && z_fit (z_ty ci k) v && Nat.blt k fs.length then some (r, M.set a (.inr (cj, fs.set k v))) else none
    | _ => none
  | _ => none
def z_ial (st : List Value) (M : zM) : zP := match st with
  | .int i :: .ref a :: r => match M[a]? with
    | some (.inl (t, n, .inl f)) => bif Nat.beq t 0 then (if i < 0 ∨ n ≤ i.toNatClampNeg then none else some (.int (f i.toNatClampNeg) :: r, M)) else none
    | _ => none
  | _ => none
def z_bal (st : List Value) (M : zM) : zP := match st with
  | .int i :: .ref a :: r => match M[a]? with
    | some (.inl (t, n, .inl f)) => bif Nat.beq t 2 || Nat.beq t 3 then (if i < 0 ∨ n ≤ i.toNatClampNeg then none else some (.int (f i.toNatClampNeg) :: r, M)) else none
    | _ => none
  | _ => none
def z_lal (st : List Value) (M : zM) : zP := match st with
  | .int i :: .ref a :: r => match M[a]? with
    | some (.inl (t, n, .inr (.inl f))) => bif Nat.beq t 1 then (if i < 0 ∨ n ≤ i.toNatClampNeg then none else some (.long (f i.toNatClampNeg) :: r, M)) else none
    | _ => none
  | _ => none
def z_aal (st : List Value) (M : zM) : zP := match st with
  | .int i :: .ref a :: r => match M[a]? with
    | some (.inl (t, n, .inr (.inr (.inr (.inr f))))) => bif Nat.beq t 4 || Nat.beq t 5 then (if i < 0 ∨ n ≤ i.toNatClampNeg then none else (match f i.toNatClampNeg with
      | some k => some (.ref k :: r, M)
      | none => none)) else none
    | _ => none
  | _ => none
def z_ias (st : List Value) (M : zM) : zP := match st with
  | .int x :: .int i :: .ref a :: r => match M[a]? with
    | some (.inl (t, n, .inl f)) => bif Nat.beq t 0 then (if i < 0 ∨ n ≤ i.toNatClampNeg then none else some (r, M.set a (.inl (t, n, .inl (upd f i.toNatClampNeg x))))) else none
    | _ => none
  | _ => none
def z_bas (st : List Value) (M : zM) : zP := match st with
  | .int x :: .int i :: .ref a :: r => match M[a]? with
    | some (.inl (t, n, .inl f)) => if i < 0 ∨ n ≤ i.toNatClampNeg then none else (bif Nat.beq t 2 then some (r, M.set a (.inl (t, n, .inl (upd f i.toNatClampNeg (vp_nar .byte x))))) else (bif Nat.beq t 3 then some (r, M.set a (.inl (t, n, .inl (upd f i.toNatClampNeg (vp_nar .boolean x))))) else none))
    | _ => none
  | _ => none
def z_las (st : List Value) (M : zM) : zP := match st with
  | .long x :: .int i :: .ref a :: r => match M[a]? with
    | some (.inl (t, n, .inr (.inl f))) => bif Nat.beq t 1 then (if i < 0 ∨ n ≤ i.toNatClampNeg then none else some (r, M.set a (.inl (t, n, .inr (.inl (vp_updL f i.toNatClampNeg x)))))) else none
    | _ => none
  | _ => none
/-- the class (its number) of what an array of references holds -/
def z_oc (t : Nat) : Nat := bif Nat.beq t 4 then 9 else 4
def z_aas (st : List Value) (M : zM) : zP := match st with
  | .ref v :: .int i :: .ref a :: r => match M[a]?, M[v]? with
    | some (.inl (t, n, .inr (.inr (.inr (.inr f))))), some (.inr (cj, _)) => bif (Nat.beq t 4 || Nat.beq t 5) && Nat.beq cj (z_oc t) then (if i < 0 ∨ n ≤ i.toNatClampNeg then none else some (r, M.set a (.inl (t, n, .inr (.inr (.inr (.inr (va_up f i.toNatClampNeg (some v))))))))) else none
    | _, _ => none
  | _ => none
def z_aln (st : List Value) (M : zM) : zP := match st with
  | .ref a :: r => match M[a]? with
    | some (.inl (t, n, _)) => bif Nat.blt t 6 then some (.int (Int32.ofNat n) :: r, M) else none
    | _ => none
  | _ => none
def z_new (ci : Nat) (st : List Value) (M : zM) : zP := bif Nat.blt ci 13 then some (.ref M.length :: st, M ++ [.inr (ci, z_df ci)]) else none
def z_nwc (t n : Nat) (r : List Value) (M : zM) : zP := match t with
  | 0 => some (.ref M.length :: r, M ++ [.inl (0, n, .inl (fun _ => 0))])
  | 1 => some (.ref M.length :: r, M ++ [.inl (1, n, .inr (.inl (fun _ => 0)))])
  | 2 => some (.ref M.length :: r, M ++ [.inl (2, n, .inl (fun _ => 0))])
  | 3 => some (.ref M.length :: r, M ++ [.inl (3, n, .inl (fun _ => 0))])
  | _ => none
def z_nwa (t : Nat) (st : List Value) (M : zM) : zP := match st with
  | .int n :: r => if n < 0 ∨ 10000 < n.toNatClampNeg then none else z_nwc t n.toNatClampNeg r M
  | _ => none
def z_ana (t : Nat) (st : List Value) (M : zM) : zP := match st with
  | .int n :: r => if n < 0 ∨ 10000 < n.toNatClampNeg then none else (bif Nat.beq t 4 || Nat.beq t 5 then some (.ref M.length :: r, M ++ [.inl (t, n.toNatClampNeg, .inr (.inr (.inr (.inr (fun _ => none)))))]) else none)
  | _ => none
def z_cat (st : List Value) : Nat := (st.map fun v => v.category).sum
/-- what a row holds behind a copy (what stands behind its end is free) -/
def z_cp {α : Type} (f g : Nat → α) (sp dp n n1 : Nat) : Nat → α := fun k => if dp ≤ k ∧ (k < dp + n ∨ n1 ≤ k) then f (sp + (k - dp)) else g k
def z_cpy (st : List Value) (M : zM) : zP := match st with
  | .int n :: .int dp :: .ref a1 :: .int sp :: .ref a0 :: r => bif Nat.ble (z_cat r) 8 then (match M[a0]?, M[a1]? with
    | some (.inl (t0, n0, .inl f)), some (.inl (t1, n1, .inl g)) => bif Nat.beq t0 0 && Nat.beq t1 0 then (if sp < 0 ∨ dp < 0 ∨ n < 0 ∨ n0 < sp.toNatClampNeg + n.toNatClampNeg ∨ n1 < dp.toNatClampNeg + n.toNatClampNeg then none else some (r, M.set a1 (.inl (t1, n1, .inl (z_cp f g sp.toNatClampNeg dp.toNatClampNeg n.toNatClampNeg n1))))) else none
    | some (.inl (t0, n0, .inr (.inl f))), some (.inl (t1, n1, .inr (.inl g))) => bif Nat.beq t0 1 && Nat.beq t1 1 then (if sp < 0 ∨ dp < 0 ∨ n < 0 ∨ n0 < sp.toNatClampNeg + n.toNatClampNeg ∨ n1 < dp.toNatClampNeg + n.toNatClampNeg then none else some (r, M.set a1 (.inl (t1, n1, .inr (.inl (z_cp f g sp.toNatClampNeg dp.toNatClampNeg n.toNatClampNeg n1)))))) else none
    | _, _ => none) else none
  | _ => none
/-- Math.max, Math.min -/
def z_max (st : List Value) (M : zM) : zP := match st with
  | .int y :: .int x :: r => bif Nat.ble (z_cat r) 8 then some (.int (if x < y then y else x) :: r, M) else none
  | _ => none
def z_min (st : List Value) (M : zM) : zP := match st with
  | .int y :: .int x :: r => bif Nat.ble (z_cat r) 8 then some (.int (if y < x then y else x) :: r, M) else none
  | _ => none
/-- Object.<init> -/
def z_oin (st : List Value) (M : zM) : zP := match st with
  | .ref _ :: r => bif Nat.ble (z_cat r) 8 then some (r, M) else none
  | _ => none
def z_a0 (ax : List Nat) : Nat := ax.getD 0 0
def z_a1 (ax : List Nat) : Nat := ax.getD 1 0
/-- instructions over the cells; d: how many frames may still come -/
def z_m (i : Instr) (ax : List Nat) (d : Nat) (st : List Value) (M : zM) : zP := match i with
  | .getfield _ => (match ax with
    | ci :: k :: _ => z_gf ci k st M
    | _ => none)
  | .putfield _ => (match ax with
    | ci :: k :: _ => z_pf ci k st M
    | _ => none)
  | .iaload => z_ial st M
  | .baload => z_bal st M
  | .laload => z_lal st M
  | .aaload => z_aal st M
  | .iastore => z_ias st M
  | .bastore => z_bas st M
  | .lastore => z_las st M
  | .aastore => z_aas st M
  | .arraylength => z_aln st M
  | .new _ => (match ax with
    | ci :: _ => z_new ci st M
    | _ => none)
  | .newarray _ => (match ax with
    | t :: _ => z_nwa t st M
    | _ => none)
  | .anewarray _ => (match ax with
    | t :: _ => z_ana t st M
    | _ => none)
  | .invokespecial _ => (match d, ax with
    | _ + 1, 1 :: _ => z_oin st M
    | _, _ => none)
  | .invokestatic _ => (match d, ax with
    | _ + 1, 2 :: _ => z_cpy st M
    | _ + 1, 3 :: _ => z_max st M
    | _ + 1, 4 :: _ => z_min st M
    | _, _ => none)
  | _ => none
/-- what an instruction is: 0 leaves the cells, 1 works on them, 2 ends the method, 3 calls one -/
def z_k (i : Instr) (ax : List Nat) : Nat := match i with
  | .getfield _ | .putfield _ | .iaload | .baload | .laload | .aaload | .iastore | .bastore | .lastore | .aastore | .arraylength | .new _ | .newarray _ | .anewarray _ => 1
  | .ireturn | .lreturn | .return_ => 2
  | .invokevirtual _ | .invokespecial _ | .invokestatic _ => (match ax with
    | 0 :: _ => 3
    | _ => 1)
  | _ => 0
def z_r (ret : Option FieldType) (i : Instr) (st : List Value) : Option (Option Value) := match i, ret, st with
  | .ireturn, some .int, [.int v] => some (some (.int v))
  | .ireturn, some .boolean, [.int v] => if v = 0 ∨ v = 1 then some (some (.int v)) else none
  | .lreturn, some .long, [.long v] => some (some (.long v))
  | .return_, none, [] => some none
  | _, _, _ => none
/-- a call: the method's number, what it is given, what stays below -/
def z_c (i : Instr) (ax : List Nat) (st : List Value) (M : zM) : Option (Nat × List Value × List Value) := match i, ax with
  | .invokestatic _, 0 :: y :: n :: _ => bif Nat.ble n st.length && Nat.ble (z_cat (st.drop n)) 8 then some (y, (st.take n).reverse, st.drop n) else none
  | .invokespecial _, 0 :: y :: n :: _ => bif Nat.ble n st.length then (match st.drop n with
    | .ref b :: r => bif Nat.ble (z_cat r) 8 then some (y, .ref b :: (st.take n).reverse, r) else none
    | _ => none) else none
  | .invokevirtual _, 0 :: y :: n :: ci :: _ => bif Nat.ble n st.length then (match st.drop n with
    | .ref b :: r => (match M[b]? with
      | some (.inr (cj, _)) => bif Nat.beq cj ci && Nat.ble (z_cat r) 8 then some (y, .ref b :: (st.take n).reverse, r) else none
      | _ => none)
    | _ => none) else none
  | _, _ => none
def z_args : List Value → zL
  | [] => []
  | v :: t => bif Nat.beq v.category 2 then some v :: none :: z_args t else some v :: z_args t
def z_ent (y : zY) (as : List Value) : zL := z_args as ++ List.replicate (y.2.2.1 - (z_args as).length) none
/-- THE MACHINE: n steps at the most, d frames above this one at the most -/
def z_go (P : List zY) : Nat → Nat → zY → Nat → zL → List Value → zM → Option (Option Value × zM)
  | 0, _, _, _, _, _, _ => none
  | n + 1, d, y, pc, ls, st, M => match z_at y.2.2.2.2.2 pc with
    | none => none
    | some (i, nx, ax, c, z) => match z_k i ax with
      | 0 => (match z_s i nx ax c z ls st with
        | some (pc', ls', st') => z_go P n d y pc' ls' st' M
        | none => none)
      | 1 => (match z_m i ax d st M with
        | some (st', M') => z_go P n d y nx ls st' M'
        | none => none)
      | 2 => (match z_r y.2.2.2.1 i st with
        | some r => some (r, M)
        | none => none)
      | _ => (match d, z_c i ax st M with
        | d' + 1, some (k, as, rest) => (match P[k]? with
          | some y' => bif Nat.ble (z_args as).length y'.2.2.1 then (match z_go P n d' y' 0 (z_ent y' as) [] M with
            | some (r, M') => z_go P n d y nx ls (r.toList ++ rest) M'
            | none => none) else none
          | none => none)
        | _, _ => none)
