/-! AN ABSTRACT MACHINE over places: a heap is a list of cells, a reference is a place in it (or, as 'retAddr k', a thing outside it: k 0 the script). Its runs are runs of the machine (part 20, 30). -/
abbrev ik_E : Type := (FieldType × List Value) ⊕ (Nat × List Value)
abbrev ik_L : Type := List (Option Value)
/-- pc, locals, stack, heap, cells, slots -/
abbrev ik_St : Type := Nat × ik_L × List Value × List ik_E × Nat × Nat
def ik_tg (pc : Nat) (off : Int) : Option Nat := match (pc : Int) + off with
  | .ofNat t => some t
  | .negSucc _ => none
def ik_put (loc : ik_L) (i : Nat) (v : Value) : ik_L :=
  let l1 := match i with
    | 0 => loc
    | j + 1 => match loc[j]? with
      | some (some w) => if w.category = 2 then loc.set j none else loc
      | _ => loc
  let l2 := l1.set i (some v)
  if v.category = 2 then l2.set (i + 1) none else l2
def ik_gI (loc : ik_L) (i : Nat) : Option Int32 := match loc[i]? with
  | some (some (.int x)) => some x
  | _ => none
def ik_gL (loc : ik_L) (i : Nat) : Option Int64 := match loc[i]? with
  | some (some (.long x)) => some x
  | _ => none
def ik_gA (loc : ik_L) (i : Nat) : Option Value := match loc[i]? with
  | some (some (.ref x)) => some (.ref x)
  | some (some (.retAddr x)) => if x < 100 then some (.retAddr x) else none
  | _ => none
/-- does a value lie in a field of this type as it is -/
def ik_fit (ty : FieldType) (v : Value) : Bool := match ty, v with
  | .int, .int _ => true
  | .long, .long _ => true
  | .boolean, .int x => x == 0 || x == 1
  | .object _, .ref _ => true
  | .array _, .ref _ => true
  | _, _ => false
def ik_bo (b : Prop) [Decidable b] (x : Option ik_St) : Option ik_St := if b then x else none
def ik_df (t : ArrayType) : Option (FieldType × Value) := match t with
  | .int => some (.int, .int 0)
  | .long => some (.long, .long 0)
  | .byte => some (.byte, .int 0)
  | .boolean => some (.boolean, .int 0)
  | _ => none
def ik_wv (n : Nat) (v : Value) : Bool := match v with
  | .ref k => decide (k < n)
  | _ => true
def ik_wl (n : Nat) (o : Option Value) : Bool := match o with
  | some v => ik_wv n v
  | none => true
def ik_we (n : Nat) (e : ik_E) : Bool := match e with
  | .inr (_, fs) => fs.all (ik_wv n)
  | .inl (_, vs) => vs.all (ik_wv n)
/-- all references are to places that there are -/
def ik_wf (loc : ik_L) (st : List Value) (h : List ik_E) : Bool := loc.all (ik_wl h.length) && st.all (ik_wv h.length) && h.all (ik_we h.length)
/-- one instruction, no call and no return; 'X' the script -/
def ik_step (X : Option (Nat × (Nat → Int32))) (mid : Nat) (i : Instr) (pc : Nat) (loc : ik_L) (st : List Value) (h : List ik_E) (cl sl : Nat) : Option ik_St := match i with
  | .iconst k => some (pc + 1, loc, .int (Int32.ofInt k) :: st, h, cl, sl)
  | .bipush k => some (pc + 2, loc, .int (Int8.ofInt k).toInt32 :: st, h, cl, sl)
  | .sipush k => some (pc + 3, loc, .int (Int16.ofInt k).toInt32 :: st, h, cl, sl)
  | .lconst k => some (pc + 1, loc, .long (Int64.ofNat k) :: st, h, cl, sl)
  | .ldc x => match ik_ci mid x with
    | some (v, _) => some (pc + 2, loc, .int v :: st, h, cl, sl)
    | none => (match ik_st mid x with
      | some (i, _) => ik_bo (i < 3) (some (pc + 2, loc, .retAddr (2 * i + 1) :: st, h, cl, sl))
      | none => none)
  | .getstatic x => match ik_gs mid x with
    | some (0, _) => some (pc + 3, loc, .int 1 :: st, h, cl, sl)
    | some (1, _) => some (pc + 3, loc, .retAddr 100 :: st, h, cl, sl)
    | _ => none
  | .ldc_w x => match ik_ci mid x with
    | some (v, _) => some (pc + 3, loc, .int v :: st, h, cl, sl)
    | none => none
  | .ldc2_w x => match ik_ck mid x with
    | some (v, _) => some (pc + 3, loc, .long v :: st, h, cl, sl)
    | none => none
  | .iload_n k => match ik_gI loc k with
    | some x => some (pc + 1, loc, .int x :: st, h, cl, sl)
    | none => none
  | .iload k => match ik_gI loc k with
    | some x => some (pc + 2, loc, .int x :: st, h, cl, sl)
    | none => none
  | .lload_n k => match ik_gL loc k with
    | some x => some (pc + 1, loc, .long x :: st, h, cl, sl)
    | none => none
  | .lload k => match ik_gL loc k with
    | some x => some (pc + 2, loc, .long x :: st, h, cl, sl)
    | none => none
  | .aload_n k => match ik_gA loc k with
    | some x => some (pc + 1, loc, x :: st, h, cl, sl)
    | none => none
  | .aload k => match ik_gA loc k with
    | some x => some (pc + 2, loc, x :: st, h, cl, sl)
    | none => none
  | .istore_n k => match st with
    | .int x :: r => ik_bo (k < ik_ml mid) (some (pc + 1, ik_put loc k (.int x), r, h, cl, sl))
    | _ => none
  | .istore k => match st with
    | .int x :: r => ik_bo (k < ik_ml mid) (some (pc + 2, ik_put loc k (.int x), r, h, cl, sl))
    | _ => none
  | .lstore_n k => match st with
    | .long x :: r => ik_bo (k + 1 < ik_ml mid) (some (pc + 1, ik_put loc k (.long x), r, h, cl, sl))
    | _ => none
  | .lstore k => match st with
    | .long x :: r => ik_bo (k + 1 < ik_ml mid) (some (pc + 2, ik_put loc k (.long x), r, h, cl, sl))
    | _ => none
  | .astore_n k => match st with
    | .ref x :: r => ik_bo (k < ik_ml mid) (some (pc + 1, ik_put loc k (.ref x), r, h, cl, sl))
    | _ => none
  | .astore k => match st with
    | .ref x :: r => ik_bo (k < ik_ml mid) (some (pc + 2, ik_put loc k (.ref x), r, h, cl, sl))
    | _ => none
  | .iinc k n => match ik_gI loc k with
    | some x => ik_bo (k < ik_ml mid) (some (pc + 3, ik_put loc k (.int (x + Int32.ofInt n)), st, h, cl, sl))
    | none => none
  | .iadd => match st with
    | .int y :: .int x :: r => some (pc + 1, loc, .int (x + y) :: r, h, cl, sl)
    | _ => none
  | .isub => match st with
    | .int y :: .int x :: r => some (pc + 1, loc, .int (x - y) :: r, h, cl, sl)
    | _ => none
  | .imul => match st with
    | .int y :: .int x :: r => some (pc + 1, loc, .int (x * y) :: r, h, cl, sl)
    | _ => none
  | .iand => match st with
    | .int y :: .int x :: r => some (pc + 1, loc, .int (x &&& y) :: r, h, cl, sl)
    | _ => none
  | .ior => match st with
    | .int y :: .int x :: r => some (pc + 1, loc, .int (x ||| y) :: r, h, cl, sl)
    | _ => none
  | .ixor => match st with
    | .int y :: .int x :: r => some (pc + 1, loc, .int (x ^^^ y) :: r, h, cl, sl)
    | _ => none
  | .ishl => match st with
    | .int y :: .int x :: r => some (pc + 1, loc, .int (x <<< (y &&& 31)) :: r, h, cl, sl)
    | _ => none
  | .ishr => match st with
    | .int y :: .int x :: r => some (pc + 1, loc, .int (x >>> (y &&& 31)) :: r, h, cl, sl)
    | _ => none
  | .iushr => match st with
    | .int y :: .int x :: r => some (pc + 1, loc, .int (x.toUInt32 >>> (y.toUInt32 &&& Int32.toUInt32 31)).toInt32 :: r, h, cl, sl)
    | _ => none
  | .idiv => match st with
    | .int y :: .int x :: r => ik_bo (¬ y = 0) (some (pc + 1, loc, .int (x / y) :: r, h, cl, sl))
    | _ => none
  | .irem => match st with
    | .int y :: .int x :: r => ik_bo (¬ y = 0) (some (pc + 1, loc, .int (x - x / y * y) :: r, h, cl, sl))
    | _ => none
  | .ineg => match st with
    | .int x :: r => some (pc + 1, loc, .int (-x) :: r, h, cl, sl)
    | _ => none
  | .ladd => match st with
    | .long y :: .long x :: r => some (pc + 1, loc, .long (x + y) :: r, h, cl, sl)
    | _ => none
  | .lsub => match st with
    | .long y :: .long x :: r => some (pc + 1, loc, .long (x - y) :: r, h, cl, sl)
    | _ => none
  | .lmul => match st with
    | .long y :: .long x :: r => some (pc + 1, loc, .long (x * y) :: r, h, cl, sl)
    | _ => none
  | .land => match st with
    | .long y :: .long x :: r => some (pc + 1, loc, .long (x &&& y) :: r, h, cl, sl)
    | _ => none
  | .lor => match st with
    | .long y :: .long x :: r => some (pc + 1, loc, .long (x ||| y) :: r, h, cl, sl)
    | _ => none
  | .lxor => match st with
    | .long y :: .long x :: r => some (pc + 1, loc, .long (x ^^^ y) :: r, h, cl, sl)
    | _ => none
  | .ldiv => match st with
    | .long y :: .long x :: r => ik_bo (¬ y = 0) (some (pc + 1, loc, .long (x / y) :: r, h, cl, sl))
    | _ => none
  | .lrem => match st with
    | .long y :: .long x :: r => ik_bo (¬ y = 0) (some (pc + 1, loc, .long (x - x / y * y) :: r, h, cl, sl))
    | _ => none
  | .lneg => match st with
    | .long x :: r => some (pc + 1, loc, .long (-x) :: r, h, cl, sl)
    | _ => none
  | .lshl => match st with
    | .int y :: .long x :: r => some (pc + 1, loc, .long (x <<< (y.toInt64 &&& 63)) :: r, h, cl, sl)
    | _ => none
  | .lshr => match st with
    | .int y :: .long x :: r => some (pc + 1, loc, .long (x >>> (y.toInt64 &&& 63)) :: r, h, cl, sl)
    | _ => none
  | .lushr => match st with
    | .int y :: .long x :: r => some (pc + 1, loc, .long (x.toUInt64 >>> (y.toInt64.toUInt64 &&& Int64.toUInt64 63)).toInt64 :: r, h, cl, sl)
    | _ => none
  | .lcmp => match st with
    | .long y :: .long x :: r => some (pc + 1, loc, .int (lg_cmp x y) :: r, h, cl, sl)
    | _ => none
  | .i2l => match st with
    | .int x :: r => some (pc + 1, loc, .long x.toInt64 :: r, h, cl, sl)
    | _ => none
  | .l2i => match st with
    | .long x :: r => some (pc + 1, loc, .int x.toInt32 :: r, h, cl, sl)
    | _ => none
  | .i2b => match st with
    | .int x :: r => some (pc + 1, loc, .int x.toInt8.toInt32 :: r, h, cl, sl)
    | _ => none
  | .i2c => match st with
    | .int x :: r => some (pc + 1, loc, .int (x.toUInt32 % 65536).toInt32 :: r, h, cl, sl)
    | _ => none
  | .dup => match st with
    | a :: r => ik_bo (a.category = 1) (some (pc + 1, loc, a :: a :: r, h, cl, sl))
    | _ => none
  | .pop => match st with
    | a :: r => ik_bo (a.category = 1) (some (pc + 1, loc, r, h, cl, sl))
    | _ => none
  | .dup_x1 => match st with
    | a :: b :: r => ik_bo (a.category = 1 ∧ b.category = 1) (some (pc + 1, loc, a :: b :: a :: r, h, cl, sl))
    | _ => none
  | .dup_x2 => match st with
    | a :: b :: d :: r => ik_bo (a.category = 1 ∧ b.category = 1 ∧ d.category = 1) (some (pc + 1, loc, a :: b :: d :: a :: r, h, cl, sl))
    | _ => none
  | .dup2 => match st with
    | a :: b :: r => if a.category = 2 then some (pc + 1, loc, a :: a :: b :: r, h, cl, sl) else ik_bo (a.category = 1 ∧ b.category = 1) (some (pc + 1, loc, a :: b :: a :: b :: r, h, cl, sl))
    | a :: r => ik_bo (a.category = 2) (some (pc + 1, loc, a :: a :: r, h, cl, sl))
    | _ => none
  | .dup2_x1 => match st with
    | a :: b :: r => ik_bo (a.category = 2 ∧ b.category = 1) (some (pc + 1, loc, a :: b :: a :: r, h, cl, sl))
    | _ => none
  | .ifCond c off => match st, ik_tg pc off with
    | .int x :: r, some t => match c with
      | .eq => some (if x = 0 then t else pc + 3, loc, r, h, cl, sl)
      | .ne => some (if x = 0 then pc + 3 else t, loc, r, h, cl, sl)
      | .lt => some (if x < 0 then t else pc + 3, loc, r, h, cl, sl)
      | .ge => some (if 0 ≤ x then t else pc + 3, loc, r, h, cl, sl)
      | .gt => some (if 0 < x then t else pc + 3, loc, r, h, cl, sl)
      | .le => some (if x ≤ 0 then t else pc + 3, loc, r, h, cl, sl)
    | _, _ => none
  | .if_icmp c off => match st, ik_tg pc off with
    | .int y :: .int x :: r, some t => match c with
      | .eq => some (if x = y then t else pc + 3, loc, r, h, cl, sl)
      | .ne => some (if x = y then pc + 3 else t, loc, r, h, cl, sl)
      | .lt => some (if x < y then t else pc + 3, loc, r, h, cl, sl)
      | .ge => some (if y ≤ x then t else pc + 3, loc, r, h, cl, sl)
      | .gt => some (if y < x then t else pc + 3, loc, r, h, cl, sl)
      | .le => some (if x ≤ y then t else pc + 3, loc, r, h, cl, sl)
    | _, _ => none
  | .goto off => match ik_tg pc off with
    | some t => some (t, loc, st, h, cl, sl)
    | none => none
  | .tableswitch d lo hi offs => match st with
    | .int x :: r => if x.toInt < lo ∨ hi < x.toInt then (match ik_tg pc d with
        | some t => some (t, loc, r, h, cl, sl)
        | none => none) else (match offs.toList[(x.toInt - lo).toNat]? with
        | some off => (match ik_tg pc off with
          | some t => some (t, loc, r, h, cl, sl)
          | none => none)
        | none => none)
    | _ => none
  | .getfield x => match st, ik_fl mid x with
    | .ref a :: r, some (ci, k, _) => match h[a]? with
      | some (.inr (cj, fs)) => ik_bo (cj = ci) (match fs[k]? with
        | some v => some (pc + 3, loc, v :: r, h, cl, sl)
        | none => none)
      | _ => none
    | .retAddr (k + 1) :: r, none => ik_bo (k % 2 = 0 ∧ k < 6) (match ik_sf mid x with
      | some (0, _) => some (pc + 3, loc, .retAddr (k + 2) :: r, h, cl, sl)
      | some (1, _) => some (pc + 3, loc, .int 0 :: r, h, cl, sl)
      | _ => none)
    | _, _ => none
  | .putfield x => match st, ik_fl mid x with
    | v :: .ref a :: r, some (ci, k, _) => match h[a]? with
      | some (.inr (cj, fs)) => ik_bo (cj = ci ∧ k < fs.length ∧ ik_fit (ik_ty ci k) v = true ∧ (ik_fi ci k = false ∨ ik_in mid = ci + 1)) (some (pc + 3, loc, r, h.set a (.inr (ci, fs.set k v)), cl, sl))
      | _ => none
    | _, _ => none
  | .arraylength => match st with
    | .ref a :: r => match h[a]? with
      | some (.inl (_, vs)) => some (pc + 1, loc, .int (Int32.ofNat vs.length) :: r, h, cl, sl)
      | _ => none
    | .retAddr 0 :: r => match X with
      | some (L, _) => some (pc + 1, loc, .int (Int32.ofNat L) :: r, h, cl, sl)
      | none => none
    | .retAddr (k + 1) :: r => ik_bo (k % 2 = 1 ∧ k < 6) (some (pc + 1, loc, .int (Int32.ofNat (ik_sb (k / 2)).length) :: r, h, cl, sl))
    | _ => none
  | .iaload => match st with
    | .int i :: .ref a :: r => match h[a]? with
      | some (.inl (.int, vs)) => if i < 0 then none else (match vs[i.toNatClampNeg]? with
        | some (.int x) => some (pc + 1, loc, .int x :: r, h, cl, sl)
        | _ => none)
      | _ => none
    | .int i :: .retAddr 0 :: r => match X with
      | some (L, f) => ik_bo (¬ (i < 0 ∨ L ≤ i.toNatClampNeg)) (some (pc + 1, loc, .int (f i.toNatClampNeg) :: r, h, cl, sl))
      | none => none
    | _ => none
  | .baload => match st with
    | .int i :: .ref a :: r => match h[a]? with
      | some (.inl (.byte, vs)) => if i < 0 then none else (match vs[i.toNatClampNeg]? with
        | some (.int x) => some (pc + 1, loc, .int x :: r, h, cl, sl)
        | _ => none)
      | some (.inl (.boolean, vs)) => if i < 0 then none else (match vs[i.toNatClampNeg]? with
        | some (.int x) => some (pc + 1, loc, .int x :: r, h, cl, sl)
        | _ => none)
      | _ => none
    | .int i :: .retAddr (k + 1) :: r => if i < 0 then none else (match (ik_sb (k / 2))[i.toNatClampNeg]? with
      | some x => ik_bo (k % 2 = 1 ∧ k < 6) (some (pc + 1, loc, .int x :: r, h, cl, sl))
      | none => none)
    | _ => none
  | .laload => match st with
    | .int i :: .ref a :: r => match h[a]? with
      | some (.inl (.long, vs)) => if i < 0 then none else (match vs[i.toNatClampNeg]? with
        | some (.long x) => some (pc + 1, loc, .long x :: r, h, cl, sl)
        | _ => none)
      | _ => none
    | _ => none
  | .aaload => match st with
    | .int i :: .ref a :: r => match h[a]? with
      | some (.inl (.object _, vs)) => if i < 0 then none else (match vs[i.toNatClampNeg]? with
        | some (.ref x) => some (pc + 1, loc, .ref x :: r, h, cl, sl)
        | _ => none)
      | _ => none
    | _ => none
  | .iastore => match st with
    | .int x :: .int i :: .ref a :: r => match h[a]? with
      | some (.inl (.int, vs)) => ik_bo (¬ i < 0 ∧ i.toNatClampNeg < vs.length) (some (pc + 1, loc, r, h.set a (.inl (.int, vs.set i.toNatClampNeg (.int x))), cl, sl))
      | _ => none
    | _ => none
  | .bastore => match st with
    | .int x :: .int i :: .ref a :: r => match h[a]? with
      | some (.inl (.byte, vs)) => ik_bo (¬ i < 0 ∧ i.toNatClampNeg < vs.length) (some (pc + 1, loc, r, h.set a (.inl (.byte, vs.set i.toNatClampNeg (.int (vp_nar .byte x)))), cl, sl))
      | some (.inl (.boolean, vs)) => ik_bo (¬ i < 0 ∧ i.toNatClampNeg < vs.length) (some (pc + 1, loc, r, h.set a (.inl (.boolean, vs.set i.toNatClampNeg (.int (vp_nar .boolean x)))), cl, sl))
      | _ => none
    | _ => none
  | .lastore => match st with
    | .long x :: .int i :: .ref a :: r => match h[a]? with
      | some (.inl (.long, vs)) => ik_bo (¬ i < 0 ∧ i.toNatClampNeg < vs.length) (some (pc + 1, loc, r, h.set a (.inl (.long, vs.set i.toNatClampNeg (.long x))), cl, sl))
      | _ => none
    | _ => none
  | .aastore => match st with
    | .ref v :: .int i :: .ref a :: r => match h[a]?, h[v]? with
      | some (.inl (.object C, vs)), some (.inr (ci, _)) => ik_bo (¬ i < 0 ∧ i.toNatClampNeg < vs.length ∧ ik_nm ci = C ∧ ci < 11) (some (pc + 1, loc, r, h.set a (.inl (.object C, vs.set i.toNatClampNeg (.ref v))), cl, sl))
      | _, _ => none
    | _ => none
  | .newarray t => match st with
    | .int n :: r => match ik_df t with
      | some (ty, v0) => ik_bo ((¬ n < 0) ∧ n.toNatClampNeg ≤ 60000 ∧ ik_wf loc r h = true) (some (pc + 2, loc, .ref h.length :: r, h ++ [.inl (ty, List.replicate n.toNatClampNeg v0)], cl + 1, sl + n.toNatClampNeg))
      | none => none
    | _ => none
  | .anewarray x => match st, ik_ac mid x with
    | .int n :: r, some (ci, _) => ik_bo ((¬ n < 0) ∧ n.toNatClampNeg ≤ 60000 ∧ ik_wf loc r h = true) (some (pc + 3, loc, .ref h.length :: r, h ++ [.inl (.object (ik_nm ci), List.replicate n.toNatClampNeg .null)], cl + 1, sl + n.toNatClampNeg))
    | _, _ => none
  | .new x => match ik_nc mid x with
    | some (ci, _) => ik_bo (ik_wf loc st h = true) (some (pc + 3, loc, .ref h.length :: st, h ++ [.inr (ci, ik_fs ci)], cl + 1, sl + ik_nf ci))
    | none => none
  | _ => none
/-- the value that a method gives back, if its stack is as it must be at this return -/
def ik_rv (rt : Option FieldType) (i : Instr) (st : List Value) : Option (List Value) := match i, rt, st with
  | .return_, none, [] => some []
  | .ireturn, some .int, [.int v] => some [.int v]
  | .ireturn, some .boolean, [.int v] => if v = 0 ∨ v = 1 then some [.int v] else none
  | .ireturn, some .byte, [.int v] => if narrow .byte (.int v) = .int v then some [.int v] else none
  | .ireturn, some .char, [.int v] => if narrow .char (.int v) = .int v then some [.int v] else none
  | .lreturn, some .long, [.long v] => some [.long v]
  | .areturn, some (.object _), [.ref v] => some [.ref v]
  | _, _, _ => none
def ik_isR (i : Instr) : Bool := match i with
  | .return_ | .ireturn | .lreturn | .areturn => true
  | _ => false
def ik_args : List Value → ik_L
  | [] => []
  | v :: r => if v.category = 2 then some v :: none :: ik_args r else some v :: ik_args r
def ik_loc (n : Nat) (as : List Value) : ik_L := ik_args as ++ List.replicate (n - (ik_args as).length) none
def ik_sum (st : List Value) : Nat := (st.map fun v => v.category).sum
/-- which call: callee, how many values it takes, kind -/
def ik_call (mid : Nat) (i : Instr) : Option (Nat × Nat × Nat) := match i with
  | .invokevirtual x => match ik_ca mid x with
    | some (q, n, 0, _) => some (q, n, 0)
    | _ => none
  | .invokespecial x => match ik_ca mid x with
    | some (q, n, 1, _) => some (q, n, 1)
    | some (q, n, 2, _) => some (q, n, 2)
    | some (q, n, 6, _) => some (q, n, 6)
    | _ => none
  | .invokestatic x => match ik_ca mid x with
    | some (q, n, 3, _) => some (q, n, 3)
    | some (q, n, 4, _) => some (q, n, 4)
    | some (q, n, 5, _) => some (q, n, 5)
    | some (q, n, 7, _) => some (q, n, 7)
    | _ => none
  | _ => none
/-- System.arraycopy between two rows of ints -/
def ik_cpy (vs ws : List Value) (sp dp n : Nat) : List Value := ws.take dp ++ (vs.drop sp).take n ++ ws.drop (dp + n)
def ik_acp (st : List Value) (h : List ik_E) : Option (List Value × List ik_E) := match st with
  | .int n :: .int dp :: .ref b :: .int sp :: .ref a :: r => match h[a]?, h[b]? with
    | some (.inl (.int, vs)), some (.inl (.int, ws)) => if (¬ n < 0) ∧ (¬ dp < 0) ∧ (¬ sp < 0) ∧ sp.toNatClampNeg + n.toNatClampNeg ≤ vs.length ∧ dp.toNatClampNeg + n.toNatClampNeg ≤ ws.length ∧ a ≠ b then some (r, h.set b (.inl (.int, ik_cpy vs ws sp.toNatClampNeg dp.toNatClampNeg n.toNatClampNeg))) else none
    | _, _ => none
  | _ => none
/-- Math.min, Math.abs of ints, Math.max of longs -/
def ik_math (q : Nat) (st : List Value) : Option (List Value) := match q, st with
  | 0, .int y :: .int x :: r => some (.int (if y < x then y else x) :: r)
  | 1, .int x :: r => some (.int (if 0 ≤ x then x else 0 - x) :: r)
  | 2, .long y :: .long x :: r => some (.long (if y < x then x else y) :: r)
  | _, _ => none
/-- does a call of q fit into the room of mid; is its receiver what it must be -/
def ik_fitC (mid q kd : Nat) (as : List Value) (h : List ik_E) (rest : List Value) (loc : ik_L) : Bool :=
  decide (ik_fr q + 1 ≤ ik_fr mid) && decide (8 + (ik_ml q + 11) + ik_lo q ≤ ik_lo mid) && decide (ik_sum rest ≤ 8) && decide ((ik_args as).length ≤ ik_ml q) && decide (q < ik_M.length) && rest.all (ik_wv h.length) && loc.all (ik_wl h.length) &&
  (match kd, as with
   | 0, .ref a :: _ => (match h[a]? with
     | some (.inr (ci, _)) => decide (ci = ik_ow q) && decide (ci < 11)
     | _ => false)
   | 0, .retAddr (k + 1) :: _ => decide (k % 2 = 0) && decide (k < 6) && decide (ik_ow q = ik_sow)
   | 1, .ref _ :: _ => true
   | 2, .ref _ :: _ => true
   | 3, _ => true
   | 4, _ => true
   | _, _ => false)
/-- runs to a return; calls run whole -/
def ik_ex : Option (Nat × (Nat → Int32)) → Nat → Nat → Nat → ik_L → List Value → List ik_E → Nat → Nat → Option ik_St
  | _, 0, _, _, _, _, _, _, _ => none
  | X, n + 1, mid, pc, loc, st, h, cl, sl => match ik_at mid pc with
    | none => none
    | some i => bif ik_isR i then some (pc, loc, st, h, cl, sl) else match ik_call mid i with
      | some (q, k, kd) =>
        (match kd with
        | 6 => (match st with
          | .ref _ :: r => ik_bo (1 ≤ ik_fr mid ∧ 20 ≤ ik_lo mid ∧ ik_sum r ≤ 8) (ik_ex X n mid (pc + 3) loc r h cl sl)
          | _ => none)
        | 5 => (match ik_acp st h with
          | some (r, h') => ik_bo (1 ≤ ik_fr mid ∧ 40 ≤ ik_lo mid ∧ ik_sum r ≤ 8) (ik_ex X n mid (pc + 3) loc r h' cl sl)
          | none => none)
        | 7 => (match ik_math q st with
          | some st' => ik_bo (1 ≤ ik_fr mid ∧ 40 ≤ ik_lo mid ∧ ik_sum (st'.drop 1) ≤ 8) (ik_ex X n mid (pc + 3) loc st' h cl sl)
          | none => none)
        | _ => bif ik_fitC mid q kd (st.take k).reverse h (st.drop k) loc && decide ((st.take k).length = k) then (match ik_ex none n q 0 (ik_loc (ik_ml q) (st.take k).reverse) [] h 0 0 with
          | some (pr, _, sr, h', mc, ms) => (match ik_at q pr with
            | some ir => (match ik_rv (ik_rt q) ir sr with
              | some rv => ik_ex X n mid (pc + 3) loc (rv ++ st.drop k) h' (cl + mc) (sl + ms)
              | none => none)
            | none => none)
          | none => none) else none)
      | none => (match ik_step X mid i pc loc st h cl sl with
        | some (pc', loc', st', h', cl', sl') => ik_ex X n mid pc' loc' st' h' cl' sl'
        | none => none)
