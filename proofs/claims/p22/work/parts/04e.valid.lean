/-! 04e.valid -/
/-- a call: kinds 0 invokevirtual, 1 a constructor, 2 a nest mate's, 3 static, 4 a nest mate's, 5 arraycopy, 6 Object's constructor -/
def ik_cchk (o : Nat) (e : Nat × Nat × Nat × Nat × Nat) : Bool := match ik_oN[o]? with
  | some own => (match e.2.2.2.1 with
    | 0 => ik_tw e.2.2.2.2 (.methodLink own e.1 (ik_y e.2.1)) && decide ((ik_y e.2.1).name ≠ "<init>") && !(ik_MP.getD e.2.1 (0, 0, 0, 0, true)).2.2.2.2 && decide ((parseMethodDescriptor (ik_y e.2.1).desc).map (fun d => d.parameters.length + 1) = some e.2.2.1)
    | 1 => ik_tw e.2.2.2.2 (.methodLink own e.1 (ik_y e.2.1)) && decide ((ik_y e.2.1).name = "<init>") && decide (ik_rt e.2.1 = none) && !(ik_MP.getD e.2.1 (0, 0, 0, 0, true)).2.2.2.2 && decide ((parseMethodDescriptor (ik_y e.2.1).desc).map (fun d => d.parameters.length + 1) = some e.2.2.1)
    | 2 => ik_tn e.2.2.2.2 (.methodLinkNest own e.1 (ik_y e.2.1) "SlowerCork") && decide ((ik_y e.2.1).name = "<init>") && decide (ik_rt e.2.1 = none) && !(ik_MP.getD e.2.1 (0, 0, 0, 0, true)).2.2.2.2 && decide ((parseMethodDescriptor (ik_y e.2.1).desc).map (fun d => d.parameters.length + 1) = some e.2.2.1)
    | 3 => ik_tw e.2.2.2.2 (.methodLink own e.1 (ik_y e.2.1)) && (ik_MP.getD e.2.1 (0, 0, 0, 0, false)).2.2.2.2 && decide ((parseMethodDescriptor (ik_y e.2.1).desc).map (fun d => d.parameters.length) = some e.2.2.1)
    | 4 => ik_tn e.2.2.2.2 (.methodLinkNest own e.1 (ik_y e.2.1) "SlowerCork") && (ik_MP.getD e.2.1 (0, 0, 0, 0, false)).2.2.2.2 && decide ((parseMethodDescriptor (ik_y e.2.1).desc).map (fun d => d.parameters.length) = some e.2.2.1)
    | 5 => ik_tw e.2.2.2.2 (.methodLink own e.1 arraycopyName)
    | 6 => ik_tw e.2.2.2.2 (.methodLink own e.1 objectInit)
    | 7 => (match e.2.1 with
      | 0 => ik_tw e.2.2.2.2 (.methodLink own e.1 Lib.Math.min.name)
      | 1 => ik_tw e.2.2.2.2 (.methodLink own e.1 Lib.Math.abs.name)
      | 2 => ik_tw e.2.2.2.2 (.methodLink own e.1 Lib.MathLoose.max_long.x)
      | _ => false)
    | _ => false) && (decide (5 ≤ e.2.2.2.1) || (decide (0 < e.2.1) && decide (e.2.1 < 227)))
  | none => false
set_option maxRecDepth 100000 in
theorem ik_call_all : ((List.range 18).all fun o => (ik_cT.getD o []).all fun c => c.2.all (ik_cchk o)) = true := by decide +kernel
theorem ik_sys : ik_tw ik_sp.1 (.native arraycopyName) = true ∧ ik_tw ik_sp.2.1 (.static arraycopyName) = true ∧ ik_tw ik_sp.2.2.1 (.initialized "java/lang/System") = true ∧ ik_tw ik_sp.2.2.2.1 (.instanceMethod objectInit) = true ∧ ik_tw ik_sp.2.2.2.2.1 (.code objectInit ⟨#[0xb1]⟩ 1 none) = true := by decide +kernel
theorem ik_aps : (ik_ap.all fun e => ik_tw e.2 (.arrayClass e.1)) = true := by decide +kernel
set_option maxRecDepth 100000 in
theorem ik_oall : ((List.range 227).all fun m => decide (ik_oN[ik_ow m]? = some (ik_own m))) = true := by decide +kernel
def ik_stchk (o : Nat) (e : Nat × Nat × Nat) : Bool := match ik_oN[o]?, ik_slit[e.2.1]? with
  | some own, some q => decide (q.1 = own) && decide (q.2.1 = e.1)
  | _, _ => false
set_option maxRecDepth 100000 in
theorem ik_stall : ((List.range 18).all fun o => (ik_stT.getD o []).all fun c => c.2.all (ik_stchk o)) = true := by decide +kernel
def ik_sfchk (o : Nat) (e : Nat × Nat × Nat) : Bool := match ik_oN[o]?, e.2.1 with
  | some own, 0 => ik_tw e.2.2 (.fieldLink own e.1 "java/lang/String" "value" "[B")
  | some own, 1 => ik_tw e.2.2 (.fieldLink own e.1 "java/lang/String" "coder" "B")
  | _, _ => false
set_option maxRecDepth 100000 in
theorem ik_sfall : ((List.range 18).all fun o => (ik_sfT.getD o []).all fun c => c.2.all (ik_sfchk o)) = true := by decide +kernel
def ik_gschk (o : Nat) (e : Nat × Nat × Nat) : Bool := match ik_oN[o]?, e.2.1 with
  | some own, 0 => ik_tw e.2.2 (.fieldLink own e.1 "java/lang/String" "COMPACT_STRINGS" "Z")
  | some own, 1 => ik_tw e.2.2 (.fieldLink own e.1 "jdk/internal/util/Preconditions" "SIOOBE_FORMATTER" "Ljava/util/function/BiFunction;")
  | _, _ => false
set_option maxRecDepth 100000 in
theorem ik_gsall : ((List.range 18).all fun o => (ik_gsT.getD o []).all fun c => c.2.all (ik_gschk o)) = true := by decide +kernel
theorem ik_sowN : ik_oN[ik_sow]? = some "java/lang/String" := by decide +kernel
theorem ik_mth : ik_tw 497 (.static Lib.Math.min.name) = true ∧ ik_tw 647 (.static Lib.Math.abs.name) = true ∧ ik_tw 678 (.static Lib.MathLoose.max_long.x) = true ∧ ik_tw 91 (.initialized "java/lang/Math") = true := by decide +kernel
set_option maxRecDepth 100000 in
theorem ik_mthc : lw_tbl[498]? = some (.code Lib.Math.min.name Lib.Math.min.code 2 (some .int)) ∧ lw_tbl[648]? = some (.code Lib.Math.abs.name Lib.Math.abs.code 1 (some .int)) ∧ lw_tbl[679]? = some (.code Lib.MathLoose.max_long.x Lib.MathLoose.max_long.code 4 (some .long)) := ⟨rfl, rfl, rfl⟩
def ik_lp : List (List Nat) := [[172, 174, 176, 178, 180, 182, 184, 186, 188], [210, 212, 214, 216, 218], [240, 242, 244, 246, 248, 250], [347, 349, 351, 353, 355, 357, 359], [327, 329], [287, 289, 291, 293, 295], [125, 127, 129, 131, 133, 135, 137, 139, 141, 143], [309, 311, 313, 315], [262, 264, 266, 268, 270, 272], [370, 372, 374, 376, 378, 380, 382, 384], [1031, 1033, 1035, 1037, 1039, 1041, 1043, 1045, 1047, 1049, 1051, 1053, 1055, 1057, 1059, 1061, 1063, 1065, 1067, 1069, 1071, 1073, 1075, 1077, 1079, 1081, 1083, 1085, 1087, 1089, 1091, 1093, 1095, 1097, 1099, 1101, 1103, 1105, 1107, 1109, 1111, 1113, 1115]]
def ik_wchk (ci : Nat) : Bool := match vwCl[ci]? with
  | some (C, T, N) => (List.range N).all (fun k => ik_tw ((ik_lp.getD ci []).getD k 0) (u_lay C T k)) && ik_tw (ik_cp.getD ci (0, 0)).1 (.instantiable C N) && ik_tw (ik_cp.getD ci (0, 0)).2 (.initialized C) && decide (N = ik_nf ci) && decide (C = ik_nm ci) && decide ((ik_fs ci).length = N) && (List.range N).all (fun k => decide (defaultValue (ik_ty ci k) = vp_V (ik_fs ci) k)) && decide (ik_oN[ci]? = some C)
  | none => false
set_option maxRecDepth 100000 in
theorem ik_wall : ((List.range 11).all ik_wchk) = true := by decide +kernel
theorem ik_names {ci : Nat} {C : String} {T : u_T} {N : Nat} (h : vwCl[ci]? = some (C, T, N)) : (∀ j, j < N → parseFieldDescriptor (T j).2.2.1 = some (ik_ty ci j)) ∧ (∀ a, a < N → ∀ b, b < N → a ≠ b → (T a).2.1 ≠ (T b).2.1) := by
  match ci, h with
  | 0, h => cases h; exact ⟨tyX0_ok, nmX0⟩
  | 1, h => cases h; exact ⟨tyX1_ok, nmX1⟩
  | 2, h => cases h; exact ⟨tyX2_ok, nmX2⟩
  | 3, h => cases h; exact ⟨tyX3_ok, nmX3⟩
  | 4, h => cases h; exact ⟨tyX4_ok, nmX4⟩
  | 5, h => cases h; exact ⟨tyX5_ok, nmX5⟩
  | 6, h => cases h; exact ⟨tyX6_ok, nmX6⟩
  | 7, h => cases h; exact ⟨tyX7_ok, nmX7⟩
  | 8, h => cases h; exact ⟨tyX8_ok, nmX8⟩
  | 9, h => cases h; exact ⟨tyX9_ok, nmX9⟩
  | 10, h => cases h; exact ⟨tyX10_ok, nmX10⟩
  | k + 11, h => simp [vwCl] at h

/-! 05.machine -/
/-! AN ABSTRACT MACHINE over places: a heap is a list of cells, a reference is a place in it (or, as 'retAddr k', a thing outside it: k 0 the script). Its runs are runs of the machine (part 20, 30). -/
abbrev ik_E : Type := (FieldType × List Value) ⊕ (Nat × List Value)
abbrev ik_L : Type := List (Option Value)
/-- pc, locals, stack, heap, cells, slots -/
abbrev ik_St : Type := Nat × ik_L × List Value × List ik_E × Nat × Nat
def ik_tg (pc : Nat) (off : Int) : Option Nat := match (pc : Int) + off with
  | .ofNat t => some t
  | .negSucc _ => none
def ik_put (loc : ik_L) (i : Nat) (v : Value) : ik_L :=
  let l1 := match i with
    | 0 => loc
    | j + 1 => match loc[j]? with
      | some (some w) => if w.category = 2 then loc.set j none else loc
      | _ => loc
  let l2 := l1.set i (some v)
  if v.category = 2 then l2.set (i + 1) none else l2
def ik_gI (loc : ik_L) (i : Nat) : Option Int32 := match loc[i]? with
  | some (some (.int x)) => some x
  | _ => none
def ik_gL (loc : ik_L) (i : Nat) : Option Int64 := match loc[i]? with
  | some (some (.long x)) => some x
  | _ => none
def ik_gA (loc : ik_L) (i : Nat) : Option Value := match loc[i]? with
  | some (some (.ref x)) => some (.ref x)
  | some (some (.retAddr x)) => if x < 100 then some (.retAddr x) else none
  | _ => none
/-- does a value lie in a field of this type as it is -/
def ik_fit (ty : FieldType) (v : Value) : Bool := match ty, v with
  | .int, .int _ => true
  | .long, .long _ => true
  | .boolean, .int x => x == 0 || x == 1
  | .object _, .ref _ => true
  | .array _, .ref _ => true
  | _, _ => false
def ik_bo (b : Prop) [Decidable b] (x : Option ik_St) : Option ik_St := if b then x else none
def ik_df (t : ArrayType) : Option (FieldType × Value) := match t with
  | .int => some (.int, .int 0)
  | .long => some (.long, .long 0)
  | .byte => some (.byte, .int 0)
  | .boolean => some (.boolean, .int 0)
  | _ => none
def ik_wv (n : Nat) (v : Value) : Bool := match v with
  | .ref k => decide (k < n)
  | _ => true
def ik_wl (n : Nat) (o : Option Value) : Bool := match o with
  | some v => ik_wv n v
  | none => true
def ik_we (n : Nat) (e : ik_E) : Bool := match e with
  | .inr (_, fs) => fs.all (ik_wv n)
  | .inl (_, vs) => vs.all (ik_wv n)
/-- all references are to places that there are -/
def ik_wf (loc : ik_L) (st : List Value) (h : List ik_E) : Bool := loc.all (ik_wl h.length) && st.all (ik_wv h.length) && h.all (ik_we h.length)
/-- one instruction, no call and no return; 'X' the script -/
def ik_step (X : Option (Nat × (Nat → Int32))) (mid : Nat) (i : Instr) (pc : Nat) (loc : ik_L) (st : List Value) (h : List ik_E) (cl sl : Nat) : Option ik_St := match i with
  | .iconst k => some (pc + 1, loc, .int (Int32.ofInt k) :: st, h, cl, sl)
  | .bipush k => some (pc + 2, loc, .int (Int8.ofInt k).toInt32 :: st, h, cl, sl)
  | .sipush k => some (pc + 3, loc, .int (Int16.ofInt k).toInt32 :: st, h, cl, sl)
  | .lconst k => some (pc + 1, loc, .long (Int64.ofNat k) :: st, h, cl, sl)
  | .ldc x => match ik_ci mid x with
    | some (v, _) => some (pc + 2, loc, .int v :: st, h, cl, sl)
    | none => (match ik_st mid x with
      | some (i, _) => ik_bo (i < 3) (some (pc + 2, loc, .retAddr (2 * i + 1) :: st, h, cl, sl))
      | none => none)
  | .getstatic x => match ik_gs mid x with
    | some (0, _) => some (pc + 3, loc, .int 1 :: st, h, cl, sl)
    | some (1, _) => some (pc + 3, loc, .retAddr 100 :: st, h, cl, sl)
    | _ => none
  | .ldc_w x => match ik_ci mid x with
    | some (v, _) => some (pc + 3, loc, .int v :: st, h, cl, sl)
    | none => none
  | .ldc2_w x => match ik_ck mid x with
    | some (v, _) => some (pc + 3, loc, .long v :: st, h, cl, sl)
    | none => none
  | .iload_n k => match ik_gI loc k with
    | some x => some (pc + 1, loc, .int x :: st, h, cl, sl)
    | none => none
  | .iload k => match ik_gI loc k with
    | some x => some (pc + 2, loc, .int x :: st, h, cl, sl)
    | none => none
  | .lload_n k => match ik_gL loc k with
    | some x => some (pc + 1, loc, .long x :: st, h, cl, sl)
    | none => none
  | .lload k => match ik_gL loc k with
    | some x => some (pc + 2, loc, .long x :: st, h, cl, sl)
    | none => none
  | .aload_n k => match ik_gA loc k with
    | some x => some (pc + 1, loc, x :: st, h, cl, sl)
    | none => none
  | .aload k => match ik_gA loc k with
    | some x => some (pc + 2, loc, x :: st, h, cl, sl)
    | none => none
  | .istore_n k => match st with
    | .int x :: r => ik_bo (k < ik_ml mid) (some (pc + 1, ik_put loc k (.int x), r, h, cl, sl))
    | _ => none
  | .istore k => match st with
    | .int x :: r => ik_bo (k < ik_ml mid) (some (pc + 2, ik_put loc k (.int x), r, h, cl, sl))
    | _ => none
  | .lstore_n k => match st with
    | .long x :: r => ik_bo (k + 1 < ik_ml mid) (some (pc + 1, ik_put loc k (.long x), r, h, cl, sl))
    | _ => none
  | .lstore k => match st with
    | .long x :: r => ik_bo (k + 1 < ik_ml mid) (some (pc + 2, ik_put loc k (.long x), r, h, cl, sl))
    | _ => none
  | .astore_n k => match st with
    | .ref x :: r => ik_bo (k < ik_ml mid) (some (pc + 1, ik_put loc k (.ref x), r, h, cl, sl))
    | _ => none
  | .astore k => match st with
    | .ref x :: r => ik_bo (k < ik_ml mid) (some (pc + 2, ik_put loc k (.ref x), r, h, cl, sl))
    | _ => none
  | .iinc k n => match ik_gI loc k with
    | some x => ik_bo (k < ik_ml mid) (some (pc + 3, ik_put loc k (.int (x + Int32.ofInt n)), st, h, cl, sl))
    | none => none
  | .iadd => match st with
    | .int y :: .int x :: r => some (pc + 1, loc, .int (x + y) :: r, h, cl, sl)
    | _ => none
  | .isub => match st with
    | .int y :: .int x :: r => some (pc + 1, loc, .int (x - y) :: r, h, cl, sl)
    | _ => none
  | .imul => match st with
    | .int y :: .int x :: r => some (pc + 1, loc, .int (x * y) :: r, h, cl, sl)
    | _ => none
  | .iand => match st with
    | .int y :: .int x :: r => some (pc + 1, loc, .int (x &&& y) :: r, h, cl, sl)
    | _ => none
  | .ior => match st with
    | .int y :: .int x :: r => some (pc + 1, loc, .int (x ||| y) :: r, h, cl, sl)
    | _ => none
  | .ixor => match st with
    | .int y :: .int x :: r => some (pc + 1, loc, .int (x ^^^ y) :: r, h, cl, sl)
    | _ => none
  | .ishl => match st with
    | .int y :: .int x :: r => some (pc + 1, loc, .int (x <<< (y &&& 31)) :: r, h, cl, sl)
    | _ => none
  | .ishr => match st with
    | .int y :: .int x :: r => some (pc + 1, loc, .int (x >>> (y &&& 31)) :: r, h, cl, sl)
    | _ => none
  | .iushr => match st with
    | .int y :: .int x :: r => some (pc + 1, loc, .int (x.toUInt32 >>> (y.toUInt32 &&& Int32.toUInt32 31)).toInt32 :: r, h, cl, sl)
    | _ => none
  | .idiv => match st with
    | .int y :: .int x :: r => ik_bo (¬ y = 0) (some (pc + 1, loc, .int (x / y) :: r, h, cl, sl))
    | _ => none
  | .irem => match st with
    | .int y :: .int x :: r => ik_bo (¬ y = 0) (some (pc + 1, loc, .int (x - x / y * y) :: r, h, cl, sl))
    | _ => none
  | .ineg => match st with
    | .int x :: r => some (pc + 1, loc, .int (-x) :: r, h, cl, sl)
    | _ => none
  | .ladd => match st with
    | .long y :: .long x :: r => some (pc + 1, loc, .long (x + y) :: r, h, cl, sl)
    | _ => none
  | .lsub => match st with
    | .long y :: .long x :: r => some (pc + 1, loc, .long (x - y) :: r, h, cl, sl)
    | _ => none
  | .lmul => match st with
    | .long y :: .long x :: r => some (pc + 1, loc, .long (x * y) :: r, h, cl, sl)
    | _ => none
  | .land => match st with
    | .long y :: .long x :: r => some (pc + 1, loc, .long (x &&& y) :: r, h, cl, sl)
    | _ => none
  | .lor => match st with
    | .long y :: .long x :: r => some (pc + 1, loc, .long (x ||| y) :: r, h, cl, sl)
    | _ => none
  | .lxor => match st with
    | .long y :: .long x :: r => some (pc + 1, loc, .long (x ^^^ y) :: r, h, cl, sl)
    | _ => none
  | .ldiv => match st with
    | .long y :: .long x :: r => ik_bo (¬ y = 0) (some (pc + 1, loc, .long (x / y) :: r, h, cl, sl))
    | _ => none
  | .lrem => match st with
    | .long y :: .long x :: r => ik_bo (¬ y = 0) (some (pc + 1, loc, .long (x - x / y * y) :: r, h, cl, sl))
    | _ => none
  | .lneg => match st with
    | .long x :: r => some (pc + 1, loc, .long (-x) :: r, h, cl, sl)
    | _ => none
  | .lshl => match st with
    | .int y :: .long x :: r => some (pc + 1, loc, .long (x <<< (y.toInt64 &&& 63)) :: r, h, cl, sl)
    | _ => none
  | .lshr => match st with
    | .int y :: .long x :: r => some (pc + 1, loc, .long (x >>> (y.toInt64 &&& 63)) :: r, h, cl, sl)
    | _ => none
  | .lushr => match st with
    | .int y :: .long x :: r => some (pc + 1, loc, .long (x.toUInt64 >>> (y.toInt64.toUInt64 &&& Int64.toUInt64 63)).toInt64 :: r, h, cl, sl)
    | _ => none
  | .lcmp => match st with
    | .long y :: .long x :: r => some (pc + 1, loc, .int (lg_cmp x y) :: r, h, cl, sl)
    | _ => none
  | .i2l => match st with
    | .int x :: r => some (pc + 1, loc, .long x.toInt64 :: r, h, cl, sl)
    | _ => none
  | .l2i => match st with
    | .long x :: r => some (pc + 1, loc, .int x.toInt32 :: r, h, cl, sl)
    | _ => none
  | .i2b => match st with
    | .int x :: r => some (pc + 1, loc, .int x.toInt8.toInt32 :: r, h, cl, sl)
    | _ => none
  | .i2c => match st with
    | .int x :: r => some (pc + 1, loc, .int (x.toUInt32 % 65536).toInt32 :: r, h, cl, sl)
    | _ => none
  | .dup => match st with
    | a :: r => ik_bo (a.category = 1) (some (pc + 1, loc, a :: a :: r, h, cl, sl))
    | _ => none
  | .pop => match st with
    | a :: r => ik_bo (a.category = 1) (some (pc + 1, loc, r, h, cl, sl))
    | _ => none
  | .dup_x1 => match st with
    | a :: b :: r => ik_bo (a.category = 1 ∧ b.category = 1) (some (pc + 1, loc, a :: b :: a :: r, h, cl, sl))
    | _ => none
  | .dup_x2 => match st with
    | a :: b :: d :: r => ik_bo (a.category = 1 ∧ b.category = 1 ∧ d.category = 1) (some (pc + 1, loc, a :: b :: d :: a :: r, h, cl, sl))
    | _ => none
  | .dup2 => match st with
    | a :: b :: r => if a.category = 2 then some (pc + 1, loc, a :: a :: b :: r, h, cl, sl) else ik_bo (a.category = 1 ∧ b.category = 1) (some (pc + 1, loc, a :: b :: a :: b :: r, h, cl, sl))
    | a :: r => ik_bo (a.category = 2) (some (pc + 1, loc, a :: a :: r, h, cl, sl))
    | _ => none
  | .dup2_x1 => match st with
    | a :: b :: r => ik_bo (a.category = 2 ∧ b.category = 1) (some (pc + 1, loc, a :: b :: a :: r, h, cl, sl))
    | _ => none
  | .ifCond c off => match st, ik_tg pc off with
    | .int x :: r, some t => match c with
      | .eq => some (if x = 0 then t else pc + 3, loc, r, h, cl, sl)
      | .ne => some (if x = 0 then pc + 3 else t, loc, r, h, cl, sl)
      | .lt => some (if x < 0 then t else pc + 3, loc, r, h, cl, sl)
      | .ge => some (if 0 ≤ x then t else pc + 3, loc, r, h, cl, sl)
      | .gt => some (if 0 < x then t else pc + 3, loc, r, h, cl, sl)
      | .le => some (if x ≤ 0 then t else pc + 3, loc, r, h, cl, sl)
    | _, _ => none
  | .if_icmp c off => match st, ik_tg pc off with
    | .int y :: .int x :: r, some t => match c with
      | .eq => some (if x = y then t else pc + 3, loc, r, h, cl, sl)
      | .ne => some (if x = y then pc + 3 else t, loc, r, h, cl, sl)
      | .lt => some (if x < y then t else pc + 3, loc, r, h, cl, sl)
      | .ge => some (if y ≤ x then t else pc + 3, loc, r, h, cl, sl)
      | .gt => some (if y < x then t else pc + 3, loc, r, h, cl, sl)
      | .le => some (if x ≤ y then t else pc + 3, loc, r, h, cl, sl)
    | _, _ => none
  | .goto off => match ik_tg pc off with
    | some t => some (t, loc, st, h, cl, sl)
    | none => none
  | .tableswitch d lo hi offs => match st with
    | .int x :: r => if x.toInt < lo ∨ hi < x.toInt then (match ik_tg pc d with
        | some t => some (t, loc, r, h, cl, sl)
        | none => none) else (match offs.toList[(x.toInt - lo).toNat]? with
        | some off => (match ik_tg pc off with
          | some t => some (t, loc, r, h, cl, sl)
          | none => none)
        | none => none)
    | _ => none
  | .getfield x => match st, ik_fl mid x with
    | .ref a :: r, some (ci, k, _) => match h[a]? with
      | some (.inr (cj, fs)) => ik_bo (cj = ci) (match fs[k]? with
        | some v => some (pc + 3, loc, v :: r, h, cl, sl)
        | none => none)
      | _ => none
    | .retAddr (k + 1) :: r, none => ik_bo (k % 2 = 0 ∧ k < 6) (match ik_sf mid x with
      | some (0, _) => some (pc + 3, loc, .retAddr (k + 2) :: r, h, cl, sl)
      | some (1, _) => some (pc + 3, loc, .int 0 :: r, h, cl, sl)
      | _ => none)
    | _, _ => none
  | .putfield x => match st, ik_fl mid x with
    | v :: .ref a :: r, some (ci, k, _) => match h[a]? with
      | some (.inr (cj, fs)) => ik_bo (cj = ci ∧ k < fs.length ∧ ik_fit (ik_ty ci k) v = true ∧ (ik_fi ci k = false ∨ ik_in mid = ci + 1)) (some (pc + 3, loc, r, h.set a (.inr (ci, fs.set k v)), cl, sl))
      | _ => none
    | _, _ => none
  | .arraylength => match st with
    | .ref a :: r => match h[a]? with
      | some (.inl (_, vs)) => some (pc + 1, loc, .int (Int32.ofNat vs.length) :: r, h, cl, sl)
      | _ => none
    | .retAddr 0 :: r => match X with
      | some (L, _) => some (pc + 1, loc, .int (Int32.ofNat L) :: r, h, cl, sl)
      | none => none
    | .retAddr (k + 1) :: r => ik_bo (k % 2 = 1 ∧ k < 6) (some (pc + 1, loc, .int (Int32.ofNat (ik_sb (k / 2)).length) :: r, h, cl, sl))
    | _ => none
  | .iaload => match st with
    | .int i :: .ref a :: r => match h[a]? with
      | some (.inl (.int, vs)) => if i < 0 then none else (match vs[i.toNatClampNeg]? with
        | some (.int x) => some (pc + 1, loc, .int x :: r, h, cl, sl)
        | _ => none)
      | _ => none
    | .int i :: .retAddr 0 :: r => match X with
      | some (L, f) => ik_bo (¬ (i < 0 ∨ L ≤ i.toNatClampNeg)) (some (pc + 1, loc, .int (f i.toNatClampNeg) :: r, h, cl, sl))
      | none => none
    | _ => none
  | .baload => match st with
    | .int i :: .ref a :: r => match h[a]? with
      | some (.inl (.byte, vs)) => if i < 0 then none else (match vs[i.toNatClampNeg]? with
        | some (.int x) => some (pc + 1, loc, .int x :: r, h, cl, sl)
        | _ => none)
      | some (.inl (.boolean, vs)) => if i < 0 then none else (match vs[i.toNatClampNeg]? with
        | some (.int x) => some (pc + 1, loc, .int x :: r, h, cl, sl)
        | _ => none)
      | _ => none
    | .int i :: .retAddr (k + 1) :: r => if i < 0 then none else (match (ik_sb (k / 2))[i.toNatClampNeg]? with
      | some x => ik_bo (k % 2 = 1 ∧ k < 6) (some (pc + 1, loc, .int x :: r, h, cl, sl))
      | none => none)
    | _ => none
  | .laload => match st with
    | .int i :: .ref a :: r => match h[a]? with
      | some (.inl (.long, vs)) => if i < 0 then none else (match vs[i.toNatClampNeg]? with
        | some (.long x) => some (pc + 1, loc, .long x :: r, h, cl, sl)
        | _ => none)
      | _ => none
    | _ => none
  | .aaload => match st with
    | .int i :: .ref a :: r => match h[a]? with
      | some (.inl (.object _, vs)) => if i < 0 then none else (match vs[i.toNatClampNeg]? with
        | some (.ref x) => some (pc + 1, loc, .ref x :: r, h, cl, sl)
        | _ => none)
      | _ => none
    | _ => none
  | .iastore => match st with
    | .int x :: .int i :: .ref a :: r => match h[a]? with
      | some (.inl (.int, vs)) => ik_bo (¬ i < 0 ∧ i.toNatClampNeg < vs.length) (some (pc + 1, loc, r, h.set a (.inl (.int, vs.set i.toNatClampNeg (.int x))), cl, sl))
      | _ => none
    | _ => none
  | .bastore => match st with
    | .int x :: .int i :: .ref a :: r => match h[a]? with
      | some (.inl (.byte, vs)) => ik_bo (¬ i < 0 ∧ i.toNatClampNeg < vs.length) (some (pc + 1, loc, r, h.set a (.inl (.byte, vs.set i.toNatClampNeg (.int (vp_nar .byte x)))), cl, sl))
      | some (.inl (.boolean, vs)) => ik_bo (¬ i < 0 ∧ i.toNatClampNeg < vs.length) (some (pc + 1, loc, r, h.set a (.inl (.boolean, vs.set i.toNatClampNeg (.int (vp_nar .boolean x)))), cl, sl))
      | _ => none
    | _ => none
  | .lastore => match st with
    | .long x :: .int i :: .ref a :: r => match h[a]? with
      | some (.inl (.long, vs)) => ik_bo (¬ i < 0 ∧ i.toNatClampNeg < vs.length) (some (pc + 1, loc, r, h.set a (.inl (.long, vs.set i.toNatClampNeg (.long x))), cl, sl))
      | _ => none
    | _ => none
  | .aastore => match st with
    | .ref v :: .int i :: .ref a :: r => match h[a]?, h[v]? with
      | some (.inl (.object C, vs)), some (.inr (ci, _)) => ik_bo (¬ i < 0 ∧ i.toNatClampNeg < vs.length ∧ ik_nm ci = C ∧ ci < 11) (some (pc + 1, loc, r, h.set a (.inl (.object C, vs.set i.toNatClampNeg (.ref v))), cl, sl))
      | _, _ => none
    | _ => none
  | .newarray t => match st with
    | .int n :: r => match ik_df t with
      | some (ty, v0) => ik_bo ((¬ n < 0) ∧ n.toNatClampNeg ≤ 60000 ∧ ik_wf loc r h = true) (some (pc + 2, loc, .ref h.length :: r, h ++ [.inl (ty, List.replicate n.toNatClampNeg v0)], cl + 1, sl + n.toNatClampNeg))
      | none => none
    | _ => none
  | .anewarray x => match st, ik_ac mid x with
    | .int n :: r, some (ci, _) => ik_bo ((¬ n < 0) ∧ n.toNatClampNeg ≤ 60000 ∧ ik_wf loc r h = true) (some (pc + 3, loc, .ref h.length :: r, h ++ [.inl (.object (ik_nm ci), List.replicate n.toNatClampNeg .null)], cl + 1, sl + n.toNatClampNeg))
    | _, _ => none
  | .new x => match ik_nc mid x with
    | some (ci, _) => ik_bo (ik_wf loc st h = true) (some (pc + 3, loc, .ref h.length :: st, h ++ [.inr (ci, ik_fs ci)], cl + 1, sl + ik_nf ci))
    | none => none
  | _ => none
/-- the value that a method gives back, if its stack is as it must be at this return -/
def ik_rv (rt : Option FieldType) (i : Instr) (st : List Value) : Option (List Value) := match i, rt, st with
  | .return_, none, [] => some []
  | .ireturn, some .int, [.int v] => some [.int v]
  | .ireturn, some .boolean, [.int v] => if v = 0 ∨ v = 1 then some [.int v] else none
  | .ireturn, some .byte, [.int v] => if narrow .byte (.int v) = .int v then some [.int v] else none
  | .ireturn, some .char, [.int v] => if narrow .char (.int v) = .int v then some [.int v] else none
  | .lreturn, some .long, [.long v] => some [.long v]
  | .areturn, some (.object _), [.ref v] => some [.ref v]
  | _, _, _ => none
def ik_isR (i : Instr) : Bool := match i with
  | .return_ | .ireturn | .lreturn | .areturn => true
  | _ => false
def ik_args : List Value → ik_L
  | [] => []
  | v :: r => if v.category = 2 then some v :: none :: ik_args r else some v :: ik_args r
def ik_loc (n : Nat) (as : List Value) : ik_L := ik_args as ++ List.replicate (n - (ik_args as).length) none
def ik_sum (st : List Value) : Nat := (st.map fun v => v.category).sum
/-- which call: callee, how many values it takes, kind -/
def ik_call (mid : Nat) (i : Instr) : Option (Nat × Nat × Nat) := match i with
  | .invokevirtual x => match ik_ca mid x with
    | some (q, n, 0, _) => some (q, n, 0)
    | _ => none
  | .invokespecial x => match ik_ca mid x with
    | some (q, n, 1, _) => some (q, n, 1)
    | some (q, n, 2, _) => some (q, n, 2)
    | some (q, n, 6, _) => some (q, n, 6)
    | _ => none
  | .invokestatic x => match ik_ca mid x with
    | some (q, n, 3, _) => some (q, n, 3)
    | some (q, n, 4, _) => some (q, n, 4)
    | some (q, n, 5, _) => some (q, n, 5)
    | some (q, n, 7, _) => some (q, n, 7)
    | _ => none
  | _ => none
/-- System.arraycopy between two rows of ints -/
def ik_cpy (vs ws : List Value) (sp dp n : Nat) : List Value := ws.take dp ++ (vs.drop sp).take n ++ ws.drop (dp + n)
def ik_acp (st : List Value) (h : List ik_E) : Option (List Value × List ik_E) := match st with
  | .int n :: .int dp :: .ref b :: .int sp :: .ref a :: r => match h[a]?, h[b]? with
    | some (.inl (.int, vs)), some (.inl (.int, ws)) => if (¬ n < 0) ∧ (¬ dp < 0) ∧ (¬ sp < 0) ∧ sp.toNatClampNeg + n.toNatClampNeg ≤ vs.length ∧ dp.toNatClampNeg + n.toNatClampNeg ≤ ws.length ∧ a ≠ b then some (r, h.set b (.inl (.int, ik_cpy vs ws sp.toNatClampNeg dp.toNatClampNeg n.toNatClampNeg))) else none
    | _, _ => none
  | _ => none
/-- Math.min, Math.abs of ints, Math.max of longs -/
def ik_math (q : Nat) (st : List Value) : Option (List Value) := match q, st with
  | 0, .int y :: .int x :: r => some (.int (if y < x then y else x) :: r)
  | 1, .int x :: r => some (.int (if 0 ≤ x then x else 0 - x) :: r)
  | 2, .long y :: .long x :: r => some (.long (if y < x then x else y) :: r)
  | _, _ => none
/-- does a call of q fit into the room of mid; is its receiver what it must be -/
def ik_fitC (mid q kd : Nat) (as : List Value) (h : List ik_E) (rest : List Value) (loc : ik_L) : Bool :=
  decide (ik_fr q + 1 ≤ ik_fr mid) && decide (8 + (ik_ml q + 11) + ik_lo q ≤ ik_lo mid) && decide (ik_sum rest ≤ 8) && decide ((ik_args as).length ≤ ik_ml q) && decide (q < ik_M.length) && rest.all (ik_wv h.length) && loc.all (ik_wl h.length) &&
  (match kd, as with
   | 0, .ref a :: _ => (match h[a]? with
     | some (.inr (ci, _)) => decide (ci = ik_ow q) && decide (ci < 11)
     | _ => false)
   | 0, .retAddr (k + 1) :: _ => decide (k % 2 = 0) && decide (k < 6) && decide (ik_ow q = ik_sow)
   | 1, .ref _ :: _ => true
   | 2, .ref _ :: _ => true
   | 3, _ => true
   | 4, _ => true
   | _, _ => false)
/-- runs to a return; calls run whole -/
def ik_ex : Option (Nat × (Nat → Int32)) → Nat → Nat → Nat → ik_L → List Value → List ik_E → Nat → Nat → Option ik_St
  | _, 0, _, _, _, _, _, _, _ => none
  | X, n + 1, mid, pc, loc, st, h, cl, sl => match ik_at mid pc with
    | none => none
    | some i => bif ik_isR i then some (pc, loc, st, h, cl, sl) else match ik_call mid i with
      | some (q, k, kd) =>
        (match kd with
        | 6 => (match st with
          | .ref _ :: r => ik_bo (1 ≤ ik_fr mid ∧ 20 ≤ ik_lo mid ∧ ik_sum r ≤ 8) (ik_ex X n mid (pc + 3) loc r h cl sl)
          | _ => none)
        | 5 => (match ik_acp st h with
          | some (r, h_q) => ik_bo (1 ≤ ik_fr mid ∧ 40 ≤ ik_lo mid ∧ ik_sum r ≤ 8) (ik_ex X n mid (pc + 3) loc r h_q cl sl)
          | none => none)
        | 7 => (match ik_math q st with
          | some st_q => ik_bo (1 ≤ ik_fr mid ∧ 40 ≤ ik_lo mid ∧ ik_sum (st_q.drop 1) ≤ 8) (ik_ex X n mid (pc + 3) loc st_q h cl sl)
          | none => none)
        | _ => bif ik_fitC mid q kd (st.take k).reverse h (st.drop k) loc && decide ((st.take k).length = k) then (match ik_ex none n q 0 (ik_loc (ik_ml q) (st.take k).reverse) [] h 0 0 with
          | some (pr, _, sr, h_q, mc, ms) => (match ik_at q pr with
            | some ir => (match ik_rv (ik_rt q) ir sr with
              | some rv => ik_ex X n mid (pc + 3) loc (rv ++ st.drop k) h_q (cl + mc) (sl + ms)
              | none => none)
            | none => none)
          | none => none) else none)
      | none => (match ik_step X mid i pc loc st h cl sl with
        | some (pc_q, loc_q, st_q, h_q, cl_q, sl_q) => ik_ex X n mid pc_q loc_q st_q h_q cl_q sl_q
        | none => none)

/-! 07.conc -/
/-! WHAT AN ABSTRACT STATE SAYS OF THE MACHINE'S: ad: the address of a place, sd: of a thing outside, ct: the class of the array at a place -/
def ik_v (ad : Nat → Nat) (sd : Nat → Option Nat) (v : Value) : Value := match v with
  | .ref k => .ref (ad k)
  | .retAddr k => va_rf (sd k)
  | w => w
def ik_I (v : Value) : Int32 := match v with
  | .int x => x
  | _ => 0
def ik_Lg (v : Value) : Int64 := match v with
  | .long x => x
  | _ => 0
def ik_Rf (ad : Nat → Nat) (v : Value) : Option Nat := match v with
  | .ref k => some (ad k)
  | _ => none
def ik_a (ad : Nat → Nat) (ty : FieldType) (vs : List Value) : vp_A := (vs.length, match ty with
  | .long => .inr (.inl (fun j => ik_Lg (vs.getD j .null)))
  | .object _ => .inr (.inr (.inr (.inr (fun j => ik_Rf ad (vs.getD j .null)))))
  | _ => .inl (fun j => ik_I (vs.getD j .null)))
def ik_c (ad : Nat → Nat) (sd : Nat → Option Nat) (ct : Nat → Nat) (k : Nat) (e : ik_E) : Nat × va_E := (ad k, match e with
  | .inl (ty, vs) => .inl (ct k, ik_a ad ty vs)
  | .inr (ci, fs) => .inr (ci, fs.map (ik_v ad sd)))
def ik_w (ad : Nat → Nat) (sd : Nat → Option Nat) (ct : Nat → Nat) (h : List ik_E) : va_W := h.mapIdx (ik_c ad sd ct)
theorem ik_w_at {ad : Nat → Nat} {sd : Nat → Option Nat} {ct : Nat → Nat} {h : List ik_E} {k : Nat} {e : ik_E} (hk : h[k]? = some e) : (ik_w ad sd ct h)[k]? = some (ik_c ad sd ct k e) := by
  simp [ik_w, hk]
theorem ik_w_set {ad : Nat → Nat} {sd : Nat → Option Nat} {ct : Nat → Nat} {h : List ik_E} {k : Nat} {e : ik_E} : (ik_w ad sd ct h).set k (ik_c ad sd ct k e) = ik_w ad sd ct (h.set k e) := by
  apply List.ext_getElem?
  intro j
  by_cases hj : j = k
  · subst hj
    by_cases hl : j < h.length
    · simp [ik_w, hl]
    · simp [ik_w, hl]
  · simp [ik_w, List.getElem?_set_ne (Ne.symm hj), List.getElem?_set_ne (Ne.symm hj)]
theorem ik_w_push {ad : Nat → Nat} {sd : Nat → Option Nat} {ct : Nat → Nat} {h : List ik_E} {e : ik_E} : ik_w ad sd ct (h ++ [e]) = ik_w ad sd ct h ++ [ik_c ad sd ct h.length e] := by
  simp [ik_w]
theorem ik_v_cat (ad : Nat → Nat) (sd : Nat → Option Nat) (v : Value) : (ik_v ad sd v).category = v.category := by
  cases v with
  | retAddr k =>
    show (va_rf (sd k)).category = 1
    cases sd k <;> rfl
  | _ => rfl
/-- locals -/
def ik_pr (ad : Nat → Nat) (sd : Nat → Option Nat) (loc : ik_L) : List (Nat × Value) := (List.range loc.length).filterMap fun i => match loc[i]? with
  | some (some v) => some (i, ik_v ad sd v)
  | _ => none
theorem ik_pr_mem {ad : Nat → Nat} {sd : Nat → Option Nat} {loc : ik_L} {i : Nat} {w : Value} : (i, w) ∈ ik_pr ad sd loc ↔ ∃ v, loc[i]? = some (some v) ∧ w = ik_v ad sd v := by
  unfold ik_pr
  constructor
  · intro h
    obtain ⟨j, hj, hm⟩ := List.mem_filterMap.mp h
    split at hm
    · rename_i v hv
      cases hm
      exact ⟨v, hv, rfl⟩
    · cases hm
  · rintro ⟨v, hv, rfl⟩
    refine List.mem_filterMap.mpr ⟨i, List.mem_range.mpr (List.getElem?_eq_some_iff.mp hv).1, ?_⟩
    rw [hv]
def ik_lh (ad : Nat → Nat) (sd : Nat → Option Nat) (ls : Array Slot) (nL : Nat) (loc : ik_L) : Prop := lv_has ls nL (ik_pr ad sd loc)
theorem ik_lh.get {ad : Nat → Nat} {sd : Nat → Option Nat} {ls : Array Slot} {nL : Nat} {loc : ik_L} (h : ik_lh ad sd ls nL loc) {i : Nat} {v : Value} (hv : loc[i]? = some (some v)) : ls[i]? = some (.val (ik_v ad sd v)) :=
  h.2.2 (i, ik_v ad sd v) (ik_pr_mem.mpr ⟨v, hv, rfl⟩)
theorem ik_put_get {loc : ik_L} {i j : Nat} {v w : Value} (h : (ik_put loc i v)[j]? = some (some w)) : (j = i ∧ w = v) ∨ (j ≠ i ∧ loc[j]? = some (some w) ∧ ¬ (j + 1 = i ∧ w.category = 2) ∧ (v.category = 2 → j ≠ i + 1)) := by
  unfold ik_put at h
  have key : ∀ l1 : ik_L, (∀ j w, l1[j]? = some (some w) → loc[j]? = some (some w) ∧ ¬ (j + 1 = i ∧ w.category = 2)) → (let l2 := l1.set i (some v); if v.category = 2 then l2.set (i + 1) none else l2)[j]? = some (some w) → (j = i ∧ w = v) ∨ (j ≠ i ∧ loc[j]? = some (some w) ∧ ¬ (j + 1 = i ∧ w.category = 2) ∧ (v.category = 2 → j ≠ i + 1)) := by
    intro l1 h1 h2
    have h3 : ∀ j w, (l1.set i (some v))[j]? = some (some w) → (j = i ∧ w = v) ∨ (j ≠ i ∧ loc[j]? = some (some w) ∧ ¬ (j + 1 = i ∧ w.category = 2)) := by
      intro j w hj
      rw [List.getElem?_set] at hj
      split at hj
      · rename_i e
        split at hj
        · cases hj
          exact Or.inl ⟨e.symm, rfl⟩
        · cases hj
      · rename_i e
        exact Or.inr ⟨fun q => e q.symm, h1 j w hj⟩
    dsimp only at h2
    split at h2
    · rename_i hc
      rw [List.getElem?_set] at h2
      split at h2
      · split at h2 <;> cases h2
      · rename_i e
        rcases h3 j w h2 with q | ⟨q1, q2, q3⟩
        · exact Or.inl q
        · exact Or.inr ⟨q1, q2, q3, fun _ q => e q.symm⟩
    · rename_i hc
      rcases h3 j w h2 with q | ⟨q1, q2, q3⟩
      · exact Or.inl q
      · exact Or.inr ⟨q1, q2, q3, fun q => absurd q hc⟩
  refine key _ ?_ h
  intro j w hj
  cases i with
  | zero => exact ⟨hj, fun q => by omega⟩
  | succ i =>
    dsimp only at hj
    split at hj
    · rename_i u hu
      split at hj
      · rw [List.getElem?_set] at hj
        split at hj
        · split at hj <;> cases hj
        · rename_i e
          exact ⟨hj, fun q => e (by omega)⟩
      · rename_i hc
        refine ⟨hj, fun q => hc ?_⟩
        obtain ⟨q1, q2⟩ := q
        have : j = i := by omega
        subst this
        rw [hu] at hj
        cases hj
        exact q2
    · rename_i hn
      refine ⟨hj, fun q => ?_⟩
      have : j = i := by omega
      subst this
      exact hn w hj
theorem ik_lh.put1 {ad : Nat → Nat} {sd : Nat → Option Nat} {ls' : Array Slot} {nL : Nat} {loc : ik_L} {i : Nat} {v : Value} (hv : v.category = 1) (h : lv_has ls' nL ((i, ik_v ad sd v) :: (ik_pr ad sd loc).filter (fun q => !(q.1 == i) && !(q.1 + 1 == i && q.2.category == 2)))) : ik_lh ad sd ls' nL (ik_put loc i v) := by
  refine ⟨h.1, h.2.1, ?_⟩
  rintro ⟨j, w⟩ hq
  obtain ⟨u, hu, rfl⟩ := ik_pr_mem.mp hq
  apply h.2.2
  rcases ik_put_get hu with ⟨rfl, rfl⟩ | ⟨q1, q2, q3, q4⟩
  · exact List.mem_cons_self
  · refine List.mem_cons_of_mem _ (List.mem_filter.mpr ⟨ik_pr_mem.mpr ⟨u, q2, rfl⟩, ?_⟩)
    simp only [Bool.and_eq_true, Bool.not_eq_true', beq_eq_false_iff_ne, ne_eq, Bool.and_eq_false_iff, ik_v_cat]
    refine ⟨q1, ?_⟩
    by_cases e : j + 1 = i
    · exact Or.inr fun q => q3 ⟨e, q⟩
    · exact Or.inl e
theorem ik_lh.put2 {ad : Nat → Nat} {sd : Nat → Option Nat} {ls' : Array Slot} {nL : Nat} {loc : ik_L} {i : Nat} {v : Value} (hv : v.category = 2) (h : lv_has ls' nL ((i, ik_v ad sd v) :: (ik_pr ad sd loc).filter (fun q => !(q.1 == i) && (!(q.1 == i + 1) && !(q.1 + 1 == i && q.2.category == 2))))) : ik_lh ad sd ls' nL (ik_put loc i v) := by
  refine ⟨h.1, h.2.1, ?_⟩
  rintro ⟨j, w⟩ hq
  obtain ⟨u, hu, rfl⟩ := ik_pr_mem.mp hq
  apply h.2.2
  rcases ik_put_get hu with ⟨rfl, rfl⟩ | ⟨q1, q2, q3, q4⟩
  · exact List.mem_cons_self
  · refine List.mem_cons_of_mem _ (List.mem_filter.mpr ⟨ik_pr_mem.mpr ⟨u, q2, rfl⟩, ?_⟩)
    simp only [Bool.and_eq_true, Bool.not_eq_true', beq_eq_false_iff_ne, ne_eq, Bool.and_eq_false_iff, ik_v_cat]
    refine ⟨q1, q4 hv, ?_⟩
    by_cases e : j + 1 = i
    · exact Or.inr fun q => q3 ⟨e, q⟩
    · exact Or.inl e
theorem ik_getD_set {vs : List Value} {i : Nat} {x : Value} (hi : i < vs.length) (j : Nat) : (vs.set i x).getD j .null = if j = i then x else vs.getD j .null := by
  rw [List.getD_eq_getElem?_getD, List.getD_eq_getElem?_getD, List.getElem?_set]
  by_cases h : i = j
  · subst h
    simp [hi]
  · rw [if_neg h, if_neg (fun q => h q.symm)]
theorem ik_upI {vs : List Value} {i : Nat} {x : Int32} (hi : i < vs.length) : upd (fun j => ik_I (vs.getD j .null)) i x = fun j => ik_I ((vs.set i (.int x)).getD j .null) := by
  funext j
  rw [ik_getD_set hi]
  unfold upd
  by_cases h : j = i
  · rw [if_pos h, if_pos h]; rfl
  · rw [if_neg h, if_neg h]
theorem ik_upL {vs : List Value} {i : Nat} {x : Int64} (hi : i < vs.length) : vp_updL (fun j => ik_Lg (vs.getD j .null)) i x = fun j => ik_Lg ((vs.set i (.long x)).getD j .null) := by
  funext j
  rw [ik_getD_set hi]
  unfold vp_updL
  by_cases h : j = i
  · rw [if_pos h, if_pos h]; rfl
  · rw [if_neg h, if_neg h]
theorem ik_upR {ad : Nat → Nat} {vs : List Value} {i v : Nat} (hi : i < vs.length) : va_up (fun j => ik_Rf ad (vs.getD j .null)) i (some (ad v)) = fun j => ik_Rf ad ((vs.set i (.ref v)).getD j .null) := by
  funext j
  rw [ik_getD_set hi]
  unfold va_up
  by_cases h : j = i
  · rw [if_pos h, if_pos h]; rfl
  · rw [if_neg h, if_neg h]
/-- a new place: nothing that is there refers to it -/
theorem ik_v_up {ad : Nat → Nat} {sd : Nat → Option Nat} {n q : Nat} {v : Value} (h : ik_wv n v = true) : ik_v (va_up ad n q) sd v = ik_v ad sd v := by
  cases v with
  | ref k =>
    have hk : k < n := by simpa [ik_wv] using h
    simp [ik_v, va_up, Nat.ne_of_lt hk]
  | _ => rfl
theorem ik_map_up {ad : Nat → Nat} {sd : Nat → Option Nat} {n q : Nat} {l : List Value} (h : l.all (ik_wv n) = true) : l.map (ik_v (va_up ad n q) sd) = l.map (ik_v ad sd) :=
  List.map_congr_left fun v hv => ik_v_up (List.all_eq_true.mp h v hv)
theorem ik_a_up {ad : Nat → Nat} {n q : Nat} {ty : FieldType} {vs : List Value} (h : vs.all (ik_wv n) = true) : ik_a (va_up ad n q) ty vs = ik_a ad ty vs := by
  have key : ∀ j, ik_Rf (va_up ad n q) (vs.getD j .null) = ik_Rf ad (vs.getD j .null) := by
    intro j
    rw [List.getD_eq_getElem?_getD]
    cases hj : vs[j]? with
    | none => rfl
    | some v =>
      have hv := List.all_eq_true.mp h v (List.mem_of_getElem? hj)
      cases v with
      | ref k =>
        have hk : k < n := by simpa [ik_wv] using hv
        simp [ik_Rf, va_up, Nat.ne_of_lt hk]
      | _ => rfl
  unfold ik_a
  cases ty <;> first | rfl | (simp only [key])
theorem ik_c_up {ad : Nat → Nat} {sd : Nat → Option Nat} {ct : Nat → Nat} {n q cA k : Nat} {e : ik_E} (hk : k < n) (h : ik_we n e = true) : ik_c (va_up ad n q) sd (va_up ct n cA) k e = ik_c ad sd ct k e := by
  unfold ik_c
  have h1 : va_up ad n q k = ad k := va_up_ne _ _ (Nat.ne_of_lt hk)
  have h2 : va_up ct n cA k = ct k := va_up_ne _ _ (Nat.ne_of_lt hk)
  rw [h1]
  cases e with
  | inl x => simp only [h2]; rw [ik_a_up h]
  | inr x => simp only; rw [ik_map_up h]
theorem ik_w_up {ad : Nat → Nat} {sd : Nat → Option Nat} {ct : Nat → Nat} {q cA : Nat} {h : List ik_E} (hw : h.all (ik_we h.length) = true) (e : ik_E) : ik_w (va_up ad h.length q) sd (va_up ct h.length cA) (h ++ [e]) = ik_w ad sd ct h ++ [ik_c (va_up ad h.length q) sd (va_up ct h.length cA) h.length e] := by
  rw [ik_w_push]
  congr 1
  apply List.ext_getElem?
  intro j
  cases hj : h[j]? with
  | none => simp [ik_w, hj]
  | some x =>
    have hl : j < h.length := (List.getElem?_eq_some_iff.mp hj).1
    rw [ik_w_at hj, ik_w_at hj, ik_c_up hl (List.all_eq_true.mp hw x (List.mem_of_getElem? hj))]
theorem ik_pr_up {ad : Nat → Nat} {sd : Nat → Option Nat} {n q : Nat} {loc : ik_L} (h : loc.all (ik_wl n) = true) : ik_pr (va_up ad n q) sd loc = ik_pr ad sd loc := by
  unfold ik_pr
  congr 1
  funext i
  cases hi : loc[i]? with
  | none => rfl
  | some o =>
    cases o with
    | none => rfl
    | some v =>
      have hv := List.all_eq_true.mp h (some v) (List.mem_of_getElem? hi)
      simp only [ik_v_up (show ik_wv n v = true from hv)]

/-! 08.ctx -/
/-! WHERE A METHOD RUNS: facts of the tables at a state, and what an abstract state promises (ik_ok) -/
theorem ik_ownN {mid : Nat} (h : mid < ik_M.length) : ik_oN[ik_ow mid]? = some (ik_own mid) := by
  have := List.all_eq_true.mp ik_oall mid (List.mem_range.mpr (by rw [ik_Mlen] at h; exact h))
  simpa using this
theorem ik_row {α : Type} {T : List (List (Nat × List (Nat × α)))} {n o x : Nat} {a : α} {chk : Nat → Nat × α → Bool} (hT : T.length ≤ n) (hall : ((List.range n).all fun o => (T.getD o []).all fun c => c.2.all (chk o)) = true) (h : ik_lk2 (T.getD o []) x = some a) : chk o (x, a) = true := by
  have hm := ik_lk2_mem h
  by_cases ho : o < n
  · have h2 : ((T.getD o []).all fun c => c.2.all (chk o)) = true := List.all_eq_true.mp hall o (List.mem_range.mpr ho)
    exact ik_flat_all h2 _ hm
  · have : T.getD o [] = [] := by rw [List.getD_eq_getElem?_getD, List.getElem?_eq_none (by omega)]; rfl
    rw [this] at hm
    exact absurd (show (x, a) ∈ ([] : List (Nat × α)) from hm) List.not_mem_nil
theorem ik_ci_ok {mid x : Nat} {v : Int32} {q : Nat} (hm : mid < ik_M.length) (h : ik_ci mid x = some (v, q)) : Cond.constant (ik_own mid) x v ∈ ik_ts := by
  have := ik_row (Nat.le_of_ble_eq_true rfl) ik_iall h
  unfold ik_ichk at this
  rw [ik_ownN hm] at this
  exact ik_tw_ok this
theorem ik_ck_ok {mid x : Nat} {v : Int64} {q : Nat} (hm : mid < ik_M.length) (h : ik_ck mid x = some (v, q)) : Cond.constantLong (ik_own mid) x v ∈ ik_ts := by
  have := ik_row (Nat.le_of_ble_eq_true rfl) ik_kall h
  unfold ik_kchk at this
  rw [ik_ownN hm] at this
  exact ik_tw_ok this
theorem ik_nc_ok {mid x ci q : Nat} (hm : mid < ik_M.length) (h : ik_nc mid x = some (ci, q)) : ∃ C T N, vwCl[ci]? = some (C, T, N) ∧ Cond.classLink (ik_own mid) x C ∈ ik_ts := by
  have := ik_row (Nat.le_of_ble_eq_true rfl) ik_nall h
  unfold ik_nchk at this
  rw [ik_ownN hm] at this
  dsimp only at this
  split at this
  · rename_i C T N own hc ho
    cases ho
    exact ⟨C, T, N, hc, ik_tw_ok this⟩
  · cases this
theorem ik_ac_ok {mid x ci q r : Nat} (hm : mid < ik_M.length) (h : ik_ac mid x = some (ci, q, r)) : ∃ C T N, vwCl[ci]? = some (C, T, N) ∧ Cond.classLink (ik_own mid) x C ∈ ik_ts ∧ Cond.arrayOver (.object C) ∈ lw_tbl := by
  have := ik_row (Nat.le_of_ble_eq_true rfl) ik_aall h
  unfold ik_achk at this
  rw [ik_ownN hm] at this
  dsimp only at this
  split at this
  · rename_i C T N own hc ho
    cases ho
    simp only [Bool.and_eq_true, decide_eq_true_eq] at this
    exact ⟨C, T, N, hc, ik_tw_ok this.1, ik_ix_mem this.2⟩
  · cases this
theorem ik_fl_ok {mid x ci k q ne : Nat} (hm : mid < ik_M.length) (h : ik_fl mid x = some (ci, k, q, ne)) : ∃ C T N, vwCl[ci]? = some (C, T, N) ∧ k < N ∧ (T k).1 = C ∧ (T k).2.2.2 = ik_fi ci k ∧ (Cond.fieldLink (ik_own mid) x C (T k).2.1 (T k).2.2.1 ∈ ik_ts ∨ Cond.fieldLinkNest (ik_own mid) x C (T k).2.1 (T k).2.2.1 "SlowerCork" ∈ ik_nw) := by
  have := ik_row (Nat.le_of_ble_eq_true rfl) ik_fall h
  unfold ik_fchk at this
  rw [ik_ownN hm] at this
  dsimp only at this
  split at this
  · rename_i C T N own hc ho
    cases ho
    simp only [Bool.and_eq_true, decide_eq_true_eq] at this
    obtain ⟨⟨⟨h1, h2⟩, h3⟩, h4⟩ := this
    refine ⟨C, T, N, hc, h1, h2, h3, ?_⟩
    split at h4
    · exact Or.inl (ik_tw_ok h4)
    · exact Or.inr (ik_tn_ok h4)
  · cases this
theorem ik_cls_ok {ci : Nat} {C : String} {T : u_T} {N : Nat} (h : vwCl[ci]? = some (C, T, N)) : (∀ w ∈ u_ws C T N, w ∈ ik_ts) ∧ Cond.instantiable C N ∈ ik_ts ∧ Cond.initialized C ∈ ik_ts ∧ N = ik_nf ci ∧ C = ik_nm ci ∧ (ik_fs ci).length = N ∧ (∀ k, k < N → defaultValue (ik_ty ci k) = vp_V (ik_fs ci) k) ∧ ik_oN[ci]? = some C := by
  have hl : ci < 11 := (List.getElem?_eq_some_iff.mp h).1
  have := List.all_eq_true.mp ik_wall ci (List.mem_range.mpr hl)
  unfold ik_wchk at this
  rw [h] at this
  dsimp only at this
  simp only [Bool.and_eq_true, decide_eq_true_eq] at this
  obtain ⟨⟨⟨⟨⟨⟨⟨h1, h2⟩, h3⟩, h4⟩, h5⟩, h6⟩, h7⟩, h8⟩ := this
  refine ⟨?_, ik_tw_ok h2, ik_tw_ok h3, h4, h5, h6, ?_, h8⟩
  · intro w hw
    unfold u_ws at hw
    obtain ⟨k, hk, rfl⟩ := List.mem_map.mp hw
    exact ik_tw_ok (List.all_eq_true.mp h1 k hk)
  · intro k hk
    have := List.all_eq_true.mp h7 k (List.mem_range.mpr hk)
    simpa using this
theorem ik_ap_ok {ty : FieldType} (h : ty = .int ∨ ty = .long ∨ ty = .byte ∨ ty = .boolean) : Cond.arrayClass ty ∈ ik_ts := by
  have key : ∀ e ∈ ik_ap, Cond.arrayClass e.1 ∈ ik_ts := fun e he => ik_tw_ok (List.all_eq_true.mp ik_aps e he)
  have h4 : ∀ t : FieldType, t ∈ ik_ap.map Prod.fst → Cond.arrayClass t ∈ ik_ts := fun t ht => by
    obtain ⟨e, he, rfl⟩ := List.mem_map.mp ht
    exact key e he
  rcases h with rfl | rfl | rfl | rfl <;> exact h4 _ (by decide +kernel)
/-- what a method's state gives: the machine, its bytes, the words -/
def ik_X (p : Program) (s : State) (m : MethodId) (args : Array Value) (meth : Method) (c : Code) (mid : Nat) : Prop := p.tables.exec = Jvm.exec ∧ c.code = ik_by mid ∧ c.maxLocals = ik_ml mid ∧ s.vm.findClass (ik_own mid) = some m.cls ∧ (∀ w ∈ ik_ts, w.before args s = true) ∧ (0 < ik_in mid → meth.name = "<init>") ∧ mid < ik_M.length
/-- what is known of classes and arrays -/
def ik_K (D : va_G) (ct : Nat → ClassId) (h : List ik_E) (s : State) : Prop := va_K D vwCl [] s ∧ (∀ (k : Nat) (ty : FieldType) (vs : List Value), h[k]? = some (.inl (ty, vs)) → va_K D vwCl [(ct k, ty)] s) ∧ (∀ w ∈ ik_nw, va_Nw w s) ∧ (∀ C : String, Cond.arrayOver (.object C) ∈ lw_tbl → va_AO C s)
theorem ik_K.setR {D : va_G} {ct : Nat → ClassId} {h : List ik_E} {s : State} (hK : ik_K D ct h s) (a : Nat) (x : Nat × List Value) : ik_K D ct (h.set a (.inr x)) s := by
  refine ⟨hK.1, fun k ty vs hk => ?_, hK.2.2⟩
  rw [List.getElem?_set] at hk
  split at hk
  · split at hk <;> cases hk
  · exact hK.2.1 k ty vs hk
theorem ik_K.setL {D : va_G} {ct : Nat → ClassId} {h : List ik_E} {s : State} (hK : ik_K D ct h s) {a : Nat} {ty : FieldType} {vs : List Value} (ha : h[a]? = some (.inl (ty, vs))) (ws : List Value) : ik_K D ct (h.set a (.inl (ty, ws))) s := by
  refine ⟨hK.1, fun k ty' vs' hk => ?_, hK.2.2⟩
  rw [List.getElem?_set] at hk
  split at hk
  · rename_i e
    subst e
    split at hk
    · cases hk
      exact hK.2.1 a ty vs ha
    · cases hk
  · exact hK.2.1 k ty' vs' hk
theorem ik_K.push {D : va_G} {ct : Nat → ClassId} {h : List ik_E} {s : State} (hK : ik_K D ct h s) {cA : ClassId} {ty : FieldType} (hc : va_K D vwCl [(cA, ty)] s) (vs : List Value) : ik_K D (va_up ct h.length cA) (h ++ [.inl (ty, vs)]) s := by
  refine ⟨hK.1, fun k ty' vs' hk => ?_, hK.2.2⟩
  by_cases hl : k < h.length
  · rw [List.getElem?_append_left hl] at hk
    rw [va_up_ne _ _ (Nat.ne_of_lt hl)]
    exact hK.2.1 k ty' vs' hk
  · rw [List.getElem?_append_right (by omega)] at hk
    have hz : k - h.length < 1 := (List.getElem?_eq_some_iff.mp hk).1
    have e : k = h.length := by omega
    subst e
    rw [Nat.sub_self] at hk
    cases hk
    rw [va_up_self]
    exact hc
theorem ik_K.pushR {D : va_G} {ct : Nat → ClassId} {h : List ik_E} {s : State} (hK : ik_K D ct h s) (cA : ClassId) (x : Nat × List Value) : ik_K D (va_up ct h.length cA) (h ++ [.inr x]) s := by
  refine ⟨hK.1, fun k ty' vs' hk => ?_, hK.2.2⟩
  by_cases hl : k < h.length
  · rw [List.getElem?_append_left hl] at hk
    rw [va_up_ne _ _ (Nat.ne_of_lt hl)]
    exact hK.2.1 k ty' vs' hk
  · rw [List.getElem?_append_right (by omega)] at hk
    have hz : k - h.length < 1 := (List.getElem?_eq_some_iff.mp hk).1
    rw [show k - h.length = 0 by omega] at hk
    cases hk
theorem ik_K.warm {D : va_G} {ct : Nat → ClassId} {h : List ik_E} {s U : State} (hW : s.WarmedH U.vm) (hK : ik_K D ct h s) : ik_K D ct h U := by
  refine ⟨va_K.moved hW.alike hK.1, fun k ty vs hk => va_K.moved hW.alike (hK.2.1 k ty vs hk), fun w hw => ?_, fun C hC => va_AO.moved hW.alike (hK.2.2.2 C hC)⟩
  have h1 := hK.2.2.1 w hw
  have h2 := (List.mem_filter.mp hw).2
  cases w <;> first | exact va_Nw.warmF hW h1 | exact va_Nw.warmM hW h1 | cases h2
/-- the machine comes on from this abstract state: from every state of it that this one tells -/
def ik_ok (p : Program) (l : Launch) (e : Env) (R : Room) (s : State) (m : MethodId) (args : Array Value) (below : List Frame) (meth : Method) (c : Code) (Q : State → Prop) (D : va_G) (A : Nat → Prop) (H0 : Heap) (sd : Nat → Option Nat) (mid n0 : Nat) (ad0 : Nat → Nat) (z : ik_St) : Prop :=
  ∀ (ad ct : Nat → Nat) (H : Heap) (locs : List Loc) (ls : Array Slot), (∀ k, k < n0 → ad k = ad0 k) → ik_K D ct z.2.2.2.1 s → va_P D vwCl (ik_w ad sd ct z.2.2.2.1) H → va_D A (ik_w ad sd ct z.2.2.2.1) → va_S A H0 H locs → ik_lh ad sd ls (ik_ml mid) z.2.1 → W p l e R s m args below meth c H locs z.2.2.2.2.1 z.2.2.2.2.2 Q (F0 m z.1 ls (z.2.2.1.map (ik_v ad sd)))
theorem ik_gI_ok {loc : ik_L} {i : Nat} {x : Int32} (h : ik_gI loc i = some x) : loc[i]? = some (some (.int x)) := by
  unfold ik_gI at h
  split at h
  · rename_i hx; cases h; exact hx
  · cases h
theorem ik_gL_ok {loc : ik_L} {i : Nat} {x : Int64} (h : ik_gL loc i = some x) : loc[i]? = some (some (.long x)) := by
  unfold ik_gL at h
  split at h
  · rename_i hx; cases h; exact hx
  · cases h
theorem ik_gA_ok {loc : ik_L} {i : Nat} {v : Value} (h : ik_gA loc i = some v) (ad : Nat → Nat) {sd : Nat → Option Nat} (hsd : ∀ k, k < 100 → ∃ q, sd k = some q) : loc[i]? = some (some v) ∧ ∃ q, ik_v ad sd v = .ref q := by
  unfold ik_gA at h
  split at h
  · rename_i hx; cases h; exact ⟨hx, _, rfl⟩
  · rename_i x hx
    split at h
    · rename_i hl
      cases h
      obtain ⟨q, hq⟩ := hsd x hl
      refine ⟨hx, q, ?_⟩
      show va_rf (sd x) = .ref q
      rw [hq]
      rfl
    · cases h
  · cases h
/-- what lies outside: the script, the String constants, the statics -/
def ik_O (sd : Nat → Option Nat) (A : Nat → Prop) (s : State) (H : Heap) : Prop := (∀ k, k < 100 → ∃ q, sd k = some q) ∧ ∃ adK adV : Nat → Nat, (∀ i, i < 3 → sd (2 * i + 1) = some (adK i) ∧ sd (2 * i + 2) = some (adV i)) ∧ vk_S 3 (ik_sbs.map List.length) ik_sbs adK adV A s H ∧ va_Z "java/lang/String" "COMPACT_STRINGS" "Z" (.int 1) A s H ∧ va_Z "jdk/internal/util/Preconditions" "SIOOBE_FORMATTER" "Ljava/util/function/BiFunction;" (va_rf (sd 100)) A s H ∧ (∀ (i : Nat) (q : String × Nat × String), ik_slit[i]? = some q → vk_R q.1 q.2.1 q.2.2 (adK i) s)
theorem ik_O.call {sd : Nat → Option Nat} {A B : Nat → Prop} {s U : State} {H : Heap} {locs : List Loc} (h : ik_O sd A s s.heap) (hS : va_S A s.heap H locs) (hW : s.WarmedH U.vm) (hU : U.heap = H) (hAB : ∀ q, B q → A q) : ik_O sd B U U.heap := by
  obtain ⟨h0, adK, adV, h1, h2, h3, h4, h5⟩ := h
  have hq : ∀ a : Nat, a < s.heap.size → ¬ A a → H[a]? = s.heap[a]? := hS.2.1
  refine ⟨h0, adK, adV, h1, ?_, ?_, ?_, fun i q hi => (h5 i q hi).warm hW⟩
  · rw [hU]; exact ((h2.kept hq).moved hW.alike).narrow hAB
  · rw [hU]; exact ((h3.kept hq).moved hW.alike).narrow hAB
  · rw [hU]; exact ((h4.kept hq).moved hW.alike).narrow hAB
theorem ik_O.same {sd : Nat → Option Nat} {A : Nat → Prop} {u U : State} {H : Heap} (hv : u.vm = U.vm) (h : ik_O sd A u H) : ik_O sd A U H := by
  obtain ⟨h0, adK, adV, h1, h2, h3, h4, h5⟩ := h
  have ha : u.vm.Alike U.vm := by rw [hv]; exact Vm.Alike.refl U.vm
  exact ⟨h0, adK, adV, h1, h2.moved ha, h3.moved ha, h4.moved ha, fun i q hi => (h5 i q hi).same hv.symm⟩
theorem ik_st_ok {mid x i q : Nat} (hm : mid < ik_M.length) (h : ik_st mid x = some (i, q)) : ∃ tx, ik_slit[i]? = some (ik_own mid, x, tx) := by
  have := ik_row (Nat.le_of_ble_eq_true rfl) ik_stall h
  unfold ik_stchk at this
  rw [ik_ownN hm] at this
  dsimp only at this
  split at this
  · rename_i own e ho he
    cases ho
    simp only [Bool.and_eq_true, decide_eq_true_eq] at this
    obtain ⟨a, b, c⟩ := e
    obtain ⟨rfl, rfl⟩ := this
    exact ⟨c, he⟩
  · cases this
theorem ik_sf_ok {mid x k q : Nat} (hm : mid < ik_M.length) (h : ik_sf mid x = some (k, q)) : (k = 0 → Cond.fieldLink (ik_own mid) x "java/lang/String" "value" "[B" ∈ ik_ts) ∧ (k = 1 → Cond.fieldLink (ik_own mid) x "java/lang/String" "coder" "B" ∈ ik_ts) := by
  have h1 := ik_row (Nat.le_of_ble_eq_true rfl) ik_sfall h
  unfold ik_sfchk at h1
  rw [ik_ownN hm] at h1
  match k, h1 with
  | 0, h1 => exact ⟨fun _ => ik_tw_ok h1, fun e => by omega⟩
  | 1, h1 => exact ⟨fun e => by omega, fun _ => ik_tw_ok h1⟩
  | n + 2, h1 => cases h1
theorem ik_gs_ok {mid x k q : Nat} (hm : mid < ik_M.length) (h : ik_gs mid x = some (k, q)) : (k = 0 → Cond.fieldLink (ik_own mid) x "java/lang/String" "COMPACT_STRINGS" "Z" ∈ ik_ts) ∧ (k = 1 → Cond.fieldLink (ik_own mid) x "jdk/internal/util/Preconditions" "SIOOBE_FORMATTER" "Ljava/util/function/BiFunction;" ∈ ik_ts) := by
  have h1 := ik_row (Nat.le_of_ble_eq_true rfl) ik_gsall h
  unfold ik_gschk at h1
  rw [ik_ownN hm] at h1
  match k, h1 with
  | 0, h1 => exact ⟨fun _ => ik_tw_ok h1, fun e => by omega⟩
  | 1, h1 => exact ⟨fun e => by omega, fun _ => ik_tw_ok h1⟩
  | n + 2, h1 => cases h1
theorem ik_sb_len {i : Nat} (h : i < 3) : (ik_sbs.map List.length).getD i 0 = (ik_sb i).length := by
  have : ∀ j, j < 3 → (ik_sbs.map List.length).getD j 0 = (ik_sb j).length := by decide +kernel
  exact this i h
theorem ik_tg_ok {pc t : Nat} {off : Int} (h : ik_tg pc off = some t) : (pc : Int) + off = (t : Int) := by
  unfold ik_tg at h
  split at h
  · rename_i q hq; cases h; exact hq
  · cases h
theorem ik_fit_ok {ty : FieldType} {v : Value} (h : ik_fit ty v = true) (ad : Nat → Nat) (sd : Nat → Option Nat) : narrow ty (ik_v ad sd v) = ik_v ad sd v ∧ fits ty (ik_v ad sd v) = true := by
  unfold ik_fit at h
  split at h
  · exact ⟨rfl, rfl⟩
  · exact ⟨rfl, rfl⟩
  · rename_i x
    simp only [Bool.or_eq_true, beq_iff_eq] at h
    rcases h with rfl | rfl
    · exact ⟨(by decide : narrow .boolean (.int 0) = .int 0), (by decide : fits .boolean (.int 0) = true)⟩
    · exact ⟨(by decide : narrow .boolean (.int 1) = .int 1), (by decide : fits .boolean (.int 1) = true)⟩
  · exact ⟨rfl, rfl⟩
  · exact ⟨rfl, rfl⟩
  · cases h

/-! 08b.more -/
theorem ik_vw {ci : Nat} (h : ci < 11) : ∃ C T N, vwCl[ci]? = some (C, T, N) := ⟨_, _, _, List.getElem?_eq_getElem (show ci < vwCl.length from h)⟩
theorem ik_fs_null : ∀ ci, (ik_fs ci).all (fun v => match v with
    | .ref _ => false
    | .retAddr _ => false
    | _ => true) = true := by
  intro ci
  unfold ik_fs
  by_cases h : ci < 11
  · have : ∀ c, c < 11 → ((ik_fs c).all (fun v => match v with
      | .ref _ => false
      | .retAddr _ => false
      | _ => true)) = true := by decide +kernel
    exact this ci h
  · rw [List.getD_eq_getElem?_getD, List.getElem?_eq_none (by simpa using Nat.le_of_not_lt h)]
    rfl
theorem ik_fs_map {ad : Nat → Nat} {sd : Nat → Option Nat} {ci : Nat} : (ik_fs ci).map (ik_v ad sd) = ik_fs ci := by
  have h := List.all_eq_true.mp (ik_fs_null ci)
  conv => rhs; rw [← List.map_id (ik_fs ci)]
  apply List.map_congr_left
  intro v hv
  have h1 := h v hv
  cases v <;> first | rfl | cases h1
theorem ik_rep_getD {n j : Nat} {v : Value} : (List.replicate n v).getD j .null = if j < n then v else .null := by
  rw [List.getD_eq_getElem?_getD, List.getElem?_replicate]
  split <;> rfl
theorem ik_df_ok {t : ArrayType} {ty : FieldType} {v0 : Value} (h : ik_df t = some (ty, v0)) : newarray.typeOf t = ty ∧ (ty = .int ∨ ty = .long ∨ ty = .byte ∨ ty = .boolean) ∧ componentBytes ty ≤ 8 ∧ ∀ (ad : Nat → Nat) (N : Nat) (cA : ClassId), vp_cell cA (ik_a ad ty (List.replicate N v0)) = arrV cA N (fun _ => defaultValue ty) := by
  unfold ik_df at h
  split at h <;> cases h
  all_goals refine ⟨rfl, by simp, by decide, fun ad N cA => ?_⟩
  all_goals
    unfold ik_a vp_cell
    dsimp only
    rw [List.length_replicate]
    congr 1
    funext j
    rw [ik_rep_getD]
    split <;> rfl
theorem ik_rep_wv {t : ArrayType} {ty : FieldType} {v0 : Value} {n N : Nat} (_ : ty = .int ∨ ty = .long ∨ ty = .byte ∨ ty = .boolean) (h : ik_df t = some (ty, v0)) : (List.replicate N v0).all (ik_wv n) = true := by
  rw [List.all_eq_true]
  intro v hv
  rw [(List.mem_replicate.mp hv).2]
  unfold ik_df at h
  split at h <;> cases h <;> rfl
theorem ik_mch {mid : Nat} (h0 : 0 < mid) (h : mid < ik_M.length) : ik_mchk (ik_mi mid) (ik_MP.getD mid (0, 0, 0, 0, true)) = true := by
  have := List.all_eq_true.mp ik_mall mid (List.mem_range.mpr (by rw [ik_Mlen] at h; exact h))
  simp only [Bool.or_eq_true, beq_iff_eq] at this
  rcases this with q | q
  · omega
  · exact q
theorem ik_in_own {mid cj : Nat} {C : String} {T : u_T} {N : Nat} (hmid : mid < ik_M.length) (hi : ik_in mid = cj + 1) (h1 : vwCl[cj]? = some (C, T, N)) : C = ik_own mid := by
  by_cases h0 : 0 < mid
  · have h := ik_mch h0 hmid
    unfold ik_mchk at h
    simp only [Bool.and_eq_true, Bool.or_eq_true, decide_eq_true_eq] at h
    have h9 := h.2
    have e : ik_ow mid = cj := by
      rcases h9 with q | q
      · have q : ik_in mid = 0 := q
        omega
      · have q2 : ik_in mid = ik_ow mid + 1 := q.1.2
        omega
    have h8 := ik_ownN hmid
    rw [e, (ik_cls_ok h1).2.2.2.2.2.2.2] at h8
    exact Option.some.inj h8
  · have : mid = 0 := by omega
    subst this
    exact absurd hi (by rw [show ik_in 0 = 0 from rfl]; omega)
/-- a class's own constructor names its own fields without the nest -/
theorem ik_noN_all : (ik_nw.all fun w => match w with
    | .fieldLinkNest own _ C _ _ _ => decide (own ≠ C)
    | _ => true) = true := by decide +kernel
theorem ik_noN {mid cj : Nat} {C : String} {T : u_T} {N x : Nat} {a b d : String} (hmid : mid < ik_M.length) (hi : ik_in mid = cj + 1) (h1 : vwCl[cj]? = some (C, T, N)) : ¬ Cond.fieldLinkNest (ik_own mid) x C a b d ∈ ik_nw := by
  intro h
  have := List.all_eq_true.mp ik_noN_all _ h
  simp only [decide_eq_true_eq] at this
  exact this (ik_in_own hmid hi h1).symm
