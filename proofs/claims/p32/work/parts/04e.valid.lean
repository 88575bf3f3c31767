/-- a call: kinds 0 invokevirtual, 1 a constructor, 2 a nest mate's, 3 static, 4 a nest mate's, 5 arraycopy, 6 Object's constructor -/
def ik_cchk (o : Nat) (e : Nat × Nat × Nat × Nat × Nat) : Bool := match ik_oN[o]? with
  | some own => (match e.2.2.2.1 with
    | 0 => ik_tw e.2.2.2.2 (.methodLink own e.1 (ik_y e.2.1)) && decide ((ik_y e.2.1).name ≠ "<init>") && !(ik_MP.getD e.2.1 (0, 0, 0, 0, true)).2.2.2.2 && decide ((parseMethodDescriptor (ik_y e.2.1).desc).map (fun d => d.parameters.length + 1) = some e.2.2.1)
    | 1 => ik_tw e.2.2.2.2 (.methodLink own e.1 (ik_y e.2.1)) && decide ((ik_y e.2.1).name = "<init>") && decide (ik_rt e.2.1 = none) && !(ik_MP.getD e.2.1 (0, 0, 0, 0, true)).2.2.2.2 && decide ((parseMethodDescriptor (ik_y e.2.1).desc).map (fun d => d.parameters.length + 1) = some e.2.2.1)
    | 2 => ik_tn e.2.2.2.2 (.methodLinkNest own e.1 (ik_y e.2.1) "SlowerCork") && decide ((ik_y e.2.1).name = "<init>") && decide (ik_rt e.2.1 = none) && !(ik_MP.getD e.2.1 (0, 0, 0, 0, true)).2.2.2.2 && decide ((parseMethodDescriptor (ik_y e.2.1).desc).map (fun d => d.parameters.length + 1) = some e.2.2.1)
    | 3 => ik_tw e.2.2.2.2 (.methodLink own e.1 (ik_y e.2.1)) && (ik_MP.getD e.2.1 (0, 0, 0, 0, false)).2.2.2.2 && decide ((parseMethodDescriptor (ik_y e.2.1).desc).map (fun d => d.parameters.length) = some e.2.2.1)
    | 4 => ik_tn e.2.2.2.2 (.methodLinkNest own e.1 (ik_y e.2.1) "SlowerCork") && (ik_MP.getD e.2.1 (0, 0, 0, 0, false)).2.2.2.2 && decide ((parseMethodDescriptor (ik_y e.2.1).desc).map (fun d => d.parameters.length) = some e.2.2.1)
    | 5 => ik_tw e.2.2.2.2 (.methodLink own e.1 arraycopyName)
    | 6 => ik_tw e.2.2.2.2 (.methodLink own e.1 objectInit)
    | 7 => (match e.2.1 with
      | 0 => ik_tw e.2.2.2.2 (.methodLink own e.1 Lib.Math.min.name)
      | 1 => ik_tw e.2.2.2.2 (.methodLink own e.1 Lib.Math.abs.name)
      | 2 => ik_tw e.2.2.2.2 (.methodLink own e.1 Lib.MathLoose.max_long.x)
      | _ => false)
    | _ => false) && (decide (5 ≤ e.2.2.2.1) || (decide (0 < e.2.1) && decide (e.2.1 < 227)))
  | none => false
set_option maxRecDepth 100000 in
theorem ik_call_all : ((List.range 18).all fun o => (ik_cT.getD o []).all fun c => c.2.all (ik_cchk o)) = true := by decide +kernel
theorem ik_sys : ik_tw ik_sp.1 (.native arraycopyName) = true ∧ ik_tw ik_sp.2.1 (.static arraycopyName) = true ∧ ik_tw ik_sp.2.2.1 (.initialized "java/lang/System") = true ∧ ik_tw ik_sp.2.2.2.1 (.instanceMethod objectInit) = true ∧ ik_tw ik_sp.2.2.2.2.1 (.code objectInit ⟨#[0xb1]⟩ 1 none) = true := by decide +kernel
theorem ik_aps : (ik_ap.all fun e => ik_tw e.2 (.arrayClass e.1)) = true := by decide +kernel
set_option maxRecDepth 100000 in
theorem ik_oall : ((List.range 227).all fun m => decide (ik_oN[ik_ow m]? = some (ik_own m))) = true := by decide +kernel
def ik_stchk (o : Nat) (e : Nat × Nat × Nat) : Bool := match ik_oN[o]?, ik_slit[e.2.1]? with
  | some own, some q => decide (q.1 = own) && decide (q.2.1 = e.1)
  | _, _ => false
set_option maxRecDepth 100000 in
theorem ik_stall : ((List.range 18).all fun o => (ik_stT.getD o []).all fun c => c.2.all (ik_stchk o)) = true := by decide +kernel
def ik_sfchk (o : Nat) (e : Nat × Nat × Nat) : Bool := match ik_oN[o]?, e.2.1 with
  | some own, 0 => ik_tw e.2.2 (.fieldLink own e.1 "java/lang/String" "value" "[B")
  | some own, 1 => ik_tw e.2.2 (.fieldLink own e.1 "java/lang/String" "coder" "B")
  | _, _ => false
set_option maxRecDepth 100000 in
theorem ik_sfall : ((List.range 18).all fun o => (ik_sfT.getD o []).all fun c => c.2.all (ik_sfchk o)) = true := by decide +kernel
def ik_gschk (o : Nat) (e : Nat × Nat × Nat) : Bool := match ik_oN[o]?, e.2.1 with
  | some own, 0 => ik_tw e.2.2 (.fieldLink own e.1 "java/lang/String" "COMPACT_STRINGS" "Z")
  | some own, 1 => ik_tw e.2.2 (.fieldLink own e.1 "jdk/internal/util/Preconditions" "SIOOBE_FORMATTER" "Ljava/util/function/BiFunction;")
  | _, _ => false
set_option maxRecDepth 100000 in
theorem ik_gsall : ((List.range 18).all fun o => (ik_gsT.getD o []).all fun c => c.2.all (ik_gschk o)) = true := by decide +kernel
theorem ik_sowN : ik_oN[ik_sow]? = some "java/lang/String" := by decide +kernel
theorem ik_mth : ik_tw 497 (.static Lib.Math.min.name) = true ∧ ik_tw 647 (.static Lib.Math.abs.name) = true ∧ ik_tw 678 (.static Lib.MathLoose.max_long.x) = true ∧ ik_tw 91 (.initialized "java/lang/Math") = true := by decide +kernel
set_option maxRecDepth 100000 in
theorem ik_mthc : lw_tbl[498]? = some (.code Lib.Math.min.name Lib.Math.min.code 2 (some .int)) ∧ lw_tbl[648]? = some (.code Lib.Math.abs.name Lib.Math.abs.code 1 (some .int)) ∧ lw_tbl[679]? = some (.code Lib.MathLoose.max_long.x Lib.MathLoose.max_long.code 4 (some .long)) := ⟨rfl, rfl, rfl⟩
def ik_lp : List (List Nat) := [[172, 174, 176, 178, 180, 182, 184, 186, 188], [210, 212, 214, 216, 218], [240, 242, 244, 246, 248, 250], [347, 349, 351, 353, 355, 357, 359], [327, 329], [287, 289, 291, 293, 295], [125, 127, 129, 131, 133, 135, 137, 139, 141, 143], [309, 311, 313, 315], [262, 264, 266, 268, 270, 272], [370, 372, 374, 376, 378, 380, 382, 384], [1031, 1033, 1035, 1037, 1039, 1041, 1043, 1045, 1047, 1049, 1051, 1053, 1055, 1057, 1059, 1061, 1063, 1065, 1067, 1069, 1071, 1073, 1075, 1077, 1079, 1081, 1083, 1085, 1087, 1089, 1091, 1093, 1095, 1097, 1099, 1101, 1103, 1105, 1107, 1109, 1111, 1113, 1115]]
def ik_wchk (ci : Nat) : Bool := match vwCl[ci]? with
  | some (C, T, N) => (List.range N).all (fun k => ik_tw ((ik_lp.getD ci []).getD k 0) (u_lay C T k)) && ik_tw (ik_cp.getD ci (0, 0)).1 (.instantiable C N) && ik_tw (ik_cp.getD ci (0, 0)).2 (.initialized C) && decide (N = ik_nf ci) && decide (C = ik_nm ci) && decide ((ik_fs ci).length = N) && (List.range N).all (fun k => decide (defaultValue (ik_ty ci k) = vp_V (ik_fs ci) k)) && decide (ik_oN[ci]? = some C)
  | none => false
set_option maxRecDepth 100000 in
theorem ik_wall : ((List.range 11).all ik_wchk) = true := by decide +kernel
theorem ik_names {ci : Nat} {C : String} {T : u_T} {N : Nat} (h : vwCl[ci]? = some (C, T, N)) : (∀ j, j < N → parseFieldDescriptor (T j).2.2.1 = some (ik_ty ci j)) ∧ (∀ a, a < N → ∀ b, b < N → a ≠ b → (T a).2.1 ≠ (T b).2.1) := by
  match ci, h with
  | 0, h => cases h; exact ⟨tyX0_ok, nmX0⟩
  | 1, h => cases h; exact ⟨tyX1_ok, nmX1⟩
  | 2, h => cases h; exact ⟨tyX2_ok, nmX2⟩
  | 3, h => cases h; exact ⟨tyX3_ok, nmX3⟩
  | 4, h => cases h; exact ⟨tyX4_ok, nmX4⟩
  | 5, h => cases h; exact ⟨tyX5_ok, nmX5⟩
  | 6, h => cases h; exact ⟨tyX6_ok, nmX6⟩
  | 7, h => cases h; exact ⟨tyX7_ok, nmX7⟩
  | 8, h => cases h; exact ⟨tyX8_ok, nmX8⟩
  | 9, h => cases h; exact ⟨tyX9_ok, nmX9⟩
  | 10, h => cases h; exact ⟨tyX10_ok, nmX10⟩
  | k + 11, h => simp [vwCl] at h
