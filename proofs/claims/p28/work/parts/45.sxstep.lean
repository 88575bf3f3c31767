noncomputable section
/-! THE EXECUTOR'S STEP, and that it is sound (written by wip/sx/genstep.py) -/
/-- does a value lie in a field of this type as it is -/
def sx_ft (g : sx_G) (ty : FieldType) (v : sx_V) : Bool := match ty, v with
  | .int, .inl _ => true
  | .long, .inr (.inl _) => true
  | .boolean, .inl e => sx_inb g e 0 1
  | .object _, .inr (.inr (.inl _)) => true
  | .array _, .inr (.inr (.inl _)) => true
  | _, _ => false
theorem sx_01 {x : Int32} (h1 : 0 ≤ x.toInt) (h2 : x.toInt ≤ 1) : x = 0 ∨ x = 1 := by
  rw [cv_eq, cv_eq]
  have e0 : (0 : Int32).toInt = 0 := rfl
  have e1 : (1 : Int32).toInt = 1 := rfl
  omega
theorem sx_ft_ok {ν : List Int} {g : sx_G} (hg : sx_ok ν g) {ty : FieldType} {v : sx_V} {w : Value} (hv : sx_vr ν v w) (h : sx_ft g ty v = true) : ik_fit ty w = true := by
  unfold sx_ft at h
  split at h
  · obtain ⟨x, rfl, _⟩ := hv; rfl
  · obtain ⟨x, rfl, _⟩ := hv; rfl
  · obtain ⟨x, rfl, hx⟩ := hv
    obtain ⟨b1, b2⟩ := sx_inb_ok hg hx h
    rcases sx_01 b1 b2 with rfl | rfl <;> rfl
  · obtain ⟨x, _, rfl⟩ := hv; rfl
  · obtain ⟨x, _, rfl⟩ := hv; rfl
  · cases h
theorem sx_ifn {b : Prop} [Decidable b] {α : Type} {x y : α} : (if b then x else y) = (if ¬ b then y else x) := by
  by_cases h : b
  · rw [if_pos h, if_neg (fun q => q h)]
  · rw [if_neg h, if_pos h]
def sx_c_iconst (M : sx_M) (mid pc : Nat) (g : sx_G) (l : sx_L) (s : List sx_V) (H : sx_H) (k : Int) : Option (List (Nat × sx_S)) := some [(pc + 1, g, l, .inl ((Int32.ofInt k).toInt, []) :: s, H)]
def sx_c_bipush (M : sx_M) (mid pc : Nat) (g : sx_G) (l : sx_L) (s : List sx_V) (H : sx_H) (k : Int) : Option (List (Nat × sx_S)) := some [(pc + 2, g, l, .inl ((Int8.ofInt k).toInt32.toInt, []) :: s, H)]
def sx_c_sipush (M : sx_M) (mid pc : Nat) (g : sx_G) (l : sx_L) (s : List sx_V) (H : sx_H) (k : Int) : Option (List (Nat × sx_S)) := some [(pc + 3, g, l, .inl ((Int16.ofInt k).toInt32.toInt, []) :: s, H)]
def sx_c_lconst (M : sx_M) (mid pc : Nat) (g : sx_G) (l : sx_L) (s : List sx_V) (H : sx_H) (k : Fin 2) : Option (List (Nat × sx_S)) := some [(pc + 1, g, l, .inr (.inl ((Int64.ofNat k).toInt, [])) :: s, H)]
def sx_c_ldc (M : sx_M) (mid pc : Nat) (g : sx_G) (l : sx_L) (s : List sx_V) (H : sx_H) (x : Nat) : Option (List (Nat × sx_S)) := match ik_ci mid x with
    | some (v, _) => some [(pc + 2, g, l, .inl (v.toInt, []) :: s, H)]
    | none => (match ik_st mid x with
      | some (i, _) => bif Nat.blt i 3 then some [(pc + 2, g, l, .inr (.inr (.inr (.inl (2 * i + 1)))) :: s, H)] else none
      | none => none)
def sx_c_getstatic (M : sx_M) (mid pc : Nat) (g : sx_G) (l : sx_L) (s : List sx_V) (H : sx_H) (x : Nat) : Option (List (Nat × sx_S)) := match ik_gs mid x with
    | some (0, _) => some [(pc + 3, g, l, .inl (1, []) :: s, H)]
    | some (1, _) => some [(pc + 3, g, l, .inr (.inr (.inr (.inl 100))) :: s, H)]
    | _ => none
def sx_c_ldc_w (M : sx_M) (mid pc : Nat) (g : sx_G) (l : sx_L) (s : List sx_V) (H : sx_H) (x : Nat) : Option (List (Nat × sx_S)) := match ik_ci mid x with
    | some (v, _) => some [(pc + 3, g, l, .inl (v.toInt, []) :: s, H)]
    | none => none
def sx_c_ldc2_w (M : sx_M) (mid pc : Nat) (g : sx_G) (l : sx_L) (s : List sx_V) (H : sx_H) (x : Nat) : Option (List (Nat × sx_S)) := match ik_ck mid x with
    | some (v, _) => some [(pc + 3, g, l, .inr (.inl (v.toInt, [])) :: s, H)]
    | none => none
def sx_c_iload_n (M : sx_M) (mid pc : Nat) (g : sx_G) (l : sx_L) (s : List sx_V) (H : sx_H) (k : Fin 4) : Option (List (Nat × sx_S)) := match l[k]? with
    | some (some (.inl e)) => some [(pc + 1, g, l, .inl e :: s, H)]
    | _ => none
def sx_c_iload (M : sx_M) (mid pc : Nat) (g : sx_G) (l : sx_L) (s : List sx_V) (H : sx_H) (k : Nat) : Option (List (Nat × sx_S)) := match l[k]? with
    | some (some (.inl e)) => some [(pc + 2, g, l, .inl e :: s, H)]
    | _ => none
def sx_c_lload_n (M : sx_M) (mid pc : Nat) (g : sx_G) (l : sx_L) (s : List sx_V) (H : sx_H) (k : Fin 4) : Option (List (Nat × sx_S)) := match l[k]? with
    | some (some (.inr (.inl e))) => some [(pc + 1, g, l, .inr (.inl e) :: s, H)]
    | _ => none
def sx_c_lload (M : sx_M) (mid pc : Nat) (g : sx_G) (l : sx_L) (s : List sx_V) (H : sx_H) (k : Nat) : Option (List (Nat × sx_S)) := match l[k]? with
    | some (some (.inr (.inl e))) => some [(pc + 2, g, l, .inr (.inl e) :: s, H)]
    | _ => none
def sx_c_aload_n (M : sx_M) (mid pc : Nat) (g : sx_G) (l : sx_L) (s : List sx_V) (H : sx_H) (k : Fin 4) : Option (List (Nat × sx_S)) := match l[k]? with
    | some (some (.inr (.inr (.inl ks)))) => some [(pc + 1, g, l, .inr (.inr (.inl ks)) :: s, H)]
    | some (some (.inr (.inr (.inr (.inl o))))) => bif Nat.blt o 100 then some [(pc + 1, g, l, .inr (.inr (.inr (.inl o))) :: s, H)] else none
    | _ => none
def sx_c_aload (M : sx_M) (mid pc : Nat) (g : sx_G) (l : sx_L) (s : List sx_V) (H : sx_H) (k : Nat) : Option (List (Nat × sx_S)) := match l[k]? with
    | some (some (.inr (.inr (.inl ks)))) => some [(pc + 2, g, l, .inr (.inr (.inl ks)) :: s, H)]
    | some (some (.inr (.inr (.inr (.inl o))))) => bif Nat.blt o 100 then some [(pc + 2, g, l, .inr (.inr (.inr (.inl o))) :: s, H)] else none
    | _ => none
def sx_c_istore_n (M : sx_M) (mid pc : Nat) (g : sx_G) (l : sx_L) (s : List sx_V) (H : sx_H) (k : Fin 4) : Option (List (Nat × sx_S)) := match s with
    | .inl e :: r => bif Nat.blt (k) (ik_ml mid) then some [(pc + 1, g, sx_put l k (.inl e), r, H)] else none
    | _ => none
def sx_c_istore (M : sx_M) (mid pc : Nat) (g : sx_G) (l : sx_L) (s : List sx_V) (H : sx_H) (k : Nat) : Option (List (Nat × sx_S)) := match s with
    | .inl e :: r => bif Nat.blt (k) (ik_ml mid) then some [(pc + 2, g, sx_put l k (.inl e), r, H)] else none
    | _ => none
def sx_c_lstore_n (M : sx_M) (mid pc : Nat) (g : sx_G) (l : sx_L) (s : List sx_V) (H : sx_H) (k : Fin 4) : Option (List (Nat × sx_S)) := match s with
    | .inr (.inl e) :: r => bif Nat.blt (k + 1) (ik_ml mid) then some [(pc + 1, g, sx_put l k (.inr (.inl e)), r, H)] else none
    | _ => none
def sx_c_lstore (M : sx_M) (mid pc : Nat) (g : sx_G) (l : sx_L) (s : List sx_V) (H : sx_H) (k : Nat) : Option (List (Nat × sx_S)) := match s with
    | .inr (.inl e) :: r => bif Nat.blt (k + 1) (ik_ml mid) then some [(pc + 2, g, sx_put l k (.inr (.inl e)), r, H)] else none
    | _ => none
def sx_c_astore_n (M : sx_M) (mid pc : Nat) (g : sx_G) (l : sx_L) (s : List sx_V) (H : sx_H) (k : Fin 4) : Option (List (Nat × sx_S)) := match s with
    | .inr (.inr (.inl e)) :: r => bif Nat.blt (k) (ik_ml mid) then some [(pc + 1, g, sx_put l k (.inr (.inr (.inl e))), r, H)] else none
    | _ => none
def sx_c_astore (M : sx_M) (mid pc : Nat) (g : sx_G) (l : sx_L) (s : List sx_V) (H : sx_H) (k : Nat) : Option (List (Nat × sx_S)) := match s with
    | .inr (.inr (.inl e)) :: r => bif Nat.blt (k) (ik_ml mid) then some [(pc + 2, g, sx_put l k (.inr (.inr (.inl e))), r, H)] else none
    | _ => none
def sx_c_iinc (M : sx_M) (mid pc : Nat) (g : sx_G) (l : sx_L) (s : List sx_V) (H : sx_H) (k : Nat) (n : Int) : Option (List (Nat × sx_S)) := match l[k]? with
    | some (some (.inl e)) => bif Nat.blt k (ik_ml mid) then (match sx_nw g (sx_add e ((Int32.ofInt n).toInt, [])) with
      | (g', e') => some [(pc + 3, g', sx_put l k (.inl e'), s, H)]) else none
    | _ => none
def sx_c_iadd (M : sx_M) (mid pc : Nat) (g : sx_G) (l : sx_L) (s : List sx_V) (H : sx_H) : Option (List (Nat × sx_S)) := match s with
    | .inl y :: .inl x :: r => sx_oi (pc + 1) l r H (sx_nw g (sx_add x y))
    | _ => none
def sx_c_isub (M : sx_M) (mid pc : Nat) (g : sx_G) (l : sx_L) (s : List sx_V) (H : sx_H) : Option (List (Nat × sx_S)) := match s with
    | .inl y :: .inl x :: r => sx_oi (pc + 1) l r H (sx_nw g (sx_sub x y))
    | _ => none
def sx_c_imul (M : sx_M) (mid pc : Nat) (g : sx_G) (l : sx_L) (s : List sx_V) (H : sx_H) : Option (List (Nat × sx_S)) := match s with
    | .inl y :: .inl x :: r => sx_oi (pc + 1) l r H (sx_mu g x y)
    | _ => none
def sx_c_iand (M : sx_M) (mid pc : Nat) (g : sx_G) (l : sx_L) (s : List sx_V) (H : sx_H) : Option (List (Nat × sx_S)) := match s with
    | .inl y :: .inl x :: r => sx_oi (pc + 1) l r H (sx_an g x y)
    | _ => none
def sx_c_ior (M : sx_M) (mid pc : Nat) (g : sx_G) (l : sx_L) (s : List sx_V) (H : sx_H) : Option (List (Nat × sx_S)) := match s with
    | .inl y :: .inl x :: r => sx_oi (pc + 1) l r H (sx_fo (fun a b => a ||| b) g x y)
    | _ => none
def sx_c_ixor (M : sx_M) (mid pc : Nat) (g : sx_G) (l : sx_L) (s : List sx_V) (H : sx_H) : Option (List (Nat × sx_S)) := match s with
    | .inl y :: .inl x :: r => sx_oi (pc + 1) l r H (sx_fo (fun a b => a ^^^ b) g x y)
    | _ => none
def sx_c_ishl (M : sx_M) (mid pc : Nat) (g : sx_G) (l : sx_L) (s : List sx_V) (H : sx_H) : Option (List (Nat × sx_S)) := match s with
    | .inl y :: .inl x :: r => sx_oi (pc + 1) l r H (sx_fo (fun a b => a <<< (b &&& 31)) g x y)
    | _ => none
def sx_c_ishr (M : sx_M) (mid pc : Nat) (g : sx_G) (l : sx_L) (s : List sx_V) (H : sx_H) : Option (List (Nat × sx_S)) := match s with
    | .inl y :: .inl x :: r => sx_oi (pc + 1) l r H (sx_fo (fun a b => a >>> (b &&& 31)) g x y)
    | _ => none
def sx_c_iushr (M : sx_M) (mid pc : Nat) (g : sx_G) (l : sx_L) (s : List sx_V) (H : sx_H) : Option (List (Nat × sx_S)) := match s with
    | .inl y :: .inl x :: r => sx_oi (pc + 1) l r H (sx_fo (fun a b => (a.toUInt32 >>> (b.toUInt32 &&& Int32.toUInt32 31)).toInt32) g x y)
    | _ => none
def sx_c_idiv (M : sx_M) (mid pc : Nat) (g : sx_G) (l : sx_L) (s : List sx_V) (H : sx_H) : Option (List (Nat × sx_S)) := match s with
    | .inl y :: .inl x :: r => (match sx_dv g x y with
      | some p => sx_oi (pc + 1) l r H p
      | none => none)
    | _ => none
def sx_c_irem (M : sx_M) (mid pc : Nat) (g : sx_G) (l : sx_L) (s : List sx_V) (H : sx_H) : Option (List (Nat × sx_S)) := match s with
    | .inl y :: .inl x :: r => (match sx_rm g x y with
      | some p => sx_oi (pc + 1) l r H p
      | none => none)
    | _ => none
def sx_c_ladd (M : sx_M) (mid pc : Nat) (g : sx_G) (l : sx_L) (s : List sx_V) (H : sx_H) : Option (List (Nat × sx_S)) := match s with
    | .inr (.inl y) :: .inr (.inl x) :: r => sx_ol (pc + 1) l r H (sx_nl g (sx_add x y))
    | _ => none
def sx_c_lsub (M : sx_M) (mid pc : Nat) (g : sx_G) (l : sx_L) (s : List sx_V) (H : sx_H) : Option (List (Nat × sx_S)) := match s with
    | .inr (.inl y) :: .inr (.inl x) :: r => sx_ol (pc + 1) l r H (sx_nl g (sx_sub x y))
    | _ => none
def sx_c_lmul (M : sx_M) (mid pc : Nat) (g : sx_G) (l : sx_L) (s : List sx_V) (H : sx_H) : Option (List (Nat × sx_S)) := match s with
    | .inr (.inl _) :: .inr (.inl _) :: r => sx_ol (pc + 1) l r H (sx_tl g)
    | _ => none
def sx_c_land (M : sx_M) (mid pc : Nat) (g : sx_G) (l : sx_L) (s : List sx_V) (H : sx_H) : Option (List (Nat × sx_S)) := match s with
    | .inr (.inl _) :: .inr (.inl _) :: r => sx_ol (pc + 1) l r H (sx_tl g)
    | _ => none
def sx_c_lor (M : sx_M) (mid pc : Nat) (g : sx_G) (l : sx_L) (s : List sx_V) (H : sx_H) : Option (List (Nat × sx_S)) := match s with
    | .inr (.inl _) :: .inr (.inl _) :: r => sx_ol (pc + 1) l r H (sx_tl g)
    | _ => none
def sx_c_lxor (M : sx_M) (mid pc : Nat) (g : sx_G) (l : sx_L) (s : List sx_V) (H : sx_H) : Option (List (Nat × sx_S)) := match s with
    | .inr (.inl _) :: .inr (.inl _) :: r => sx_ol (pc + 1) l r H (sx_tl g)
    | _ => none
def sx_c_ldiv (M : sx_M) (mid pc : Nat) (g : sx_G) (l : sx_L) (s : List sx_V) (H : sx_H) : Option (List (Nat × sx_S)) := match s with
    | .inr (.inl y) :: .inr (.inl _) :: r => bif sx_nz g y then sx_ol (pc + 1) l r H (sx_tl g) else none
    | _ => none
def sx_c_lrem (M : sx_M) (mid pc : Nat) (g : sx_G) (l : sx_L) (s : List sx_V) (H : sx_H) : Option (List (Nat × sx_S)) := match s with
    | .inr (.inl y) :: .inr (.inl _) :: r => bif sx_nz g y then sx_ol (pc + 1) l r H (sx_tl g) else none
    | _ => none
def sx_c_lshl (M : sx_M) (mid pc : Nat) (g : sx_G) (l : sx_L) (s : List sx_V) (H : sx_H) : Option (List (Nat × sx_S)) := match s with
    | .inl _ :: .inr (.inl _) :: r => sx_ol (pc + 1) l r H (sx_tl g)
    | _ => none
def sx_c_lshr (M : sx_M) (mid pc : Nat) (g : sx_G) (l : sx_L) (s : List sx_V) (H : sx_H) : Option (List (Nat × sx_S)) := match s with
    | .inl _ :: .inr (.inl _) :: r => sx_ol (pc + 1) l r H (sx_tl g)
    | _ => none
def sx_c_lushr (M : sx_M) (mid pc : Nat) (g : sx_G) (l : sx_L) (s : List sx_V) (H : sx_H) : Option (List (Nat × sx_S)) := match s with
    | .inl _ :: .inr (.inl _) :: r => sx_ol (pc + 1) l r H (sx_tl g)
    | _ => none
def sx_c_lcmp (M : sx_M) (mid pc : Nat) (g : sx_G) (l : sx_L) (s : List sx_V) (H : sx_H) : Option (List (Nat × sx_S)) := match s with
    | .inr (.inl y) :: .inr (.inl x) :: r => some [(pc + 1, g, l, .inr (.inr (.inr (.inr (.inr (.inr (sx_sub x y)))))) :: r, H)]
    | _ => none
def sx_c_ineg (M : sx_M) (mid pc : Nat) (g : sx_G) (l : sx_L) (s : List sx_V) (H : sx_H) : Option (List (Nat × sx_S)) := match s with
    | .inl x :: r => sx_oi (pc + 1) l r H (sx_ni g (sx_scl (-1) x))
    | _ => none
def sx_c_l2i (M : sx_M) (mid pc : Nat) (g : sx_G) (l : sx_L) (s : List sx_V) (H : sx_H) : Option (List (Nat × sx_S)) := match s with
    | .inr (.inl x) :: r => sx_oi (pc + 1) l r H (sx_ni g x)
    | _ => none
def sx_c_i2b (M : sx_M) (mid pc : Nat) (g : sx_G) (l : sx_L) (s : List sx_V) (H : sx_H) : Option (List (Nat × sx_S)) := match s with
    | .inl x :: r => sx_oi (pc + 1) l r H (sx_ib g x)
    | _ => none
def sx_c_i2l (M : sx_M) (mid pc : Nat) (g : sx_G) (l : sx_L) (s : List sx_V) (H : sx_H) : Option (List (Nat × sx_S)) := match s with
    | .inl x :: r => sx_ol (pc + 1) l r H ((g, x))
    | _ => none
def sx_c_lneg (M : sx_M) (mid pc : Nat) (g : sx_G) (l : sx_L) (s : List sx_V) (H : sx_H) : Option (List (Nat × sx_S)) := match s with
    | .inr (.inl x) :: r => bif !(sx_nn g (sx_sub (-1, []) x)) then sx_ol (pc + 1) l r H (sx_nl g (sx_scl (-1) x)) else some (sx_o1 (pc + 1) l (.inr (.inl (sx_scl (-1) x)) :: r) H (sx_as g (sx_sub x (-9223372036854775807, []))) ++ sx_o1 (pc + 1) l (.inr (.inl (-9223372036854775808, [])) :: r) H (sx_as g (sx_sub (-9223372036854775808, []) x)))
    | _ => none
def sx_c_i2c (M : sx_M) (mid pc : Nat) (g : sx_G) (l : sx_L) (s : List sx_V) (H : sx_H) : Option (List (Nat × sx_S)) := match s with
    | .inl x :: r => bif sx_inb g x 0 65535 then some [(pc + 1, g, l, .inl x :: r, H)] else none
    | _ => none
def sx_c_dup (M : sx_M) (mid pc : Nat) (g : sx_G) (l : sx_L) (s : List sx_V) (H : sx_H) : Option (List (Nat × sx_S)) := match s with
    | a :: r => bif Nat.beq (sx_ct a) 1 then some [(pc + 1, g, l, a :: a :: r, H)] else none
    | _ => none
def sx_c_pop (M : sx_M) (mid pc : Nat) (g : sx_G) (l : sx_L) (s : List sx_V) (H : sx_H) : Option (List (Nat × sx_S)) := match s with
    | a :: r => bif Nat.beq (sx_ct a) 1 then some [(pc + 1, g, l, r, H)] else none
    | _ => none
def sx_c_dup2 (M : sx_M) (mid pc : Nat) (g : sx_G) (l : sx_L) (s : List sx_V) (H : sx_H) : Option (List (Nat × sx_S)) := match s with
    | a :: b :: r => bif Nat.beq (sx_ct a) 2 then some [(pc + 1, g, l, a :: a :: b :: r, H)] else bif Nat.beq (sx_ct a) 1 && Nat.beq (sx_ct b) 1 then some [(pc + 1, g, l, a :: b :: a :: b :: r, H)] else none
    | _ => none
def sx_c_ifCond (M : sx_M) (mid pc : Nat) (g : sx_G) (l : sx_L) (s : List sx_V) (H : sx_H) (c : ClassFile.Cond) (off : Int) : Option (List (Nat × sx_S)) := match s, ik_tg pc off with
    | .inl x :: r, some t => some (sx_o2 t (pc + 3) l r H (sx_cd c g x))
    | .inr (.inr (.inr (.inr (.inr (.inr x))))) :: r, some t => some (sx_o3 c t (pc + 3) l r H g x)
    | _, _ => none
def sx_c_if_icmp (M : sx_M) (mid pc : Nat) (g : sx_G) (l : sx_L) (s : List sx_V) (H : sx_H) (c : ClassFile.Cond) (off : Int) : Option (List (Nat × sx_S)) := match s, ik_tg pc off with
    | .inl y :: .inl x :: r, some t => some (sx_o2 t (pc + 3) l r H (sx_cd c g (sx_sub x y)))
    | _, _ => none
def sx_c_goto (M : sx_M) (mid pc : Nat) (g : sx_G) (l : sx_L) (s : List sx_V) (H : sx_H) (off : Int) : Option (List (Nat × sx_S)) := match ik_tg pc off with
    | some t => some [(t, g, l, s, H)]
    | none => none
def sx_c_tableswitch (M : sx_M) (mid pc : Nat) (g : sx_G) (l : sx_L) (s : List sx_V) (H : sx_H) (d : Int) (lo : Int) (hi : Int) (offs : Array Int) : Option (List (Nat × sx_S)) := match s, ik_tg pc d with
    | .inl x :: r, some t => (match sx_sw g x l r H pc lo offs.toList with
      | some L => bif decide (hi = lo + offs.toList.length - 1) then some (sx_o1 t l r H (sx_lt g (sx_sub x (lo, []))) ++ (sx_o1 t l r H (sx_gt g (sx_sub x (hi, []))) ++ L)) else none
      | none => none)
    | _, _ => none
def sx_c_getfield (M : sx_M) (mid pc : Nat) (g : sx_G) (l : sx_L) (s : List sx_V) (H : sx_H) (x : Nat) : Option (List (Nat × sx_S)) := match s, ik_fl mid x with
    | .inr (.inr (.inl ks)) :: r, some (ci, k, _) => (match sx_gf g H ci k ks with
      | some (g', H', w) => some [(pc + 3, g', l, w :: r, H')]
      | none => none)
    | .inr (.inr (.inr (.inl (k + 1)))) :: r, none => bif Nat.beq (k % 2) 0 && Nat.blt k 6 then (match ik_sf mid x with
      | some (0, _) => some [(pc + 3, g, l, .inr (.inr (.inr (.inl (k + 2)))) :: r, H)]
      | some (1, _) => some [(pc + 3, g, l, .inl (0, []) :: r, H)]
      | _ => none) else none
    | _, _ => none
def sx_c_putfield (M : sx_M) (mid pc : Nat) (g : sx_G) (l : sx_L) (s : List sx_V) (H : sx_H) (x : Nat) : Option (List (Nat × sx_S)) := match s, ik_fl mid x with
    | v :: .inr (.inr (.inl ks)) :: r, some (ci, k, _) => bif sx_ft g (ik_ty ci k) v && (!(ik_fi ci k)) then (match sx_pf M g H ci k ks v with
      | some H' => some [(pc + 3, g, l, r, H')]
      | none => none) else none
    | _, _ => none
def sx_c_arraylength (M : sx_M) (mid pc : Nat) (g : sx_G) (l : sx_L) (s : List sx_V) (H : sx_H) : Option (List (Nat × sx_S)) := match s with
    | .inr (.inr (.inl ks)) :: r => (match sx_nc H ks with
      | some n => some [(pc + 1, g, l, .inl ((Int32.ofNat n).toInt, []) :: r, H)]
      | none => none)
    | .inr (.inr (.inr (.inl (k + 1)))) :: r => bif Nat.beq (k % 2) 1 && Nat.blt k 6 then some [(pc + 1, g, l, .inl ((Int32.ofNat (ik_sb (k / 2)).length).toInt, []) :: r, H)] else none
    | _ => none
def sx_c_iaload (M : sx_M) (mid pc : Nat) (g : sx_G) (l : sx_L) (s : List sx_V) (H : sx_H) : Option (List (Nat × sx_S)) := match s with
    | .inl e :: .inr (.inr (.inl ks)) :: r => (match sx_al g H [0] e ks with
      | some (g', H', .inl w) => some [(pc + 1, g', l, .inl w :: r, H')]
      | _ => none)
    | _ => none
def sx_c_laload (M : sx_M) (mid pc : Nat) (g : sx_G) (l : sx_L) (s : List sx_V) (H : sx_H) : Option (List (Nat × sx_S)) := match s with
    | .inl e :: .inr (.inr (.inl ks)) :: r => (match sx_al g H [1] e ks with
      | some (g', H', .inr (.inl w)) => some [(pc + 1, g', l, .inr (.inl w) :: r, H')]
      | _ => none)
    | _ => none
def sx_c_baload (M : sx_M) (mid pc : Nat) (g : sx_G) (l : sx_L) (s : List sx_V) (H : sx_H) : Option (List (Nat × sx_S)) := match s with
    | .inl e :: .inr (.inr (.inl ks)) :: r => (match sx_al g H [2, 3] e ks with
      | some (g', H', .inl w) => some [(pc + 1, g', l, .inl w :: r, H')]
      | _ => none)
    | .inl e :: .inr (.inr (.inr (.inl (k + 1)))) :: r => bif Nat.beq (k % 2) 1 && Nat.blt k 6 && sx_inb g e 0 (((ik_sb (k / 2)).length : Int) - 1) then (match sx_k g e with
      | some c => (match (ik_sb (k / 2))[c.toNat]? with
        | some x => some [(pc + 1, g, l, .inl (x.toInt, []) :: r, H)]
        | none => none)
      | none => sx_oi (pc + 1) l r H (sx_ti g)) else none
    | _ => none
def sx_c_aaload (M : sx_M) (mid pc : Nat) (g : sx_G) (l : sx_L) (s : List sx_V) (H : sx_H) : Option (List (Nat × sx_S)) := match s with
    | .inl e :: .inr (.inr (.inl ks)) :: r => (match sx_al g H [6, 7] e ks with
      | some (g', H', .inr (.inr (.inl w))) => some [(pc + 1, g', l, .inr (.inr (.inl w)) :: r, H')]
      | _ => none)
    | _ => none
def sx_c_iastore (M : sx_M) (mid pc : Nat) (g : sx_G) (l : sx_L) (s : List sx_V) (H : sx_H) : Option (List (Nat × sx_S)) := match s with
    | .inl v :: .inl e :: .inr (.inr (.inl ks)) :: r => (match sx_ap M g [0] e (.inl v) ks H with
      | some H' => some [(pc + 1, g, l, r, H')]
      | none => none)
    | _ => none
def sx_c_lastore (M : sx_M) (mid pc : Nat) (g : sx_G) (l : sx_L) (s : List sx_V) (H : sx_H) : Option (List (Nat × sx_S)) := match s with
    | .inr (.inl v) :: .inl e :: .inr (.inr (.inl ks)) :: r => (match sx_ap M g [1] e (.inr (.inl v)) ks H with
      | some H' => some [(pc + 1, g, l, r, H')]
      | none => none)
    | _ => none
def sx_c_bastore (M : sx_M) (mid pc : Nat) (g : sx_G) (l : sx_L) (s : List sx_V) (H : sx_H) : Option (List (Nat × sx_S)) := match s with
    | .inl v :: .inl e :: .inr (.inr (.inl ks)) :: r => (match sx_ap M g [2, 3] e (.inl v) ks H with
      | some H' => some [(pc + 1, g, l, r, H')]
      | none => none)
    | _ => none
def sx_step (M : sx_M) (mid : Nat) (i : Instr) (pc : Nat) (g : sx_G) (l : sx_L) (s : List sx_V) (H : sx_H) : Option (List (Nat × sx_S)) := match i with
  | .iconst k => sx_c_iconst M mid pc g l s H k
  | .bipush k => sx_c_bipush M mid pc g l s H k
  | .sipush k => sx_c_sipush M mid pc g l s H k
  | .lconst k => sx_c_lconst M mid pc g l s H k
  | .ldc x => sx_c_ldc M mid pc g l s H x
  | .getstatic x => sx_c_getstatic M mid pc g l s H x
  | .ldc_w x => sx_c_ldc_w M mid pc g l s H x
  | .ldc2_w x => sx_c_ldc2_w M mid pc g l s H x
  | .iload_n k => sx_c_iload_n M mid pc g l s H k
  | .iload k => sx_c_iload M mid pc g l s H k
  | .lload_n k => sx_c_lload_n M mid pc g l s H k
  | .lload k => sx_c_lload M mid pc g l s H k
  | .aload_n k => sx_c_aload_n M mid pc g l s H k
  | .aload k => sx_c_aload M mid pc g l s H k
  | .istore_n k => sx_c_istore_n M mid pc g l s H k
  | .istore k => sx_c_istore M mid pc g l s H k
  | .lstore_n k => sx_c_lstore_n M mid pc g l s H k
  | .lstore k => sx_c_lstore M mid pc g l s H k
  | .astore_n k => sx_c_astore_n M mid pc g l s H k
  | .astore k => sx_c_astore M mid pc g l s H k
  | .iinc k n => sx_c_iinc M mid pc g l s H k n
  | .iadd => sx_c_iadd M mid pc g l s H
  | .isub => sx_c_isub M mid pc g l s H
  | .imul => sx_c_imul M mid pc g l s H
  | .iand => sx_c_iand M mid pc g l s H
  | .ior => sx_c_ior M mid pc g l s H
  | .ixor => sx_c_ixor M mid pc g l s H
  | .ishl => sx_c_ishl M mid pc g l s H
  | .ishr => sx_c_ishr M mid pc g l s H
  | .iushr => sx_c_iushr M mid pc g l s H
  | .idiv => sx_c_idiv M mid pc g l s H
  | .irem => sx_c_irem M mid pc g l s H
  | .ladd => sx_c_ladd M mid pc g l s H
  | .lsub => sx_c_lsub M mid pc g l s H
  | .lmul => sx_c_lmul M mid pc g l s H
  | .land => sx_c_land M mid pc g l s H
  | .lor => sx_c_lor M mid pc g l s H
  | .lxor => sx_c_lxor M mid pc g l s H
  | .ldiv => sx_c_ldiv M mid pc g l s H
  | .lrem => sx_c_lrem M mid pc g l s H
  | .lshl => sx_c_lshl M mid pc g l s H
  | .lshr => sx_c_lshr M mid pc g l s H
  | .lushr => sx_c_lushr M mid pc g l s H
  | .lcmp => sx_c_lcmp M mid pc g l s H
  | .ineg => sx_c_ineg M mid pc g l s H
  | .l2i => sx_c_l2i M mid pc g l s H
  | .i2b => sx_c_i2b M mid pc g l s H
  | .i2l => sx_c_i2l M mid pc g l s H
  | .lneg => sx_c_lneg M mid pc g l s H
  | .i2c => sx_c_i2c M mid pc g l s H
  | .dup => sx_c_dup M mid pc g l s H
  | .pop => sx_c_pop M mid pc g l s H
  | .dup2 => sx_c_dup2 M mid pc g l s H
  | .ifCond c off => sx_c_ifCond M mid pc g l s H c off
  | .if_icmp c off => sx_c_if_icmp M mid pc g l s H c off
  | .goto off => sx_c_goto M mid pc g l s H off
  | .tableswitch d lo hi offs => sx_c_tableswitch M mid pc g l s H d lo hi offs
  | .getfield x => sx_c_getfield M mid pc g l s H x
  | .putfield x => sx_c_putfield M mid pc g l s H x
  | .arraylength => sx_c_arraylength M mid pc g l s H
  | .iaload => sx_c_iaload M mid pc g l s H
  | .laload => sx_c_laload M mid pc g l s H
  | .baload => sx_c_baload M mid pc g l s H
  | .aaload => sx_c_aaload M mid pc g l s H
  | .iastore => sx_c_iastore M mid pc g l s H
  | .lastore => sx_c_lastore M mid pc g l s H
  | .bastore => sx_c_bastore M mid pc g l s H
  | _ => none
theorem sx_step_ok {X : Option (Nat × (Nat → Int32))} {M : sx_M} {h0 : List ik_E} {mid : Nat} {i : Instr} {pc : Nat} {g : sx_G} {l : sx_L} {s : List sx_V} {H : sx_H} {L : List (Nat × sx_S)} {ν : List Int} {loc : ik_L} {st : List Value} {h : List ik_E} {cl sl : Nat} (hs : sx_step M mid i pc g l s H = some L) (hg : sx_ok ν g) (hl : sx_lr ν h.length l loc) (hst : sx_sr ν s st) (hh : sx_hr ν H h) (hf : sx_fm M h0 h) : sx_sd M h0 ν L (ik_step X mid i pc loc st h cl sl) h cl sl := by
  cases i with
  | iconst k =>
    simp only [sx_step, sx_c_iconst, sx_c_iconst] at hs
    cases hs
    exact sx_o_ok hg hl ⟨⟨_, rfl, sx_ev_k⟩, hst⟩ hh hf
  | bipush k =>
    simp only [sx_step, sx_c_bipush, sx_c_bipush] at hs
    cases hs
    exact sx_o_ok hg hl ⟨⟨_, rfl, sx_ev_k⟩, hst⟩ hh hf
  | sipush k =>
    simp only [sx_step, sx_c_sipush, sx_c_sipush] at hs
    cases hs
    exact sx_o_ok hg hl ⟨⟨_, rfl, sx_ev_k⟩, hst⟩ hh hf
  | lconst k =>
    simp only [sx_step, sx_c_lconst, sx_c_lconst] at hs
    cases hs
    exact sx_o_ok hg hl ⟨⟨_, rfl, sx_ev_k⟩, hst⟩ hh hf
  | ldc x =>
    simp only [sx_step, sx_c_ldc, sx_c_ldc] at hs
    simp only [ik_step]
    split at hs
    · rename_i v q hc
      cases hs
      rw [hc]
      exact sx_o_ok hg hl ⟨⟨_, rfl, sx_ev_k⟩, hst⟩ hh hf
    · rename_i hc
      rw [hc]
      dsimp only
      split at hs
      · rename_i j q hj
        rw [hj]
        dsimp only
        cases hb : Nat.blt j 3 with
        | false => rw [hb] at hs; cases hs
        | true =>
          rw [hb] at hs
          cases hs
          unfold ik_bo
          rw [if_pos (Nat.blt_eq.mp hb)]
          exact sx_o_ok hg hl ⟨rfl, hst⟩ hh hf
      · cases hs
  | getstatic x =>
    simp only [sx_step, sx_c_getstatic, sx_c_getstatic] at hs
    simp only [ik_step]
    split at hs
    · rename_i q hc
      cases hs
      rw [hc]
      exact sx_o_ok hg hl ⟨⟨1, rfl, sx_ev_k⟩, hst⟩ hh hf
    · rename_i q hc
      cases hs
      rw [hc]
      exact sx_o_ok hg hl ⟨rfl, hst⟩ hh hf
    · cases hs
  | ldc_w x =>
    simp only [sx_step, sx_c_ldc_w, sx_c_ldc_w] at hs
    simp only [ik_step]
    split at hs
    · rename_i v q hc
      cases hs
      rw [hc]
      exact sx_o_ok hg hl ⟨⟨_, rfl, sx_ev_k⟩, hst⟩ hh hf
    · cases hs
  | ldc2_w x =>
    simp only [sx_step, sx_c_ldc2_w, sx_c_ldc2_w] at hs
    simp only [ik_step]
    split at hs
    · rename_i v q hc
      cases hs
      rw [hc]
      exact sx_o_ok hg hl ⟨⟨_, rfl, sx_ev_k⟩, hst⟩ hh hf
    · cases hs
  | iload_n k =>
    simp only [sx_step, sx_c_iload_n, sx_c_iload_n] at hs
    split at hs
    · rename_i e hc
      cases hs
      obtain ⟨v, hv, x, rfl, hx⟩ := sx_lr_get hl hc
      have hgi : ik_gI loc k = some x := by unfold ik_gI; rw [hv]
      simp only [ik_step, hgi]
      exact sx_o_ok hg hl ⟨⟨_, rfl, hx⟩, hst⟩ hh hf
    · cases hs
  | iload k =>
    simp only [sx_step, sx_c_iload, sx_c_iload] at hs
    split at hs
    · rename_i e hc
      cases hs
      obtain ⟨v, hv, x, rfl, hx⟩ := sx_lr_get hl hc
      have hgi : ik_gI loc k = some x := by unfold ik_gI; rw [hv]
      simp only [ik_step, hgi]
      exact sx_o_ok hg hl ⟨⟨_, rfl, hx⟩, hst⟩ hh hf
    · cases hs
  | lload_n k =>
    simp only [sx_step, sx_c_lload_n, sx_c_lload_n] at hs
    split at hs
    · rename_i e hc
      cases hs
      obtain ⟨v, hv, x, rfl, hx⟩ := sx_lr_get hl hc
      have hgi : ik_gL loc k = some x := by unfold ik_gL; rw [hv]
      simp only [ik_step, hgi]
      exact sx_o_ok hg hl ⟨⟨_, rfl, hx⟩, hst⟩ hh hf
    · cases hs
  | lload k =>
    simp only [sx_step, sx_c_lload, sx_c_lload] at hs
    split at hs
    · rename_i e hc
      cases hs
      obtain ⟨v, hv, x, rfl, hx⟩ := sx_lr_get hl hc
      have hgi : ik_gL loc k = some x := by unfold ik_gL; rw [hv]
      simp only [ik_step, hgi]
      exact sx_o_ok hg hl ⟨⟨_, rfl, hx⟩, hst⟩ hh hf
    · cases hs
  | aload_n k =>
    simp only [sx_step, sx_c_aload_n, sx_c_aload_n] at hs
    split at hs
    · rename_i ks hc
      cases hs
      obtain ⟨v, hv, x, hx, rfl⟩ := sx_lr_get hl hc
      have hgi : ik_gA loc k = some (.ref x) := by unfold ik_gA; rw [hv]
      simp only [ik_step, hgi]
      exact sx_o_ok hg hl ⟨⟨_, hx, rfl⟩, hst⟩ hh hf
    · rename_i o hc
      cases hb : Nat.blt o 100 with
      | false => rw [hb] at hs; cases hs
      | true =>
        rw [hb] at hs
        cases hs
        obtain ⟨v, hv, hx⟩ := sx_lr_get hl hc
        cases hx
        have hgi : ik_gA loc k = some (.retAddr o) := by unfold ik_gA; rw [hv]; dsimp only; rw [if_pos (Nat.blt_eq.mp hb)]
        simp only [ik_step, hgi]
        exact sx_o_ok hg hl ⟨rfl, hst⟩ hh hf
    · cases hs
  | aload k =>
    simp only [sx_step, sx_c_aload, sx_c_aload] at hs
    split at hs
    · rename_i ks hc
      cases hs
      obtain ⟨v, hv, x, hx, rfl⟩ := sx_lr_get hl hc
      have hgi : ik_gA loc k = some (.ref x) := by unfold ik_gA; rw [hv]
      simp only [ik_step, hgi]
      exact sx_o_ok hg hl ⟨⟨_, hx, rfl⟩, hst⟩ hh hf
    · rename_i o hc
      cases hb : Nat.blt o 100 with
      | false => rw [hb] at hs; cases hs
      | true =>
        rw [hb] at hs
        cases hs
        obtain ⟨v, hv, hx⟩ := sx_lr_get hl hc
        cases hx
        have hgi : ik_gA loc k = some (.retAddr o) := by unfold ik_gA; rw [hv]; dsimp only; rw [if_pos (Nat.blt_eq.mp hb)]
        simp only [ik_step, hgi]
        exact sx_o_ok hg hl ⟨rfl, hst⟩ hh hf
    · cases hs
  | istore_n k =>
    simp only [sx_step, sx_c_istore_n, sx_c_istore_n] at hs
    split at hs
    · rename_i e r
      obtain ⟨x, st', rfl, hx, hst'⟩ := sx_pI hst
      cases hb : Nat.blt (k) (ik_ml mid) with
      | false => rw [hb] at hs; cases hs
      | true =>
        rw [hb] at hs
        cases hs
        simp only [ik_step, ik_bo]
        rw [if_pos (Nat.blt_eq.mp hb)]
        exact sx_o_ok hg (sx_put_ok hl ⟨x, rfl, hx⟩) hst' hh hf
    · cases hs
  | istore k =>
    simp only [sx_step, sx_c_istore, sx_c_istore] at hs
    split at hs
    · rename_i e r
      obtain ⟨x, st', rfl, hx, hst'⟩ := sx_pI hst
      cases hb : Nat.blt (k) (ik_ml mid) with
      | false => rw [hb] at hs; cases hs
      | true =>
        rw [hb] at hs
        cases hs
        simp only [ik_step, ik_bo]
        rw [if_pos (Nat.blt_eq.mp hb)]
        exact sx_o_ok hg (sx_put_ok hl ⟨x, rfl, hx⟩) hst' hh hf
    · cases hs
  | lstore_n k =>
    simp only [sx_step, sx_c_lstore_n, sx_c_lstore_n] at hs
    split at hs
    · rename_i e r
      obtain ⟨x, st', rfl, hx, hst'⟩ := sx_pL hst
      cases hb : Nat.blt (k + 1) (ik_ml mid) with
      | false => rw [hb] at hs; cases hs
      | true =>
        rw [hb] at hs
        cases hs
        simp only [ik_step, ik_bo]
        rw [if_pos (Nat.blt_eq.mp hb)]
        exact sx_o_ok hg (sx_put_ok hl ⟨x, rfl, hx⟩) hst' hh hf
    · cases hs
  | lstore k =>
    simp only [sx_step, sx_c_lstore, sx_c_lstore] at hs
    split at hs
    · rename_i e r
      obtain ⟨x, st', rfl, hx, hst'⟩ := sx_pL hst
      cases hb : Nat.blt (k + 1) (ik_ml mid) with
      | false => rw [hb] at hs; cases hs
      | true =>
        rw [hb] at hs
        cases hs
        simp only [ik_step, ik_bo]
        rw [if_pos (Nat.blt_eq.mp hb)]
        exact sx_o_ok hg (sx_put_ok hl ⟨x, rfl, hx⟩) hst' hh hf
    · cases hs
  | astore_n k =>
    simp only [sx_step, sx_c_astore_n, sx_c_astore_n] at hs
    split at hs
    · rename_i e r
      obtain ⟨x, st', rfl, hx, hst'⟩ := sx_pA hst
      cases hb : Nat.blt (k) (ik_ml mid) with
      | false => rw [hb] at hs; cases hs
      | true =>
        rw [hb] at hs
        cases hs
        simp only [ik_step, ik_bo]
        rw [if_pos (Nat.blt_eq.mp hb)]
        exact sx_o_ok hg (sx_put_ok hl ⟨x, hx, rfl⟩) hst' hh hf
    · cases hs
  | astore k =>
    simp only [sx_step, sx_c_astore, sx_c_astore] at hs
    split at hs
    · rename_i e r
      obtain ⟨x, st', rfl, hx, hst'⟩ := sx_pA hst
      cases hb : Nat.blt (k) (ik_ml mid) with
      | false => rw [hb] at hs; cases hs
      | true =>
        rw [hb] at hs
        cases hs
        simp only [ik_step, ik_bo]
        rw [if_pos (Nat.blt_eq.mp hb)]
        exact sx_o_ok hg (sx_put_ok hl ⟨x, hx, rfl⟩) hst' hh hf
    · cases hs
  | iinc k n =>
    simp only [sx_step, sx_c_iinc, sx_c_iinc] at hs
    split at hs
    · rename_i e hc
      obtain ⟨v, hv, x, rfl, hx⟩ := sx_lr_get hl hc
      have hgi : ik_gI loc k = some x := by unfold ik_gI; rw [hv]
      cases hb : Nat.blt k (ik_ml mid) with
      | false => rw [hb] at hs; cases hs
      | true =>
        rw [hb] at hs
        obtain ⟨δ, h1, h2⟩ := sx_ad_ok (y := Int32.ofInt n) hg hx sx_ev_k
        cases hs
        simp only [ik_step, hgi, ik_bo]
        rw [if_pos (Nat.blt_eq.mp hb)]
        exact ⟨_, _, _, _, rfl, rfl, hf, _, δ, List.mem_singleton.mpr rfl, h1, sx_put_ok (a := .inl (sx_nw g (sx_add e ((Int32.ofInt n).toInt, []))).2) (v := .int (x + Int32.ofInt n)) (sx_lr_mono hl) ⟨_, rfl, h2⟩, sx_sr_mono hst, sx_hr_mono hh⟩
    · cases hs
  | iadd =>
    simp only [sx_step, sx_c_iadd, sx_c_iadd] at hs
    split at hs
    · rename_i ey ex r
      obtain ⟨y, st1, rfl, hy, h1⟩ := sx_pI hst
      obtain ⟨x, st2, rfl, hx, h2⟩ := sx_pI h1
      exact sx_oi_ok hs (sx_ad_ok hg hx hy) hl h2 hh hf
    · cases hs
  | isub =>
    simp only [sx_step, sx_c_isub, sx_c_isub] at hs
    split at hs
    · rename_i ey ex r
      obtain ⟨y, st1, rfl, hy, h1⟩ := sx_pI hst
      obtain ⟨x, st2, rfl, hx, h2⟩ := sx_pI h1
      exact sx_oi_ok hs (sx_sb_ok hg hx hy) hl h2 hh hf
    · cases hs
  | imul =>
    simp only [sx_step, sx_c_imul, sx_c_imul] at hs
    split at hs
    · rename_i ey ex r
      obtain ⟨y, st1, rfl, hy, h1⟩ := sx_pI hst
      obtain ⟨x, st2, rfl, hx, h2⟩ := sx_pI h1
      exact sx_oi_ok hs (sx_mu_ok hg hx hy) hl h2 hh hf
    · cases hs
  | iand =>
    simp only [sx_step, sx_c_iand, sx_c_iand] at hs
    split at hs
    · rename_i ey ex r
      obtain ⟨y, st1, rfl, hy, h1⟩ := sx_pI hst
      obtain ⟨x, st2, rfl, hx, h2⟩ := sx_pI h1
      exact sx_oi_ok hs (sx_an_ok hg hx hy) hl h2 hh hf
    · cases hs
  | ior =>
    simp only [sx_step, sx_c_ior, sx_c_ior] at hs
    split at hs
    · rename_i ey ex r
      obtain ⟨y, st1, rfl, hy, h1⟩ := sx_pI hst
      obtain ⟨x, st2, rfl, hx, h2⟩ := sx_pI h1
      exact sx_oi_ok hs (sx_fo_ok (f := fun a b => a ||| b) hg hx hy) hl h2 hh hf
    · cases hs
  | ixor =>
    simp only [sx_step, sx_c_ixor, sx_c_ixor] at hs
    split at hs
    · rename_i ey ex r
      obtain ⟨y, st1, rfl, hy, h1⟩ := sx_pI hst
      obtain ⟨x, st2, rfl, hx, h2⟩ := sx_pI h1
      exact sx_oi_ok hs (sx_fo_ok (f := fun a b => a ^^^ b) hg hx hy) hl h2 hh hf
    · cases hs
  | ishl =>
    simp only [sx_step, sx_c_ishl, sx_c_ishl] at hs
    split at hs
    · rename_i ey ex r
      obtain ⟨y, st1, rfl, hy, h1⟩ := sx_pI hst
      obtain ⟨x, st2, rfl, hx, h2⟩ := sx_pI h1
      exact sx_oi_ok hs (sx_fo_ok (f := fun a b => a <<< (b &&& 31)) hg hx hy) hl h2 hh hf
    · cases hs
  | ishr =>
    simp only [sx_step, sx_c_ishr, sx_c_ishr] at hs
    split at hs
    · rename_i ey ex r
      obtain ⟨y, st1, rfl, hy, h1⟩ := sx_pI hst
      obtain ⟨x, st2, rfl, hx, h2⟩ := sx_pI h1
      exact sx_oi_ok hs (sx_fo_ok (f := fun a b => a >>> (b &&& 31)) hg hx hy) hl h2 hh hf
    · cases hs
  | iushr =>
    simp only [sx_step, sx_c_iushr, sx_c_iushr] at hs
    split at hs
    · rename_i ey ex r
      obtain ⟨y, st1, rfl, hy, h1⟩ := sx_pI hst
      obtain ⟨x, st2, rfl, hx, h2⟩ := sx_pI h1
      exact sx_oi_ok hs (sx_fo_ok (f := fun a b => (a.toUInt32 >>> (b.toUInt32 &&& Int32.toUInt32 31)).toInt32) hg hx hy) hl h2 hh hf
    · cases hs
  | idiv =>
    simp only [sx_step, sx_c_idiv, sx_c_idiv] at hs
    split at hs
    · rename_i ey ex r
      obtain ⟨y, st1, rfl, hy, h1⟩ := sx_pI hst
      obtain ⟨x, st2, rfl, hx, h2⟩ := sx_pI h1
      split at hs
      · rename_i p hp
        obtain ⟨hne, hv⟩ := sx_dv_ok hg hx hy hp
        simp only [ik_step, ik_bo]
        rw [if_pos hne]
        exact sx_oi_ok hs hv hl h2 hh hf
      · cases hs
    · cases hs
  | irem =>
    simp only [sx_step, sx_c_irem, sx_c_irem] at hs
    split at hs
    · rename_i ey ex r
      obtain ⟨y, st1, rfl, hy, h1⟩ := sx_pI hst
      obtain ⟨x, st2, rfl, hx, h2⟩ := sx_pI h1
      split at hs
      · rename_i p hp
        obtain ⟨hne, hv⟩ := sx_rm_ok hg hx hy hp
        simp only [ik_step, ik_bo]
        rw [if_pos hne]
        exact sx_oi_ok hs hv hl h2 hh hf
      · cases hs
    · cases hs
  | ladd =>
    simp only [sx_step, sx_c_ladd, sx_c_ladd] at hs
    split at hs
    · rename_i ey ex r
      obtain ⟨y, st1, rfl, hy, h1⟩ := sx_pL hst
      obtain ⟨x, st2, rfl, hx, h2⟩ := sx_pL h1
      exact sx_ol_ok hs (sx_lad_ok hg hx hy) hl h2 hh hf
    · cases hs
  | lsub =>
    simp only [sx_step, sx_c_lsub, sx_c_lsub] at hs
    split at hs
    · rename_i ey ex r
      obtain ⟨y, st1, rfl, hy, h1⟩ := sx_pL hst
      obtain ⟨x, st2, rfl, hx, h2⟩ := sx_pL h1
      exact sx_ol_ok hs (sx_lsb_ok hg hx hy) hl h2 hh hf
    · cases hs
  | lmul =>
    simp only [sx_step, sx_c_lmul, sx_c_lmul] at hs
    split at hs
    · rename_i ey ex r
      obtain ⟨y, st1, rfl, hy, h1⟩ := sx_pL hst
      obtain ⟨x, st2, rfl, hx, h2⟩ := sx_pL h1
      exact sx_ol_ok hs (sx_gv_tl hg _) hl h2 hh hf
    · cases hs
  | land =>
    simp only [sx_step, sx_c_land, sx_c_land] at hs
    split at hs
    · rename_i ey ex r
      obtain ⟨y, st1, rfl, hy, h1⟩ := sx_pL hst
      obtain ⟨x, st2, rfl, hx, h2⟩ := sx_pL h1
      exact sx_ol_ok hs (sx_gv_tl hg _) hl h2 hh hf
    · cases hs
  | lor =>
    simp only [sx_step, sx_c_lor, sx_c_lor] at hs
    split at hs
    · rename_i ey ex r
      obtain ⟨y, st1, rfl, hy, h1⟩ := sx_pL hst
      obtain ⟨x, st2, rfl, hx, h2⟩ := sx_pL h1
      exact sx_ol_ok hs (sx_gv_tl hg _) hl h2 hh hf
    · cases hs
  | lxor =>
    simp only [sx_step, sx_c_lxor, sx_c_lxor] at hs
    split at hs
    · rename_i ey ex r
      obtain ⟨y, st1, rfl, hy, h1⟩ := sx_pL hst
      obtain ⟨x, st2, rfl, hx, h2⟩ := sx_pL h1
      exact sx_ol_ok hs (sx_gv_tl hg _) hl h2 hh hf
    · cases hs
  | ldiv =>
    simp only [sx_step, sx_c_ldiv, sx_c_ldiv] at hs
    split at hs
    · rename_i ey ex r
      obtain ⟨y, st1, rfl, hy, h1⟩ := sx_pL hst
      obtain ⟨x, st2, rfl, hx, h2⟩ := sx_pL h1
      cases hb : sx_nz g ey with
      | false => rw [hb] at hs; cases hs
      | true =>
        rw [hb] at hs
        simp only [cond_true] at hs
        have hne := sx_nz_ok hg hy hb
        simp only [ik_step, ik_bo]
        rw [if_pos (fun q => hne (by rw [q]; rfl))]
        exact sx_ol_ok hs (sx_gv_tl hg _) hl h2 hh hf
    · cases hs
  | lrem =>
    simp only [sx_step, sx_c_lrem, sx_c_lrem] at hs
    split at hs
    · rename_i ey ex r
      obtain ⟨y, st1, rfl, hy, h1⟩ := sx_pL hst
      obtain ⟨x, st2, rfl, hx, h2⟩ := sx_pL h1
      cases hb : sx_nz g ey with
      | false => rw [hb] at hs; cases hs
      | true =>
        rw [hb] at hs
        simp only [cond_true] at hs
        have hne := sx_nz_ok hg hy hb
        simp only [ik_step, ik_bo]
        rw [if_pos (fun q => hne (by rw [q]; rfl))]
        exact sx_ol_ok hs (sx_gv_tl hg _) hl h2 hh hf
    · cases hs
  | lshl =>
    simp only [sx_step, sx_c_lshl, sx_c_lshl] at hs
    split at hs
    · rename_i ey ex r
      obtain ⟨y, st1, rfl, hy, h1⟩ := sx_pI hst
      obtain ⟨x, st2, rfl, hx, h2⟩ := sx_pL h1
      exact sx_ol_ok hs (sx_gv_tl hg _) hl h2 hh hf
    · cases hs
  | lshr =>
    simp only [sx_step, sx_c_lshr, sx_c_lshr] at hs
    split at hs
    · rename_i ey ex r
      obtain ⟨y, st1, rfl, hy, h1⟩ := sx_pI hst
      obtain ⟨x, st2, rfl, hx, h2⟩ := sx_pL h1
      exact sx_ol_ok hs (sx_gv_tl hg _) hl h2 hh hf
    · cases hs
  | lushr =>
    simp only [sx_step, sx_c_lushr, sx_c_lushr] at hs
    split at hs
    · rename_i ey ex r
      obtain ⟨y, st1, rfl, hy, h1⟩ := sx_pI hst
      obtain ⟨x, st2, rfl, hx, h2⟩ := sx_pL h1
      exact sx_ol_ok hs (sx_gv_tl hg _) hl h2 hh hf
    · cases hs
  | lcmp =>
    simp only [sx_step, sx_c_lcmp, sx_c_lcmp] at hs
    split at hs
    · rename_i ey ex r
      obtain ⟨y, st1, rfl, hy, h1⟩ := sx_pL hst
      obtain ⟨x, st2, rfl, hx, h2⟩ := sx_pL h1
      cases hs
      refine sx_o_ok hg hl ⟨⟨lg_cmp x y, rfl, x.toInt - y.toInt, sx_ev_sub hx hy, ?_, ?_⟩, h2⟩ hh hf
      · have := lg_lt0 x y
        rw [cv_lt] at this
        have e0 : (0 : Int32).toInt = 0 := rfl
        rw [e0] at this
        rw [this]
        omega
      · have := lg_gt0 x y
        rw [cv_lt] at this
        have e0 : (0 : Int32).toInt = 0 := rfl
        rw [e0] at this
        rw [this]
        omega
    · cases hs
  | ineg =>
    simp only [sx_step, sx_c_ineg, sx_c_ineg] at hs
    split at hs
    · rename_i ex r
      obtain ⟨x, st1, rfl, hx, h1⟩ := sx_pI hst
      exact sx_oi_ok hs (sx_ng_ok hg hx) hl h1 hh hf
    · cases hs
  | l2i =>
    simp only [sx_step, sx_c_l2i, sx_c_l2i] at hs
    split at hs
    · rename_i ex r
      obtain ⟨x, st1, rfl, hx, h1⟩ := sx_pL hst
      exact sx_oi_ok hs (sx_l2i_ok hg hx) hl h1 hh hf
    · cases hs
  | i2b =>
    simp only [sx_step, sx_c_i2b, sx_c_i2b] at hs
    split at hs
    · rename_i ex r
      obtain ⟨x, st1, rfl, hx, h1⟩ := sx_pI hst
      exact sx_oi_ok hs (sx_ib_ok hg hx) hl h1 hh hf
    · cases hs
  | i2l =>
    simp only [sx_step, sx_c_i2l, sx_c_i2l] at hs
    split at hs
    · rename_i ex r
      obtain ⟨x, st1, rfl, hx, h1⟩ := sx_pI hst
      exact sx_ol_ok hs (sx_gv_id hg (by rw [cv_64]; exact hx)) hl h1 hh hf
    · cases hs
  | lneg =>
    simp only [sx_step, sx_c_lneg, sx_c_lneg] at hs
    split at hs
    · rename_i ex r
      obtain ⟨x, st1, rfl, hx, h1⟩ := sx_pL hst
      cases hneg : !(sx_nn g (sx_sub (-1, []) ex)) with
      | true =>
        rw [hneg] at hs
        exact sx_ol_ok hs (sx_lng_ok hg hx) hl h1 hh hf
      | false =>
      rw [hneg] at hs
      cases hs
      have hb := sx_i64 x
      simp only [ik_step]
      by_cases hm : -9223372036854775807 ≤ x.toInt
      · obtain ⟨g', e1, e2⟩ := sx_as_ok hg (sx_ev_sub hx (sx_ev_k (c := -9223372036854775807))) (by omega)
        refine ⟨_, _, _, _, rfl, rfl, hf, (g', l, .inr (.inl (sx_scl (-1) ex)) :: r, H), [], ?_, ?_⟩
        · rw [e1]
          exact List.mem_append_left _ (List.mem_singleton.mpr rfl)
        · rw [List.append_nil]
          refine ⟨e2, hl, ⟨⟨-x, rfl, ?_⟩, h1⟩, hh⟩
          rw [Int64.toInt_neg, show -x.toInt = -1 * x.toInt by omega, sx_bm64 (by omega) (by omega)]
          exact sx_ev_scl hx
      · obtain ⟨g', e1, e2⟩ := sx_as_ok hg (sx_ev_sub (sx_ev_k (c := -9223372036854775808)) hx) (by omega)
        refine ⟨_, _, _, _, rfl, rfl, hf, (g', l, .inr (.inl (-9223372036854775808, [])) :: r, H), [], ?_, ?_⟩
        · rw [e1]
          exact List.mem_append_right _ (List.mem_singleton.mpr rfl)
        · rw [List.append_nil]
          refine ⟨e2, hl, ⟨⟨-x, rfl, ?_⟩, h1⟩, hh⟩
          have hxm : x.toInt = -9223372036854775808 := by omega
          rw [Int64.toInt_neg, hxm]
          exact sx_ev_k
    · cases hs
  | i2c =>
    simp only [sx_step, sx_c_i2c, sx_c_i2c] at hs
    split at hs
    · rename_i ex r
      obtain ⟨x, st1, rfl, hx, h1⟩ := sx_pI hst
      cases hb : sx_inb g ex 0 65535 with
      | false => rw [hb] at hs; cases hs
      | true =>
        rw [hb] at hs
        cases hs
        obtain ⟨b1, b2⟩ := sx_inb_ok hg hx hb
        simp only [ik_step]
        rw [sx_i2c b1 b2]
        exact sx_o_ok hg hl ⟨⟨x, rfl, hx⟩, h1⟩ hh hf
    · cases hs
  | dup =>
    simp only [sx_step, sx_c_dup, sx_c_dup] at hs
    split at hs
    · rename_i a r
      obtain ⟨v, st1, rfl, hv, h1⟩ := sx_p1 hst
      cases hb : Nat.beq (sx_ct a) 1 with
      | false => rw [hb] at hs; cases hs
      | true =>
        rw [hb] at hs
        cases hs
        have hc : v.category = 1 := (sx_ct_ok hv).trans (Nat.eq_of_beq_eq_true hb)
        simp only [ik_step, ik_bo]
        rw [if_pos hc]
        exact sx_o_ok hg hl ⟨hv, hv, h1⟩ hh hf
    · cases hs
  | pop =>
    simp only [sx_step, sx_c_pop, sx_c_pop] at hs
    split at hs
    · rename_i a r
      obtain ⟨v, st1, rfl, hv, h1⟩ := sx_p1 hst
      cases hb : Nat.beq (sx_ct a) 1 with
      | false => rw [hb] at hs; cases hs
      | true =>
        rw [hb] at hs
        cases hs
        have hc : v.category = 1 := (sx_ct_ok hv).trans (Nat.eq_of_beq_eq_true hb)
        simp only [ik_step, ik_bo]
        rw [if_pos hc]
        exact sx_o_ok hg hl h1 hh hf
    · cases hs
  | dup2 =>
    simp only [sx_step, sx_c_dup2, sx_c_dup2] at hs
    split at hs
    · rename_i a b r
      obtain ⟨v, st1, rfl, hv, h1⟩ := sx_p1 hst
      obtain ⟨w, st2, rfl, hw, h2⟩ := sx_p1 h1
      have hcv := sx_ct_ok hv
      have hcw := sx_ct_ok hw
      simp only [ik_step]
      cases hb : Nat.beq (sx_ct a) 2 with
      | true =>
        rw [hb] at hs
        cases hs
        rw [if_pos (hcv.trans (Nat.eq_of_beq_eq_true hb))]
        exact sx_o_ok hg hl ⟨hv, hv, hw, h2⟩ hh hf
      | false =>
        rw [hb] at hs
        simp only [cond_false] at hs
        cases hb2 : (Nat.beq (sx_ct a) 1 && Nat.beq (sx_ct b) 1) with
        | false => rw [hb2] at hs; cases hs
        | true =>
          rw [hb2] at hs
          cases hs
          obtain ⟨q1, q2⟩ := Bool.and_eq_true_iff.mp hb2
          have c1 := hcv.trans (Nat.eq_of_beq_eq_true q1)
          have c2 := hcw.trans (Nat.eq_of_beq_eq_true q2)
          rw [if_neg (by omega)]
          unfold ik_bo
          rw [if_pos ⟨c1, c2⟩]
          exact sx_o_ok hg hl ⟨hv, hw, hv, hw, h2⟩ hh hf
    · cases hs
  | ifCond c off =>
    simp only [sx_step, sx_c_ifCond, sx_c_ifCond] at hs
    have e0 : (0 : Int32).toInt = 0 := rfl
    split at hs
    · rename_i ex r t ht
      obtain ⟨x, st1, rfl, hx, h1⟩ := sx_pI hst
      cases hs
      cases c <;> simp only [ik_step, ht]
      · exact sx_br (c := .eq) hg hl h1 hh hf hx (by rw [cv_eq, e0]; exact Iff.rfl)
      · rw [sx_ifn]
        exact sx_br (c := .ne) hg hl h1 hh hf hx (by rw [cv_eq, e0]; exact Iff.rfl)
      · exact sx_br (c := .lt) hg hl h1 hh hf hx (by rw [cv_lt, e0]; exact Iff.rfl)
      · exact sx_br (c := .ge) hg hl h1 hh hf hx (by rw [cv_le, e0]; exact Iff.rfl)
      · exact sx_br (c := .gt) hg hl h1 hh hf hx (by rw [cv_lt, e0]; exact Iff.rfl)
      · exact sx_br (c := .le) hg hl h1 hh hf hx (by rw [cv_le, e0]; exact Iff.rfl)
    · rename_i ex r t ht
      obtain ⟨x, st1, y, rfl, hx, k1, k2, h1⟩ := sx_pC hst
      cases hs
      cases c <;> simp only [ik_step, ht]
      · exact sx_br3 (c := .eq) hg hl h1 hh hf hx (by rw [cv_eq, e0]; unfold sx_tr; dsimp only; omega)
      · rw [sx_ifn]
        exact sx_br3 (c := .ne) hg hl h1 hh hf hx (by rw [cv_eq, e0]; unfold sx_tr; dsimp only; omega)
      · exact sx_br3 (c := .lt) hg hl h1 hh hf hx (by rw [cv_lt, e0]; unfold sx_tr; dsimp only; omega)
      · exact sx_br3 (c := .ge) hg hl h1 hh hf hx (by rw [cv_le, e0]; unfold sx_tr; dsimp only; omega)
      · exact sx_br3 (c := .gt) hg hl h1 hh hf hx (by rw [cv_lt, e0]; unfold sx_tr; dsimp only; omega)
      · exact sx_br3 (c := .le) hg hl h1 hh hf hx (by rw [cv_le, e0]; unfold sx_tr; dsimp only; omega)
    · cases hs
  | if_icmp c off =>
    simp only [sx_step, sx_c_if_icmp, sx_c_if_icmp] at hs
    split at hs
    · rename_i ey ex r t ht
      obtain ⟨y, st1, rfl, hy, h1⟩ := sx_pI hst
      obtain ⟨x, st2, rfl, hx, h2⟩ := sx_pI h1
      have hxy := sx_ev_sub hx hy
      cases hs
      cases c <;> simp only [ik_step, ht]
      · exact sx_br (c := .eq) hg hl h2 hh hf hxy (by rw [cv_eq]; unfold sx_tr; dsimp only; omega)
      · rw [sx_ifn]
        exact sx_br (c := .ne) hg hl h2 hh hf hxy (by rw [cv_eq]; unfold sx_tr; dsimp only; omega)
      · exact sx_br (c := .lt) hg hl h2 hh hf hxy (by rw [cv_lt]; unfold sx_tr; dsimp only; omega)
      · exact sx_br (c := .ge) hg hl h2 hh hf hxy (by rw [cv_le]; unfold sx_tr; dsimp only; omega)
      · exact sx_br (c := .gt) hg hl h2 hh hf hxy (by rw [cv_lt]; unfold sx_tr; dsimp only; omega)
      · exact sx_br (c := .le) hg hl h2 hh hf hxy (by rw [cv_le]; unfold sx_tr; dsimp only; omega)
    · cases hs
  | goto off =>
    simp only [sx_step, sx_c_goto, sx_c_goto] at hs
    simp only [ik_step]
    split at hs
    · rename_i t ht
      cases hs
      rw [ht]
      exact sx_o_ok hg hl hst hh hf
    · cases hs
  | tableswitch d lo hi offs =>
    simp only [sx_step, sx_c_tableswitch, sx_c_tableswitch] at hs
    split at hs
    · rename_i ex r t ht
      obtain ⟨x, st1, rfl, hx, h1⟩ := sx_pI hst
      split at hs
      · rename_i L' hL
        by_cases hhi : hi = lo + offs.toList.length - 1
        · rw [decide_eq_true hhi] at hs
          cases hs
          simp only [ik_step]
          by_cases q1 : x.toInt < lo
          · rw [if_pos (Or.inl q1), ht]
            obtain ⟨g', e1, e2⟩ := sx_lt_ok hg (sx_ev_sub hx (sx_ev_k (c := lo))) (by omega)
            refine ⟨_, _, _, _, rfl, rfl, hf, (g', l, r, H), [], ?_, ?_⟩
            · rw [e1]
              exact List.mem_append_left _ (List.mem_singleton.mpr rfl)
            · rw [List.append_nil]; exact ⟨e2, hl, h1, hh⟩
          · by_cases q2 : hi < x.toInt
            · rw [if_pos (Or.inr q2), ht]
              obtain ⟨g', e1, e2⟩ := sx_gt_ok hg (sx_ev_sub hx (sx_ev_k (c := hi))) (by omega)
              refine ⟨_, _, _, _, rfl, rfl, hf, (g', l, r, H), [], ?_, ?_⟩
              · rw [e1]
                exact List.mem_append_right _ (List.mem_append_left _ (List.mem_singleton.mpr rfl))
              · rw [List.append_nil]; exact ⟨e2, hl, h1, hh⟩
            · rw [if_neg (fun q => q.elim q1 q2)]
              obtain ⟨o, t', g', w1, w2, w3, w4⟩ := sx_sw_ok hg hx hL (by omega) (by omega)
              rw [w1]
              dsimp only
              rw [w2]
              refine ⟨_, _, _, _, rfl, rfl, hf, (g', l, r, H), [], ?_, ?_⟩
              · exact List.mem_append_right _ (List.mem_append_right _ w3)
              · rw [List.append_nil]; exact ⟨w4, hl, h1, hh⟩
        · rw [decide_eq_false hhi] at hs; cases hs
      · cases hs
    · cases hs
  | getfield x =>
    simp only [sx_step, sx_c_getfield, sx_c_getfield] at hs
    split at hs
    · rename_i ks r ci k u hfl
      obtain ⟨a, st1, rfl, ha, h1⟩ := sx_pA hst
      split at hs
      · rename_i g' H' w hgf
        cases hs
        obtain ⟨fs, v, δ, q1, q2, q3, q4, q5⟩ := sx_gf_ok hg hh ha hgf
        simp only [ik_step, hfl, q1, ik_bo, q2, if_true]
        exact ⟨_, _, _, _, rfl, rfl, hf, _, δ, List.mem_singleton.mpr rfl, q3, sx_lr_mono hl, ⟨q5, sx_sr_mono h1⟩, q4⟩
      · cases hs
    · rename_i k r hfl
      obtain ⟨st1, rfl, h1⟩ := sx_pO hst
      cases hb : (Nat.beq (k % 2) 0 && Nat.blt k 6) with
      | false => rw [hb] at hs; cases hs
      | true =>
        rw [hb] at hs
        simp only [cond_true] at hs
        obtain ⟨b1, b2⟩ := Bool.and_eq_true_iff.mp hb
        have hc : k % 2 = 0 ∧ k < 6 := ⟨Nat.eq_of_beq_eq_true b1, Nat.blt_eq.mp b2⟩
        simp only [ik_step, hfl, ik_bo]
        rw [if_pos hc]
        split at hs
        · rename_i q hq
          cases hs
          rw [hq]
          exact sx_o_ok hg hl ⟨rfl, h1⟩ hh hf
        · rename_i q hq
          cases hs
          rw [hq]
          exact sx_o_ok hg hl ⟨⟨0, rfl, sx_ev_k⟩, h1⟩ hh hf
        · cases hs
    · cases hs
  | putfield x =>
    simp only [sx_step, sx_c_putfield, sx_c_putfield] at hs
    split at hs
    · rename_i v ks r ci k u hfl
      obtain ⟨w, st0, rfl, hw, h0'⟩ := sx_p1 hst
      obtain ⟨a, st1, rfl, ha, h1⟩ := sx_pA h0'
      cases hb : (sx_ft g (ik_ty ci k) v && (!(ik_fi ci k))) with
      | false => rw [hb] at hs; cases hs
      | true =>
        rw [hb] at hs
        simp only [cond_true] at hs
        obtain ⟨b1, b2⟩ := Bool.and_eq_true_iff.mp hb
        split at hs
        · rename_i H' hpf
          cases hs
          obtain ⟨fs, q1, q2, q3, q4⟩ := sx_pf_ok hg hh ha hw hpf
          have hfit := sx_ft_ok hg hw b1
          have hfi : ik_fi ci k = false := by
            cases hq : ik_fi ci k with
            | false => rfl
            | true => rw [hq] at b2; cases b2
          simp only [ik_step, hfl, q1, ik_bo]
          rw [if_pos ⟨trivial, q2, hfit, Or.inl hfi⟩]
          refine ⟨_, _, _, _, rfl, List.length_set, ?_, _, [], List.mem_singleton.mpr rfl, ?_⟩
          · refine sx_fm_set hf q1 rfl List.length_set fun j hj => ?_
            have hkj : ¬ k = j := fun q => by rw [q] at q3; rw [q3] at hj; cases hj
            exact List.getElem?_set_ne hkj
          · rw [List.append_nil]
            refine ⟨hg, ?_, h1, q4⟩
            rw [List.length_set]; exact hl
        · cases hs
    · cases hs
  | arraylength =>
    simp only [sx_step, sx_c_arraylength, sx_c_arraylength] at hs
    split at hs
    · rename_i ks r
      obtain ⟨a, st1, rfl, ha, h1⟩ := sx_pA hst
      split at hs
      · rename_i n hn
        cases hs
        obtain ⟨ty, ws, q1, q2⟩ := sx_nc_ok hh ha hn
        simp only [ik_step, q1]
        refine sx_o_ok hg hl ⟨⟨_, rfl, ?_⟩, h1⟩ hh hf
        rw [q2]
        exact sx_ev_k
      · cases hs
    · rename_i k r
      obtain ⟨st1, rfl, h1⟩ := sx_pO hst
      cases hb : (Nat.beq (k % 2) 1 && Nat.blt k 6) with
      | false => rw [hb] at hs; cases hs
      | true =>
        rw [hb] at hs
        cases hs
        obtain ⟨b1, b2⟩ := Bool.and_eq_true_iff.mp hb
        have hc : k % 2 = 1 ∧ k < 6 := ⟨Nat.eq_of_beq_eq_true b1, Nat.blt_eq.mp b2⟩
        simp only [ik_step, ik_bo]
        rw [if_pos hc]
        exact sx_o_ok hg hl ⟨⟨_, rfl, sx_ev_k⟩, h1⟩ hh hf
    · cases hs
  | iaload =>
    simp only [sx_step, sx_c_iaload, sx_c_iaload] at hs
    split at hs
    · rename_i e ks r
      obtain ⟨i, st0, rfl, hi, h0'⟩ := sx_pI hst
      obtain ⟨a, st1, rfl, ha, h1⟩ := sx_pA h0'
      split at hs
      · rename_i g' H' w hal
        cases hs
        obtain ⟨t, ws, v, δ, q1, q2, q3, q4, q5, q6, q7⟩ := sx_al_ok hg hh ha hi hal
        obtain ⟨x, rfl, hx⟩ := q7
        have hi0 : ¬ i < 0 := by rw [cv_lt]; exact Int.not_lt.mpr q3
        have q4' : ws[i.toNatClampNeg]? = some (.int x) := q4
        have ht : t = 0 := List.mem_singleton.mp q2
        subst ht
        simp only [ik_step, q1, sx_ty]
        rw [if_neg hi0]
        simp only [q4']
        exact ⟨_, _, _, _, rfl, rfl, hf, _, δ, List.mem_singleton.mpr rfl, q5, sx_lr_mono hl, ⟨⟨x, rfl, hx⟩, sx_sr_mono h1⟩, q6⟩
      · cases hs
    · cases hs
  | laload =>
    simp only [sx_step, sx_c_laload, sx_c_laload] at hs
    split at hs
    · rename_i e ks r
      obtain ⟨i, st0, rfl, hi, h0'⟩ := sx_pI hst
      obtain ⟨a, st1, rfl, ha, h1⟩ := sx_pA h0'
      split at hs
      · rename_i g' H' w hal
        cases hs
        obtain ⟨t, ws, v, δ, q1, q2, q3, q4, q5, q6, q7⟩ := sx_al_ok hg hh ha hi hal
        obtain ⟨x, rfl, hx⟩ := q7
        have hi0 : ¬ i < 0 := by rw [cv_lt]; exact Int.not_lt.mpr q3
        have q4' : ws[i.toNatClampNeg]? = some (.long x) := q4
        have ht : t = 1 := List.mem_singleton.mp q2
        subst ht
        simp only [ik_step, q1, sx_ty]
        rw [if_neg hi0]
        simp only [q4']
        exact ⟨_, _, _, _, rfl, rfl, hf, _, δ, List.mem_singleton.mpr rfl, q5, sx_lr_mono hl, ⟨⟨x, rfl, hx⟩, sx_sr_mono h1⟩, q6⟩
      · cases hs
    · cases hs
  | baload =>
    simp only [sx_step, sx_c_baload, sx_c_baload] at hs
    split at hs
    · rename_i e ks r
      obtain ⟨i, st0, rfl, hi, h0'⟩ := sx_pI hst
      obtain ⟨a, st1, rfl, ha, h1⟩ := sx_pA h0'
      split at hs
      · rename_i g' H' w hal
        cases hs
        obtain ⟨t, ws, v, δ, q1, q2, q3, q4, q5, q6, q7⟩ := sx_al_ok hg hh ha hi hal
        obtain ⟨x, rfl, hx⟩ := q7
        have hi0 : ¬ i < 0 := by rw [cv_lt]; exact Int.not_lt.mpr q3
        have q4' : ws[i.toNatClampNeg]? = some (.int x) := q4
        rcases List.mem_cons.mp q2 with ht | ht
        · subst ht
          simp only [ik_step, q1, sx_ty]
          rw [if_neg hi0]
          simp only [q4']
          exact ⟨_, _, _, _, rfl, rfl, hf, _, δ, List.mem_singleton.mpr rfl, q5, sx_lr_mono hl, ⟨⟨x, rfl, hx⟩, sx_sr_mono h1⟩, q6⟩
        · have ht := List.mem_singleton.mp ht
          subst ht
          simp only [ik_step, q1, sx_ty]
          rw [if_neg hi0]
          simp only [q4']
          exact ⟨_, _, _, _, rfl, rfl, hf, _, δ, List.mem_singleton.mpr rfl, q5, sx_lr_mono hl, ⟨⟨x, rfl, hx⟩, sx_sr_mono h1⟩, q6⟩
      · cases hs
    · rename_i e k r
      obtain ⟨i, st0, rfl, hi, h0'⟩ := sx_pI hst
      obtain ⟨st1, rfl, h1⟩ := sx_pO h0'
      cases hb : (Nat.beq (k % 2) 1 && Nat.blt k 6 && sx_inb g e 0 (((ik_sb (k / 2)).length : Int) - 1)) with
      | false => rw [hb] at hs; cases hs
      | true =>
        rw [hb] at hs
        simp only [cond_true] at hs
        obtain ⟨b1, b3⟩ := Bool.and_eq_true_iff.mp hb
        obtain ⟨b1, b2⟩ := Bool.and_eq_true_iff.mp b1
        have hc : k % 2 = 1 ∧ k < 6 := ⟨Nat.eq_of_beq_eq_true b1, Nat.blt_eq.mp b2⟩
        obtain ⟨c1, c2⟩ := sx_inb_ok hg hi b3
        have hi0 : ¬ i < 0 := by rw [cv_lt]; exact Int.not_lt.mpr c1
        have hlt : i.toNatClampNeg < (ik_sb (k / 2)).length := by
          have : i.toNatClampNeg = i.toInt.toNat := rfl
          omega
        have hget : (ik_sb (k / 2))[i.toNatClampNeg]? = some (ik_sb (k / 2))[i.toNatClampNeg] := List.getElem?_eq_getElem hlt
        simp only [ik_step]
        rw [if_neg hi0, hget]
        simp only [ik_bo]
        rw [if_pos hc]
        split at hs
        · rename_i c hk
          have := sx_k_ok hg hi hk
          subst this
          split at hs
          · rename_i x hx
            cases hs
            have e1 : (ik_sb (k / 2))[i.toNatClampNeg]? = some x := hx
            rw [hget] at e1
            cases e1
            exact sx_o_ok hg hl ⟨⟨_, rfl, sx_ev_k⟩, h1⟩ hh hf
          · cases hs
        · exact sx_oi_ok hs (sx_gv_ti hg _) hl h1 hh hf
    · cases hs
  | aaload =>
    simp only [sx_step, sx_c_aaload, sx_c_aaload] at hs
    split at hs
    · rename_i e ks r
      obtain ⟨i, st0, rfl, hi, h0'⟩ := sx_pI hst
      obtain ⟨a, st1, rfl, ha, h1⟩ := sx_pA h0'
      split at hs
      · rename_i g' H' w hal
        cases hs
        obtain ⟨t, ws, v, δ, q1, q2, q3, q4, q5, q6, q7⟩ := sx_al_ok hg hh ha hi hal
        obtain ⟨x, hx, rfl⟩ := q7
        have hi0 : ¬ i < 0 := by rw [cv_lt]; exact Int.not_lt.mpr q3
        have q4' : ws[i.toNatClampNeg]? = some (.ref x) := q4
        rcases List.mem_cons.mp q2 with ht | ht
        · subst ht
          simp only [ik_step, q1, sx_ty]
          rw [if_neg hi0]
          simp only [q4']
          exact ⟨_, _, _, _, rfl, rfl, hf, _, δ, List.mem_singleton.mpr rfl, q5, sx_lr_mono hl, ⟨⟨x, hx, rfl⟩, sx_sr_mono h1⟩, q6⟩
        · have ht := List.mem_singleton.mp ht
          subst ht
          simp only [ik_step, q1, sx_ty]
          rw [if_neg hi0]
          simp only [q4']
          exact ⟨_, _, _, _, rfl, rfl, hf, _, δ, List.mem_singleton.mpr rfl, q5, sx_lr_mono hl, ⟨⟨x, hx, rfl⟩, sx_sr_mono h1⟩, q6⟩
      · cases hs
    · cases hs
  | iastore =>
    simp only [sx_step, sx_c_iastore, sx_c_iastore] at hs
    split at hs
    · rename_i v e ks r
      obtain ⟨x, st00, rfl, hx, h00⟩ := sx_pI hst
      obtain ⟨i, st0, rfl, hi, h0'⟩ := sx_pI h00
      obtain ⟨a, st1, rfl, ha, h1⟩ := sx_pA h0'
      split at hs
      · rename_i H' hap
        cases hs
        obtain ⟨t, ws, q1, q2, q3, q4, q5, q6⟩ := sx_ap_ok (f := fun _ => .int x) hg hi (fun t ht => by rw [List.mem_singleton.mp ht]; exact ⟨x, rfl, hx⟩) hh ha hap
        have hi0 : ¬ i < 0 := by rw [cv_lt]; exact Int.not_lt.mpr q3
        have q4' : i.toNatClampNeg < ws.length := q4
        have ht : t = 0 := List.mem_singleton.mp q1
        subst ht
        simp only [ik_step, q2, sx_ty, ik_bo]
        rw [if_pos ⟨hi0, q4'⟩]
        refine ⟨_, _, _, _, rfl, List.length_set, ?_, _, [], List.mem_singleton.mpr rfl, ?_⟩
        · refine sx_fm_set hf q2 rfl List.length_set fun j hj => ?_
          have hkj : ¬ i.toInt.toNat = j := fun q => by rw [q] at q5; rw [q5] at hj; cases hj
          exact List.getElem?_set_ne hkj
        · rw [List.append_nil]
          refine ⟨hg, ?_, h1, q6⟩
          rw [List.length_set]; exact hl
      · cases hs
    · cases hs
  | lastore =>
    simp only [sx_step, sx_c_lastore, sx_c_lastore] at hs
    split at hs
    · rename_i v e ks r
      obtain ⟨x, st00, rfl, hx, h00⟩ := sx_pL hst
      obtain ⟨i, st0, rfl, hi, h0'⟩ := sx_pI h00
      obtain ⟨a, st1, rfl, ha, h1⟩ := sx_pA h0'
      split at hs
      · rename_i H' hap
        cases hs
        obtain ⟨t, ws, q1, q2, q3, q4, q5, q6⟩ := sx_ap_ok (f := fun _ => .long x) hg hi (fun t ht => by rw [List.mem_singleton.mp ht]; exact ⟨x, rfl, hx⟩) hh ha hap
        have hi0 : ¬ i < 0 := by rw [cv_lt]; exact Int.not_lt.mpr q3
        have q4' : i.toNatClampNeg < ws.length := q4
        have ht : t = 1 := List.mem_singleton.mp q1
        subst ht
        simp only [ik_step, q2, sx_ty, ik_bo]
        rw [if_pos ⟨hi0, q4'⟩]
        refine ⟨_, _, _, _, rfl, List.length_set, ?_, _, [], List.mem_singleton.mpr rfl, ?_⟩
        · refine sx_fm_set hf q2 rfl List.length_set fun j hj => ?_
          have hkj : ¬ i.toInt.toNat = j := fun q => by rw [q] at q5; rw [q5] at hj; cases hj
          exact List.getElem?_set_ne hkj
        · rw [List.append_nil]
          refine ⟨hg, ?_, h1, q6⟩
          rw [List.length_set]; exact hl
      · cases hs
    · cases hs
  | bastore =>
    simp only [sx_step, sx_c_bastore, sx_c_bastore] at hs
    split at hs
    · rename_i v e ks r
      obtain ⟨x, st00, rfl, hx, h00⟩ := sx_pI hst
      obtain ⟨i, st0, rfl, hi, h0'⟩ := sx_pI h00
      obtain ⟨a, st1, rfl, ha, h1⟩ := sx_pA h0'
      split at hs
      · rename_i H' hap
        cases hs
        obtain ⟨t, ws, q1, q2, q3, q4, q5, q6⟩ := sx_ap_ok (f := fun t => .int (vp_nar (sx_ty t) x)) hg hi (fun t ht => by
          rcases List.mem_cons.mp ht with ht | ht
          · subst ht; exact ⟨_, rfl, (sx_nby x).1, (sx_nby x).2⟩
          · rw [List.mem_singleton.mp ht]
            simp only [sx_nv, sx_ty]
            cases hb : sx_inb g v 0 1 with
            | false => exact ⟨_, rfl, (sx_nbo x).1, (sx_nbo x).2⟩
            | true =>
              obtain ⟨b1, b2⟩ := sx_inb_ok hg hx hb
              refine ⟨_, rfl, ?_⟩
              rw [sx_nb1 b1 b2]
              exact hx) hh ha hap
        have hi0 : ¬ i < 0 := by rw [cv_lt]; exact Int.not_lt.mpr q3
        have q4' : i.toNatClampNeg < ws.length := q4
        rcases List.mem_cons.mp q1 with ht | ht
        · subst ht
          simp only [ik_step, q2, sx_ty, ik_bo]
          rw [if_pos ⟨hi0, q4'⟩]
          refine ⟨_, _, _, _, rfl, List.length_set, ?_, _, [], List.mem_singleton.mpr rfl, ?_⟩
          · refine sx_fm_set hf q2 rfl List.length_set fun j hj => ?_
            have hkj : ¬ i.toInt.toNat = j := fun q => by rw [q] at q5; rw [q5] at hj; cases hj
            exact List.getElem?_set_ne hkj
          · rw [List.append_nil]
            refine ⟨hg, ?_, h1, q6⟩
            rw [List.length_set]; exact hl
        · have ht := List.mem_singleton.mp ht
          subst ht
          simp only [ik_step, q2, sx_ty, ik_bo]
          rw [if_pos ⟨hi0, q4'⟩]
          refine ⟨_, _, _, _, rfl, List.length_set, ?_, _, [], List.mem_singleton.mpr rfl, ?_⟩
          · refine sx_fm_set hf q2 rfl List.length_set fun j hj => ?_
            have hkj : ¬ i.toInt.toNat = j := fun q => by rw [q] at q5; rw [q5] at hj; cases hj
            exact List.getElem?_set_ne hkj
          · rw [List.append_nil]
            refine ⟨hg, ?_, h1, q6⟩
            rw [List.length_set]; exact hl
      · cases hs
    · cases hs
  | _ => cases hs
end
