theorem ik_vw {ci : Nat} (h : ci < 11) : ∃ C T N, vwCl[ci]? = some (C, T, N) := ⟨_, _, _, List.getElem?_eq_getElem (show ci < vwCl.length from h)⟩
theorem ik_fs_null : ∀ ci, (ik_fs ci).all (fun v => match v with
    | .ref _ => false
    | .retAddr _ => false
    | _ => true) = true := by
  intro ci
  unfold ik_fs
  by_cases h : ci < 11
  · have : ∀ c, c < 11 → ((ik_fs c).all (fun v => match v with
      | .ref _ => false
      | .retAddr _ => false
      | _ => true)) = true := by decide +kernel
    exact this ci h
  · rw [List.getD_eq_getElem?_getD, List.getElem?_eq_none (by simpa using Nat.le_of_not_lt h)]
    rfl
theorem ik_fs_map {ad : Nat → Nat} {sd : Nat → Option Nat} {ci : Nat} : (ik_fs ci).map (ik_v ad sd) = ik_fs ci := by
  have h := List.all_eq_true.mp (ik_fs_null ci)
  conv => rhs; rw [← List.map_id (ik_fs ci)]
  apply List.map_congr_left
  intro v hv
  have h1 := h v hv
  cases v <;> first | rfl | cases h1
theorem ik_rep_getD {n j : Nat} {v : Value} : (List.replicate n v).getD j .null = if j < n then v else .null := by
  rw [List.getD_eq_getElem?_getD, List.getElem?_replicate]
  split <;> rfl
theorem ik_df_ok {t : ArrayType} {ty : FieldType} {v0 : Value} (h : ik_df t = some (ty, v0)) : newarray.typeOf t = ty ∧ (ty = .int ∨ ty = .long ∨ ty = .byte ∨ ty = .boolean) ∧ componentBytes ty ≤ 8 ∧ ∀ (ad : Nat → Nat) (N : Nat) (cA : ClassId), vp_cell cA (ik_a ad ty (List.replicate N v0)) = arrV cA N (fun _ => defaultValue ty) := by
  unfold ik_df at h
  split at h <;> cases h
  all_goals refine ⟨rfl, by simp, by decide, fun ad N cA => ?_⟩
  all_goals
    unfold ik_a vp_cell
    dsimp only
    rw [List.length_replicate]
    congr 1
    funext j
    rw [ik_rep_getD]
    split <;> rfl
theorem ik_rep_wv {t : ArrayType} {ty : FieldType} {v0 : Value} {n N : Nat} (_ : ty = .int ∨ ty = .long ∨ ty = .byte ∨ ty = .boolean) (h : ik_df t = some (ty, v0)) : (List.replicate N v0).all (ik_wv n) = true := by
  rw [List.all_eq_true]
  intro v hv
  rw [(List.mem_replicate.mp hv).2]
  unfold ik_df at h
  split at h <;> cases h <;> rfl
theorem ik_mch {mid : Nat} (h0 : 0 < mid) (h : mid < ik_M.length) : ik_mchk (ik_mi mid) (ik_MP.getD mid (0, 0, 0, 0, true)) = true := by
  have := List.all_eq_true.mp ik_mall mid (List.mem_range.mpr (by rw [ik_Mlen] at h; exact h))
  simp only [Bool.or_eq_true, beq_iff_eq] at this
  rcases this with q | q
  · omega
  · exact q
theorem ik_in_own {mid cj : Nat} {C : String} {T : u_T} {N : Nat} (hmid : mid < ik_M.length) (hi : ik_in mid = cj + 1) (h1 : vwCl[cj]? = some (C, T, N)) : C = ik_own mid := by
  by_cases h0 : 0 < mid
  · have h := ik_mch h0 hmid
    unfold ik_mchk at h
    simp only [Bool.and_eq_true, Bool.or_eq_true, decide_eq_true_eq] at h
    have h9 := h.2
    have e : ik_ow mid = cj := by
      rcases h9 with q | q
      · have q : ik_in mid = 0 := q
        omega
      · have q2 : ik_in mid = ik_ow mid + 1 := q.1.2
        omega
    have h8 := ik_ownN hmid
    rw [e, (ik_cls_ok h1).2.2.2.2.2.2.2] at h8
    exact Option.some.inj h8
  · have : mid = 0 := by omega
    subst this
    exact absurd hi (by rw [show ik_in 0 = 0 from rfl]; omega)
/-- a class's own constructor names its own fields without the nest -/
theorem ik_noN_all : (ik_nw.all fun w => match w with
    | .fieldLinkNest own _ C _ _ _ => decide (own ≠ C)
    | _ => true) = true := by decide +kernel
theorem ik_noN {mid cj : Nat} {C : String} {T : u_T} {N x : Nat} {a b d : String} (hmid : mid < ik_M.length) (hi : ik_in mid = cj + 1) (h1 : vwCl[cj]? = some (C, T, N)) : ¬ Cond.fieldLinkNest (ik_own mid) x C a b d ∈ ik_nw := by
  intro h
  have := List.all_eq_true.mp ik_noN_all _ h
  simp only [decide_eq_true_eq] at this
  exact this (ik_in_own hmid hi h1).symm
