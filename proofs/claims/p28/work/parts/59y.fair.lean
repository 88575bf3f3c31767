noncomputable section
/-! findFair leaves the odds as they were -/
theorem sx_sr_det {ν : List Int} : ∀ {as : List sx_V} {vs ws : List Value}, as.all (fun a => match a with | .inl _ => true | _ => false) = true → sx_sr ν as vs → sx_sr ν as ws → vs = ws
  | [], [], [], _, _, _ => rfl
  | .inl e :: r, v :: vs, w :: ws, ha, h1, h2 => by
    obtain ⟨⟨x, rfl, hx⟩, h1⟩ := h1
    obtain ⟨⟨y, rfl, hy⟩, h2⟩ := h2
    rw [hx] at hy
    have hxy : x.toInt = y.toInt := by injection hy
    have : x = y := by rw [cv_eq]; exact hxy
    subst this
    simp only [List.all_cons, Bool.true_and] at ha
    rw [sx_sr_det ha h1 h2]
  | .inr _ :: _, _, _, ha, _, _ => by simp at ha
  | [], _ :: _, _, _, h, _ => h.elim
  | [], _, _ :: _, _, _, h => h.elim
  | .inl _ :: _, [], _, _, h, _ => h.elim
  | .inl _ :: _, _, [], _, _, h => h.elim
theorem sx_fm_cut {M N : sx_M} {h h' : List ik_E} {a0 : Nat} (hf : sx_fm M h h') (hs : h'[a0]? = h[a0]?) (hm : ∀ a k, a ≠ a0 → sx_md M a k = true → sx_md N a k = true) : sx_fm N h h' := by
  refine ⟨hf.1, fun a d0 hd0 => ?_⟩
  by_cases ha : a = a0
  · subst ha
    exact ⟨d0, by rw [hs]; exact hd0, rfl, rfl, fun _ _ => rfl⟩
  · obtain ⟨d, hd, t1, l1, e1⟩ := hf.2 a d0 hd0
    refine ⟨d, hd, t1, l1, fun k hk => e1 k ?_⟩
    cases hq : sx_md M a k with
    | false => rfl
    | true => rw [hm a k ha hq] at hk; cases hk
theorem sx_md_cut {M : sx_M} {a0 : Nat} {N : sx_M} (hk : sx_mle (M.filter fun p => !(Nat.beq p.1 a0)) N = true) : ∀ a k, a ≠ a0 → sx_md M a k = true → sx_md N a k = true := by
  intro a k ha h
  refine sx_mle_ok hk a k ?_
  unfold sx_md at h ⊢
  obtain ⟨p, hp, h1⟩ := List.any_eq_true.mp h
  refine List.any_eq_true.mpr ⟨p, List.mem_filter.mpr ⟨hp, ?_⟩, h1⟩
  have hpa := Nat.eq_of_beq_eq_true (Bool.and_eq_true_iff.mp h1).1
  cases hb : Nat.beq p.1 a0 with
  | false => rfl
  | true => exact absurd (hpa.symm.trans (Nat.eq_of_beq_eq_true hb)) ha
def ff_s : sx_Z := kr_fs
def ff_mat : List sx_X := [(0, (List.range 48).map fun k => (1, 1, 69, k))]
set_option maxHeartbeats 4000000 in
set_option maxRecDepth 100000 in
theorem ff_nm : sx_mqs ((0, []), []) kr_45.2.1.2.1 ff_mat = ((ff_s, []), kr_ff.2.1.2.1) := rfl
theorem ff_mw : (kr_45.2.2.2.1.all fun P => sx_mw kr_45.2.2.1 P.2.1) = true := by decide +kernel
theorem ff_lh : (kr_ff.2.2.2.1.all fun P => sx_lh 0 (ff_s, []) P.2.1 (kr_45.2.2.2.1.headD ([], ([], []), [])).2.1 && sx_lvs 0 (ff_s, []) P.1 (kr_45.2.2.2.1.headD ([], ([], []), [])).1) = true := by decide +kernel
theorem ff_ml : sx_mle (kr_ff.2.2.1.filter fun p => !(Nat.beq p.1 69)) kr_45.2.2.1 = true := by decide +kernel
def ff_sy : List sx_V := (List.range 48).map fun j => sx_vi (0, [(j, 1)])
theorem ff_c0 : sx_hg kr_ff.2.1.2.1 69 = some (some (.inr (.inl (0, ff_sy)))) := rfl
theorem ff_c1 : ∀ P, P ∈ kr_ff.2.2.2.1 → sx_hg P.2.1 69 = some (some (.inr (.inl (0, ff_sy)))) := by
  intro P hP
  rw [List.mem_singleton.mp hP]
  rfl
theorem ff_sya : ff_sy.all (fun a => match a with | .inl _ => true | _ => false) = true := by decide +kernel
theorem ff_ar : kr_ff.2.1.1 = kr_45.2.1.1 := rfl
theorem ff_po : kr_45.2.2.2.1 = [((kr_45.2.2.2.1.headD ([], ([], []), [])).1, (kr_45.2.2.2.1.headD ([], ([], []), [])).2.1, [])] := rfl
theorem krh_45 : sx_hd qq kr_45 := by
  refine ⟨fun P hP => List.all_eq_true.mp ff_mw P hP, ?_⟩
  intro as h ha hh hx hq
  have h00 : sx_ok [] (((0, []), []) : sx_G) := ⟨⟨rfl, trivial⟩, fun c hc => by cases hc⟩
  obtain ⟨δ, e1, e2⟩ := sx_mqs_ok (x := ff_mat) h00 hh ff_nm
  rw [List.nil_append] at e1 e2
  have ha' : sx_sr δ kr_ff.2.1.1 as := by
    rw [ff_ar]
    have := sx_sr_mono (δ := δ) ha
    exact this
  have hW := krh_ff.2 δ e1.1 as h ha' e2 (fun x hx => (nomatch hx)) (fun u => nomatch u)
  refine sx_W_mono hW ?_
  rintro z ⟨ir, rv, P, hP, z1, z2, z3, z4, z5, z6, z7, z8⟩
  have hk := List.all_eq_true.mp ff_lh P hP
  obtain ⟨k1, k2⟩ := Bool.and_eq_true_iff.mp hk
  refine ⟨ir, rv, ((kr_45.2.2.2.1.headD ([], ([], []), [])).1, (kr_45.2.2.2.1.headD ([], ([], []), [])).2.1, []), by rw [ff_po]; exact List.mem_singleton.mpr rfl, z1, z2, ?_, ?_, ?_, fun x hx => (nomatch hx), z7, z8⟩
  · exact sx_lvs_ok (μ := []) (δ := δ) (by rw [List.nil_append]; exact ⟨e1.1, fun c hc => by cases hc⟩) (by rw [List.nil_append]; exact z3) k2
  · exact sx_lh_ok (μ := []) (δ := δ) (by rw [List.nil_append]; exact ⟨e1.1, fun c hc => by cases hc⟩) (by rw [List.nil_append]; exact z4) k1
  · refine sx_fm_cut (a0 := 69) z5 ?_ (sx_md_cut ff_ml)
    obtain ⟨d0, hd0, vs, q1, q2⟩ := e2.2 69 _ ff_c0
    obtain ⟨d1, hd1, ws, q3, q4⟩ := z4.2 69 _ (ff_c1 P hP)
    rw [hd0, hd1, q1, q3]
    have hvw : vs = ws := sx_sr_det ff_sya q2 q4
    rw [hvw]
end
