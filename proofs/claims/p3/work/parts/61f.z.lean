noncomputable section
/-! the text's state, as the law carries it -/
abbrev zst : Type := (Int → Int) × Int × Int
def sc_Z (s : zst) (h : List ik_E) : Prop := sc_S s.1 s.2.1 s.2.2 h
def sr_Z (s : zst) (h : List ik_E) : Prop := sr_S s.1 s.2.1 s.2.2 h
theorem sc_fm {M : sx_M} {h h' : List ik_E} {s : zst} (hf : sx_fm M h h') (hu : sx_mt M 2 = false ∧ sx_md M 1 1 = false ∧ sx_md M 1 4 = false) (hS : sc_Z s h) : sc_Z s h' := by
  obtain ⟨⟨T, t1, t2, t3⟩, n0, n1, n2, n3⟩ := hS
  exact ⟨⟨T, fm_cell hf hu.1 t1, t2, t3⟩, n0, n1, lk_ut hf hu.2.1 n2, lk_ut hf hu.2.2 n3⟩
theorem sr_fm {M : sx_M} {h h' : List ik_E} {s : zst} (hf : sx_fm M h h') (hu : sx_mt M 72 = false ∧ sx_md M 66 10 = false ∧ sx_md M 66 11 = false) (hS : sr_Z s h) : sr_Z s h' := by
  obtain ⟨⟨T, t1, t2, t3⟩, n0, n1, n2, n3⟩ := hS
  exact ⟨⟨T, fm_cell hf hu.1 t1, t2, t3⟩, n0, n1, lk_ut hf hu.2.1 n2, lk_ut hf hu.2.2 n3⟩
theorem zc_feed {h : List ik_E} (hC : cc_CI h) (hl : h.length = 94) {s : zst} (hS : sc_Z s h) {x : Int32} {b : Int64} : ik_W none 90 0 (ik_loc (ik_ml 90) [.ref 0, .int x, .long b]) [] h 0 0 (pc_P cc_MC 90 (fun v h' => v.toInt = fd_F x.toInt s.2.1 ∧ sc_Z (fd_y s.1 s.2.1 x.toInt b, fd_T x.toInt s.2.1, s.2.2) h') h) := sc_feed hC hl hS
theorem zr_feed {h : List ik_E} (hI : rc_RI h) (hl : h.length = 94) {s : zst} (hS : sr_Z s h) {x : Int32} {b : Int64} : ik_W none 135 0 (ik_loc (ik_ml 135) [.ref 66, .int x, .long b]) [] h 0 0 (pr_P rc_MR 135 (fun v h' => v.toInt = fd_F x.toInt s.2.1 ∧ sr_Z (fd_y s.1 s.2.1 x.toInt b, fd_T x.toInt s.2.1, s.2.2) h') h) := sr_feed hI hl hS
theorem zc_stream {h : List ik_E} (hC : cc_CI h) (hl : h.length = 94) {s : zst} (hS : sc_Z s h) : ik_W none 91 0 (ik_loc (ik_ml 91) [.ref 0]) [] h 0 0 (pc_P cc_MC 91 (fun v h' => v.toInt = zret (zall s.1 s.2.1) ∧ sc_Z (s.1, 0, zfb (zall s.1 s.2.1)) h') h) := sc_stream hC hl hS
theorem zr_stream {h : List ik_E} (hI : rc_RI h) (hl : h.length = 94) {s : zst} (hS : sr_Z s h) : ik_W none 147 0 (ik_loc (ik_ml 147) [.ref 66]) [] h 0 0 (pr_P rc_MR 147 (fun v h' => v.toInt = zret (zall s.1 s.2.1) ∧ sr_Z (s.1, 0, zfb (zall s.1 s.2.1)) h') h) := sr_stream hI hl hS
/-! fault -/
theorem zc_fault {h : List ik_E} (hC : cc_CI h) (hl : h.length = 94) {s : zst} (hS : sc_Z s h) : ik_W none 92 0 (ik_loc (ik_ml 92) [.ref 0]) [] h 0 0 (pc_P cc_N 92 (fun v _ => v.toInt = s.2.2 ∧ True) h) := by
  have H1 := pc_fault hC
  obtain ⟨cs, T, cur, fl, pl, C, G, P, B, tl, e, ok, l1, l2, l3, l4, hn, hb⟩ := sc_view hC hl hS
  subst e
  have H2 : ik_W none 92 0 (ik_loc (ik_ml 92) [.ref 0]) [] (.inr (9, .ref 1 :: cs) :: cz_t T s.2.1 cur fl s.2.2 pl C G P B tl) 0 0 (fun z => ∃ ir v, ik_at 92 z.1 = some ir ∧ ik_rv (ik_rt 92) ir z.2.2.1 = some [.int v] ∧ v.toInt = s.2.2) := by
    refine ik_Wk 1 (pc' := 1) (loc' := [some (.ref 0)]) (st' := [.ref 0]) (h' := .inr (9, .ref 1 :: cs) :: cz_t T s.2.1 cur fl s.2.2 pl C G P B tl) (cl' := 0) (sl' := 0) rfl ?_
    refine fw_gf rfl rfl rfl rfl ?_
    refine fw_gf rfl rfl rfl rfl ?_
    exact ik_Wret rfl rfl ⟨_, _, rfl, rfl, hb⟩
  refine sx_W_mono (ik_W_and H1 H2) ?_
  rintro z ⟨⟨ir, v, z1, z2, z3, z4, z5, z6, z7⟩, ir', v', q1, q2, q3⟩
  rw [z1] at q1
  cases q1
  rw [z2] at q2
  cases q2
  exact ⟨ir, v, z1, z2, ⟨q3, trivial⟩, z4, z5, z6, z7⟩
theorem zr_fault {h : List ik_E} (hI : rc_RI h) (hl : h.length = 94) {s : zst} (hS : sr_Z s h) : ik_W none 148 0 (ik_loc (ik_ml 148) [.ref 66]) [] h 0 0 (pr_P rc_N 148 (fun v _ => v.toInt = s.2.2 ∧ True) h) := by
  have H1 := pm_fault hI
  obtain ⟨pre, tl, w, wt, c, T, a0, sd, we, nu, na, rp, M, R, O, A, e, ok, l1, l2, l3, l4, hn, hb⟩ := sr_view hI hl hS
  have hpre := ok.1
  subst e
  have H2 : ik_W none 148 0 (ik_loc (ik_ml 148) [.ref 66]) [] (pre ++ rz_t w wt c tl T s.2.1 s.2.2 a0 sd we nu na rp M R O A) 0 0 (fun z => ∃ ir v, ik_at 148 z.1 = some ir ∧ ik_rv (ik_rt 148) ir z.2.2.1 = some [.int v] ∧ v.toInt = s.2.2) := by
    refine ik_Wk 1 (pc' := 1) (loc' := [some (.ref 66)]) (st' := [.ref 66]) (h' := pre ++ rz_t w wt c tl T s.2.1 s.2.2 a0 sd we nu na rp M R O A) (cl' := 0) (sl' := 0) rfl ?_
    refine fw_gf rfl rfl (rz_g 0 hpre rfl) rfl ?_
    exact ik_Wret rfl rfl ⟨_, _, rfl, rfl, hb⟩
  refine sx_W_mono (ik_W_and H1 H2) ?_
  rintro z ⟨⟨ir, v, z1, z2, z3, z4, z5, z6, z7⟩, ir', v', q1, q2, q3⟩
  rw [z1] at q1
  cases q1
  rw [z2] at q2
  cases q2
  exact ⟨ir, v, z1, z2, ⟨q3, trivial⟩, z4, z5, z6, z7⟩
end
