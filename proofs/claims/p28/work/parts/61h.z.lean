noncomputable section
/-! the small methods from call to call -/
def cc_G : sx_H := (sdh_0.1.set 7 (some (.inl (0, [sx_ri 0 12, sx_ri (-2147483648) 2147483647, sx_ri (-2147483648) 2147483647, sx_va [8], sx_va [9], sx_va [10], sx_va [11], sx_va [12], sx_va [13]]))), sdh_0.2)
theorem cc_gA : sx_lh 0 ((0, []), []) cc_TA.1 cc_G = true := by decide +kernel
theorem cc_gB : sx_lh 0 ((0, []), []) cc_TB.1 cc_G = true := by decide +kernel
theorem cc_gen {h : List ik_E} (hC : cc_CI h) : sx_hr [] cc_G h := by
  rcases hC with q | q
  · exact sx_lh0 q.1 cc_gA
  · exact sx_lh0 q.1 cc_gB
theorem vr_r {k : Nat} {v : Value} (h : sx_vr [] (sx_va [k]) v) : v = .ref k := by
  obtain ⟨j, m, e⟩ := h
  rw [e, List.mem_singleton.mp m]
theorem vr_i {l u : Int} {v : Value} (h : sx_vr [] (sx_ri l u) v) : ∃ z : Int, v = fI z ∧ l ≤ z ∧ z ≤ u := by
  obtain ⟨x, e, a, b⟩ := h
  exact ⟨x.toInt, by rw [e, fI, Int32.ofInt_toInt], a, b⟩
theorem vr_l {l u : Int} {v : Value} (h : sx_vr [] (sx_rl l u) v) : ∃ z : Int, v = fJ z := by
  obtain ⟨x, e, a, b⟩ := h
  exact ⟨x.toInt, by rw [e, fJ, Int64.ofInt_toInt]⟩
theorem vw_0 {h : List ik_E} (hC : cc_CI h) : h[0]? = some (.inr (9, [.ref 1, .ref 7, .ref 14, .ref 17, .ref 45, .ref 51, .ref 54, .ref 57])) := by
  obtain ⟨d, e, fs, f1, s⟩ := (cc_gen hC).2 0 sd_0 rfl
  match fs, s with
  | [a0, a1, a2, a3, a4, a5, a6, a7], ⟨s0, s1, s2, s3, s4, s5, s6, s7, _⟩ =>
    rw [e, f1, vr_r s0, vr_r s1, vr_r s2, vr_r s3, vr_r s4, vr_r s5, vr_r s6, vr_r s7]
theorem vw_7 {h : List ik_E} (hC : cc_CI h) : ∃ pl b1 b2 : Int, h[7]? = some (.inr (0, [fI pl, fI b1, fI b2, .ref 8, .ref 9, .ref 10, .ref 11, .ref 12, .ref 13])) ∧ 0 ≤ pl ∧ pl ≤ 12 := by
  obtain ⟨d, e, fs, f1, s⟩ := (cc_gen hC).2 7 (.inl (0, [sx_ri 0 12, sx_ri (-2147483648) 2147483647, sx_ri (-2147483648) 2147483647, sx_va [8], sx_va [9], sx_va [10], sx_va [11], sx_va [12], sx_va [13]])) rfl
  match fs, s with
  | [a0, a1, a2, a3, a4, a5, a6, a7, a8], ⟨s0, s1, s2, s3, s4, s5, s6, s7, s8, _⟩ =>
    obtain ⟨z0, q0, u0, w0⟩ := vr_i s0
    obtain ⟨z1, q1, _, _⟩ := vr_i s1
    obtain ⟨z2, q2, _, _⟩ := vr_i s2
    refine ⟨z0, z1, z2, ?_, u0, w0⟩
    rw [e, f1, q0, q1, q2, vr_r s3, vr_r s4, vr_r s5, vr_r s6, vr_r s7, vr_r s8]
theorem vw_51 {h : List ik_E} (hC : cc_CI h) : ∃ rc : Int, h[51]? = some (.inr (7, [.ref 7, fI rc, .ref 52, .ref 53])) ∧ 0 ≤ rc ∧ rc ≤ 12 := by
  obtain ⟨d, e, fs, f1, s⟩ := (cc_gen hC).2 51 sd_28 rfl
  match fs, s with
  | [a0, a1, a2, a3], ⟨s0, s1, s2, s3, _⟩ =>
    obtain ⟨z1, q1, u1, w1⟩ := vr_i s1
    refine ⟨z1, ?_, u1, w1⟩
    rw [e, f1, q1, vr_r s0, vr_r s2, vr_r s3]
theorem vw_54 {h : List ik_E} (hC : cc_CI h) : h[54]? = some (.inr (4, [.ref 55, .ref 56])) := by
  obtain ⟨d, e, fs, f1, s⟩ := (cc_gen hC).2 54 sd_31 rfl
  match fs, s with
  | [a0, a1], ⟨s0, s1, _⟩ => rw [e, f1, vr_r s0, vr_r s1]
theorem vw_2 {d : ik_E} {l u : Int} (h : sx_cr [] (.inr (.inl (0, [sx_ri l u, sx_ri l u]))) d) : ∃ L : List Int, d = .inl (.int, fA L) ∧ L.length = 2 ∧ l ≤ L.getD 0 0 ∧ L.getD 0 0 ≤ u ∧ l ≤ L.getD 1 0 ∧ L.getD 1 0 ≤ u := by
  obtain ⟨vs, e, s⟩ := h
  match vs, s with
  | [a0, a1], ⟨s0, s1, _⟩ =>
    obtain ⟨z0, q0, u0, w0⟩ := vr_i s0
    obtain ⟨z1, q1, u1, w1⟩ := vr_i s1
    refine ⟨[z0, z1], ?_, rfl, u0, w0, u1, w1⟩
    rw [e, q0, q1]
    rfl
theorem vw_56 {h : List ik_E} (hC : cc_CI h) : ∃ L : List Int, h[56]? = some (.inl (.int, fA L)) ∧ L.length = 2 ∧ 0 ≤ L.getD 0 0 ∧ L.getD 0 0 ≤ 40 ∧ 0 ≤ L.getD 1 0 ∧ L.getD 1 0 ≤ 40 := by
  obtain ⟨d, e, c⟩ := (cc_gen hC).2 56 sd_33 rfl
  obtain ⟨L, q, r⟩ := vw_2 c
  exact ⟨L, by rw [e, q], r⟩
theorem vw_row {H : sx_H} {h : List ik_E} (hh : sx_hr [] H h) {a t len : Nat} {lo hi : Int} (hg : sx_hg H a = some (some (.inr (.inr (t, len, lo, hi))))) (ht : Nat.beq t 1 = false) : ∃ xs : List Int, h[a]? = some (.inl (sx_ty t, fA xs)) ∧ xs.length = len := by
  obtain ⟨d, e, c⟩ := hh.2 a _ hg
  obtain ⟨xs, q, l⟩ := sx_row ht c
  exact ⟨xs, by rw [e, q], l⟩
theorem vw_66 {h : List ik_E} (hI : rc_RI h) : ∃ f : Nat → Int, h[66]? = some (.inr (10, rz_o f)) ∧ 0 ≤ f 0 ∧ f 0 ≤ 12 ∧ 0 ≤ f 36 ∧ f 36 ≤ 12 := by
  obtain ⟨d, e, fs, f1, s⟩ := (rc_gen hI).2 66 (.inl (10, rc_f)) rfl
  match fs, s with
  | va0 :: va1 :: va2 :: va3 :: va4 :: va5 :: va6 :: va7 :: va8 :: va9 :: va10 :: va11 :: va12 :: va13 :: va14 :: va15 :: va16 :: va17 :: va18 :: va19 :: va20 :: va21 :: va22 :: va23 :: va24 :: va25 :: va26 :: va27 :: va28 :: va29 :: va30 :: va31 :: va32 :: va33 :: va34 :: va35 :: va36 :: va37 :: va38 :: va39 :: va40 :: va41 :: va42 :: [], ⟨vs0, vs1, vs2, vs3, vs4, vs5, vs6, vs7, vs8, vs9, vs10, vs11, vs12, vs13, vs14, vs15, vs16, vs17, vs18, vs19, vs20, vs21, vs22, vs23, vs24, vs25, vs26, vs27, vs28, vs29, vs30, vs31, vs32, vs33, vs34, vs35, vs36, vs37, vs38, vs39, vs40, vs41, vs42, _⟩ =>
    obtain ⟨z0, q0, u0, w0⟩ := vr_i vs0
    obtain ⟨z4, q4, _, _⟩ := vr_i vs4
    obtain ⟨z7, q7, _, _⟩ := vr_i vs7
    obtain ⟨z8, q8', _, _⟩ := vr_i vs8
    obtain ⟨z10, q10, _, _⟩ := vr_i vs10
    obtain ⟨z11, q11, _, _⟩ := vr_i vs11
    obtain ⟨z12, q12, _, _⟩ := vr_i vs12
    obtain ⟨z13, q13⟩ := vr_l vs13
    obtain ⟨z14, q14, _, _⟩ := vr_i vs14
    obtain ⟨z15, q15, _, _⟩ := vr_i vs15
    obtain ⟨z16, q16, _, _⟩ := vr_i vs16
    obtain ⟨z17, q17, _, _⟩ := vr_i vs17
    obtain ⟨z24, q24, _, _⟩ := vr_i vs24
    obtain ⟨z32, q32⟩ := vr_l vs32
    obtain ⟨z33, q33⟩ := vr_l vs33
    obtain ⟨z36, q36, u36, w36⟩ := vr_i vs36
    refine ⟨fun k => ([z0, 0, 0, 0, z4, 0, 0, z7, z8, 0, z10, z11, z12, z13, z14, z15, z16, z17, 0, 0, 0, 0, 0, 0, z24, 0, 0, 0, 0, 0, 0, 0, z32, z33, 0, 0, z36] : List Int).getD k 0, ?_, u0, w0, u36, w36⟩
    rw [e, f1, q0, q4, q7, q8', q10, q11, q12, q13, q14, q15, q16, q17, q24, q32, q33, q36, vr_r vs1, vr_r vs2, vr_r vs3, vr_r vs5, vr_r vs6, vr_r vs9, vr_r vs18, vr_r vs19, vr_r vs20, vr_r vs21, vr_r vs22, vr_r vs23, vr_r vs25, vr_r vs26, vr_r vs27, vr_r vs28, vr_r vs29, vr_r vs30, vr_r vs31, vr_r vs34, vr_r vs35, vr_r vs37, vr_r vs38, vr_r vs39, vr_r vs40, vr_r vs41, vr_r vs42]
    rfl
theorem vw_90 {h : List ik_E} (hI : rc_RI h) : ∃ L : List Int, h[90]? = some (.inl (.int, fA L)) ∧ L.length = 2 ∧ 0 ≤ L.getD 0 0 ∧ L.getD 0 0 ≤ 40 ∧ 0 ≤ L.getD 1 0 ∧ L.getD 1 0 ≤ 40 := by
  obtain ⟨d, e, c⟩ := (rc_gen hI).2 90 rc_90 rfl
  obtain ⟨L, q, r⟩ := vw_2 c
  exact ⟨L, by rw [e, q], r⟩
theorem q08 {P : Nat → Prop} (h0 : P 0) (h1 : P 1) (h2 : P 2) (h3 : P 3) (h4 : P 4) (h5 : P 5) (h6 : P 6) (h7 : P 7) : ∀ j, j < 8 → P j := by
  intro j b
  have : j = 0 ∨ j = 1 ∨ 2 ≤ j := by omega
  rcases this with rfl | rfl | a
  · exact h0
  · exact h1
  · exact q8 h2 h3 h4 h5 h6 h7 j a b
theorem zc_mk {q : Nat} {N : sx_M} {h : List ik_E} {as : List Value} {s : zst} {a : Int} {g : Nat → Int} {R : List Value → List ik_E → Prop} (H1 : ik_W none q 0 (ik_loc (ik_ml q) as) [] h 0 0 (pc_P N q (fun _ _ => True) h)) (H2 : ik_F q as h R) (hR : ∀ rv h', R rv h' → sx_fm N h h' → rv = [fI a] ∧ sc_Z (s.1, g) h') (ha : -2147483648 ≤ a) (ha2 : a < 2147483648) : ik_W none q 0 (ik_loc (ik_ml q) as) [] h 0 0 (pc_P N q (fun v h' => v.toInt = a ∧ sc_Z (s.1, g) h') h) := by
  unfold ik_F at H2
  refine sx_W_mono (ik_W_and H1 H2) ?_
  rintro z ⟨⟨ir, v, z1, z2, z3, z4, z5, z6, z7⟩, ir', rv, q1, q2, q3, q4, q5⟩
  obtain ⟨r1, r2⟩ := hR _ _ q5 z5
  rw [z1] at q1
  cases q1
  rw [z2, r1] at q2
  cases q2
  exact ⟨ir, _, z1, z2, ⟨fi_i ha ha2, r2⟩, z4, z5, z6, z7⟩
theorem zr_mk {q : Nat} {N : sx_M} {h : List ik_E} {as : List Value} {s : zst} {a : Int} {g : Nat → Int} {R : List Value → List ik_E → Prop} (H1 : ik_W none q 0 (ik_loc (ik_ml q) as) [] h 0 0 (pr_P N q (fun _ _ => True) h)) (H2 : ik_F q as h R) (hR : ∀ rv h', R rv h' → sx_fm N h h' → rv = [fI a] ∧ sr_Z (s.1, g) h') (ha : -2147483648 ≤ a) (ha2 : a < 2147483648) : ik_W none q 0 (ik_loc (ik_ml q) as) [] h 0 0 (pr_P N q (fun v h' => v.toInt = a ∧ sr_Z (s.1, g) h') h) := by
  unfold ik_F at H2
  refine sx_W_mono (ik_W_and H1 H2) ?_
  rintro z ⟨⟨ir, v, z1, z2, z3, z4, z5, z6, z7⟩, ir', rv, q1, q2, q3, q4, q5⟩
  obtain ⟨r1, r2⟩ := hR _ _ q5 z5
  rw [z1] at q1
  cases q1
  rw [z2, r1] at q2
  cases q2
  exact ⟨ir, _, z1, z2, ⟨fi_i ha ha2, r2⟩, z4, z5, z6, z7⟩
theorem rn_b {p t pl rc : Int} (h0 : 0 ≤ rc) (h1 : rc ≤ 12) : -2147483648 ≤ rn_A p t pl rc ∧ rn_A p t pl rc < 2147483648 := by
  unfold rn_A
  (repeat split) <;> omega
theorem lg_b {p pl l : Int} (h0 : 0 ≤ l) (h1 : l ≤ 40) : -2147483648 ≤ lg_A p pl l ∧ lg_A p pl l < 2147483648 := by
  unfold lg_A
  (repeat split) <;> omega
theorem so_eq {a b : Int} {o : Option Int} (h1 : o = some a) (h2 : o = some b) : a = b := by
  rw [h1] at h2
  injection h2
theorem fI_x (x : Int32) : fI x.toInt = .int x := by rw [fI, Int32.ofInt_toInt]
theorem un_c : (sx_mt cc_Nr 2 = false ∧ sx_mt cc_Nl 2 = false) ∧ (sx_mt rc_Nr 72 = false ∧ sx_mt rc_Nl 72 = false) := by decide +kernel
theorem md_c : ((List.range 8).all fun j => (Nat.beq j 3 || !(sx_md cc_Nr (qc j).1 (qc j).2)) && (Nat.beq j 4 || Nat.beq j 5 || !(sx_md cc_Nl (qc j).1 (qc j).2)) && (Nat.beq j 3 || !(sx_md rc_Nr (qr j).1 (qr j).2)) && (Nat.beq j 4 || Nat.beq j 5 || !(sx_md rc_Nl (qr j).1 (qr j).2))) = true := by decide +kernel
/-! run -/
theorem zc_run {h : List ik_E} (hC : cc_CI h) (hl : h.length = 94) {s : zst} (hS : sc_Z s h) {x0 x1 : Int32} : ik_W none 105 0 (ik_loc (ik_ml 105) [.ref 0, .int x0, .int x1]) [] h 0 0 (pc_P cc_Nr 105 (fun v h' => v.toInt = rn_A x0.toInt x1.toInt (s.2 2) (s.2 3) ∧ sc_Z (s.1, zup s.2 3 (rn_C x0.toInt x1.toInt (s.2 2) (s.2 3))) h') h) := by
  obtain ⟨pl, b1, b2, h7, p0, p1⟩ := vw_7 hC
  obtain ⟨rc, h51, r0, r1⟩ := vw_51 hC
  obtain ⟨A, h52, n52⟩ := vw_row (cc_gen hC) (a := 52) rfl rfl
  obtain ⟨B, h53, n53⟩ := vw_row (cc_gen hC) (a := 53) rfl rfl
  have e2 : pl = s.2 2 := so_eq (lk_is h7 (k := 0) rfl (by omega) (by omega)) (hS.2.2.2 2 (by decide))
  have e3 : rc = s.2 3 := so_eq (lk_is h51 (k := 1) rfl (by omega) (by omega)) (hS.2.2.2 3 (by decide))
  subst e2 e3
  have i0 := sx_i32 x0
  have i1 := sx_i32 x1
  have F := gc_run (p := x0.toInt) (t := x1.toInt) (by omega) (by omega) (by omega) (by omega) (vw_0 hC) h7 h51 h52 n52 h53 n53 hl p0 p1 r0 r1
  rw [fI_x, fI_x] at F
  have b := rn_b (p := x0.toInt) (t := x1.toInt) (pl := s.2 2) r0 r1
  exact zc_mk (pc_run hC) F (fun rv h' r f => ⟨r.1, sc_up f hS un_c.1.1 rfl (q08 (Or.inl ⟨by decide +kernel, rfl⟩) (Or.inl ⟨by decide +kernel, rfl⟩) (Or.inl ⟨by decide +kernel, rfl⟩) (Or.inr r.2) (Or.inl ⟨by decide +kernel, rfl⟩) (Or.inl ⟨by decide +kernel, rfl⟩) (Or.inl ⟨by decide +kernel, rfl⟩) (Or.inl ⟨by decide +kernel, rfl⟩))⟩) b.1 b.2
theorem zr_run {h : List ik_E} (hI : rc_RI h) (hl : h.length = 94) {s : zst} (hS : sr_Z s h) {x0 x1 : Int32} : ik_W none 183 0 (ik_loc (ik_ml 183) [.ref 66, .int x0, .int x1]) [] h 0 0 (pr_P rc_Nr 183 (fun v h' => v.toInt = rn_A x0.toInt x1.toInt (s.2 2) (s.2 3) ∧ sr_Z (s.1, zup s.2 3 (rn_C x0.toInt x1.toInt (s.2 2) (s.2 3))) h') h) := by
  obtain ⟨f, h66, p0, p1, r0, r1⟩ := vw_66 hI
  obtain ⟨A, h88, n88⟩ := vw_row (rc_gen hI) (a := 88) rfl rfl
  obtain ⟨B, h89, n89⟩ := vw_row (rc_gen hI) (a := 89) rfl rfl
  have e2 : f 0 = s.2 2 := so_eq (lk_is h66 (k := 0) rfl (by omega) (by omega)) (hS.2.2.2 2 (by decide))
  have e3 : f 36 = s.2 3 := so_eq (lk_is h66 (k := 36) rfl (by omega) (by omega)) (hS.2.2.2 3 (by decide))
  rw [← e2, ← e3]
  have i0 := sx_i32 x0
  have i1 := sx_i32 x1
  have F := gr_run (p := x0.toInt) (t := x1.toInt) (pl := f 0) (rc := f 36) (f := f) (by omega) (by omega) (by omega) (by omega) h66 h88 n88 h89 n89 hl p0 p1 r0 r1
  rw [fI_x, fI_x] at F
  have b := rn_b (p := x0.toInt) (t := x1.toInt) (pl := f 0) r0 r1
  exact zr_mk (pm_run hI) F (fun rv h' r f => ⟨r.1, sr_up f hS un_c.2.1 rfl (q08 (Or.inl ⟨by decide +kernel, rfl⟩) (Or.inl ⟨by decide +kernel, rfl⟩) (Or.inl ⟨by decide +kernel, rfl⟩) (Or.inr r.2) (Or.inl ⟨by decide +kernel, rfl⟩) (Or.inl ⟨by decide +kernel, rfl⟩) (Or.inl ⟨by decide +kernel, rfl⟩) (Or.inl ⟨by decide +kernel, rfl⟩))⟩) b.1 b.2
/-! forget -/
theorem zc_forget {h : List ik_E} (hC : cc_CI h) (hl : h.length = 94) {s : zst} (hS : sc_Z s h) : ik_W none 106 0 (ik_loc (ik_ml 106) [.ref 0]) [] h 0 0 (pc_P cc_Nr 106 (fun v h' => v.toInt = s.2 3 ∧ sc_Z (s.1, zup s.2 3 0) h') h) := by
  obtain ⟨rc, h51, r0, r1⟩ := vw_51 hC
  have e3 : rc = s.2 3 := so_eq (lk_is h51 (k := 1) rfl (by omega) (by omega)) (hS.2.2.2 3 (by decide))
  subst e3
  exact zc_mk (pc_forget hC) (gc_forget (vw_0 hC) h51 hl) (fun rv h' r f => ⟨r.1, sc_up f hS un_c.1.1 rfl (q08 (Or.inl ⟨by decide +kernel, rfl⟩) (Or.inl ⟨by decide +kernel, rfl⟩) (Or.inl ⟨by decide +kernel, rfl⟩) (Or.inr r.2) (Or.inl ⟨by decide +kernel, rfl⟩) (Or.inl ⟨by decide +kernel, rfl⟩) (Or.inl ⟨by decide +kernel, rfl⟩) (Or.inl ⟨by decide +kernel, rfl⟩))⟩) (by omega) (by omega)
theorem zr_forget {h : List ik_E} (hI : rc_RI h) (hl : h.length = 94) {s : zst} (hS : sr_Z s h) : ik_W none 184 0 (ik_loc (ik_ml 184) [.ref 66]) [] h 0 0 (pr_P rc_Nr 184 (fun v h' => v.toInt = s.2 3 ∧ sr_Z (s.1, zup s.2 3 0) h') h) := by
  obtain ⟨f, h66, p0, p1, r0, r1⟩ := vw_66 hI
  have e3 : f 36 = s.2 3 := so_eq (lk_is h66 (k := 36) rfl (by omega) (by omega)) (hS.2.2.2 3 (by decide))
  rw [← e3]
  exact zr_mk (pm_forget hI) (gr_forget (rc := f 36) (f := f) h66 hl) (fun rv h' r f => ⟨r.1, sr_up f hS un_c.2.1 rfl (q08 (Or.inl ⟨by decide +kernel, rfl⟩) (Or.inl ⟨by decide +kernel, rfl⟩) (Or.inl ⟨by decide +kernel, rfl⟩) (Or.inr r.2) (Or.inl ⟨by decide +kernel, rfl⟩) (Or.inl ⟨by decide +kernel, rfl⟩) (Or.inl ⟨by decide +kernel, rfl⟩) (Or.inl ⟨by decide +kernel, rfl⟩))⟩) (by omega) (by omega)
/-! log -/
def lgA (s p : Int) (f : Nat → Int) : Int := if s = 0 then lg_A p (f 2) (f 4) else if s = 1 then lg_A p (f 2) (f 5) else -1000000001
def lgN (s p : Int) (f : Nat → Int) : Nat → Int := if s = 0 then zup f 4 (lg_C p (f 2) (f 4)) else if s = 1 then zup f 5 (lg_C p (f 2) (f 5)) else f
theorem zc_log {h : List ik_E} (hC : cc_CI h) (hl : h.length = 94) {s : zst} (hS : sc_Z s h) {x0 x1 : Int32} : ik_W none 115 0 (ik_loc (ik_ml 115) [.ref 0, .int x0, .int x1]) [] h 0 0 (pc_P cc_Nl 115 (fun v h' => v.toInt = lgA x0.toInt x1.toInt s.2 ∧ sc_Z (s.1, lgN x0.toInt x1.toInt s.2) h') h) := by
  obtain ⟨pl, b1, b2, h7, p0, p1⟩ := vw_7 hC
  obtain ⟨L, h56, n56, l0, l1, l2, l3⟩ := vw_56 hC
  obtain ⟨S, h55, n55⟩ := vw_row (cc_gen hC) (a := 55) rfl rfl
  have e2 : pl = s.2 2 := so_eq (lk_is h7 (k := 0) rfl (by omega) (by omega)) (hS.2.2.2 2 (by decide))
  have e4 : L.getD 0 0 = s.2 4 := so_eq (lk_ia h56 (k := 0) (by omega) rfl (by omega) (by omega)) (hS.2.2.2 4 (by decide))
  have e5 : L.getD 1 0 = s.2 5 := so_eq (lk_ia h56 (k := 1) (by omega) rfl (by omega) (by omega)) (hS.2.2.2 5 (by decide))
  subst e2
  have i0 := sx_i32 x0
  have i1 := sx_i32 x1
  by_cases c0 : x0.toInt = 0
  · have F := gc_log0 (p := x1.toInt) (by omega) (by omega) (vw_0 hC) h7 (vw_54 hC) h55 n55 h56 n56 hl p0 p1 ⟨l0, l1, l2, l3⟩
    have ec : fI 0 = .int x0 := by rw [← fI_x, c0]
    rw [ec, fI_x] at F
    have b := lg_b (p := x1.toInt) (pl := s.2 2) l0 l1
    unfold lgA lgN
    rw [if_pos c0, if_pos c0, ← e4]
    exact zc_mk (pc_log hC) F (fun rv h' r f => ⟨r.1, sc_up f hS un_c.1.2 rfl (q08 (Or.inl ⟨by decide +kernel, rfl⟩) (Or.inl ⟨by decide +kernel, rfl⟩) (Or.inl ⟨by decide +kernel, rfl⟩) (Or.inl ⟨by decide +kernel, rfl⟩) (Or.inr r.2.1) (Or.inr (r.2.2.trans (congrArg some e5))) (Or.inl ⟨by decide +kernel, rfl⟩) (Or.inl ⟨by decide +kernel, rfl⟩))⟩) b.1 b.2
  · by_cases c1 : x0.toInt = 1
    · have F := gc_log1 (p := x1.toInt) (by omega) (by omega) (vw_0 hC) h7 (vw_54 hC) h55 n55 h56 n56 hl p0 p1 ⟨l2, l3, l0, l1⟩
      have ec : fI 1 = .int x0 := by rw [← fI_x, c1]
      rw [ec, fI_x] at F
      have b := lg_b (p := x1.toInt) (pl := s.2 2) l2 l3
      unfold lgA lgN
      rw [if_neg c0, if_neg c0, if_pos c1, if_pos c1, ← e5]
      exact zc_mk (pc_log hC) F (fun rv h' r f => ⟨r.1, sc_up f hS un_c.1.2 rfl (q08 (Or.inl ⟨by decide +kernel, rfl⟩) (Or.inl ⟨by decide +kernel, rfl⟩) (Or.inl ⟨by decide +kernel, rfl⟩) (Or.inl ⟨by decide +kernel, rfl⟩) (Or.inr (r.2.2.trans (congrArg some e4))) (Or.inr r.2.1) (Or.inl ⟨by decide +kernel, rfl⟩) (Or.inl ⟨by decide +kernel, rfl⟩))⟩) b.1 b.2
    · have F := gc_logx (h := h) (s := x0.toInt) (p := x1.toInt) (by omega) (by omega) hl (by omega)
      rw [fI_x, fI_x] at F
      unfold lgA lgN
      rw [if_neg c0, if_neg c0, if_neg c1, if_neg c1]
      exact zc_mk (pc_log hC) F (fun rv h' r f => ⟨r.1, by rw [r.2]; exact hS⟩) (by decide) (by decide)
theorem zr_log {h : List ik_E} (hI : rc_RI h) (hl : h.length = 94) {s : zst} (hS : sr_Z s h) {x0 x1 : Int32} : ik_W none 203 0 (ik_loc (ik_ml 203) [.ref 66, .int x0, .int x1]) [] h 0 0 (pr_P rc_Nl 203 (fun v h' => v.toInt = lgA x0.toInt x1.toInt s.2 ∧ sr_Z (s.1, lgN x0.toInt x1.toInt s.2) h') h) := by
  obtain ⟨f, h66, p0, p1, r0, r1⟩ := vw_66 hI
  obtain ⟨L, h90, n90, l0, l1, l2, l3⟩ := vw_90 hI
  obtain ⟨S, h91, n91⟩ := vw_row (rc_gen hI) (a := 91) rfl rfl
  have e2 : f 0 = s.2 2 := so_eq (lk_is h66 (k := 0) rfl (by omega) (by omega)) (hS.2.2.2 2 (by decide))
  have e4 : L.getD 0 0 = s.2 4 := so_eq (lk_ia h90 (k := 0) (by omega) rfl (by omega) (by omega)) (hS.2.2.2 4 (by decide))
  have e5 : L.getD 1 0 = s.2 5 := so_eq (lk_ia h90 (k := 1) (by omega) rfl (by omega) (by omega)) (hS.2.2.2 5 (by decide))
  have i0 := sx_i32 x0
  have i1 := sx_i32 x1
  by_cases c0 : x0.toInt = 0
  · have F := gr_log0 (p := x1.toInt) (pl := f 0) (f := f) (by omega) (by omega) h66 h90 n90 h91 n91 hl p0 p1 ⟨l0, l1, l2, l3⟩
    have ec : fI 0 = .int x0 := by rw [← fI_x, c0]
    rw [ec, fI_x] at F
    have b := lg_b (p := x1.toInt) (pl := f 0) l0 l1
    unfold lgA lgN
    rw [if_pos c0, if_pos c0, ← e4, ← e2]
    exact zr_mk (pm_log hI) F (fun rv h' r f => ⟨r.1, sr_up f hS un_c.2.2 rfl (q08 (Or.inl ⟨by decide +kernel, rfl⟩) (Or.inl ⟨by decide +kernel, rfl⟩) (Or.inl ⟨by decide +kernel, rfl⟩) (Or.inl ⟨by decide +kernel, rfl⟩) (Or.inr r.2.1) (Or.inr (r.2.2.trans (congrArg some e5))) (Or.inl ⟨by decide +kernel, rfl⟩) (Or.inl ⟨by decide +kernel, rfl⟩))⟩) b.1 b.2
  · by_cases c1 : x0.toInt = 1
    · have F := gr_log1 (p := x1.toInt) (pl := f 0) (f := f) (by omega) (by omega) h66 h90 n90 h91 n91 hl p0 p1 ⟨l2, l3, l0, l1⟩
      have ec : fI 1 = .int x0 := by rw [← fI_x, c1]
      rw [ec, fI_x] at F
      have b := lg_b (p := x1.toInt) (pl := f 0) l2 l3
      unfold lgA lgN
      rw [if_neg c0, if_neg c0, if_pos c1, if_pos c1, ← e5, ← e2]
      exact zr_mk (pm_log hI) F (fun rv h' r f => ⟨r.1, sr_up f hS un_c.2.2 rfl (q08 (Or.inl ⟨by decide +kernel, rfl⟩) (Or.inl ⟨by decide +kernel, rfl⟩) (Or.inl ⟨by decide +kernel, rfl⟩) (Or.inl ⟨by decide +kernel, rfl⟩) (Or.inr (r.2.2.trans (congrArg some e4))) (Or.inr r.2.1) (Or.inl ⟨by decide +kernel, rfl⟩) (Or.inl ⟨by decide +kernel, rfl⟩))⟩) b.1 b.2
    · have F := gr_logx (h := h) (s := x0.toInt) (p := x1.toInt) (by omega) (by omega) hl (by omega)
      rw [fI_x, fI_x] at F
      unfold lgA lgN
      rw [if_neg c0, if_neg c0, if_neg c1, if_neg c1]
      exact zr_mk (pm_log hI) F (fun rv h' r f => ⟨r.1, by rw [r.2]; exact hS⟩) (by decide) (by decide)
/-! clear -/
theorem zc_clear {h : List ik_E} (hC : cc_CI h) (hl : h.length = 94) {s : zst} (hS : sc_Z s h) : ik_W none 116 0 (ik_loc (ik_ml 116) [.ref 0]) [] h 0 0 (pc_P cc_Nl 116 (fun v h' => v.toInt = s.2 4 + s.2 5 ∧ sc_Z (s.1, zup (zup s.2 4 0) 5 0) h') h) := by
  obtain ⟨L, h56, n56, l0, l1, l2, l3⟩ := vw_56 hC
  have e4 : L.getD 0 0 = s.2 4 := so_eq (lk_ia h56 (k := 0) (by omega) rfl (by omega) (by omega)) (hS.2.2.2 4 (by decide))
  have e5 : L.getD 1 0 = s.2 5 := so_eq (lk_ia h56 (k := 1) (by omega) rfl (by omega) (by omega)) (hS.2.2.2 5 (by decide))
  rw [← e4, ← e5]
  exact zc_mk (pc_clear hC) (gc_clear (vw_0 hC) (vw_54 hC) h56 n56 hl) (fun rv h' r f => ⟨r.1, sc_up f hS un_c.1.2 rfl (q08 (Or.inl ⟨by decide +kernel, rfl⟩) (Or.inl ⟨by decide +kernel, rfl⟩) (Or.inl ⟨by decide +kernel, rfl⟩) (Or.inl ⟨by decide +kernel, rfl⟩) (Or.inr r.2.1) (Or.inr r.2.2) (Or.inl ⟨by decide +kernel, rfl⟩) (Or.inl ⟨by decide +kernel, rfl⟩))⟩) (by omega) (by omega)
theorem zr_clear {h : List ik_E} (hI : rc_RI h) (hl : h.length = 94) {s : zst} (hS : sr_Z s h) : ik_W none 204 0 (ik_loc (ik_ml 204) [.ref 66]) [] h 0 0 (pr_P rc_Nl 204 (fun v h' => v.toInt = s.2 4 + s.2 5 ∧ sr_Z (s.1, zup (zup s.2 4 0) 5 0) h') h) := by
  obtain ⟨f, h66, p0, p1, r0, r1⟩ := vw_66 hI
  obtain ⟨L, h90, n90, l0, l1, l2, l3⟩ := vw_90 hI
  have e4 : L.getD 0 0 = s.2 4 := so_eq (lk_ia h90 (k := 0) (by omega) rfl (by omega) (by omega)) (hS.2.2.2 4 (by decide))
  have e5 : L.getD 1 0 = s.2 5 := so_eq (lk_ia h90 (k := 1) (by omega) rfl (by omega) (by omega)) (hS.2.2.2 5 (by decide))
  rw [← e4, ← e5]
  exact zr_mk (pm_clear hI) (gr_clear (f := f) h66 h90 n90 hl) (fun rv h' r f => ⟨r.1, sr_up f hS un_c.2.2 rfl (q08 (Or.inl ⟨by decide +kernel, rfl⟩) (Or.inl ⟨by decide +kernel, rfl⟩) (Or.inl ⟨by decide +kernel, rfl⟩) (Or.inl ⟨by decide +kernel, rfl⟩) (Or.inr r.2.1) (Or.inr r.2.2) (Or.inl ⟨by decide +kernel, rfl⟩) (Or.inl ⟨by decide +kernel, rfl⟩))⟩) (by omega) (by omega)
/-! fault -/
theorem zc_fault {h : List ik_E} (hC : cc_CI h) (hl : h.length = 94) {s : zst} (hS : sc_Z s h) : ik_W none 92 0 (ik_loc (ik_ml 92) [.ref 0]) [] h 0 0 (pc_P cc_N 92 (fun v h' => v.toInt = s.2 1 ∧ True) h) := by
  have H1 := pc_fault hC
  obtain ⟨cs, T, cur, fl, pl, C, G, P, B, tl, e, ok, l1, l2, l3, l4, hn, hb⟩ := sc_view hC hl (sc_ZS hS)
  subst e
  have H2 : ik_W none 92 0 (ik_loc (ik_ml 92) [.ref 0]) [] (.inr (9, .ref 1 :: cs) :: cz_t T (s.2 0) cur fl (s.2 1) pl C G P B tl) 0 0 (fun z => ∃ ir v, ik_at 92 z.1 = some ir ∧ ik_rv (ik_rt 92) ir z.2.2.1 = some [.int v] ∧ v.toInt = s.2 1) := by
    refine ik_Wk 1 (pc' := 1) (loc' := [some (.ref 0)]) (st' := [.ref 0]) (h' := .inr (9, .ref 1 :: cs) :: cz_t T (s.2 0) cur fl (s.2 1) pl C G P B tl) (cl' := 0) (sl' := 0) rfl ?_
    refine fw_gf rfl rfl rfl rfl ?_
    refine fw_gf rfl rfl rfl rfl ?_
    exact ik_Wret rfl rfl ⟨_, _, rfl, rfl, hb⟩
  refine sx_W_mono (ik_W_and H1 H2) ?_
  rintro z ⟨⟨ir, v, z1, z2, z3, z4, z5, z6, z7⟩, ir', v', q1, q2, q3⟩
  rw [z1] at q1
  cases q1
  rw [z2] at q2
  cases q2
  exact ⟨ir, v, z1, z2, ⟨q3, trivial⟩, z4, z5, z6, z7⟩
theorem zr_fault {h : List ik_E} (hI : rc_RI h) (hl : h.length = 94) {s : zst} (hS : sr_Z s h) : ik_W none 148 0 (ik_loc (ik_ml 148) [.ref 66]) [] h 0 0 (pr_P rc_N 148 (fun v h' => v.toInt = s.2 1 ∧ True) h) := by
  have H1 := pm_fault hI
  obtain ⟨pre, tl, w, wt, c, T, a0, sd, we, nu, na, rp, M, R, O, A, e, ok, l1, l2, l3, l4, hn, hb⟩ := sr_view hI hl (sr_ZS hS)
  have hpre := ok.1
  subst e
  have H2 : ik_W none 148 0 (ik_loc (ik_ml 148) [.ref 66]) [] (pre ++ rz_t w wt c tl T (s.2 0) (s.2 1) a0 sd we nu na rp M R O A) 0 0 (fun z => ∃ ir v, ik_at 148 z.1 = some ir ∧ ik_rv (ik_rt 148) ir z.2.2.1 = some [.int v] ∧ v.toInt = s.2 1) := by
    refine ik_Wk 1 (pc' := 1) (loc' := [some (.ref 66)]) (st' := [.ref 66]) (h' := pre ++ rz_t w wt c tl T (s.2 0) (s.2 1) a0 sd we nu na rp M R O A) (cl' := 0) (sl' := 0) rfl ?_
    refine fw_gf rfl rfl (rz_g 0 hpre rfl) rfl ?_
    exact ik_Wret rfl rfl ⟨_, _, rfl, rfl, hb⟩
  refine sx_W_mono (ik_W_and H1 H2) ?_
  rintro z ⟨⟨ir, v, z1, z2, z3, z4, z5, z6, z7⟩, ir', v', q1, q2, q3⟩
  rw [z1] at q1
  cases q1
  rw [z2] at q2
  cases q2
  exact ⟨ir, v, z1, z2, ⟨q3, trivial⟩, z4, z5, z6, z7⟩
/-! keep -/
def kpA (x : Int) : Int := if 0 ≤ x ∧ x ≤ 1 then 1 else -1000000001
def kpN (x : Int) (f : Nat → Int) : Nat → Int := if x = 0 then zup f 6 1 else if x = 1 then zup f 7 1 else f
theorem cx1 {loc : ik_L} {st : List Value} {h : List ik_E} {xs : List sx_X} (hc : sx_cx loc st h xs) {q : sx_Q} (hq : Nat.beq q.1 1 = true) (h1 : (-1, [(1, q)]) ∈ xs) (h2 : (1, [(-1, q)]) ∈ xs) : sx_lk [] [] h q = some 1 := by
  obtain ⟨a, a1, a2⟩ := hc _ h1
  obtain ⟨b, b1, b2⟩ := hc _ h2
  have ho : sx_lk loc st h q = sx_lk [] [] h q := sx_lk_ho hq
  cases hx : sx_lk [] [] h q with
  | none => simp only [sx_xc, sx_xk, ho, hx] at a1; cases a1
  | some x =>
    simp only [sx_xc, sx_xk, ho, hx, Option.some.injEq] at a1 b1
    have : x = 1 := by omega
    rw [this]
/-- a segment from the entry that comes to one return: what it wrote, what is so then -/
theorem sg_one {q : Nat} {args vs : List sx_V} {sp : List (Nat × Nat)} {M : sx_M} {fuel : Nat} {H : sx_H} {xs : List sx_X} (hck : sx_sg [] sp M false fuel q 0 (sx_lo (ik_ml q) args) H [] [] [] [(true, 0, [], vs, ([], []), xs, [])] = true) {h : List ik_E} (hh : sx_hr [] H h) {as : List Value} (has : sx_sr [] args as) : ik_W none q 0 (ik_loc (ik_ml q) as) [] h 0 0 (fun z => sx_fm M h z.2.2.2.1 ∧ ∃ loc st, sx_cx loc st z.2.2.2.1 xs) := by
  refine sx_seg (Q := fun _ => True) sx_h0 hck (sx_lo_ok has) hh (fun x hx => (nomatch hx)) (fun u => nomatch u) ?_ ?_
  · intro O hO hb pc' loc' st' h' hur
    rw [List.mem_singleton] at hO
    subst hO
    obtain ⟨u1, u2, u3, ir, rv, u4, u5, u6, u7, u8⟩ := hur
    exact ⟨u1, loc', rv, u7⟩
  · intro O hO hb
    rw [List.mem_singleton] at hO
    subst hO
    cases hb
def kc_M (i : Nat) : sx_M := bif Nat.beq i 0 then [(58, [9999]), (59, [9999]), (60, [9999]), (61, [9999])] else [(62, [9999]), (63, [9999]), (64, [9999]), (65, [9999])]
def kc_q (i : Nat) : sx_Q := bif Nat.beq i 0 then (1, 58, 0) else (1, 62, 0)
def kc_k (i : Nat) : Bool := sx_sg [] [(119, 16)] (kc_M i) false 2000 119 0 (sx_lo (ik_ml 119) [sx_va [0], sx_ri i i]) cc_G [] [] [] [(true, 0, [], [sx_ri 1 1], ([], []), [(-1, [(1, kc_q i)]), (1, [(-1, kc_q i)])], [])]
def kc_n (lo hi : Int) : Bool := sx_sg [] [] [] false 2000 119 0 (sx_lo (ik_ml 119) [sx_va [0], sx_ri lo hi]) cc_G [] [] [] [(true, 0, [], [sx_I], ([], []), [], [])]
theorem kc_ka : (kc_k 0 && kc_k 1 && kc_n (-2147483648) (-1) && kc_n 2 2147483647) = true := by decide +kernel
def kr_k (i : Nat) : Bool := sx_sg [] [] (kp_M i) false 3000 209 0 (sx_lo (ik_ml 209) [sx_va [66], sx_ri i i]) (rf_H rc_f) [] [] [] [(true, 0, [], [sx_ri 1 1], ([], []), [(-1, [(1, 1, 93, i)]), (1, [(-1, 1, 93, i)])], [])]
theorem kr_ka : (kr_k 0 && kr_k 1) = true := by decide +kernel
theorem un_k : (sx_mt (kc_M 0) 2 = false ∧ sx_mt (kc_M 1) 2 = false ∧ sx_mt (kp_M 0) 72 = false ∧ sx_mt (kp_M 1) 72 = false) := by decide +kernel
theorem zc_keep {h : List ik_E} (hC : cc_CI h) (_ : h.length = 94) {s : zst} (hS : sc_Z s h) {x : Int32} : ik_W none 119 0 (ik_loc (ik_ml 119) [.ref 0, .int x]) [] h 0 0 (pc_P cc_Nk 119 (fun v h' => v.toInt = kpA x.toInt ∧ sc_Z (s.1, kpN x.toInt s.2) h') h) := by
  have hx := sx_i32 x
  have k := kc_ka
  simp only [Bool.and_eq_true] at k
  have go : ∀ {P : ik_St → Prop}, ik_W none 119 0 (ik_loc (ik_ml 119) [.ref 0, .int x]) [] h 0 0 P → (∀ z, P z → sc_Z (s.1, kpN x.toInt s.2) z.2.2.2.1) → ik_W none 119 0 (ik_loc (ik_ml 119) [.ref 0, .int x]) [] h 0 0 (pc_P cc_Nk 119 (fun v h' => v.toInt = kpA x.toInt ∧ sc_Z (s.1, kpN x.toInt s.2) h') h) := by
    intro P H2 hp
    refine sx_W_mono (ik_W_and (pc_keep hC (x := x)) H2) ?_
    rintro z ⟨⟨ir, v, z1, z2, z3, z4, z5, z6, z7⟩, hz⟩
    exact ⟨ir, v, z1, z2, ⟨z3, hp z hz⟩, z4, z5, z6, z7⟩
  have h0 : sx_vr [] (sx_va [0]) (.ref 0) := ⟨0, List.mem_singleton.mpr rfl, rfl⟩
  by_cases c0 : x.toInt = 0
  · refine go (sg_one (as := [.ref 0, .int x]) k.1.1.1 (cc_gen hC) ⟨h0, ⟨x, rfl, by omega, by omega⟩, trivial⟩) ?_
    rintro z ⟨f, loc, st, u⟩
    unfold kpN
    rw [if_pos c0]
    exact sc_up f hS un_k.1 rfl (q08 (Or.inl ⟨by decide +kernel, rfl⟩) (Or.inl ⟨by decide +kernel, rfl⟩) (Or.inl ⟨by decide +kernel, rfl⟩) (Or.inl ⟨by decide +kernel, rfl⟩) (Or.inl ⟨by decide +kernel, rfl⟩) (Or.inl ⟨by decide +kernel, rfl⟩) (Or.inr (cx1 u (q := (1, 58, 0)) rfl (by decide) (by decide))) (Or.inl ⟨by decide +kernel, rfl⟩))
  · by_cases c1 : x.toInt = 1
    · refine go (sg_one (as := [.ref 0, .int x]) k.1.1.2 (cc_gen hC) ⟨h0, ⟨x, rfl, by omega, by omega⟩, trivial⟩) ?_
      rintro z ⟨f, loc, st, u⟩
      unfold kpN
      rw [if_neg c0, if_pos c1]
      exact sc_up f hS un_k.2.1 rfl (q08 (Or.inl ⟨by decide +kernel, rfl⟩) (Or.inl ⟨by decide +kernel, rfl⟩) (Or.inl ⟨by decide +kernel, rfl⟩) (Or.inl ⟨by decide +kernel, rfl⟩) (Or.inl ⟨by decide +kernel, rfl⟩) (Or.inl ⟨by decide +kernel, rfl⟩) (Or.inl ⟨by decide +kernel, rfl⟩) (Or.inr (cx1 u (q := (1, 62, 0)) rfl (by decide) (by decide))))
    · have hn : ∀ z : ik_St, (sx_fm [] h z.2.2.2.1 ∧ ∃ loc st, sx_cx loc st z.2.2.2.1 []) → sc_Z (s.1, kpN x.toInt s.2) z.2.2.2.1 := by
        rintro z ⟨f, _⟩
        unfold kpN
        rw [if_neg c0, if_neg c1]
        exact sc_fm f (by decide +kernel) hS
      by_cases c2 : x.toInt < 0
      · exact go (sg_one (as := [.ref 0, .int x]) k.1.2 (cc_gen hC) ⟨h0, ⟨x, rfl, by omega, by omega⟩, trivial⟩) hn
      · exact go (sg_one (as := [.ref 0, .int x]) k.2 (cc_gen hC) ⟨h0, ⟨x, rfl, by omega, by omega⟩, trivial⟩) hn
theorem zr_keep {h : List ik_E} (hI : rc_RI h) (_ : h.length = 94) {s : zst} (hS : sr_Z s h) {x : Int32} : ik_W none 209 0 (ik_loc (ik_ml 209) [.ref 66, .int x]) [] h 0 0 (pr_P rc_Nk 209 (fun v h' => v.toInt = kpA x.toInt ∧ sr_Z (s.1, kpN x.toInt s.2) h') h) := by
  have hx := sx_i32 x
  have k := kr_ka
  simp only [Bool.and_eq_true] at k
  have go : ∀ {P : ik_St → Prop}, ik_W none 209 0 (ik_loc (ik_ml 209) [.ref 66, .int x]) [] h 0 0 P → (∀ z, P z → sr_Z (s.1, kpN x.toInt s.2) z.2.2.2.1) → ik_W none 209 0 (ik_loc (ik_ml 209) [.ref 66, .int x]) [] h 0 0 (pr_P rc_Nk 209 (fun v h' => v.toInt = kpA x.toInt ∧ sr_Z (s.1, kpN x.toInt s.2) h') h) := by
    intro P H2 hp
    refine sx_W_mono (ik_W_and (pr_keep hI (x := x)) H2) ?_
    rintro z ⟨⟨ir, v, z1, z2, z3, z4, z5, z6, z7⟩, hz⟩
    exact ⟨ir, v, z1, z2, ⟨z3, hp z hz⟩, z4, z5, z6, z7⟩
  have h0 : sx_vr [] (sx_va [66]) (.ref 66) := ⟨66, List.mem_singleton.mpr rfl, rfl⟩
  by_cases c0 : x.toInt = 0
  · refine go (sg_one (as := [.ref 66, .int x]) k.1 (rc_gen hI) ⟨h0, ⟨x, rfl, by omega, by omega⟩, trivial⟩) ?_
    rintro z ⟨f, loc, st, u⟩
    unfold kpN
    rw [if_pos c0]
    exact sr_up f hS un_k.2.2.1 rfl (q08 (Or.inl ⟨by decide +kernel, rfl⟩) (Or.inl ⟨by decide +kernel, rfl⟩) (Or.inl ⟨by decide +kernel, rfl⟩) (Or.inl ⟨by decide +kernel, rfl⟩) (Or.inl ⟨by decide +kernel, rfl⟩) (Or.inl ⟨by decide +kernel, rfl⟩) (Or.inr (cx1 u (q := (1, 93, 0)) rfl (by decide) (by decide))) (Or.inl ⟨by decide +kernel, rfl⟩))
  · by_cases c1 : x.toInt = 1
    · refine go (sg_one (as := [.ref 66, .int x]) k.2 (rc_gen hI) ⟨h0, ⟨x, rfl, by omega, by omega⟩, trivial⟩) ?_
      rintro z ⟨f, loc, st, u⟩
      unfold kpN
      rw [if_neg c0, if_pos c1]
      exact sr_up f hS un_k.2.2.2 rfl (q08 (Or.inl ⟨by decide +kernel, rfl⟩) (Or.inl ⟨by decide +kernel, rfl⟩) (Or.inl ⟨by decide +kernel, rfl⟩) (Or.inl ⟨by decide +kernel, rfl⟩) (Or.inl ⟨by decide +kernel, rfl⟩) (Or.inl ⟨by decide +kernel, rfl⟩) (Or.inl ⟨by decide +kernel, rfl⟩) (Or.inr (cx1 u (q := (1, 93, 1)) rfl (by decide) (by decide))))
    · have hn : ∀ z : ik_St, (sx_fm [] h z.2.2.2.1 ∧ ∃ loc st, sx_cx loc st z.2.2.2.1 []) → sr_Z (s.1, kpN x.toInt s.2) z.2.2.2.1 := by
        rintro z ⟨f, _⟩
        unfold kpN
        rw [if_neg c0, if_neg c1]
        exact sr_fm f (by decide +kernel) hS
      by_cases c2 : x.toInt < 0
      · exact go (sg_one (as := [.ref 66, .int x]) kp_lo (rc_gen hI) ⟨h0, ⟨x, rfl, by omega, by omega⟩, trivial⟩) hn
      · exact go (sg_one (as := [.ref 66, .int x]) kp_hi (rc_gen hI) ⟨h0, ⟨x, rfl, by omega, by omega⟩, trivial⟩) hn
/-! goBack -/
def gbA (x : Int) (f : Nat → Int) : Int := if x = 0 then (if f 6 ≤ 0 then -1000000003 else 1) else if x = 1 then (if f 7 ≤ 0 then -1000000003 else 1) else -1000000001
def gb_O (q : sx_Q) : List sx_U := [(true, 0, [], [sx_ri (-1000000003) (-1000000003)], ([], []), [], [((0, [(1, q)]), (0, []))]), (true, 0, [], [sx_ri 1 1], ([], []), [], [((1, [(-1, q)]), (0, []))])]
def gc_k (i : Nat) : Bool := sx_sg [ka_12] [(120, 16), (120, 31)] cc_MC false 3000 120 0 (sx_lo (ik_ml 120) [sx_va [0], sx_ri i i]) cc_G [(0, [(1, kc_q i)])] [] [] (gb_O (kc_q i))
def gc_n (lo hi : Int) : Bool := sx_sg [] [] [] false 2000 120 0 (sx_lo (ik_ml 120) [sx_va [0], sx_ri lo hi]) cc_G [] [] [] [(true, 0, [], [sx_ri (-1000000001) (-1000000001)], ([], []), [], [])]
theorem gc_k0 : gc_k 0 = true := by decide +kernel
theorem gc_k1 : gc_k 1 = true := by decide +kernel
theorem gc_na : (gc_n (-2147483648) (-1) && gc_n 2 2147483647) = true := by decide +kernel
def gr_k (i : Nat) : Bool := sx_sg [] [] rc_MR false 3000 210 0 (sx_lo (ik_ml 210) [sx_va [66], sx_ri i i]) (rf_H rc_f) [(0, [(1, 1, 93, i)])] [] [] (gb_O (1, 93, i))
def gr_n (lo hi : Int) : Bool := sx_sg [] [] [] false 2000 210 0 (sx_lo (ik_ml 210) [sx_va [66], sx_ri lo hi]) (rf_H rc_f) [] [] [] [(true, 0, [], [sx_ri (-1000000001) (-1000000001)], ([], []), [], [])]
theorem gr_k0 : gr_k 0 = true := by decide +kernel
theorem gr_k1 : gr_k 1 = true := by decide +kernel
theorem gr_na : (gr_n (-2147483648) (-1) && gr_n 2 2147483647) = true := by decide +kernel
theorem gb_two {m : Nat} {K : List sx_K} (hK : ∀ C, C ∈ K → sx_hd (fun _ => True) C) {args : List sx_V} {sp : List (Nat × Nat)} {M : sx_M} {fuel : Nat} {H : sx_H} {q : sx_Q} (hq : Nat.beq q.1 1 = true) {mat : List sx_X} (hck : sx_sg K sp M false fuel m 0 (sx_lo (ik_ml m) args) H mat [] [] (gb_O q) = true) {h : List ik_E} (hh : sx_hr [] H h) {as : List Value} (has : sx_sr [] args as) {b : Int} (hb : sx_lk [] [] h q = some b) : ik_W none m 0 (ik_loc (ik_ml m) as) [] h 0 0 (fun z => ∃ ir v, ik_at m z.1 = some ir ∧ ik_rv (ik_rt m) ir z.2.2.1 = some [.int v] ∧ v.toInt = if b ≤ 0 then -1000000003 else 1) := by
  refine sx_seg (Q := fun _ => True) hK hck (sx_lo_ok has) hh (fun x hx => (nomatch hx)) (fun u => nomatch u) ?_ ?_
  · intro O hO hb' pc' loc' st' h' hur
    unfold gb_O at hO
    rcases List.mem_cons.mp hO with rfl | hO
    · obtain ⟨u1, u2, u3, ir, rv, u4, u5, u6, u7, u8⟩ := hur
      obtain ⟨v, rfl, v1, v2⟩ := sx_sr1 u6
      obtain ⟨y, z, y1, z1, yz⟩ := u8 _ List.mem_cons_self
      have ho : sx_lk (ik_loc (ik_ml m) as) [] h q = some b := by rw [sx_lk_ho hq]; exact hb
      simp only [sx_xc, sx_xk, ho, Option.some.injEq] at y1 z1
      refine ⟨ir, v, u4, u5, ?_⟩
      rw [if_pos (by omega)]
      omega
    · rw [List.mem_singleton] at hO
      subst hO
      obtain ⟨u1, u2, u3, ir, rv, u4, u5, u6, u7, u8⟩ := hur
      obtain ⟨v, rfl, v1, v2⟩ := sx_sr1 u6
      obtain ⟨y, z, y1, z1, yz⟩ := u8 _ List.mem_cons_self
      have ho : sx_lk (ik_loc (ik_ml m) as) [] h q = some b := by rw [sx_lk_ho hq]; exact hb
      simp only [sx_xc, sx_xk, ho, Option.some.injEq] at y1 z1
      refine ⟨ir, v, u4, u5, ?_⟩
      rw [if_neg (by omega)]
      omega
  · intro O hO hb'
    unfold gb_O at hO
    rcases List.mem_cons.mp hO with rfl | hO
    · cases hb'
    · rw [List.mem_singleton] at hO
      subst hO
      cases hb'
theorem gb_un {m : Nat} {args : List sx_V} {fuel : Nat} {H : sx_H} (hck : sx_sg [] [] [] false fuel m 0 (sx_lo (ik_ml m) args) H [] [] [] [(true, 0, [], [sx_ri (-1000000001) (-1000000001)], ([], []), [], [])] = true) {h : List ik_E} (hh : sx_hr [] H h) {as : List Value} (has : sx_sr [] args as) : ik_W none m 0 (ik_loc (ik_ml m) as) [] h 0 0 (fun z => ∃ ir v, ik_at m z.1 = some ir ∧ ik_rv (ik_rt m) ir z.2.2.1 = some [.int v] ∧ v.toInt = -1000000001) := by
  refine sx_seg (Q := fun _ => True) sx_h0 hck (sx_lo_ok has) hh (fun x hx => (nomatch hx)) (fun u => nomatch u) ?_ ?_
  · intro O hO hb' pc' loc' st' h' hur
    rw [List.mem_singleton] at hO
    subst hO
    obtain ⟨u1, u2, u3, ir, rv, u4, u5, u6, u7, u8⟩ := hur
    obtain ⟨v, rfl, v1, v2⟩ := sx_sr1 u6
    exact ⟨ir, v, u4, u5, by omega⟩
  · intro O hO hb'
    rw [List.mem_singleton] at hO
    subst hO
    cases hb'
theorem zc_goBack {h : List ik_E} (hC : cc_CI h) (_ : h.length = 94) {s : zst} (hS : sc_Z s h) {x : Int32} : ik_W none 120 0 (ik_loc (ik_ml 120) [.ref 0, .int x]) [] h 0 0 (pc_P cc_N 120 (fun v _ => v.toInt = gbA x.toInt s.2 ∧ True) h) := by
  have hx := sx_i32 x
  have k := gc_na
  simp only [Bool.and_eq_true] at k
  have go : ∀ {a : Int}, gbA x.toInt s.2 = a → ik_W none 120 0 (ik_loc (ik_ml 120) [.ref 0, .int x]) [] h 0 0 (fun z => ∃ ir v, ik_at 120 z.1 = some ir ∧ ik_rv (ik_rt 120) ir z.2.2.1 = some [.int v] ∧ v.toInt = a) → ik_W none 120 0 (ik_loc (ik_ml 120) [.ref 0, .int x]) [] h 0 0 (pc_P cc_N 120 (fun v _ => v.toInt = gbA x.toInt s.2 ∧ True) h) := by
    intro a ea H2
    rw [ea]
    refine sx_W_mono (ik_W_and (pc_goBack hC (x0 := x)) H2) ?_
    rintro z ⟨⟨ir, v, z1, z2, z3, z4, z5, z6, z7⟩, ir', v', q1, q2, q3⟩
    rw [z1] at q1
    cases q1
    rw [z2] at q2
    cases q2
    exact ⟨ir, v, z1, z2, ⟨q3, trivial⟩, z4, z5, z6, z7⟩
  have h0 : sx_vr [] (sx_va [0]) (.ref 0) := ⟨0, List.mem_singleton.mpr rfl, rfl⟩
  have hK : ∀ C, C ∈ [ka_12] → sx_hd (fun _ => True) C := sx_h1 (kah_12 _) sx_h0
  by_cases c0 : x.toInt = 0
  · exact go (by unfold gbA; rw [if_pos c0]) (gb_two (as := [.ref 0, .int x]) hK rfl gc_k0 (cc_gen hC) ⟨h0, ⟨x, rfl, by omega, by omega⟩, trivial⟩ (hS.2.2.2 6 (by decide)))
  · by_cases c1 : x.toInt = 1
    · exact go (by unfold gbA; rw [if_neg c0, if_pos c1]) (gb_two (as := [.ref 0, .int x]) hK rfl gc_k1 (cc_gen hC) ⟨h0, ⟨x, rfl, by omega, by omega⟩, trivial⟩ (hS.2.2.2 7 (by decide)))
    · by_cases c2 : x.toInt < 0
      · exact go (by unfold gbA; rw [if_neg c0, if_neg c1]) (gb_un (as := [.ref 0, .int x]) k.1 (cc_gen hC) ⟨h0, ⟨x, rfl, by omega, by omega⟩, trivial⟩)
      · exact go (by unfold gbA; rw [if_neg c0, if_neg c1]) (gb_un (as := [.ref 0, .int x]) k.2 (cc_gen hC) ⟨h0, ⟨x, rfl, by omega, by omega⟩, trivial⟩)
theorem zr_goBack {h : List ik_E} (hI : rc_RI h) (_ : h.length = 94) {s : zst} (hS : sr_Z s h) {x : Int32} : ik_W none 210 0 (ik_loc (ik_ml 210) [.ref 66, .int x]) [] h 0 0 (pr_P rc_N 210 (fun v _ => v.toInt = gbA x.toInt s.2 ∧ True) h) := by
  have hx := sx_i32 x
  have k := gr_na
  simp only [Bool.and_eq_true] at k
  have go : ∀ {a : Int}, gbA x.toInt s.2 = a → ik_W none 210 0 (ik_loc (ik_ml 210) [.ref 66, .int x]) [] h 0 0 (fun z => ∃ ir v, ik_at 210 z.1 = some ir ∧ ik_rv (ik_rt 210) ir z.2.2.1 = some [.int v] ∧ v.toInt = a) → ik_W none 210 0 (ik_loc (ik_ml 210) [.ref 66, .int x]) [] h 0 0 (pr_P rc_N 210 (fun v _ => v.toInt = gbA x.toInt s.2 ∧ True) h) := by
    intro a ea H2
    rw [ea]
    refine sx_W_mono (ik_W_and (pm_goBack hI (x0 := x)) H2) ?_
    rintro z ⟨⟨ir, v, z1, z2, z3, z4, z5, z6, z7⟩, ir', v', q1, q2, q3⟩
    rw [z1] at q1
    cases q1
    rw [z2] at q2
    cases q2
    exact ⟨ir, v, z1, z2, ⟨q3, trivial⟩, z4, z5, z6, z7⟩
  have h0 : sx_vr [] (sx_va [66]) (.ref 66) := ⟨66, List.mem_singleton.mpr rfl, rfl⟩
  by_cases c0 : x.toInt = 0
  · exact go (by unfold gbA; rw [if_pos c0]) (gb_two (as := [.ref 66, .int x]) sx_h0 rfl gr_k0 (rc_gen hI) ⟨h0, ⟨x, rfl, by omega, by omega⟩, trivial⟩ (hS.2.2.2 6 (by decide)))
  · by_cases c1 : x.toInt = 1
    · exact go (by unfold gbA; rw [if_neg c0, if_pos c1]) (gb_two (as := [.ref 66, .int x]) sx_h0 rfl gr_k1 (rc_gen hI) ⟨h0, ⟨x, rfl, by omega, by omega⟩, trivial⟩ (hS.2.2.2 7 (by decide)))
    · by_cases c2 : x.toInt < 0
      · exact go (by unfold gbA; rw [if_neg c0, if_neg c1]) (gb_un (as := [.ref 66, .int x]) k.1 (rc_gen hI) ⟨h0, ⟨x, rfl, by omega, by omega⟩, trivial⟩)
      · exact go (by unfold gbA; rw [if_neg c0, if_neg c1]) (gb_un (as := [.ref 66, .int x]) k.2 (rc_gen hI) ⟨h0, ⟨x, rfl, by omega, by omega⟩, trivial⟩)
end
