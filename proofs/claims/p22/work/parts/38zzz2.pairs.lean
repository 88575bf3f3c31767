/-! 38zzz2.pairs -/
noncomputable section
set_option maxRecDepth 100000 in
theorem lk_comes {K : Nat} {h : List ik_E} (E : st_S K h) (hK : K ≤ 600) {kd : Int} {p : Int} {t : Int} (z_kd : -2147483648 ≤ kd ∧ kd < 2147483648) (z_p : -2147483648 ≤ p ∧ p < 2147483648) (z_t : -2147483648 ≤ t ∧ t < 2147483648)  : ik_F 96 [.ref 0, fI kd, fI p, fI t] h (fun rv h_q => ∃ o_ : Int, rv = [fI o_] ∧ (h_q.length = (94 : Nat) ∧ ∃ fs, h_q[66]? = some (.inr (10, fs))) ∧ ik_F 160 [.ref 66, fI kd, fI p, fI t] h_q (fun rv' h'' => rv' = [fI o_] ∧ st_S (K + 1) h'')) := by
  refine E _ ?_
  intro tn fp pl mi sd ka pa fa kb pb fb xa xb r n0 n1 ga0 gm0 gd_0 gs0 g00 g01 g02 g03 g04 g05 gx0 gy0 ga1 gm1 gd_1 gs1 g10 g11 g12 g13 g14 g15 gx1 gy1 s T cn go ch wg wc we rp rt lr ci0 ci1 cnr gor chr T2 im f_pl f_s f_st f_cb f_cr f_rw f_al f_wy f_k f_p f_x f_m f_sd f_r f_rr f_n f_l0 f_l1 f_tn f_t f_i0 f_i1 gA gT gB gC gS gV gW gM gR gL gI gJ hO hB hC hT hS hM hR hL hI hl
  replace f_cb := ik_hid_i f_cb
  replace f_cr := ik_hid_i f_cr
  replace f_p := ik_hid_i f_p
  replace f_x := ik_hid_i f_x
  obtain ⟨h0, h18, h57⟩ := gA
  obtain ⟨h7, h8, n8, h9, n9, h10, n10, h11, n11, h12, n12, h13, n13⟩ := gB
  obtain ⟨bo, la, lb, t0, t1, t2, t3, h17, h19, h20⟩ := gS
  obtain ⟨h21, h33⟩ := gV
  obtain ⟨sc0, sc1, sc2, sc3, sc4, sc5, w24, sb, wa, h66⟩ := hO
  obtain ⟨h67, n67, h68, n68, h69, n69⟩ := hB
  obtain ⟨gt, gdd, xs, ys, r1, r2, h77, n77, h78, n78, h79, n79, h80, n80, h81, n81, h82, n82⟩ := hS
  refine ik_F_mono (cp_comes (pl := pl) (lo := ((mj_lost pl cn go : Nat) : Int)) (s := s) (bo := bo) (wg := wg) (wc := wc) (we := we) (W := (fun x => mx_w cnr gor chr s x)) (kd := kd) (p := p) (t := t) f_pl (fun x h0 h1 => by have e := mx_al_w f_rw f_al s x h0 h1; exact e.symm ▸ f_wy x h0 h1) (mx_rw_ok (mx_al_rw f_rw f_al) _) z_kd z_p z_t h0 h7 h11 n11 h12 n12 h13 n13 h17 h18 h21 hl) ?_
  rintro v_1054 h_1054 ⟨er_1054, e_1054_21, F_1054⟩ <;> subst er_1054
  have k_1054 : cL h_1054 := F_1054.1.trans hl
  have g_1054_0 := (hfr_g F_1054 0 rfl).trans h0
  have g_1054_7 := (hfr_g F_1054 7 rfl).trans h7
  have g_1054_8 := (hfr_g F_1054 8 rfl).trans h8
  have g_1054_9 := (hfr_g F_1054 9 rfl).trans h9
  have g_1054_10 := (hfr_g F_1054 10 rfl).trans h10
  have g_1054_11 := (hfr_g F_1054 11 rfl).trans h11
  have g_1054_12 := (hfr_g F_1054 12 rfl).trans h12
  have g_1054_13 := (hfr_g F_1054 13 rfl).trans h13
  have g_1054_17 := (hfr_g F_1054 17 rfl).trans h17
  have g_1054_18 := (hfr_g F_1054 18 rfl).trans h18
  have g_1054_19 := (hfr_g F_1054 19 rfl).trans h19
  have g_1054_20 := (hfr_g F_1054 20 rfl).trans h20
  have g_1054_33 := mf_cr_f h33 (hfr_g F_1054 33 rfl) (hfr_g F_1054 34 rfl) (hfr_g F_1054 35 rfl) (hfr_g F_1054 36 rfl)
  have g_1054_57 := (hfr_g F_1054 57 rfl).trans h57
  have g_1054_66 := (hfr_g F_1054 66 rfl).trans h66
  have g_1054_67 := (hfr_g F_1054 67 rfl).trans h67
  have g_1054_68 := (hfr_g F_1054 68 rfl).trans h68
  have g_1054_69 := (hfr_g F_1054 69 rfl).trans h69
  have g_1054_77 := (hfr_g F_1054 77 rfl).trans h77
  have g_1054_78 := (hfr_g F_1054 78 rfl).trans h78
  have g_1054_79 := (hfr_g F_1054 79 rfl).trans h79
  have g_1054_80 := (hfr_g F_1054 80 rfl).trans h80
  have g_1054_81 := (hfr_g F_1054 81 rfl).trans h81
  have g_1054_82 := (hfr_g F_1054 82 rfl).trans h82
  have g_1054_21 : mf_cr h_1054 21  := e_1054_21
  refine ⟨an_kp kd p pl t (mf_cm (fun x => mx_w cnr gor chr s x) (pl - 1) kd p t.toNat), rfl, ⟨k_1054, _, g_1054_66⟩, ?_⟩
  have gT_1054 := st_gT_t F_1054 (hdj_b rfl) gT
  have gC_1054 := st_gC_t F_1054 (hdj_b rfl) gC
  have gW_1054 := st_gW_t F_1054 (hdj_b rfl) gW
  have gM_1054 := st_gM_t F_1054 (hdj_b rfl) gM
  have gR_1054 := st_gR_t F_1054 (hdj_b rfl) gR
  have gL_1054 := st_gL_t F_1054 (hdj_b rfl) gL
  have gI_1054 := st_gI_t F_1054 (hdj_b rfl) gI
  have gJ_1054 := st_gJ_t F_1054 (hdj_b rfl) gJ
  have hC_1054 := st_hC_t F_1054 (hdj_b rfl) hC
  have hT_1054 := st_hT_t F_1054 (hdj_b rfl) hT
  have hM_1054 := st_hM_t F_1054 (hdj_b rfl) hM
  have hR_1054 := st_hR_t F_1054 (hdj_b rfl) hR
  have hL_1054 := st_hL_t F_1054 (hdj_b rfl) hL
  have hI_1054 := st_hI_t F_1054 (hdj_b rfl) hI
  refine ik_F_mono (rp_comes (pl := pl) (f := fun j => ((0 :: 0 :: 0 :: 0 :: 0 :: 0 :: 0 :: mi :: sd :: 0 :: tn :: fp :: sc0 :: sc1 :: sc2 :: sc3 :: sc4 :: sc5 :: 0 :: 0 :: 0 :: 0 :: 0 :: 0 :: w24 :: 0 :: 0 :: 0 :: 0 :: 0 :: 0 :: 0 :: sb :: wa :: 0 :: 0 :: r :: 0 :: 0 :: 0 :: 0 :: 0 :: 0 :: []) : List Int).getD j 0) (s := s) (cn := cnr) (go := gor) (ch := chr) (gt := gt) (gd := gdd) (xs := xs) (ys := ys) (kd := kd) (p := p) (t := t) f_pl f_s (fun x h0 h1 => by have := ((mx_al_rw f_rw f_al) x h0 h1).1; omega) (mx_rw_ch (mx_al_rw f_rw f_al)) (mx_rw_ok (mx_al_rw f_rw f_al) _) z_kd z_p z_t g_1054_66 g_1054_67 n67 g_1054_68 n68 g_1054_69 n69 g_1054_77 n77 g_1054_78 n78 g_1054_79 n79 g_1054_80 n80 k_1054) ?_
  rintro v_1055 h_1055 ⟨w'_1055, gt'_1055, gd'_1055, xs'_1055, ys'_1055, er_1055, e_1055_66, e_1055_77, m_1055_77, e_1055_78, m_1055_78, e_1055_79, m_1055_79, e_1055_80, m_1055_80, F_1055⟩ <;> subst er_1055
  have k_1055 : cL h_1055 := F_1055.1.trans k_1054
  have g_1055_0 := (hfr_g F_1055 0 rfl).trans g_1054_0
  have g_1055_7 := (hfr_g F_1055 7 rfl).trans g_1054_7
  have g_1055_8 := (hfr_g F_1055 8 rfl).trans g_1054_8
  have g_1055_9 := (hfr_g F_1055 9 rfl).trans g_1054_9
  have g_1055_10 := (hfr_g F_1055 10 rfl).trans g_1054_10
  have g_1055_11 := (hfr_g F_1055 11 rfl).trans g_1054_11
  have g_1055_12 := (hfr_g F_1055 12 rfl).trans g_1054_12
  have g_1055_13 := (hfr_g F_1055 13 rfl).trans g_1054_13
  have g_1055_17 := (hfr_g F_1055 17 rfl).trans g_1054_17
  have g_1055_18 := (hfr_g F_1055 18 rfl).trans g_1054_18
  have g_1055_19 := (hfr_g F_1055 19 rfl).trans g_1054_19
  have g_1055_20 := (hfr_g F_1055 20 rfl).trans g_1054_20
  have g_1055_21 := mf_cr_f g_1054_21 (hfr_g F_1055 21 rfl) (hfr_g F_1055 22 rfl) (hfr_g F_1055 23 rfl) (hfr_g F_1055 24 rfl)
  have g_1055_33 := mf_cr_f g_1054_33 (hfr_g F_1055 33 rfl) (hfr_g F_1055 34 rfl) (hfr_g F_1055 35 rfl) (hfr_g F_1055 36 rfl)
  have g_1055_57 := (hfr_g F_1055 57 rfl).trans g_1054_57
  have g_1055_67 := (hfr_g F_1055 67 rfl).trans g_1054_67
  have g_1055_68 := (hfr_g F_1055 68 rfl).trans g_1054_68
  have g_1055_69 := (hfr_g F_1055 69 rfl).trans g_1054_69
  have g_1055_81 := (hfr_g F_1055 81 rfl).trans g_1054_81
  have g_1055_82 := (hfr_g F_1055 82 rfl).trans g_1054_82
  have g_1055_66 : cE h_1055 66 (.inr (10, (fI pl :: .ref 67 :: .ref 68 :: .ref 69 :: fI ((s : Nat) : Int) :: .ref 70 :: .ref 71 :: fI mi :: fI sd :: .ref 72 :: fI tn :: fI fp :: fI sc0 :: fJ sc1 :: fI sc2 :: fI sc3 :: fI sc4 :: fI sc5 :: .ref 73 :: .ref 74 :: .ref 75 :: .ref 76 :: .ref 77 :: .ref 78 :: fI w'_1055 :: .ref 79 :: .ref 80 :: .ref 81 :: .ref 82 :: .ref 83 :: .ref 84 :: .ref 85 :: fJ sb :: fJ wa :: .ref 86 :: .ref 87 :: fI r :: .ref 88 :: .ref 89 :: .ref 90 :: .ref 91 :: .ref 92 :: .ref 93 :: []))) := e_1055_66
  have g_1055_77 : cE h_1055 77 (.inl (.int, fA gt'_1055)) := e_1055_77
  have g_1055_78 : cE h_1055 78 (.inl (.int, fA gd'_1055)) := e_1055_78
  have g_1055_79 : cE h_1055 79 (.inl (.long, fL xs'_1055)) := e_1055_79
  have g_1055_80 : cE h_1055 80 (.inl (.long, fL ys'_1055)) := e_1055_80
  refine ⟨rfl, ?_⟩
  have gT_1055 := st_gT_t F_1055 (hdj_b rfl) gT_1054
  have gC_1055 := st_gC_t F_1055 (hdj_b rfl) gC_1054
  have gW_1055 := st_gW_t F_1055 (hdj_b rfl) gW_1054
  have gM_1055 := st_gM_t F_1055 (hdj_b rfl) gM_1054
  have gR_1055 := st_gR_t F_1055 (hdj_b rfl) gR_1054
  have gL_1055 := st_gL_t F_1055 (hdj_b rfl) gL_1054
  have gI_1055 := st_gI_t F_1055 (hdj_b rfl) gI_1054
  have gJ_1055 := st_gJ_t F_1055 (hdj_b rfl) gJ_1054
  have hC_1055 := st_hC_t F_1055 (hdj_b rfl) hC_1054
  have hT_1055 := st_hT_t F_1055 (hdj_b rfl) hT_1054
  have hM_1055 := st_hM_t F_1055 (hdj_b rfl) hM_1054
  have hR_1055 := st_hR_t F_1055 (hdj_b rfl) hR_1054
  have hL_1055 := st_hL_t F_1055 (hdj_b rfl) hL_1054
  have hI_1055 := st_hI_t F_1055 (hdj_b rfl) hI_1054
  intro C_ k_
  exact k_ tn fp pl mi sd ka pa fa kb pb fb xa xb r n0 n1 ga0 gm0 gd_0 gs0 g00 g01 g02 g03 g04 g05 gx0 gy0 ga1 gm1 gd_1 gs1 g10 g11 g12 g13 g14 g15 gx1 gy1 s T cn go ch wg wc we rp rt lr ci0 ci1 cnr gor chr T2 im f_pl f_s f_st f_cb f_cr f_rw f_al f_wy f_k f_p f_x (by first | exact st_m f_m | omega) f_sd f_r f_rr f_n f_l0 f_l1 f_tn f_t (st_I_K f_i0) (st_I_K f_i1) ⟨g_1055_0, g_1055_18, g_1055_57⟩ gT_1055 ⟨g_1055_7, g_1055_8, n8, g_1055_9, n9, g_1055_10, n10, g_1055_11, n11, g_1055_12, n12, g_1055_13, n13⟩ gC_1055 ⟨bo, la, lb, t0, t1, t2, t3, g_1055_17, g_1055_19, g_1055_20⟩ ⟨g_1055_21, g_1055_33⟩ gW_1055 gM_1055 gR_1055 gL_1055 gI_1055 gJ_1055 ⟨sc0, sc1, sc2, sc3, sc4, sc5, w'_1055, sb, wa, g_1055_66⟩ ⟨g_1055_67, n67, g_1055_68, n68, g_1055_69, n69⟩ hC_1055 hT_1055 ⟨gt'_1055, gd'_1055, xs'_1055, ys'_1055, r1, r2, g_1055_77, m_1055_77, g_1055_78, m_1055_78, g_1055_79, m_1055_79, g_1055_80, m_1055_80, g_1055_81, n81, g_1055_82, n82⟩ hM_1055 hR_1055 hL_1055 hI_1055 k_1055

set_option maxRecDepth 100000 in
theorem lk_at {K : Nat} {h : List ik_E} (E : st_S K h) (hK : K ≤ 600) {kd : Int} {p : Int} {t : Int} {q : Int} (z_kd : -2147483648 ≤ kd ∧ kd < 2147483648) (z_p : -2147483648 ≤ p ∧ p < 2147483648) (z_t : -2147483648 ≤ t ∧ t < 2147483648) (z_q : -2147483648 ≤ q ∧ q < 2147483648)  : ik_F 97 [.ref 0, fI kd, fI p, fI t, fI q] h (fun rv h_q => ∃ o_ : Int, rv = [fI o_] ∧ (h_q.length = (94 : Nat) ∧ ∃ fs, h_q[66]? = some (.inr (10, fs))) ∧ ik_F 161 [.ref 66, fI kd, fI p, fI t, fI q] h_q (fun rv' h'' => rv' = [fI o_] ∧ st_S (K + 1) h'')) := by
  refine E _ ?_
  intro tn fp pl mi sd ka pa fa kb pb fb xa xb r n0 n1 ga0 gm0 gd_0 gs0 g00 g01 g02 g03 g04 g05 gx0 gy0 ga1 gm1 gd_1 gs1 g10 g11 g12 g13 g14 g15 gx1 gy1 s T cn go ch wg wc we rp rt lr ci0 ci1 cnr gor chr T2 im f_pl f_s f_st f_cb f_cr f_rw f_al f_wy f_k f_p f_x f_m f_sd f_r f_rr f_n f_l0 f_l1 f_tn f_t f_i0 f_i1 gA gT gB gC gS gV gW gM gR gL gI gJ hO hB hC hT hS hM hR hL hI hl
  replace f_cb := ik_hid_i f_cb
  replace f_cr := ik_hid_i f_cr
  replace f_p := ik_hid_i f_p
  replace f_x := ik_hid_i f_x
  obtain ⟨h0, h18, h57⟩ := gA
  obtain ⟨h7, h8, n8, h9, n9, h10, n10, h11, n11, h12, n12, h13, n13⟩ := gB
  obtain ⟨bo, la, lb, t0, t1, t2, t3, h17, h19, h20⟩ := gS
  obtain ⟨h21, h33⟩ := gV
  obtain ⟨sc0, sc1, sc2, sc3, sc4, sc5, w24, sb, wa, h66⟩ := hO
  obtain ⟨h67, n67, h68, n68, h69, n69⟩ := hB
  obtain ⟨gt, gdd, xs, ys, r1, r2, h77, n77, h78, n78, h79, n79, h80, n80, h81, n81, h82, n82⟩ := hS
  refine ik_F_mono (cp_at (pl := pl) (lo := ((mj_lost pl cn go : Nat) : Int)) (s := s) (bo := bo) (wg := wg) (wc := wc) (we := we) (W := (fun x => mx_w cnr gor chr s x)) (kd := kd) (p := p) (t := t) (q := q) f_pl (fun x h0 h1 => by have e := mx_al_w f_rw f_al s x h0 h1; exact e.symm ▸ f_wy x h0 h1) (mx_rw_ok (mx_al_rw f_rw f_al) _) z_kd z_p z_t z_q h0 h7 h11 n11 h12 n12 h13 n13 h17 h18 h21 hl) ?_
  rintro v_1056 h_1056 ⟨er_1056, e_1056_21, F_1056⟩ <;> subst er_1056
  have k_1056 : cL h_1056 := F_1056.1.trans hl
  have g_1056_0 := (hfr_g F_1056 0 rfl).trans h0
  have g_1056_7 := (hfr_g F_1056 7 rfl).trans h7
  have g_1056_8 := (hfr_g F_1056 8 rfl).trans h8
  have g_1056_9 := (hfr_g F_1056 9 rfl).trans h9
  have g_1056_10 := (hfr_g F_1056 10 rfl).trans h10
  have g_1056_11 := (hfr_g F_1056 11 rfl).trans h11
  have g_1056_12 := (hfr_g F_1056 12 rfl).trans h12
  have g_1056_13 := (hfr_g F_1056 13 rfl).trans h13
  have g_1056_17 := (hfr_g F_1056 17 rfl).trans h17
  have g_1056_18 := (hfr_g F_1056 18 rfl).trans h18
  have g_1056_19 := (hfr_g F_1056 19 rfl).trans h19
  have g_1056_20 := (hfr_g F_1056 20 rfl).trans h20
  have g_1056_33 := mf_cr_f h33 (hfr_g F_1056 33 rfl) (hfr_g F_1056 34 rfl) (hfr_g F_1056 35 rfl) (hfr_g F_1056 36 rfl)
  have g_1056_57 := (hfr_g F_1056 57 rfl).trans h57
  have g_1056_66 := (hfr_g F_1056 66 rfl).trans h66
  have g_1056_67 := (hfr_g F_1056 67 rfl).trans h67
  have g_1056_68 := (hfr_g F_1056 68 rfl).trans h68
  have g_1056_69 := (hfr_g F_1056 69 rfl).trans h69
  have g_1056_77 := (hfr_g F_1056 77 rfl).trans h77
  have g_1056_78 := (hfr_g F_1056 78 rfl).trans h78
  have g_1056_79 := (hfr_g F_1056 79 rfl).trans h79
  have g_1056_80 := (hfr_g F_1056 80 rfl).trans h80
  have g_1056_81 := (hfr_g F_1056 81 rfl).trans h81
  have g_1056_82 := (hfr_g F_1056 82 rfl).trans h82
  have g_1056_21 : mf_cr h_1056 21  := e_1056_21
  refine ⟨an_kpq kd p q pl t (mf_od (fun x => mx_w cnr gor chr s x) (pl - 1) kd p t.toNat q.toNat), rfl, ⟨k_1056, _, g_1056_66⟩, ?_⟩
  have gT_1056 := st_gT_t F_1056 (hdj_b rfl) gT
  have gC_1056 := st_gC_t F_1056 (hdj_b rfl) gC
  have gW_1056 := st_gW_t F_1056 (hdj_b rfl) gW
  have gM_1056 := st_gM_t F_1056 (hdj_b rfl) gM
  have gR_1056 := st_gR_t F_1056 (hdj_b rfl) gR
  have gL_1056 := st_gL_t F_1056 (hdj_b rfl) gL
  have gI_1056 := st_gI_t F_1056 (hdj_b rfl) gI
  have gJ_1056 := st_gJ_t F_1056 (hdj_b rfl) gJ
  have hC_1056 := st_hC_t F_1056 (hdj_b rfl) hC
  have hT_1056 := st_hT_t F_1056 (hdj_b rfl) hT
  have hM_1056 := st_hM_t F_1056 (hdj_b rfl) hM
  have hR_1056 := st_hR_t F_1056 (hdj_b rfl) hR
  have hL_1056 := st_hL_t F_1056 (hdj_b rfl) hL
  have hI_1056 := st_hI_t F_1056 (hdj_b rfl) hI
  refine ik_F_mono (rp_at (pl := pl) (f := fun j => ((0 :: 0 :: 0 :: 0 :: 0 :: 0 :: 0 :: mi :: sd :: 0 :: tn :: fp :: sc0 :: sc1 :: sc2 :: sc3 :: sc4 :: sc5 :: 0 :: 0 :: 0 :: 0 :: 0 :: 0 :: w24 :: 0 :: 0 :: 0 :: 0 :: 0 :: 0 :: 0 :: sb :: wa :: 0 :: 0 :: r :: 0 :: 0 :: 0 :: 0 :: 0 :: 0 :: []) : List Int).getD j 0) (s := s) (cn := cnr) (go := gor) (ch := chr) (gt := gt) (gd := gdd) (xs := xs) (ys := ys) (kd := kd) (p := p) (t := t) (q := q) f_pl f_s (fun x h0 h1 => by have := ((mx_al_rw f_rw f_al) x h0 h1).1; omega) (mx_rw_ch (mx_al_rw f_rw f_al)) (mx_rw_ok (mx_al_rw f_rw f_al) _) z_kd z_p z_t z_q g_1056_66 g_1056_67 n67 g_1056_68 n68 g_1056_69 n69 g_1056_77 n77 g_1056_78 n78 g_1056_79 n79 g_1056_80 n80 k_1056) ?_
  rintro v_1057 h_1057 ⟨w'_1057, gt'_1057, gd'_1057, xs'_1057, ys'_1057, er_1057, e_1057_66, e_1057_77, m_1057_77, e_1057_78, m_1057_78, e_1057_79, m_1057_79, e_1057_80, m_1057_80, F_1057⟩ <;> subst er_1057
  have k_1057 : cL h_1057 := F_1057.1.trans k_1056
  have g_1057_0 := (hfr_g F_1057 0 rfl).trans g_1056_0
  have g_1057_7 := (hfr_g F_1057 7 rfl).trans g_1056_7
  have g_1057_8 := (hfr_g F_1057 8 rfl).trans g_1056_8
  have g_1057_9 := (hfr_g F_1057 9 rfl).trans g_1056_9
  have g_1057_10 := (hfr_g F_1057 10 rfl).trans g_1056_10
  have g_1057_11 := (hfr_g F_1057 11 rfl).trans g_1056_11
  have g_1057_12 := (hfr_g F_1057 12 rfl).trans g_1056_12
  have g_1057_13 := (hfr_g F_1057 13 rfl).trans g_1056_13
  have g_1057_17 := (hfr_g F_1057 17 rfl).trans g_1056_17
  have g_1057_18 := (hfr_g F_1057 18 rfl).trans g_1056_18
  have g_1057_19 := (hfr_g F_1057 19 rfl).trans g_1056_19
  have g_1057_20 := (hfr_g F_1057 20 rfl).trans g_1056_20
  have g_1057_21 := mf_cr_f g_1056_21 (hfr_g F_1057 21 rfl) (hfr_g F_1057 22 rfl) (hfr_g F_1057 23 rfl) (hfr_g F_1057 24 rfl)
  have g_1057_33 := mf_cr_f g_1056_33 (hfr_g F_1057 33 rfl) (hfr_g F_1057 34 rfl) (hfr_g F_1057 35 rfl) (hfr_g F_1057 36 rfl)
  have g_1057_57 := (hfr_g F_1057 57 rfl).trans g_1056_57
  have g_1057_67 := (hfr_g F_1057 67 rfl).trans g_1056_67
  have g_1057_68 := (hfr_g F_1057 68 rfl).trans g_1056_68
  have g_1057_69 := (hfr_g F_1057 69 rfl).trans g_1056_69
  have g_1057_81 := (hfr_g F_1057 81 rfl).trans g_1056_81
  have g_1057_82 := (hfr_g F_1057 82 rfl).trans g_1056_82
  have g_1057_66 : cE h_1057 66 (.inr (10, (fI pl :: .ref 67 :: .ref 68 :: .ref 69 :: fI ((s : Nat) : Int) :: .ref 70 :: .ref 71 :: fI mi :: fI sd :: .ref 72 :: fI tn :: fI fp :: fI sc0 :: fJ sc1 :: fI sc2 :: fI sc3 :: fI sc4 :: fI sc5 :: .ref 73 :: .ref 74 :: .ref 75 :: .ref 76 :: .ref 77 :: .ref 78 :: fI w'_1057 :: .ref 79 :: .ref 80 :: .ref 81 :: .ref 82 :: .ref 83 :: .ref 84 :: .ref 85 :: fJ sb :: fJ wa :: .ref 86 :: .ref 87 :: fI r :: .ref 88 :: .ref 89 :: .ref 90 :: .ref 91 :: .ref 92 :: .ref 93 :: []))) := e_1057_66
  have g_1057_77 : cE h_1057 77 (.inl (.int, fA gt'_1057)) := e_1057_77
  have g_1057_78 : cE h_1057 78 (.inl (.int, fA gd'_1057)) := e_1057_78
  have g_1057_79 : cE h_1057 79 (.inl (.long, fL xs'_1057)) := e_1057_79
  have g_1057_80 : cE h_1057 80 (.inl (.long, fL ys'_1057)) := e_1057_80
  refine ⟨rfl, ?_⟩
  have gT_1057 := st_gT_t F_1057 (hdj_b rfl) gT_1056
  have gC_1057 := st_gC_t F_1057 (hdj_b rfl) gC_1056
  have gW_1057 := st_gW_t F_1057 (hdj_b rfl) gW_1056
  have gM_1057 := st_gM_t F_1057 (hdj_b rfl) gM_1056
  have gR_1057 := st_gR_t F_1057 (hdj_b rfl) gR_1056
  have gL_1057 := st_gL_t F_1057 (hdj_b rfl) gL_1056
  have gI_1057 := st_gI_t F_1057 (hdj_b rfl) gI_1056
  have gJ_1057 := st_gJ_t F_1057 (hdj_b rfl) gJ_1056
  have hC_1057 := st_hC_t F_1057 (hdj_b rfl) hC_1056
  have hT_1057 := st_hT_t F_1057 (hdj_b rfl) hT_1056
  have hM_1057 := st_hM_t F_1057 (hdj_b rfl) hM_1056
  have hR_1057 := st_hR_t F_1057 (hdj_b rfl) hR_1056
  have hL_1057 := st_hL_t F_1057 (hdj_b rfl) hL_1056
  have hI_1057 := st_hI_t F_1057 (hdj_b rfl) hI_1056
  intro C_ k_
  exact k_ tn fp pl mi sd ka pa fa kb pb fb xa xb r n0 n1 ga0 gm0 gd_0 gs0 g00 g01 g02 g03 g04 g05 gx0 gy0 ga1 gm1 gd_1 gs1 g10 g11 g12 g13 g14 g15 gx1 gy1 s T cn go ch wg wc we rp rt lr ci0 ci1 cnr gor chr T2 im f_pl f_s f_st f_cb f_cr f_rw f_al f_wy f_k f_p f_x (by first | exact st_m f_m | omega) f_sd f_r f_rr f_n f_l0 f_l1 f_tn f_t (st_I_K f_i0) (st_I_K f_i1) ⟨g_1057_0, g_1057_18, g_1057_57⟩ gT_1057 ⟨g_1057_7, g_1057_8, n8, g_1057_9, n9, g_1057_10, n10, g_1057_11, n11, g_1057_12, n12, g_1057_13, n13⟩ gC_1057 ⟨bo, la, lb, t0, t1, t2, t3, g_1057_17, g_1057_19, g_1057_20⟩ ⟨g_1057_21, g_1057_33⟩ gW_1057 gM_1057 gR_1057 gL_1057 gI_1057 gJ_1057 ⟨sc0, sc1, sc2, sc3, sc4, sc5, w'_1057, sb, wa, g_1057_66⟩ ⟨g_1057_67, n67, g_1057_68, n68, g_1057_69, n69⟩ hC_1057 hT_1057 ⟨gt'_1057, gd'_1057, xs'_1057, ys'_1057, r1, r2, g_1057_77, m_1057_77, g_1057_78, m_1057_78, g_1057_79, m_1057_79, g_1057_80, m_1057_80, g_1057_81, n81, g_1057_82, n82⟩ hM_1057 hR_1057 hL_1057 hI_1057 k_1057

set_option maxRecDepth 100000 in
theorem lk_kept {K : Nat} {h : List ik_E} (E : st_S K h) (hK : K ≤ 600) {kd : Int} {p : Int} {t : Int} (z_kd : -2147483648 ≤ kd ∧ kd < 2147483648) (z_p : -2147483648 ≤ p ∧ p < 2147483648) (z_t : -2147483648 ≤ t ∧ t < 2147483648)  : ik_F 98 [.ref 0, fI kd, fI p, fI t] h (fun rv h_q => ∃ o_ : Int, rv = [fI o_] ∧ (h_q.length = (94 : Nat) ∧ ∃ fs, h_q[66]? = some (.inr (10, fs))) ∧ ik_F 162 [.ref 66, fI kd, fI p, fI t] h_q (fun rv' h'' => rv' = [fI o_] ∧ st_S (K + 1) h'')) := by
  refine E _ ?_
  intro tn fp pl mi sd ka pa fa kb pb fb xa xb r n0 n1 ga0 gm0 gd_0 gs0 g00 g01 g02 g03 g04 g05 gx0 gy0 ga1 gm1 gd_1 gs1 g10 g11 g12 g13 g14 g15 gx1 gy1 s T cn go ch wg wc we rp rt lr ci0 ci1 cnr gor chr T2 im f_pl f_s f_st f_cb f_cr f_rw f_al f_wy f_k f_p f_x f_m f_sd f_r f_rr f_n f_l0 f_l1 f_tn f_t f_i0 f_i1 gA gT gB gC gS gV gW gM gR gL gI gJ hO hB hC hT hS hM hR hL hI hl
  replace f_cb := ik_hid_i f_cb
  replace f_cr := ik_hid_i f_cr
  replace f_p := ik_hid_i f_p
  replace f_x := ik_hid_i f_x
  obtain ⟨h0, h18, h57⟩ := gA
  obtain ⟨h7, h8, n8, h9, n9, h10, n10, h11, n11, h12, n12, h13, n13⟩ := gB
  obtain ⟨bo, la, lb, t0, t1, t2, t3, h17, h19, h20⟩ := gS
  obtain ⟨h21, h33⟩ := gV
  obtain ⟨sc0, sc1, sc2, sc3, sc4, sc5, w24, sb, wa, h66⟩ := hO
  obtain ⟨h67, n67, h68, n68, h69, n69⟩ := hB
  obtain ⟨gt, gdd, xs, ys, r1, r2, h77, n77, h78, n78, h79, n79, h80, n80, h81, n81, h82, n82⟩ := hS
  refine ik_F_mono (cp_kept (pl := pl) (s := s) (bo := bo) (wg := wg) (wc := wc) (we := we) (W := (fun x => mx_w cnr gor chr s x)) (B := mj_lost pl cn go) (kd := kd) (p := p) (t := t) f_pl (fun x h0 h1 => by have e := mx_al_w f_rw f_al s x h0 h1; exact e.symm ▸ f_wy x h0 h1) (mx_rw_ok (mx_al_rw f_rw f_al) _) (mj_lg_lt f_pl.2) z_kd z_p z_t h0 h7 h11 n11 h12 n12 h13 n13 h17 h18 h21 hl) ?_
  rintro v_1058 h_1058 ⟨er_1058, e_1058_21, F_1058⟩ <;> subst er_1058
  have k_1058 : cL h_1058 := F_1058.1.trans hl
  have g_1058_0 := (hfr_g F_1058 0 rfl).trans h0
  have g_1058_7 := (hfr_g F_1058 7 rfl).trans h7
  have g_1058_8 := (hfr_g F_1058 8 rfl).trans h8
  have g_1058_9 := (hfr_g F_1058 9 rfl).trans h9
  have g_1058_10 := (hfr_g F_1058 10 rfl).trans h10
  have g_1058_11 := (hfr_g F_1058 11 rfl).trans h11
  have g_1058_12 := (hfr_g F_1058 12 rfl).trans h12
  have g_1058_13 := (hfr_g F_1058 13 rfl).trans h13
  have g_1058_17 := (hfr_g F_1058 17 rfl).trans h17
  have g_1058_18 := (hfr_g F_1058 18 rfl).trans h18
  have g_1058_19 := (hfr_g F_1058 19 rfl).trans h19
  have g_1058_20 := (hfr_g F_1058 20 rfl).trans h20
  have g_1058_33 := mf_cr_f h33 (hfr_g F_1058 33 rfl) (hfr_g F_1058 34 rfl) (hfr_g F_1058 35 rfl) (hfr_g F_1058 36 rfl)
  have g_1058_57 := (hfr_g F_1058 57 rfl).trans h57
  have g_1058_66 := (hfr_g F_1058 66 rfl).trans h66
  have g_1058_67 := (hfr_g F_1058 67 rfl).trans h67
  have g_1058_68 := (hfr_g F_1058 68 rfl).trans h68
  have g_1058_69 := (hfr_g F_1058 69 rfl).trans h69
  have g_1058_77 := (hfr_g F_1058 77 rfl).trans h77
  have g_1058_78 := (hfr_g F_1058 78 rfl).trans h78
  have g_1058_79 := (hfr_g F_1058 79 rfl).trans h79
  have g_1058_80 := (hfr_g F_1058 80 rfl).trans h80
  have g_1058_81 := (hfr_g F_1058 81 rfl).trans h81
  have g_1058_82 := (hfr_g F_1058 82 rfl).trans h82
  have g_1058_21 : mf_cr h_1058 21  := e_1058_21
  refine ⟨an_kp kd p pl t (mf_ss (mj_lost pl cn go) (mf_od (fun x => mx_w cnr gor chr s x) (pl - 1) kd p t.toNat) pl.toNat), rfl, ⟨k_1058, _, g_1058_66⟩, ?_⟩
  have gT_1058 := st_gT_t F_1058 (hdj_b rfl) gT
  have gC_1058 := st_gC_t F_1058 (hdj_b rfl) gC
  have gW_1058 := st_gW_t F_1058 (hdj_b rfl) gW
  have gM_1058 := st_gM_t F_1058 (hdj_b rfl) gM
  have gR_1058 := st_gR_t F_1058 (hdj_b rfl) gR
  have gL_1058 := st_gL_t F_1058 (hdj_b rfl) gL
  have gI_1058 := st_gI_t F_1058 (hdj_b rfl) gI
  have gJ_1058 := st_gJ_t F_1058 (hdj_b rfl) gJ
  have hC_1058 := st_hC_t F_1058 (hdj_b rfl) hC
  have hT_1058 := st_hT_t F_1058 (hdj_b rfl) hT
  have hM_1058 := st_hM_t F_1058 (hdj_b rfl) hM
  have hR_1058 := st_hR_t F_1058 (hdj_b rfl) hR
  have hL_1058 := st_hL_t F_1058 (hdj_b rfl) hL
  have hI_1058 := st_hI_t F_1058 (hdj_b rfl) hI
  refine ik_F_mono (rp_kept (pl := pl) (f := fun j => ((0 :: 0 :: 0 :: 0 :: 0 :: 0 :: 0 :: mi :: sd :: 0 :: tn :: fp :: sc0 :: sc1 :: sc2 :: sc3 :: sc4 :: sc5 :: 0 :: 0 :: 0 :: 0 :: 0 :: 0 :: w24 :: 0 :: 0 :: 0 :: 0 :: 0 :: 0 :: 0 :: sb :: wa :: 0 :: 0 :: r :: 0 :: 0 :: 0 :: 0 :: 0 :: 0 :: []) : List Int).getD j 0) (s := s) (cn := cnr) (go := gor) (ch := chr) (gt := gt) (gd := gdd) (xs := xs) (ys := ys) (kd := kd) (p := p) (t := t) f_pl f_s (fun x h0 h1 => by have := ((mx_al_rw f_rw f_al) x h0 h1).1; omega) (mx_rw_ch (mx_al_rw f_rw f_al)) (mx_rw_ok (mx_al_rw f_rw f_al) _) (mx_al_rw f_rw f_al) z_kd z_p z_t g_1058_66 g_1058_67 n67 g_1058_68 n68 g_1058_69 n69 g_1058_77 n77 g_1058_78 n78 g_1058_79 n79 g_1058_80 n80 k_1058) ?_
  rintro v_1059 h_1059 ⟨w'_1059, gt'_1059, gd'_1059, xs'_1059, ys'_1059, er_1059, e_1059_66, e_1059_77, m_1059_77, e_1059_78, m_1059_78, e_1059_79, m_1059_79, e_1059_80, m_1059_80, F_1059⟩ <;> subst er_1059
  have k_1059 : cL h_1059 := F_1059.1.trans k_1058
  have g_1059_0 := (hfr_g F_1059 0 rfl).trans g_1058_0
  have g_1059_7 := (hfr_g F_1059 7 rfl).trans g_1058_7
  have g_1059_8 := (hfr_g F_1059 8 rfl).trans g_1058_8
  have g_1059_9 := (hfr_g F_1059 9 rfl).trans g_1058_9
  have g_1059_10 := (hfr_g F_1059 10 rfl).trans g_1058_10
  have g_1059_11 := (hfr_g F_1059 11 rfl).trans g_1058_11
  have g_1059_12 := (hfr_g F_1059 12 rfl).trans g_1058_12
  have g_1059_13 := (hfr_g F_1059 13 rfl).trans g_1058_13
  have g_1059_17 := (hfr_g F_1059 17 rfl).trans g_1058_17
  have g_1059_18 := (hfr_g F_1059 18 rfl).trans g_1058_18
  have g_1059_19 := (hfr_g F_1059 19 rfl).trans g_1058_19
  have g_1059_20 := (hfr_g F_1059 20 rfl).trans g_1058_20
  have g_1059_21 := mf_cr_f g_1058_21 (hfr_g F_1059 21 rfl) (hfr_g F_1059 22 rfl) (hfr_g F_1059 23 rfl) (hfr_g F_1059 24 rfl)
  have g_1059_33 := mf_cr_f g_1058_33 (hfr_g F_1059 33 rfl) (hfr_g F_1059 34 rfl) (hfr_g F_1059 35 rfl) (hfr_g F_1059 36 rfl)
  have g_1059_57 := (hfr_g F_1059 57 rfl).trans g_1058_57
  have g_1059_67 := (hfr_g F_1059 67 rfl).trans g_1058_67
  have g_1059_68 := (hfr_g F_1059 68 rfl).trans g_1058_68
  have g_1059_69 := (hfr_g F_1059 69 rfl).trans g_1058_69
  have g_1059_81 := (hfr_g F_1059 81 rfl).trans g_1058_81
  have g_1059_82 := (hfr_g F_1059 82 rfl).trans g_1058_82
  have g_1059_66 : cE h_1059 66 (.inr (10, (fI pl :: .ref 67 :: .ref 68 :: .ref 69 :: fI ((s : Nat) : Int) :: .ref 70 :: .ref 71 :: fI mi :: fI sd :: .ref 72 :: fI tn :: fI fp :: fI sc0 :: fJ sc1 :: fI sc2 :: fI sc3 :: fI sc4 :: fI sc5 :: .ref 73 :: .ref 74 :: .ref 75 :: .ref 76 :: .ref 77 :: .ref 78 :: fI w'_1059 :: .ref 79 :: .ref 80 :: .ref 81 :: .ref 82 :: .ref 83 :: .ref 84 :: .ref 85 :: fJ sb :: fJ wa :: .ref 86 :: .ref 87 :: fI r :: .ref 88 :: .ref 89 :: .ref 90 :: .ref 91 :: .ref 92 :: .ref 93 :: []))) := e_1059_66
  have g_1059_77 : cE h_1059 77 (.inl (.int, fA gt'_1059)) := e_1059_77
  have g_1059_78 : cE h_1059 78 (.inl (.int, fA gd'_1059)) := e_1059_78
  have g_1059_79 : cE h_1059 79 (.inl (.long, fL xs'_1059)) := e_1059_79
  have g_1059_80 : cE h_1059 80 (.inl (.long, fL ys'_1059)) := e_1059_80
  refine ⟨(congrArg (fun z => [fI z]) (by rw [mj_lost_al f_rw f_al])), ?_⟩
  have gT_1059 := st_gT_t F_1059 (hdj_b rfl) gT_1058
  have gC_1059 := st_gC_t F_1059 (hdj_b rfl) gC_1058
  have gW_1059 := st_gW_t F_1059 (hdj_b rfl) gW_1058
  have gM_1059 := st_gM_t F_1059 (hdj_b rfl) gM_1058
  have gR_1059 := st_gR_t F_1059 (hdj_b rfl) gR_1058
  have gL_1059 := st_gL_t F_1059 (hdj_b rfl) gL_1058
  have gI_1059 := st_gI_t F_1059 (hdj_b rfl) gI_1058
  have gJ_1059 := st_gJ_t F_1059 (hdj_b rfl) gJ_1058
  have hC_1059 := st_hC_t F_1059 (hdj_b rfl) hC_1058
  have hT_1059 := st_hT_t F_1059 (hdj_b rfl) hT_1058
  have hM_1059 := st_hM_t F_1059 (hdj_b rfl) hM_1058
  have hR_1059 := st_hR_t F_1059 (hdj_b rfl) hR_1058
  have hL_1059 := st_hL_t F_1059 (hdj_b rfl) hL_1058
  have hI_1059 := st_hI_t F_1059 (hdj_b rfl) hI_1058
  intro C_ k_
  exact k_ tn fp pl mi sd ka pa fa kb pb fb xa xb r n0 n1 ga0 gm0 gd_0 gs0 g00 g01 g02 g03 g04 g05 gx0 gy0 ga1 gm1 gd_1 gs1 g10 g11 g12 g13 g14 g15 gx1 gy1 s T cn go ch wg wc we rp rt lr ci0 ci1 cnr gor chr T2 im f_pl f_s f_st f_cb f_cr f_rw f_al f_wy f_k f_p f_x (by first | exact st_m f_m | omega) f_sd f_r f_rr f_n f_l0 f_l1 f_tn f_t (st_I_K f_i0) (st_I_K f_i1) ⟨g_1059_0, g_1059_18, g_1059_57⟩ gT_1059 ⟨g_1059_7, g_1059_8, n8, g_1059_9, n9, g_1059_10, n10, g_1059_11, n11, g_1059_12, n12, g_1059_13, n13⟩ gC_1059 ⟨bo, la, lb, t0, t1, t2, t3, g_1059_17, g_1059_19, g_1059_20⟩ ⟨g_1059_21, g_1059_33⟩ gW_1059 gM_1059 gR_1059 gL_1059 gI_1059 gJ_1059 ⟨sc0, sc1, sc2, sc3, sc4, sc5, w'_1059, sb, wa, g_1059_66⟩ ⟨g_1059_67, n67, g_1059_68, n68, g_1059_69, n69⟩ hC_1059 hT_1059 ⟨gt'_1059, gd'_1059, xs'_1059, ys'_1059, r1, r2, g_1059_77, m_1059_77, g_1059_78, m_1059_78, g_1059_79, m_1059_79, g_1059_80, m_1059_80, g_1059_81, n81, g_1059_82, n82⟩ hM_1059 hR_1059 hL_1059 hI_1059 k_1059

set_option maxRecDepth 100000 in
theorem lk_known {K : Nat} {h : List ik_E} (E : st_S K h) (hK : K ≤ 600) {kd : Int} {p : Int} {d : Int} (z_kd : -2147483648 ≤ kd ∧ kd < 2147483648) (z_p : -2147483648 ≤ p ∧ p < 2147483648) (z_d : -2147483648 ≤ d ∧ d < 2147483648)  : ik_F 99 [.ref 0, fI kd, fI p, fI d] h (fun rv h_q => ∃ o_ : Int, rv = [fI o_] ∧ (h_q.length = (94 : Nat) ∧ ∃ fs, h_q[66]? = some (.inr (10, fs))) ∧ ik_F 164 [.ref 66, fI kd, fI p, fI d] h_q (fun rv' h'' => rv' = [fI o_] ∧ st_S (K + 1) h'')) := by
  refine E _ ?_
  intro tn fp pl mi sd ka pa fa kb pb fb xa xb r n0 n1 ga0 gm0 gd_0 gs0 g00 g01 g02 g03 g04 g05 gx0 gy0 ga1 gm1 gd_1 gs1 g10 g11 g12 g13 g14 g15 gx1 gy1 s T cn go ch wg wc we rp rt lr ci0 ci1 cnr gor chr T2 im f_pl f_s f_st f_cb f_cr f_rw f_al f_wy f_k f_p f_x f_m f_sd f_r f_rr f_n f_l0 f_l1 f_tn f_t f_i0 f_i1 gA gT gB gC gS gV gW gM gR gL gI gJ hO hB hC hT hS hM hR hL hI hl
  replace f_cb := ik_hid_i f_cb
  replace f_cr := ik_hid_i f_cr
  replace f_p := ik_hid_i f_p
  replace f_x := ik_hid_i f_x
  obtain ⟨h0, h18, h57⟩ := gA
  obtain ⟨h7, h8, n8, h9, n9, h10, n10, h11, n11, h12, n12, h13, n13⟩ := gB
  obtain ⟨bo, la, lb, t0, t1, t2, t3, h17, h19, h20⟩ := gS
  obtain ⟨h21, h33⟩ := gV
  obtain ⟨h25, h29, h37, h41⟩ := gW
  obtain ⟨sc0, sc1, sc2, sc3, sc4, sc5, w24, sb, wa, h66⟩ := hO
  obtain ⟨h67, n67, h68, n68, h69, n69⟩ := hB
  obtain ⟨gt, gdd, xs, ys, r1, r2, h77, n77, h78, n78, h79, n79, h80, n80, h81, n81, h82, n82⟩ := hS
  refine ik_F_mono (cp_known (pl := pl) (lo := ((mj_lost pl cn go : Nat) : Int)) (s := s) (bo := bo) (wg := wg) (wc := wc) (we := we) (W := (fun x => mx_w cnr gor chr s x)) (kd := kd) (p := p) (d := d) f_pl (fun x h0 h1 => by have e := mx_al_w f_rw f_al s x h0 h1; exact e.symm ▸ f_wy x h0 h1) (mx_rw_ok (mx_al_rw f_rw f_al) _) z_kd z_p z_d h0 h7 h11 n11 h12 n12 h13 n13 h17 h18 h21 h25 hl) ?_
  rintro v_1060 h_1060 ⟨er_1060, e_1060_21, e_1060_25, F_1060⟩ <;> subst er_1060
  have k_1060 : cL h_1060 := F_1060.1.trans hl
  have g_1060_0 := (hfr_g F_1060 0 rfl).trans h0
  have g_1060_7 := (hfr_g F_1060 7 rfl).trans h7
  have g_1060_8 := (hfr_g F_1060 8 rfl).trans h8
  have g_1060_9 := (hfr_g F_1060 9 rfl).trans h9
  have g_1060_10 := (hfr_g F_1060 10 rfl).trans h10
  have g_1060_11 := (hfr_g F_1060 11 rfl).trans h11
  have g_1060_12 := (hfr_g F_1060 12 rfl).trans h12
  have g_1060_13 := (hfr_g F_1060 13 rfl).trans h13
  have g_1060_17 := (hfr_g F_1060 17 rfl).trans h17
  have g_1060_18 := (hfr_g F_1060 18 rfl).trans h18
  have g_1060_19 := (hfr_g F_1060 19 rfl).trans h19
  have g_1060_20 := (hfr_g F_1060 20 rfl).trans h20
  have g_1060_29 := mf_cr_f h29 (hfr_g F_1060 29 rfl) (hfr_g F_1060 30 rfl) (hfr_g F_1060 31 rfl) (hfr_g F_1060 32 rfl)
  have g_1060_33 := mf_cr_f h33 (hfr_g F_1060 33 rfl) (hfr_g F_1060 34 rfl) (hfr_g F_1060 35 rfl) (hfr_g F_1060 36 rfl)
  have g_1060_37 := mf_cr_f h37 (hfr_g F_1060 37 rfl) (hfr_g F_1060 38 rfl) (hfr_g F_1060 39 rfl) (hfr_g F_1060 40 rfl)
  have g_1060_41 := mf_cr_f h41 (hfr_g F_1060 41 rfl) (hfr_g F_1060 42 rfl) (hfr_g F_1060 43 rfl) (hfr_g F_1060 44 rfl)
  have g_1060_57 := (hfr_g F_1060 57 rfl).trans h57
  have g_1060_66 := (hfr_g F_1060 66 rfl).trans h66
  have g_1060_67 := (hfr_g F_1060 67 rfl).trans h67
  have g_1060_68 := (hfr_g F_1060 68 rfl).trans h68
  have g_1060_69 := (hfr_g F_1060 69 rfl).trans h69
  have g_1060_77 := (hfr_g F_1060 77 rfl).trans h77
  have g_1060_78 := (hfr_g F_1060 78 rfl).trans h78
  have g_1060_79 := (hfr_g F_1060 79 rfl).trans h79
  have g_1060_80 := (hfr_g F_1060 80 rfl).trans h80
  have g_1060_81 := (hfr_g F_1060 81 rfl).trans h81
  have g_1060_82 := (hfr_g F_1060 82 rfl).trans h82
  have g_1060_21 : mf_cr h_1060 21  := e_1060_21
  have g_1060_25 : mf_cr h_1060 25  := e_1060_25
  refine ⟨an_kpd kd p pl d (mk_kn (mf_cm (fun x => mx_w cnr gor chr s x) (pl - 1) kd p) (mf_cm (fun x => mx_w cnr gor chr s x) (pl - 1) 0 p) d 201 0), rfl, ⟨k_1060, _, g_1060_66⟩, ?_⟩
  have gT_1060 := st_gT_t F_1060 (hdj_b rfl) gT
  have gC_1060 := st_gC_t F_1060 (hdj_b rfl) gC
  have gM_1060 := st_gM_t F_1060 (hdj_b rfl) gM
  have gR_1060 := st_gR_t F_1060 (hdj_b rfl) gR
  have gL_1060 := st_gL_t F_1060 (hdj_b rfl) gL
  have gI_1060 := st_gI_t F_1060 (hdj_b rfl) gI
  have gJ_1060 := st_gJ_t F_1060 (hdj_b rfl) gJ
  have hC_1060 := st_hC_t F_1060 (hdj_b rfl) hC
  have hT_1060 := st_hT_t F_1060 (hdj_b rfl) hT
  have hM_1060 := st_hM_t F_1060 (hdj_b rfl) hM
  have hR_1060 := st_hR_t F_1060 (hdj_b rfl) hR
  have hL_1060 := st_hL_t F_1060 (hdj_b rfl) hL
  have hI_1060 := st_hI_t F_1060 (hdj_b rfl) hI
  refine ik_F_mono (rp_known (pl := pl) (f := fun j => ((0 :: 0 :: 0 :: 0 :: 0 :: 0 :: 0 :: mi :: sd :: 0 :: tn :: fp :: sc0 :: sc1 :: sc2 :: sc3 :: sc4 :: sc5 :: 0 :: 0 :: 0 :: 0 :: 0 :: 0 :: w24 :: 0 :: 0 :: 0 :: 0 :: 0 :: 0 :: 0 :: sb :: wa :: 0 :: 0 :: r :: 0 :: 0 :: 0 :: 0 :: 0 :: 0 :: []) : List Int).getD j 0) (s := s) (cn := cnr) (go := gor) (ch := chr) (gt := gt) (gd := gdd) (xs := xs) (ys := ys) (r1 := r1) (r2 := r2) (kd := kd) (p := p) (d := d) f_pl f_s (fun x h0 h1 => by have := ((mx_al_rw f_rw f_al) x h0 h1).1; omega) (mx_rw_ch (mx_al_rw f_rw f_al)) (mx_rw_ok (mx_al_rw f_rw f_al) _) z_kd z_p z_d g_1060_66 g_1060_67 n67 g_1060_68 n68 g_1060_69 n69 g_1060_77 n77 g_1060_78 n78 g_1060_79 n79 g_1060_80 n80 g_1060_81 n81 g_1060_82 n82 k_1060) ?_
  rintro v_1061 h_1061 ⟨w'_1061, gt'_1061, gd'_1061, xs'_1061, ys'_1061, r1'_1061, r2'_1061, er_1061, e_1061_66, e_1061_77, m_1061_77, e_1061_78, m_1061_78, e_1061_79, m_1061_79, e_1061_80, m_1061_80, e_1061_81, m_1061_81, e_1061_82, m_1061_82, F_1061⟩ <;> subst er_1061
  have k_1061 : cL h_1061 := F_1061.1.trans k_1060
  have g_1061_0 := (hfr_g F_1061 0 rfl).trans g_1060_0
  have g_1061_7 := (hfr_g F_1061 7 rfl).trans g_1060_7
  have g_1061_8 := (hfr_g F_1061 8 rfl).trans g_1060_8
  have g_1061_9 := (hfr_g F_1061 9 rfl).trans g_1060_9
  have g_1061_10 := (hfr_g F_1061 10 rfl).trans g_1060_10
  have g_1061_11 := (hfr_g F_1061 11 rfl).trans g_1060_11
  have g_1061_12 := (hfr_g F_1061 12 rfl).trans g_1060_12
  have g_1061_13 := (hfr_g F_1061 13 rfl).trans g_1060_13
  have g_1061_17 := (hfr_g F_1061 17 rfl).trans g_1060_17
  have g_1061_18 := (hfr_g F_1061 18 rfl).trans g_1060_18
  have g_1061_19 := (hfr_g F_1061 19 rfl).trans g_1060_19
  have g_1061_20 := (hfr_g F_1061 20 rfl).trans g_1060_20
  have g_1061_21 := mf_cr_f g_1060_21 (hfr_g F_1061 21 rfl) (hfr_g F_1061 22 rfl) (hfr_g F_1061 23 rfl) (hfr_g F_1061 24 rfl)
  have g_1061_25 := mf_cr_f g_1060_25 (hfr_g F_1061 25 rfl) (hfr_g F_1061 26 rfl) (hfr_g F_1061 27 rfl) (hfr_g F_1061 28 rfl)
  have g_1061_29 := mf_cr_f g_1060_29 (hfr_g F_1061 29 rfl) (hfr_g F_1061 30 rfl) (hfr_g F_1061 31 rfl) (hfr_g F_1061 32 rfl)
  have g_1061_33 := mf_cr_f g_1060_33 (hfr_g F_1061 33 rfl) (hfr_g F_1061 34 rfl) (hfr_g F_1061 35 rfl) (hfr_g F_1061 36 rfl)
  have g_1061_37 := mf_cr_f g_1060_37 (hfr_g F_1061 37 rfl) (hfr_g F_1061 38 rfl) (hfr_g F_1061 39 rfl) (hfr_g F_1061 40 rfl)
  have g_1061_41 := mf_cr_f g_1060_41 (hfr_g F_1061 41 rfl) (hfr_g F_1061 42 rfl) (hfr_g F_1061 43 rfl) (hfr_g F_1061 44 rfl)
  have g_1061_57 := (hfr_g F_1061 57 rfl).trans g_1060_57
  have g_1061_67 := (hfr_g F_1061 67 rfl).trans g_1060_67
  have g_1061_68 := (hfr_g F_1061 68 rfl).trans g_1060_68
  have g_1061_69 := (hfr_g F_1061 69 rfl).trans g_1060_69
  have g_1061_66 : cE h_1061 66 (.inr (10, (fI pl :: .ref 67 :: .ref 68 :: .ref 69 :: fI ((s : Nat) : Int) :: .ref 70 :: .ref 71 :: fI mi :: fI sd :: .ref 72 :: fI tn :: fI fp :: fI sc0 :: fJ sc1 :: fI sc2 :: fI sc3 :: fI sc4 :: fI sc5 :: .ref 73 :: .ref 74 :: .ref 75 :: .ref 76 :: .ref 77 :: .ref 78 :: fI w'_1061 :: .ref 79 :: .ref 80 :: .ref 81 :: .ref 82 :: .ref 83 :: .ref 84 :: .ref 85 :: fJ sb :: fJ wa :: .ref 86 :: .ref 87 :: fI r :: .ref 88 :: .ref 89 :: .ref 90 :: .ref 91 :: .ref 92 :: .ref 93 :: []))) := e_1061_66
  have g_1061_77 : cE h_1061 77 (.inl (.int, fA gt'_1061)) := e_1061_77
  have g_1061_78 : cE h_1061 78 (.inl (.int, fA gd'_1061)) := e_1061_78
  have g_1061_79 : cE h_1061 79 (.inl (.long, fL xs'_1061)) := e_1061_79
  have g_1061_80 : cE h_1061 80 (.inl (.long, fL ys'_1061)) := e_1061_80
  have g_1061_81 : cE h_1061 81 (.inl (.long, fL r1'_1061)) := e_1061_81
  have g_1061_82 : cE h_1061 82 (.inl (.long, fL r2'_1061)) := e_1061_82
  refine ⟨rfl, ?_⟩
  have gT_1061 := st_gT_t F_1061 (hdj_b rfl) gT_1060
  have gC_1061 := st_gC_t F_1061 (hdj_b rfl) gC_1060
  have gM_1061 := st_gM_t F_1061 (hdj_b rfl) gM_1060
  have gR_1061 := st_gR_t F_1061 (hdj_b rfl) gR_1060
  have gL_1061 := st_gL_t F_1061 (hdj_b rfl) gL_1060
  have gI_1061 := st_gI_t F_1061 (hdj_b rfl) gI_1060
  have gJ_1061 := st_gJ_t F_1061 (hdj_b rfl) gJ_1060
  have hC_1061 := st_hC_t F_1061 (hdj_b rfl) hC_1060
  have hT_1061 := st_hT_t F_1061 (hdj_b rfl) hT_1060
  have hM_1061 := st_hM_t F_1061 (hdj_b rfl) hM_1060
  have hR_1061 := st_hR_t F_1061 (hdj_b rfl) hR_1060
  have hL_1061 := st_hL_t F_1061 (hdj_b rfl) hL_1060
  have hI_1061 := st_hI_t F_1061 (hdj_b rfl) hI_1060
  intro C_ k_
  exact k_ tn fp pl mi sd ka pa fa kb pb fb xa xb r n0 n1 ga0 gm0 gd_0 gs0 g00 g01 g02 g03 g04 g05 gx0 gy0 ga1 gm1 gd_1 gs1 g10 g11 g12 g13 g14 g15 gx1 gy1 s T cn go ch wg wc we rp rt lr ci0 ci1 cnr gor chr T2 im f_pl f_s f_st f_cb f_cr f_rw f_al f_wy f_k f_p f_x (by first | exact st_m f_m | omega) f_sd f_r f_rr f_n f_l0 f_l1 f_tn f_t (st_I_K f_i0) (st_I_K f_i1) ⟨g_1061_0, g_1061_18, g_1061_57⟩ gT_1061 ⟨g_1061_7, g_1061_8, n8, g_1061_9, n9, g_1061_10, n10, g_1061_11, n11, g_1061_12, n12, g_1061_13, n13⟩ gC_1061 ⟨bo, la, lb, t0, t1, t2, t3, g_1061_17, g_1061_19, g_1061_20⟩ ⟨g_1061_21, g_1061_33⟩ ⟨g_1061_25, g_1061_29, g_1061_37, g_1061_41⟩ gM_1061 gR_1061 gL_1061 gI_1061 gJ_1061 ⟨sc0, sc1, sc2, sc3, sc4, sc5, w'_1061, sb, wa, g_1061_66⟩ ⟨g_1061_67, n67, g_1061_68, n68, g_1061_69, n69⟩ hC_1061 hT_1061 ⟨gt'_1061, gd'_1061, xs'_1061, ys'_1061, r1'_1061, r2'_1061, g_1061_77, m_1061_77, g_1061_78, m_1061_78, g_1061_79, m_1061_79, g_1061_80, m_1061_80, g_1061_81, m_1061_81, g_1061_82, m_1061_82⟩ hM_1061 hR_1061 hL_1061 hI_1061 k_1061

set_option maxRecDepth 100000 in
theorem lk_later0 {K : Nat} {h : List ik_E} (E : st_S K h) (hK : K ≤ 600)    : ik_F 100 [.ref 0, fI 0] h (fun rv h_q => ∃ o_ : Int, rv = [fI o_] ∧ (h_q.length = (94 : Nat) ∧ ∃ fs, h_q[66]? = some (.inr (10, fs))) ∧ ik_F 170 [.ref 66, fI 0] h_q (fun rv' h'' => rv' = [fI o_] ∧ st_S (K + 1) h'')) := by
  refine E _ ?_
  intro tn fp pl mi sd ka pa fa kb pb fb xa xb r n0 n1 ga0 gm0 gd_0 gs0 g00 g01 g02 g03 g04 g05 gx0 gy0 ga1 gm1 gd_1 gs1 g10 g11 g12 g13 g14 g15 gx1 gy1 s T cn go ch wg wc we rp rt lr ci0 ci1 cnr gor chr T2 im f_pl f_s f_st f_cb f_cr f_rw f_al f_wy f_k f_p f_x f_m f_sd f_r f_rr f_n f_l0 f_l1 f_tn f_t f_i0 f_i1 gA gT gB gC gS gV gW gM gR gL gI gJ hO hB hC hT hS hM hR hL hI hl
  replace f_cb := ik_hid_i f_cb
  replace f_cr := ik_hid_i f_cr
  replace f_p := ik_hid_i f_p
  replace f_x := ik_hid_i f_x
  obtain ⟨h0, h18, h57⟩ := gA
  obtain ⟨h7, h8, n8, h9, n9, h10, n10, h11, n11, h12, n12, h13, n13⟩ := gB
  obtain ⟨h14, h15, h16⟩ := gC
  obtain ⟨bo, la, lb, t0, t1, t2, t3, h17, h19, h20⟩ := gS
  obtain ⟨h21, h33⟩ := gV
  obtain ⟨sc0, sc1, sc2, sc3, sc4, sc5, w24, sb, wa, h66⟩ := hO
  obtain ⟨h67, n67, h68, n68, h69, n69⟩ := hB
  obtain ⟨h70, h71⟩ := hC
  obtain ⟨gt, gdd, xs, ys, r1, r2, h77, n77, h78, n78, h79, n79, h80, n80, h81, n81, h82, n82⟩ := hS
  refine ik_F_mono (cp_later0 (pl := pl) (lo := ((mj_lost pl cn go : Nat) : Int)) (s := s) (bo := bo) (wg := wg) (wc := wc) (we := we) (W := (fun x => mx_w cnr gor chr s x)) (ka := ka) (pa := pa) (fa := fa) (kb := kb) (pb := pb) (fb := fb) (la := la) (lb := lb) f_pl (fun x h0 h1 => by have e := mx_al_w f_rw f_al s x h0 h1; exact e.symm ▸ f_wy x h0 h1) (mx_rw_ok (mx_al_rw f_rw f_al) _) (fun w => (f_p w).1) (fun w => (f_p w).2) ⟨f_k.1.1, f_k.1.2, f_k.2.1.1, f_k.2.1.2⟩ ⟨f_k.2.2.1.1, f_k.2.2.1.2, f_k.2.2.2.1.1, f_k.2.2.2.1.2⟩ h0 h7 h11 n11 h12 n12 h13 n13 h17 h18 h15 h19 h21 h33 hl) ?_
  rintro v_1062 h_1062 ⟨l0_1062, l1_1062, l2_1062, er_1062, e_1062_17, e_1062_19, e_1062_21, e_1062_33, F_1062⟩ <;> subst er_1062
  have k_1062 : cL h_1062 := F_1062.1.trans hl
  have g_1062_0 := (hfr_g F_1062 0 rfl).trans h0
  have g_1062_7 := (hfr_g F_1062 7 rfl).trans h7
  have g_1062_8 := (hfr_g F_1062 8 rfl).trans h8
  have g_1062_9 := (hfr_g F_1062 9 rfl).trans h9
  have g_1062_10 := (hfr_g F_1062 10 rfl).trans h10
  have g_1062_11 := (hfr_g F_1062 11 rfl).trans h11
  have g_1062_12 := (hfr_g F_1062 12 rfl).trans h12
  have g_1062_13 := (hfr_g F_1062 13 rfl).trans h13
  have g_1062_14 := (hfr_g F_1062 14 rfl).trans h14
  have g_1062_15 := (hfr_g F_1062 15 rfl).trans h15
  have g_1062_16 := (hfr_g F_1062 16 rfl).trans h16
  have g_1062_18 := (hfr_g F_1062 18 rfl).trans h18
  have g_1062_20 := (hfr_g F_1062 20 rfl).trans h20
  have g_1062_57 := (hfr_g F_1062 57 rfl).trans h57
  have g_1062_66 := (hfr_g F_1062 66 rfl).trans h66
  have g_1062_67 := (hfr_g F_1062 67 rfl).trans h67
  have g_1062_68 := (hfr_g F_1062 68 rfl).trans h68
  have g_1062_69 := (hfr_g F_1062 69 rfl).trans h69
  have g_1062_70 := (hfr_g F_1062 70 rfl).trans h70
  have g_1062_71 := (hfr_g F_1062 71 rfl).trans h71
  have g_1062_77 := (hfr_g F_1062 77 rfl).trans h77
  have g_1062_78 := (hfr_g F_1062 78 rfl).trans h78
  have g_1062_79 := (hfr_g F_1062 79 rfl).trans h79
  have g_1062_80 := (hfr_g F_1062 80 rfl).trans h80
  have g_1062_81 := (hfr_g F_1062 81 rfl).trans h81
  have g_1062_82 := (hfr_g F_1062 82 rfl).trans h82
  have g_1062_17 : cE h_1062 17 (.inr (8, [.ref 7, .ref 15, .ref 18, .ref 19, fJ l2_1062, .ref 20])) := e_1062_17
  have g_1062_19 : cE h_1062 19 (.inl (.long, fL [l0_1062, l1_1062])) := e_1062_19
  have g_1062_21 : mf_cr h_1062 21  := e_1062_21
  have g_1062_33 : mf_cr h_1062 33  := e_1062_33
  refine ⟨an_la 0 pl (mr_w (mf_cm (fun x => mx_w cnr gor chr s x) (pl - 1) ka pa) fa (mf_cm (fun x => mx_w cnr gor chr s x) (pl - 1) kb pb) fb 0), rfl, ⟨k_1062, _, g_1062_66⟩, ?_⟩
  have gT_1062 := st_gT_t F_1062 (hdj_b rfl) gT
  have gW_1062 := st_gW_t F_1062 (hdj_b rfl) gW
  have gM_1062 := st_gM_t F_1062 (hdj_b rfl) gM
  have gR_1062 := st_gR_t F_1062 (hdj_b rfl) gR
  have gL_1062 := st_gL_t F_1062 (hdj_b rfl) gL
  have gI_1062 := st_gI_t F_1062 (hdj_b rfl) gI
  have gJ_1062 := st_gJ_t F_1062 (hdj_b rfl) gJ
  have hT_1062 := st_hT_t F_1062 (hdj_b rfl) hT
  have hM_1062 := st_hM_t F_1062 (hdj_b rfl) hM
  have hR_1062 := st_hR_t F_1062 (hdj_b rfl) hR
  have hL_1062 := st_hL_t F_1062 (hdj_b rfl) hL
  have hI_1062 := st_hI_t F_1062 (hdj_b rfl) hI
  refine ik_F_mono (rp_later (pl := pl) (f := fun j => ((0 :: 0 :: 0 :: 0 :: 0 :: 0 :: 0 :: mi :: sd :: 0 :: tn :: fp :: sc0 :: sc1 :: sc2 :: sc3 :: sc4 :: sc5 :: 0 :: 0 :: 0 :: 0 :: 0 :: 0 :: w24 :: 0 :: 0 :: 0 :: 0 :: 0 :: 0 :: 0 :: sb :: wa :: 0 :: 0 :: r :: 0 :: 0 :: 0 :: 0 :: 0 :: 0 :: []) : List Int).getD j 0) (s := s) (cn := cnr) (go := gor) (ch := chr) (gt := gt) (gd := gdd) (xs := xs) (ys := ys) (ka := ka) (pa := pa) (fa := fa) (kb := kb) (pb := pb) (fb := fb) (r1 := r1) (r2 := r2) (what := 0) f_pl f_s (fun x h0 h1 => by have := ((mx_al_rw f_rw f_al) x h0 h1).1; omega) (mx_rw_ch (mx_al_rw f_rw f_al)) (mx_rw_ok (mx_al_rw f_rw f_al) _) f_k.1 f_k.2.1 (fun w => (f_p w).1) (fun w => (f_p w).2) f_k.2.2.1 f_k.2.2.2.1 (by decide +kernel) g_1062_66 g_1062_67 n67 g_1062_68 n68 g_1062_69 n69 g_1062_77 n77 g_1062_78 n78 g_1062_79 n79 g_1062_80 n80 g_1062_70 g_1062_81 n81 g_1062_82 n82 k_1062) ?_
  rintro v_1063 h_1063 ⟨w'_1063, gt'_1063, gd'_1063, xs'_1063, ys'_1063, r1'_1063, r2'_1063, er_1063, e_1063_66, e_1063_77, m_1063_77, e_1063_78, m_1063_78, e_1063_79, m_1063_79, e_1063_80, m_1063_80, e_1063_81, m_1063_81, e_1063_82, m_1063_82, F_1063⟩ <;> subst er_1063
  have k_1063 : cL h_1063 := F_1063.1.trans k_1062
  have g_1063_0 := (hfr_g F_1063 0 rfl).trans g_1062_0
  have g_1063_7 := (hfr_g F_1063 7 rfl).trans g_1062_7
  have g_1063_8 := (hfr_g F_1063 8 rfl).trans g_1062_8
  have g_1063_9 := (hfr_g F_1063 9 rfl).trans g_1062_9
  have g_1063_10 := (hfr_g F_1063 10 rfl).trans g_1062_10
  have g_1063_11 := (hfr_g F_1063 11 rfl).trans g_1062_11
  have g_1063_12 := (hfr_g F_1063 12 rfl).trans g_1062_12
  have g_1063_13 := (hfr_g F_1063 13 rfl).trans g_1062_13
  have g_1063_14 := (hfr_g F_1063 14 rfl).trans g_1062_14
  have g_1063_15 := (hfr_g F_1063 15 rfl).trans g_1062_15
  have g_1063_16 := (hfr_g F_1063 16 rfl).trans g_1062_16
  have g_1063_17 := (hfr_g F_1063 17 rfl).trans g_1062_17
  have g_1063_18 := (hfr_g F_1063 18 rfl).trans g_1062_18
  have g_1063_19 := (hfr_g F_1063 19 rfl).trans g_1062_19
  have g_1063_20 := (hfr_g F_1063 20 rfl).trans g_1062_20
  have g_1063_21 := mf_cr_f g_1062_21 (hfr_g F_1063 21 rfl) (hfr_g F_1063 22 rfl) (hfr_g F_1063 23 rfl) (hfr_g F_1063 24 rfl)
  have g_1063_33 := mf_cr_f g_1062_33 (hfr_g F_1063 33 rfl) (hfr_g F_1063 34 rfl) (hfr_g F_1063 35 rfl) (hfr_g F_1063 36 rfl)
  have g_1063_57 := (hfr_g F_1063 57 rfl).trans g_1062_57
  have g_1063_67 := (hfr_g F_1063 67 rfl).trans g_1062_67
  have g_1063_68 := (hfr_g F_1063 68 rfl).trans g_1062_68
  have g_1063_69 := (hfr_g F_1063 69 rfl).trans g_1062_69
  have g_1063_70 := (hfr_g F_1063 70 rfl).trans g_1062_70
  have g_1063_71 := (hfr_g F_1063 71 rfl).trans g_1062_71
  have g_1063_66 : cE h_1063 66 (.inr (10, (fI pl :: .ref 67 :: .ref 68 :: .ref 69 :: fI ((s : Nat) : Int) :: .ref 70 :: .ref 71 :: fI mi :: fI sd :: .ref 72 :: fI tn :: fI fp :: fI sc0 :: fJ sc1 :: fI sc2 :: fI sc3 :: fI sc4 :: fI sc5 :: .ref 73 :: .ref 74 :: .ref 75 :: .ref 76 :: .ref 77 :: .ref 78 :: fI w'_1063 :: .ref 79 :: .ref 80 :: .ref 81 :: .ref 82 :: .ref 83 :: .ref 84 :: .ref 85 :: fJ sb :: fJ wa :: .ref 86 :: .ref 87 :: fI r :: .ref 88 :: .ref 89 :: .ref 90 :: .ref 91 :: .ref 92 :: .ref 93 :: []))) := e_1063_66
  have g_1063_77 : cE h_1063 77 (.inl (.int, fA gt'_1063)) := e_1063_77
  have g_1063_78 : cE h_1063 78 (.inl (.int, fA gd'_1063)) := e_1063_78
  have g_1063_79 : cE h_1063 79 (.inl (.long, fL xs'_1063)) := e_1063_79
  have g_1063_80 : cE h_1063 80 (.inl (.long, fL ys'_1063)) := e_1063_80
  have g_1063_81 : cE h_1063 81 (.inl (.long, fL r1'_1063)) := e_1063_81
  have g_1063_82 : cE h_1063 82 (.inl (.long, fL r2'_1063)) := e_1063_82
  refine ⟨rfl, ?_⟩
  have gT_1063 := st_gT_t F_1063 (hdj_b rfl) gT_1062
  have gW_1063 := st_gW_t F_1063 (hdj_b rfl) gW_1062
  have gM_1063 := st_gM_t F_1063 (hdj_b rfl) gM_1062
  have gR_1063 := st_gR_t F_1063 (hdj_b rfl) gR_1062
  have gL_1063 := st_gL_t F_1063 (hdj_b rfl) gL_1062
  have gI_1063 := st_gI_t F_1063 (hdj_b rfl) gI_1062
  have gJ_1063 := st_gJ_t F_1063 (hdj_b rfl) gJ_1062
  have hT_1063 := st_hT_t F_1063 (hdj_b rfl) hT_1062
  have hM_1063 := st_hM_t F_1063 (hdj_b rfl) hM_1062
  have hR_1063 := st_hR_t F_1063 (hdj_b rfl) hR_1062
  have hL_1063 := st_hL_t F_1063 (hdj_b rfl) hL_1062
  have hI_1063 := st_hI_t F_1063 (hdj_b rfl) hI_1062
  intro C_ k_
  exact k_ tn fp pl mi sd ka pa fa kb pb fb xa xb r n0 n1 ga0 gm0 gd_0 gs0 g00 g01 g02 g03 g04 g05 gx0 gy0 ga1 gm1 gd_1 gs1 g10 g11 g12 g13 g14 g15 gx1 gy1 s T cn go ch wg wc we rp rt lr ci0 ci1 cnr gor chr T2 im f_pl f_s f_st f_cb f_cr f_rw f_al f_wy f_k f_p f_x (by first | exact st_m f_m | omega) f_sd f_r f_rr f_n f_l0 f_l1 f_tn f_t (st_I_K f_i0) (st_I_K f_i1) ⟨g_1063_0, g_1063_18, g_1063_57⟩ gT_1063 ⟨g_1063_7, g_1063_8, n8, g_1063_9, n9, g_1063_10, n10, g_1063_11, n11, g_1063_12, n12, g_1063_13, n13⟩ ⟨g_1063_14, g_1063_15, g_1063_16⟩ ⟨l2_1062, l0_1062, l1_1062, t0, t1, t2, t3, g_1063_17, g_1063_19, g_1063_20⟩ ⟨g_1063_21, g_1063_33⟩ gW_1063 gM_1063 gR_1063 gL_1063 gI_1063 gJ_1063 ⟨sc0, sc1, sc2, sc3, sc4, sc5, w'_1063, sb, wa, g_1063_66⟩ ⟨g_1063_67, n67, g_1063_68, n68, g_1063_69, n69⟩ ⟨g_1063_70, g_1063_71⟩ hT_1063 ⟨gt'_1063, gd'_1063, xs'_1063, ys'_1063, r1'_1063, r2'_1063, g_1063_77, m_1063_77, g_1063_78, m_1063_78, g_1063_79, m_1063_79, g_1063_80, m_1063_80, g_1063_81, m_1063_81, g_1063_82, m_1063_82⟩ hM_1063 hR_1063 hL_1063 hI_1063 k_1063

set_option maxRecDepth 100000 in
theorem lk_later1 {K : Nat} {h : List ik_E} (E : st_S K h) (hK : K ≤ 600)    : ik_F 100 [.ref 0, fI 1] h (fun rv h_q => ∃ o_ : Int, rv = [fI o_] ∧ (h_q.length = (94 : Nat) ∧ ∃ fs, h_q[66]? = some (.inr (10, fs))) ∧ ik_F 170 [.ref 66, fI 1] h_q (fun rv' h'' => rv' = [fI o_] ∧ st_S (K + 1) h'')) := by
  refine E _ ?_
  intro tn fp pl mi sd ka pa fa kb pb fb xa xb r n0 n1 ga0 gm0 gd_0 gs0 g00 g01 g02 g03 g04 g05 gx0 gy0 ga1 gm1 gd_1 gs1 g10 g11 g12 g13 g14 g15 gx1 gy1 s T cn go ch wg wc we rp rt lr ci0 ci1 cnr gor chr T2 im f_pl f_s f_st f_cb f_cr f_rw f_al f_wy f_k f_p f_x f_m f_sd f_r f_rr f_n f_l0 f_l1 f_tn f_t f_i0 f_i1 gA gT gB gC gS gV gW gM gR gL gI gJ hO hB hC hT hS hM hR hL hI hl
  replace f_cb := ik_hid_i f_cb
  replace f_cr := ik_hid_i f_cr
  replace f_p := ik_hid_i f_p
  replace f_x := ik_hid_i f_x
  obtain ⟨h0, h18, h57⟩ := gA
  obtain ⟨h7, h8, n8, h9, n9, h10, n10, h11, n11, h12, n12, h13, n13⟩ := gB
  obtain ⟨h14, h15, h16⟩ := gC
  obtain ⟨bo, la, lb, t0, t1, t2, t3, h17, h19, h20⟩ := gS
  obtain ⟨h21, h33⟩ := gV
  obtain ⟨sc0, sc1, sc2, sc3, sc4, sc5, w24, sb, wa, h66⟩ := hO
  obtain ⟨h67, n67, h68, n68, h69, n69⟩ := hB
  obtain ⟨h70, h71⟩ := hC
  obtain ⟨gt, gdd, xs, ys, r1, r2, h77, n77, h78, n78, h79, n79, h80, n80, h81, n81, h82, n82⟩ := hS
  refine ik_F_mono (cp_later1 (pl := pl) (lo := ((mj_lost pl cn go : Nat) : Int)) (s := s) (bo := bo) (wg := wg) (wc := wc) (we := we) (W := (fun x => mx_w cnr gor chr s x)) (ka := ka) (pa := pa) (fa := fa) (kb := kb) (pb := pb) (fb := fb) (la := la) (lb := lb) f_pl (fun x h0 h1 => by have e := mx_al_w f_rw f_al s x h0 h1; exact e.symm ▸ f_wy x h0 h1) (mx_rw_ok (mx_al_rw f_rw f_al) _) (fun w => (f_p w).1) (fun w => (f_p w).2) ⟨f_k.1.1, f_k.1.2, f_k.2.1.1, f_k.2.1.2⟩ ⟨f_k.2.2.1.1, f_k.2.2.1.2, f_k.2.2.2.1.1, f_k.2.2.2.1.2⟩ h0 h7 h11 n11 h12 n12 h13 n13 h17 h18 h15 h19 h21 h33 hl) ?_
  rintro v_1064 h_1064 ⟨l0_1064, l1_1064, l2_1064, er_1064, e_1064_17, e_1064_19, e_1064_21, e_1064_33, F_1064⟩ <;> subst er_1064
  have k_1064 : cL h_1064 := F_1064.1.trans hl
  have g_1064_0 := (hfr_g F_1064 0 rfl).trans h0
  have g_1064_7 := (hfr_g F_1064 7 rfl).trans h7
  have g_1064_8 := (hfr_g F_1064 8 rfl).trans h8
  have g_1064_9 := (hfr_g F_1064 9 rfl).trans h9
  have g_1064_10 := (hfr_g F_1064 10 rfl).trans h10
  have g_1064_11 := (hfr_g F_1064 11 rfl).trans h11
  have g_1064_12 := (hfr_g F_1064 12 rfl).trans h12
  have g_1064_13 := (hfr_g F_1064 13 rfl).trans h13
  have g_1064_14 := (hfr_g F_1064 14 rfl).trans h14
  have g_1064_15 := (hfr_g F_1064 15 rfl).trans h15
  have g_1064_16 := (hfr_g F_1064 16 rfl).trans h16
  have g_1064_18 := (hfr_g F_1064 18 rfl).trans h18
  have g_1064_20 := (hfr_g F_1064 20 rfl).trans h20
  have g_1064_57 := (hfr_g F_1064 57 rfl).trans h57
  have g_1064_66 := (hfr_g F_1064 66 rfl).trans h66
  have g_1064_67 := (hfr_g F_1064 67 rfl).trans h67
  have g_1064_68 := (hfr_g F_1064 68 rfl).trans h68
  have g_1064_69 := (hfr_g F_1064 69 rfl).trans h69
  have g_1064_70 := (hfr_g F_1064 70 rfl).trans h70
  have g_1064_71 := (hfr_g F_1064 71 rfl).trans h71
  have g_1064_77 := (hfr_g F_1064 77 rfl).trans h77
  have g_1064_78 := (hfr_g F_1064 78 rfl).trans h78
  have g_1064_79 := (hfr_g F_1064 79 rfl).trans h79
  have g_1064_80 := (hfr_g F_1064 80 rfl).trans h80
  have g_1064_81 := (hfr_g F_1064 81 rfl).trans h81
  have g_1064_82 := (hfr_g F_1064 82 rfl).trans h82
  have g_1064_17 : cE h_1064 17 (.inr (8, [.ref 7, .ref 15, .ref 18, .ref 19, fJ l2_1064, .ref 20])) := e_1064_17
  have g_1064_19 : cE h_1064 19 (.inl (.long, fL [l0_1064, l1_1064])) := e_1064_19
  have g_1064_21 : mf_cr h_1064 21  := e_1064_21
  have g_1064_33 : mf_cr h_1064 33  := e_1064_33
  refine ⟨an_la 1 pl (mr_w (mf_cm (fun x => mx_w cnr gor chr s x) (pl - 1) ka pa) fa (mf_cm (fun x => mx_w cnr gor chr s x) (pl - 1) kb pb) fb 1), rfl, ⟨k_1064, _, g_1064_66⟩, ?_⟩
  have gT_1064 := st_gT_t F_1064 (hdj_b rfl) gT
  have gW_1064 := st_gW_t F_1064 (hdj_b rfl) gW
  have gM_1064 := st_gM_t F_1064 (hdj_b rfl) gM
  have gR_1064 := st_gR_t F_1064 (hdj_b rfl) gR
  have gL_1064 := st_gL_t F_1064 (hdj_b rfl) gL
  have gI_1064 := st_gI_t F_1064 (hdj_b rfl) gI
  have gJ_1064 := st_gJ_t F_1064 (hdj_b rfl) gJ
  have hT_1064 := st_hT_t F_1064 (hdj_b rfl) hT
  have hM_1064 := st_hM_t F_1064 (hdj_b rfl) hM
  have hR_1064 := st_hR_t F_1064 (hdj_b rfl) hR
  have hL_1064 := st_hL_t F_1064 (hdj_b rfl) hL
  have hI_1064 := st_hI_t F_1064 (hdj_b rfl) hI
  refine ik_F_mono (rp_later (pl := pl) (f := fun j => ((0 :: 0 :: 0 :: 0 :: 0 :: 0 :: 0 :: mi :: sd :: 0 :: tn :: fp :: sc0 :: sc1 :: sc2 :: sc3 :: sc4 :: sc5 :: 0 :: 0 :: 0 :: 0 :: 0 :: 0 :: w24 :: 0 :: 0 :: 0 :: 0 :: 0 :: 0 :: 0 :: sb :: wa :: 0 :: 0 :: r :: 0 :: 0 :: 0 :: 0 :: 0 :: 0 :: []) : List Int).getD j 0) (s := s) (cn := cnr) (go := gor) (ch := chr) (gt := gt) (gd := gdd) (xs := xs) (ys := ys) (ka := ka) (pa := pa) (fa := fa) (kb := kb) (pb := pb) (fb := fb) (r1 := r1) (r2 := r2) (what := 1) f_pl f_s (fun x h0 h1 => by have := ((mx_al_rw f_rw f_al) x h0 h1).1; omega) (mx_rw_ch (mx_al_rw f_rw f_al)) (mx_rw_ok (mx_al_rw f_rw f_al) _) f_k.1 f_k.2.1 (fun w => (f_p w).1) (fun w => (f_p w).2) f_k.2.2.1 f_k.2.2.2.1 (by decide +kernel) g_1064_66 g_1064_67 n67 g_1064_68 n68 g_1064_69 n69 g_1064_77 n77 g_1064_78 n78 g_1064_79 n79 g_1064_80 n80 g_1064_70 g_1064_81 n81 g_1064_82 n82 k_1064) ?_
  rintro v_1065 h_1065 ⟨w'_1065, gt'_1065, gd'_1065, xs'_1065, ys'_1065, r1'_1065, r2'_1065, er_1065, e_1065_66, e_1065_77, m_1065_77, e_1065_78, m_1065_78, e_1065_79, m_1065_79, e_1065_80, m_1065_80, e_1065_81, m_1065_81, e_1065_82, m_1065_82, F_1065⟩ <;> subst er_1065
  have k_1065 : cL h_1065 := F_1065.1.trans k_1064
  have g_1065_0 := (hfr_g F_1065 0 rfl).trans g_1064_0
  have g_1065_7 := (hfr_g F_1065 7 rfl).trans g_1064_7
  have g_1065_8 := (hfr_g F_1065 8 rfl).trans g_1064_8
  have g_1065_9 := (hfr_g F_1065 9 rfl).trans g_1064_9
  have g_1065_10 := (hfr_g F_1065 10 rfl).trans g_1064_10
  have g_1065_11 := (hfr_g F_1065 11 rfl).trans g_1064_11
  have g_1065_12 := (hfr_g F_1065 12 rfl).trans g_1064_12
  have g_1065_13 := (hfr_g F_1065 13 rfl).trans g_1064_13
  have g_1065_14 := (hfr_g F_1065 14 rfl).trans g_1064_14
  have g_1065_15 := (hfr_g F_1065 15 rfl).trans g_1064_15
  have g_1065_16 := (hfr_g F_1065 16 rfl).trans g_1064_16
  have g_1065_17 := (hfr_g F_1065 17 rfl).trans g_1064_17
  have g_1065_18 := (hfr_g F_1065 18 rfl).trans g_1064_18
  have g_1065_19 := (hfr_g F_1065 19 rfl).trans g_1064_19
  have g_1065_20 := (hfr_g F_1065 20 rfl).trans g_1064_20
  have g_1065_21 := mf_cr_f g_1064_21 (hfr_g F_1065 21 rfl) (hfr_g F_1065 22 rfl) (hfr_g F_1065 23 rfl) (hfr_g F_1065 24 rfl)
  have g_1065_33 := mf_cr_f g_1064_33 (hfr_g F_1065 33 rfl) (hfr_g F_1065 34 rfl) (hfr_g F_1065 35 rfl) (hfr_g F_1065 36 rfl)
  have g_1065_57 := (hfr_g F_1065 57 rfl).trans g_1064_57
  have g_1065_67 := (hfr_g F_1065 67 rfl).trans g_1064_67
  have g_1065_68 := (hfr_g F_1065 68 rfl).trans g_1064_68
  have g_1065_69 := (hfr_g F_1065 69 rfl).trans g_1064_69
  have g_1065_70 := (hfr_g F_1065 70 rfl).trans g_1064_70
  have g_1065_71 := (hfr_g F_1065 71 rfl).trans g_1064_71
  have g_1065_66 : cE h_1065 66 (.inr (10, (fI pl :: .ref 67 :: .ref 68 :: .ref 69 :: fI ((s : Nat) : Int) :: .ref 70 :: .ref 71 :: fI mi :: fI sd :: .ref 72 :: fI tn :: fI fp :: fI sc0 :: fJ sc1 :: fI sc2 :: fI sc3 :: fI sc4 :: fI sc5 :: .ref 73 :: .ref 74 :: .ref 75 :: .ref 76 :: .ref 77 :: .ref 78 :: fI w'_1065 :: .ref 79 :: .ref 80 :: .ref 81 :: .ref 82 :: .ref 83 :: .ref 84 :: .ref 85 :: fJ sb :: fJ wa :: .ref 86 :: .ref 87 :: fI r :: .ref 88 :: .ref 89 :: .ref 90 :: .ref 91 :: .ref 92 :: .ref 93 :: []))) := e_1065_66
  have g_1065_77 : cE h_1065 77 (.inl (.int, fA gt'_1065)) := e_1065_77
  have g_1065_78 : cE h_1065 78 (.inl (.int, fA gd'_1065)) := e_1065_78
  have g_1065_79 : cE h_1065 79 (.inl (.long, fL xs'_1065)) := e_1065_79
  have g_1065_80 : cE h_1065 80 (.inl (.long, fL ys'_1065)) := e_1065_80
  have g_1065_81 : cE h_1065 81 (.inl (.long, fL r1'_1065)) := e_1065_81
  have g_1065_82 : cE h_1065 82 (.inl (.long, fL r2'_1065)) := e_1065_82
  refine ⟨rfl, ?_⟩
  have gT_1065 := st_gT_t F_1065 (hdj_b rfl) gT_1064
  have gW_1065 := st_gW_t F_1065 (hdj_b rfl) gW_1064
  have gM_1065 := st_gM_t F_1065 (hdj_b rfl) gM_1064
  have gR_1065 := st_gR_t F_1065 (hdj_b rfl) gR_1064
  have gL_1065 := st_gL_t F_1065 (hdj_b rfl) gL_1064
  have gI_1065 := st_gI_t F_1065 (hdj_b rfl) gI_1064
  have gJ_1065 := st_gJ_t F_1065 (hdj_b rfl) gJ_1064
  have hT_1065 := st_hT_t F_1065 (hdj_b rfl) hT_1064
  have hM_1065 := st_hM_t F_1065 (hdj_b rfl) hM_1064
  have hR_1065 := st_hR_t F_1065 (hdj_b rfl) hR_1064
  have hL_1065 := st_hL_t F_1065 (hdj_b rfl) hL_1064
  have hI_1065 := st_hI_t F_1065 (hdj_b rfl) hI_1064
  intro C_ k_
  exact k_ tn fp pl mi sd ka pa fa kb pb fb xa xb r n0 n1 ga0 gm0 gd_0 gs0 g00 g01 g02 g03 g04 g05 gx0 gy0 ga1 gm1 gd_1 gs1 g10 g11 g12 g13 g14 g15 gx1 gy1 s T cn go ch wg wc we rp rt lr ci0 ci1 cnr gor chr T2 im f_pl f_s f_st f_cb f_cr f_rw f_al f_wy f_k f_p f_x (by first | exact st_m f_m | omega) f_sd f_r f_rr f_n f_l0 f_l1 f_tn f_t (st_I_K f_i0) (st_I_K f_i1) ⟨g_1065_0, g_1065_18, g_1065_57⟩ gT_1065 ⟨g_1065_7, g_1065_8, n8, g_1065_9, n9, g_1065_10, n10, g_1065_11, n11, g_1065_12, n12, g_1065_13, n13⟩ ⟨g_1065_14, g_1065_15, g_1065_16⟩ ⟨l2_1064, l0_1064, l1_1064, t0, t1, t2, t3, g_1065_17, g_1065_19, g_1065_20⟩ ⟨g_1065_21, g_1065_33⟩ gW_1065 gM_1065 gR_1065 gL_1065 gI_1065 gJ_1065 ⟨sc0, sc1, sc2, sc3, sc4, sc5, w'_1065, sb, wa, g_1065_66⟩ ⟨g_1065_67, n67, g_1065_68, n68, g_1065_69, n69⟩ ⟨g_1065_70, g_1065_71⟩ hT_1065 ⟨gt'_1065, gd'_1065, xs'_1065, ys'_1065, r1'_1065, r2'_1065, g_1065_77, m_1065_77, g_1065_78, m_1065_78, g_1065_79, m_1065_79, g_1065_80, m_1065_80, g_1065_81, m_1065_81, g_1065_82, m_1065_82⟩ hM_1065 hR_1065 hL_1065 hI_1065 k_1065

set_option maxRecDepth 100000 in
theorem lk_later2 {K : Nat} {h : List ik_E} (E : st_S K h) (hK : K ≤ 600)    : ik_F 100 [.ref 0, fI 2] h (fun rv h_q => ∃ o_ : Int, rv = [fI o_] ∧ (h_q.length = (94 : Nat) ∧ ∃ fs, h_q[66]? = some (.inr (10, fs))) ∧ ik_F 170 [.ref 66, fI 2] h_q (fun rv' h'' => rv' = [fI o_] ∧ st_S (K + 1) h'')) := by
  refine E _ ?_
  intro tn fp pl mi sd ka pa fa kb pb fb xa xb r n0 n1 ga0 gm0 gd_0 gs0 g00 g01 g02 g03 g04 g05 gx0 gy0 ga1 gm1 gd_1 gs1 g10 g11 g12 g13 g14 g15 gx1 gy1 s T cn go ch wg wc we rp rt lr ci0 ci1 cnr gor chr T2 im f_pl f_s f_st f_cb f_cr f_rw f_al f_wy f_k f_p f_x f_m f_sd f_r f_rr f_n f_l0 f_l1 f_tn f_t f_i0 f_i1 gA gT gB gC gS gV gW gM gR gL gI gJ hO hB hC hT hS hM hR hL hI hl
  replace f_cb := ik_hid_i f_cb
  replace f_cr := ik_hid_i f_cr
  replace f_p := ik_hid_i f_p
  replace f_x := ik_hid_i f_x
  obtain ⟨h0, h18, h57⟩ := gA
  obtain ⟨h7, h8, n8, h9, n9, h10, n10, h11, n11, h12, n12, h13, n13⟩ := gB
  obtain ⟨h14, h15, h16⟩ := gC
  obtain ⟨bo, la, lb, t0, t1, t2, t3, h17, h19, h20⟩ := gS
  obtain ⟨h21, h33⟩ := gV
  obtain ⟨sc0, sc1, sc2, sc3, sc4, sc5, w24, sb, wa, h66⟩ := hO
  obtain ⟨h67, n67, h68, n68, h69, n69⟩ := hB
  obtain ⟨h70, h71⟩ := hC
  obtain ⟨gt, gdd, xs, ys, r1, r2, h77, n77, h78, n78, h79, n79, h80, n80, h81, n81, h82, n82⟩ := hS
  refine ik_F_mono (cp_later2 (pl := pl) (lo := ((mj_lost pl cn go : Nat) : Int)) (s := s) (bo := bo) (wg := wg) (wc := wc) (we := we) (W := (fun x => mx_w cnr gor chr s x)) (ka := ka) (pa := pa) (fa := fa) (kb := kb) (pb := pb) (fb := fb) (la := la) (lb := lb) f_pl (fun x h0 h1 => by have e := mx_al_w f_rw f_al s x h0 h1; exact e.symm ▸ f_wy x h0 h1) (mx_rw_ok (mx_al_rw f_rw f_al) _) (fun w => (f_p w).1) (fun w => (f_p w).2) ⟨f_k.1.1, f_k.1.2, f_k.2.1.1, f_k.2.1.2⟩ ⟨f_k.2.2.1.1, f_k.2.2.1.2, f_k.2.2.2.1.1, f_k.2.2.2.1.2⟩ h0 h7 h11 n11 h12 n12 h13 n13 h17 h18 h15 h19 h21 h33 hl) ?_
  rintro v_1066 h_1066 ⟨l0_1066, l1_1066, l2_1066, er_1066, e_1066_17, e_1066_19, e_1066_21, e_1066_33, F_1066⟩ <;> subst er_1066
  have k_1066 : cL h_1066 := F_1066.1.trans hl
  have g_1066_0 := (hfr_g F_1066 0 rfl).trans h0
  have g_1066_7 := (hfr_g F_1066 7 rfl).trans h7
  have g_1066_8 := (hfr_g F_1066 8 rfl).trans h8
  have g_1066_9 := (hfr_g F_1066 9 rfl).trans h9
  have g_1066_10 := (hfr_g F_1066 10 rfl).trans h10
  have g_1066_11 := (hfr_g F_1066 11 rfl).trans h11
  have g_1066_12 := (hfr_g F_1066 12 rfl).trans h12
  have g_1066_13 := (hfr_g F_1066 13 rfl).trans h13
  have g_1066_14 := (hfr_g F_1066 14 rfl).trans h14
  have g_1066_15 := (hfr_g F_1066 15 rfl).trans h15
  have g_1066_16 := (hfr_g F_1066 16 rfl).trans h16
  have g_1066_18 := (hfr_g F_1066 18 rfl).trans h18
  have g_1066_20 := (hfr_g F_1066 20 rfl).trans h20
  have g_1066_57 := (hfr_g F_1066 57 rfl).trans h57
  have g_1066_66 := (hfr_g F_1066 66 rfl).trans h66
  have g_1066_67 := (hfr_g F_1066 67 rfl).trans h67
  have g_1066_68 := (hfr_g F_1066 68 rfl).trans h68
  have g_1066_69 := (hfr_g F_1066 69 rfl).trans h69
  have g_1066_70 := (hfr_g F_1066 70 rfl).trans h70
  have g_1066_71 := (hfr_g F_1066 71 rfl).trans h71
  have g_1066_77 := (hfr_g F_1066 77 rfl).trans h77
  have g_1066_78 := (hfr_g F_1066 78 rfl).trans h78
  have g_1066_79 := (hfr_g F_1066 79 rfl).trans h79
  have g_1066_80 := (hfr_g F_1066 80 rfl).trans h80
  have g_1066_81 := (hfr_g F_1066 81 rfl).trans h81
  have g_1066_82 := (hfr_g F_1066 82 rfl).trans h82
  have g_1066_17 : cE h_1066 17 (.inr (8, [.ref 7, .ref 15, .ref 18, .ref 19, fJ l2_1066, .ref 20])) := e_1066_17
  have g_1066_19 : cE h_1066 19 (.inl (.long, fL [l0_1066, l1_1066])) := e_1066_19
  have g_1066_21 : mf_cr h_1066 21  := e_1066_21
  have g_1066_33 : mf_cr h_1066 33  := e_1066_33
  refine ⟨an_la 2 pl (mr_w (mf_cm (fun x => mx_w cnr gor chr s x) (pl - 1) ka pa) fa (mf_cm (fun x => mx_w cnr gor chr s x) (pl - 1) kb pb) fb 2), rfl, ⟨k_1066, _, g_1066_66⟩, ?_⟩
  have gT_1066 := st_gT_t F_1066 (hdj_b rfl) gT
  have gW_1066 := st_gW_t F_1066 (hdj_b rfl) gW
  have gM_1066 := st_gM_t F_1066 (hdj_b rfl) gM
  have gR_1066 := st_gR_t F_1066 (hdj_b rfl) gR
  have gL_1066 := st_gL_t F_1066 (hdj_b rfl) gL
  have gI_1066 := st_gI_t F_1066 (hdj_b rfl) gI
  have gJ_1066 := st_gJ_t F_1066 (hdj_b rfl) gJ
  have hT_1066 := st_hT_t F_1066 (hdj_b rfl) hT
  have hM_1066 := st_hM_t F_1066 (hdj_b rfl) hM
  have hR_1066 := st_hR_t F_1066 (hdj_b rfl) hR
  have hL_1066 := st_hL_t F_1066 (hdj_b rfl) hL
  have hI_1066 := st_hI_t F_1066 (hdj_b rfl) hI
  refine ik_F_mono (rp_later (pl := pl) (f := fun j => ((0 :: 0 :: 0 :: 0 :: 0 :: 0 :: 0 :: mi :: sd :: 0 :: tn :: fp :: sc0 :: sc1 :: sc2 :: sc3 :: sc4 :: sc5 :: 0 :: 0 :: 0 :: 0 :: 0 :: 0 :: w24 :: 0 :: 0 :: 0 :: 0 :: 0 :: 0 :: 0 :: sb :: wa :: 0 :: 0 :: r :: 0 :: 0 :: 0 :: 0 :: 0 :: 0 :: []) : List Int).getD j 0) (s := s) (cn := cnr) (go := gor) (ch := chr) (gt := gt) (gd := gdd) (xs := xs) (ys := ys) (ka := ka) (pa := pa) (fa := fa) (kb := kb) (pb := pb) (fb := fb) (r1 := r1) (r2 := r2) (what := 2) f_pl f_s (fun x h0 h1 => by have := ((mx_al_rw f_rw f_al) x h0 h1).1; omega) (mx_rw_ch (mx_al_rw f_rw f_al)) (mx_rw_ok (mx_al_rw f_rw f_al) _) f_k.1 f_k.2.1 (fun w => (f_p w).1) (fun w => (f_p w).2) f_k.2.2.1 f_k.2.2.2.1 (by decide +kernel) g_1066_66 g_1066_67 n67 g_1066_68 n68 g_1066_69 n69 g_1066_77 n77 g_1066_78 n78 g_1066_79 n79 g_1066_80 n80 g_1066_70 g_1066_81 n81 g_1066_82 n82 k_1066) ?_
  rintro v_1067 h_1067 ⟨w'_1067, gt'_1067, gd'_1067, xs'_1067, ys'_1067, r1'_1067, r2'_1067, er_1067, e_1067_66, e_1067_77, m_1067_77, e_1067_78, m_1067_78, e_1067_79, m_1067_79, e_1067_80, m_1067_80, e_1067_81, m_1067_81, e_1067_82, m_1067_82, F_1067⟩ <;> subst er_1067
  have k_1067 : cL h_1067 := F_1067.1.trans k_1066
  have g_1067_0 := (hfr_g F_1067 0 rfl).trans g_1066_0
  have g_1067_7 := (hfr_g F_1067 7 rfl).trans g_1066_7
  have g_1067_8 := (hfr_g F_1067 8 rfl).trans g_1066_8
  have g_1067_9 := (hfr_g F_1067 9 rfl).trans g_1066_9
  have g_1067_10 := (hfr_g F_1067 10 rfl).trans g_1066_10
  have g_1067_11 := (hfr_g F_1067 11 rfl).trans g_1066_11
  have g_1067_12 := (hfr_g F_1067 12 rfl).trans g_1066_12
  have g_1067_13 := (hfr_g F_1067 13 rfl).trans g_1066_13
  have g_1067_14 := (hfr_g F_1067 14 rfl).trans g_1066_14
  have g_1067_15 := (hfr_g F_1067 15 rfl).trans g_1066_15
  have g_1067_16 := (hfr_g F_1067 16 rfl).trans g_1066_16
  have g_1067_17 := (hfr_g F_1067 17 rfl).trans g_1066_17
  have g_1067_18 := (hfr_g F_1067 18 rfl).trans g_1066_18
  have g_1067_19 := (hfr_g F_1067 19 rfl).trans g_1066_19
  have g_1067_20 := (hfr_g F_1067 20 rfl).trans g_1066_20
  have g_1067_21 := mf_cr_f g_1066_21 (hfr_g F_1067 21 rfl) (hfr_g F_1067 22 rfl) (hfr_g F_1067 23 rfl) (hfr_g F_1067 24 rfl)
  have g_1067_33 := mf_cr_f g_1066_33 (hfr_g F_1067 33 rfl) (hfr_g F_1067 34 rfl) (hfr_g F_1067 35 rfl) (hfr_g F_1067 36 rfl)
  have g_1067_57 := (hfr_g F_1067 57 rfl).trans g_1066_57
  have g_1067_67 := (hfr_g F_1067 67 rfl).trans g_1066_67
  have g_1067_68 := (hfr_g F_1067 68 rfl).trans g_1066_68
  have g_1067_69 := (hfr_g F_1067 69 rfl).trans g_1066_69
  have g_1067_70 := (hfr_g F_1067 70 rfl).trans g_1066_70
  have g_1067_71 := (hfr_g F_1067 71 rfl).trans g_1066_71
  have g_1067_66 : cE h_1067 66 (.inr (10, (fI pl :: .ref 67 :: .ref 68 :: .ref 69 :: fI ((s : Nat) : Int) :: .ref 70 :: .ref 71 :: fI mi :: fI sd :: .ref 72 :: fI tn :: fI fp :: fI sc0 :: fJ sc1 :: fI sc2 :: fI sc3 :: fI sc4 :: fI sc5 :: .ref 73 :: .ref 74 :: .ref 75 :: .ref 76 :: .ref 77 :: .ref 78 :: fI w'_1067 :: .ref 79 :: .ref 80 :: .ref 81 :: .ref 82 :: .ref 83 :: .ref 84 :: .ref 85 :: fJ sb :: fJ wa :: .ref 86 :: .ref 87 :: fI r :: .ref 88 :: .ref 89 :: .ref 90 :: .ref 91 :: .ref 92 :: .ref 93 :: []))) := e_1067_66
  have g_1067_77 : cE h_1067 77 (.inl (.int, fA gt'_1067)) := e_1067_77
  have g_1067_78 : cE h_1067 78 (.inl (.int, fA gd'_1067)) := e_1067_78
  have g_1067_79 : cE h_1067 79 (.inl (.long, fL xs'_1067)) := e_1067_79
  have g_1067_80 : cE h_1067 80 (.inl (.long, fL ys'_1067)) := e_1067_80
  have g_1067_81 : cE h_1067 81 (.inl (.long, fL r1'_1067)) := e_1067_81
  have g_1067_82 : cE h_1067 82 (.inl (.long, fL r2'_1067)) := e_1067_82
  refine ⟨rfl, ?_⟩
  have gT_1067 := st_gT_t F_1067 (hdj_b rfl) gT_1066
  have gW_1067 := st_gW_t F_1067 (hdj_b rfl) gW_1066
  have gM_1067 := st_gM_t F_1067 (hdj_b rfl) gM_1066
  have gR_1067 := st_gR_t F_1067 (hdj_b rfl) gR_1066
  have gL_1067 := st_gL_t F_1067 (hdj_b rfl) gL_1066
  have gI_1067 := st_gI_t F_1067 (hdj_b rfl) gI_1066
  have gJ_1067 := st_gJ_t F_1067 (hdj_b rfl) gJ_1066
  have hT_1067 := st_hT_t F_1067 (hdj_b rfl) hT_1066
  have hM_1067 := st_hM_t F_1067 (hdj_b rfl) hM_1066
  have hR_1067 := st_hR_t F_1067 (hdj_b rfl) hR_1066
  have hL_1067 := st_hL_t F_1067 (hdj_b rfl) hL_1066
  have hI_1067 := st_hI_t F_1067 (hdj_b rfl) hI_1066
  intro C_ k_
  exact k_ tn fp pl mi sd ka pa fa kb pb fb xa xb r n0 n1 ga0 gm0 gd_0 gs0 g00 g01 g02 g03 g04 g05 gx0 gy0 ga1 gm1 gd_1 gs1 g10 g11 g12 g13 g14 g15 gx1 gy1 s T cn go ch wg wc we rp rt lr ci0 ci1 cnr gor chr T2 im f_pl f_s f_st f_cb f_cr f_rw f_al f_wy f_k f_p f_x (by first | exact st_m f_m | omega) f_sd f_r f_rr f_n f_l0 f_l1 f_tn f_t (st_I_K f_i0) (st_I_K f_i1) ⟨g_1067_0, g_1067_18, g_1067_57⟩ gT_1067 ⟨g_1067_7, g_1067_8, n8, g_1067_9, n9, g_1067_10, n10, g_1067_11, n11, g_1067_12, n12, g_1067_13, n13⟩ ⟨g_1067_14, g_1067_15, g_1067_16⟩ ⟨l2_1066, l0_1066, l1_1066, t0, t1, t2, t3, g_1067_17, g_1067_19, g_1067_20⟩ ⟨g_1067_21, g_1067_33⟩ gW_1067 gM_1067 gR_1067 gL_1067 gI_1067 gJ_1067 ⟨sc0, sc1, sc2, sc3, sc4, sc5, w'_1067, sb, wa, g_1067_66⟩ ⟨g_1067_67, n67, g_1067_68, n68, g_1067_69, n69⟩ ⟨g_1067_70, g_1067_71⟩ hT_1067 ⟨gt'_1067, gd'_1067, xs'_1067, ys'_1067, r1'_1067, r2'_1067, g_1067_77, m_1067_77, g_1067_78, m_1067_78, g_1067_79, m_1067_79, g_1067_80, m_1067_80, g_1067_81, m_1067_81, g_1067_82, m_1067_82⟩ hM_1067 hR_1067 hL_1067 hI_1067 k_1067

set_option maxRecDepth 100000 in
theorem lk_laterE {K : Nat} {h : List ik_E} (E : st_S K h) (hK : K ≤ 600) {what : Int} (z_what : -2147483648 ≤ what ∧ what < 2147483648) (q1 : what < 0 ∨ 2 < what) : ik_F 100 [.ref 0, fI what] h (fun rv h_q => ∃ o_ : Int, rv = [fI o_] ∧ (h_q.length = (94 : Nat) ∧ ∃ fs, h_q[66]? = some (.inr (10, fs))) ∧ ik_F 170 [.ref 66, fI what] h_q (fun rv' h'' => rv' = [fI o_] ∧ st_S (K + 1) h'')) := by
  refine E _ ?_
  intro tn fp pl mi sd ka pa fa kb pb fb xa xb r n0 n1 ga0 gm0 gd_0 gs0 g00 g01 g02 g03 g04 g05 gx0 gy0 ga1 gm1 gd_1 gs1 g10 g11 g12 g13 g14 g15 gx1 gy1 s T cn go ch wg wc we rp rt lr ci0 ci1 cnr gor chr T2 im f_pl f_s f_st f_cb f_cr f_rw f_al f_wy f_k f_p f_x f_m f_sd f_r f_rr f_n f_l0 f_l1 f_tn f_t f_i0 f_i1 gA gT gB gC gS gV gW gM gR gL gI gJ hO hB hC hT hS hM hR hL hI hl
  replace f_cb := ik_hid_i f_cb
  replace f_cr := ik_hid_i f_cr
  replace f_p := ik_hid_i f_p
  replace f_x := ik_hid_i f_x
  obtain ⟨h0, h18, h57⟩ := gA
  obtain ⟨sc0, sc1, sc2, sc3, sc4, sc5, w24, sb, wa, h66⟩ := hO
  obtain ⟨h67, n67, h68, n68, h69, n69⟩ := hB
  obtain ⟨h70, h71⟩ := hC
  obtain ⟨gt, gdd, xs, ys, r1, r2, h77, n77, h78, n78, h79, n79, h80, n80, h81, n81, h82, n82⟩ := hS
  refine ik_F_mono (cp_laterE (what := what) z_what q1 h0 hl) ?_
  rintro v_1068 h_1068 ⟨er_1068, F_1068⟩ <;> subst er_1068
  have k_1068 : cL h_1068 := F_1068.1.trans hl
  have g_1068_0 := (hfr_g F_1068 0 rfl).trans h0
  have g_1068_18 := (hfr_g F_1068 18 rfl).trans h18
  have g_1068_57 := (hfr_g F_1068 57 rfl).trans h57
  have g_1068_66 := (hfr_g F_1068 66 rfl).trans h66
  have g_1068_67 := (hfr_g F_1068 67 rfl).trans h67
  have g_1068_68 := (hfr_g F_1068 68 rfl).trans h68
  have g_1068_69 := (hfr_g F_1068 69 rfl).trans h69
  have g_1068_70 := (hfr_g F_1068 70 rfl).trans h70
  have g_1068_71 := (hfr_g F_1068 71 rfl).trans h71
  have g_1068_77 := (hfr_g F_1068 77 rfl).trans h77
  have g_1068_78 := (hfr_g F_1068 78 rfl).trans h78
  have g_1068_79 := (hfr_g F_1068 79 rfl).trans h79
  have g_1068_80 := (hfr_g F_1068 80 rfl).trans h80
  have g_1068_81 := (hfr_g F_1068 81 rfl).trans h81
  have g_1068_82 := (hfr_g F_1068 82 rfl).trans h82
  refine ⟨-1000000002, rfl, ⟨k_1068, _, g_1068_66⟩, ?_⟩
  have gT_1068 := st_gT_t F_1068 (hdj_b rfl) gT
  have gB_1068 := st_gB_t F_1068 (hdj_b rfl) gB
  have gC_1068 := st_gC_t F_1068 (hdj_b rfl) gC
  have gS_1068 := st_gS_t F_1068 (hdj_b rfl) gS
  have gV_1068 := st_gV_t F_1068 (hdj_b rfl) gV
  have gW_1068 := st_gW_t F_1068 (hdj_b rfl) gW
  have gM_1068 := st_gM_t F_1068 (hdj_b rfl) gM
  have gR_1068 := st_gR_t F_1068 (hdj_b rfl) gR
  have gL_1068 := st_gL_t F_1068 (hdj_b rfl) gL
  have gI_1068 := st_gI_t F_1068 (hdj_b rfl) gI
  have gJ_1068 := st_gJ_t F_1068 (hdj_b rfl) gJ
  have hT_1068 := st_hT_t F_1068 (hdj_b rfl) hT
  have hM_1068 := st_hM_t F_1068 (hdj_b rfl) hM
  have hR_1068 := st_hR_t F_1068 (hdj_b rfl) hR
  have hL_1068 := st_hL_t F_1068 (hdj_b rfl) hL
  have hI_1068 := st_hI_t F_1068 (hdj_b rfl) hI
  refine ik_F_mono (rp_later (pl := pl) (f := fun j => ((0 :: 0 :: 0 :: 0 :: 0 :: 0 :: 0 :: mi :: sd :: 0 :: tn :: fp :: sc0 :: sc1 :: sc2 :: sc3 :: sc4 :: sc5 :: 0 :: 0 :: 0 :: 0 :: 0 :: 0 :: w24 :: 0 :: 0 :: 0 :: 0 :: 0 :: 0 :: 0 :: sb :: wa :: 0 :: 0 :: r :: 0 :: 0 :: 0 :: 0 :: 0 :: 0 :: []) : List Int).getD j 0) (s := s) (cn := cnr) (go := gor) (ch := chr) (gt := gt) (gd := gdd) (xs := xs) (ys := ys) (ka := ka) (pa := pa) (fa := fa) (kb := kb) (pb := pb) (fb := fb) (r1 := r1) (r2 := r2) (what := what) f_pl f_s (fun x h0 h1 => by have := ((mx_al_rw f_rw f_al) x h0 h1).1; omega) (mx_rw_ch (mx_al_rw f_rw f_al)) (mx_rw_ok (mx_al_rw f_rw f_al) _) f_k.1 f_k.2.1 (fun w => (f_p w).1) (fun w => (f_p w).2) f_k.2.2.1 f_k.2.2.2.1 z_what g_1068_66 g_1068_67 n67 g_1068_68 n68 g_1068_69 n69 g_1068_77 n77 g_1068_78 n78 g_1068_79 n79 g_1068_80 n80 g_1068_70 g_1068_81 n81 g_1068_82 n82 k_1068) ?_
  rintro v_1069 h_1069 ⟨w'_1069, gt'_1069, gd'_1069, xs'_1069, ys'_1069, r1'_1069, r2'_1069, er_1069, e_1069_66, e_1069_77, m_1069_77, e_1069_78, m_1069_78, e_1069_79, m_1069_79, e_1069_80, m_1069_80, e_1069_81, m_1069_81, e_1069_82, m_1069_82, F_1069⟩ <;> subst er_1069
  have k_1069 : cL h_1069 := F_1069.1.trans k_1068
  have g_1069_0 := (hfr_g F_1069 0 rfl).trans g_1068_0
  have g_1069_18 := (hfr_g F_1069 18 rfl).trans g_1068_18
  have g_1069_57 := (hfr_g F_1069 57 rfl).trans g_1068_57
  have g_1069_67 := (hfr_g F_1069 67 rfl).trans g_1068_67
  have g_1069_68 := (hfr_g F_1069 68 rfl).trans g_1068_68
  have g_1069_69 := (hfr_g F_1069 69 rfl).trans g_1068_69
  have g_1069_70 := (hfr_g F_1069 70 rfl).trans g_1068_70
  have g_1069_71 := (hfr_g F_1069 71 rfl).trans g_1068_71
  have g_1069_66 : cE h_1069 66 (.inr (10, (fI pl :: .ref 67 :: .ref 68 :: .ref 69 :: fI ((s : Nat) : Int) :: .ref 70 :: .ref 71 :: fI mi :: fI sd :: .ref 72 :: fI tn :: fI fp :: fI sc0 :: fJ sc1 :: fI sc2 :: fI sc3 :: fI sc4 :: fI sc5 :: .ref 73 :: .ref 74 :: .ref 75 :: .ref 76 :: .ref 77 :: .ref 78 :: fI w'_1069 :: .ref 79 :: .ref 80 :: .ref 81 :: .ref 82 :: .ref 83 :: .ref 84 :: .ref 85 :: fJ sb :: fJ wa :: .ref 86 :: .ref 87 :: fI r :: .ref 88 :: .ref 89 :: .ref 90 :: .ref 91 :: .ref 92 :: .ref 93 :: []))) := e_1069_66
  have g_1069_77 : cE h_1069 77 (.inl (.int, fA gt'_1069)) := e_1069_77
  have g_1069_78 : cE h_1069 78 (.inl (.int, fA gd'_1069)) := e_1069_78
  have g_1069_79 : cE h_1069 79 (.inl (.long, fL xs'_1069)) := e_1069_79
  have g_1069_80 : cE h_1069 80 (.inl (.long, fL ys'_1069)) := e_1069_80
  have g_1069_81 : cE h_1069 81 (.inl (.long, fL r1'_1069)) := e_1069_81
  have g_1069_82 : cE h_1069 82 (.inl (.long, fL r2'_1069)) := e_1069_82
  refine ⟨(congrArg (fun z => [fI z]) (by unfold an_la; rw [if_neg (by omega)])), ?_⟩
  have gT_1069 := st_gT_t F_1069 (hdj_b rfl) gT_1068
  have gB_1069 := st_gB_t F_1069 (hdj_b rfl) gB_1068
  have gC_1069 := st_gC_t F_1069 (hdj_b rfl) gC_1068
  have gS_1069 := st_gS_t F_1069 (hdj_b rfl) gS_1068
  have gV_1069 := st_gV_t F_1069 (hdj_b rfl) gV_1068
  have gW_1069 := st_gW_t F_1069 (hdj_b rfl) gW_1068
  have gM_1069 := st_gM_t F_1069 (hdj_b rfl) gM_1068
  have gR_1069 := st_gR_t F_1069 (hdj_b rfl) gR_1068
  have gL_1069 := st_gL_t F_1069 (hdj_b rfl) gL_1068
  have gI_1069 := st_gI_t F_1069 (hdj_b rfl) gI_1068
  have gJ_1069 := st_gJ_t F_1069 (hdj_b rfl) gJ_1068
  have hT_1069 := st_hT_t F_1069 (hdj_b rfl) hT_1068
  have hM_1069 := st_hM_t F_1069 (hdj_b rfl) hM_1068
  have hR_1069 := st_hR_t F_1069 (hdj_b rfl) hR_1068
  have hL_1069 := st_hL_t F_1069 (hdj_b rfl) hL_1068
  have hI_1069 := st_hI_t F_1069 (hdj_b rfl) hI_1068
  intro C_ k_
  exact k_ tn fp pl mi sd ka pa fa kb pb fb xa xb r n0 n1 ga0 gm0 gd_0 gs0 g00 g01 g02 g03 g04 g05 gx0 gy0 ga1 gm1 gd_1 gs1 g10 g11 g12 g13 g14 g15 gx1 gy1 s T cn go ch wg wc we rp rt lr ci0 ci1 cnr gor chr T2 im f_pl f_s f_st f_cb f_cr f_rw f_al f_wy f_k f_p f_x (by first | exact st_m f_m | omega) f_sd f_r f_rr f_n f_l0 f_l1 f_tn f_t (st_I_K f_i0) (st_I_K f_i1) ⟨g_1069_0, g_1069_18, g_1069_57⟩ gT_1069 gB_1069 gC_1069 gS_1069 gV_1069 gW_1069 gM_1069 gR_1069 gL_1069 gI_1069 gJ_1069 ⟨sc0, sc1, sc2, sc3, sc4, sc5, w'_1069, sb, wa, g_1069_66⟩ ⟨g_1069_67, n67, g_1069_68, n68, g_1069_69, n69⟩ ⟨g_1069_70, g_1069_71⟩ hT_1069 ⟨gt'_1069, gd'_1069, xs'_1069, ys'_1069, r1'_1069, r2'_1069, g_1069_77, m_1069_77, g_1069_78, m_1069_78, g_1069_79, m_1069_79, g_1069_80, m_1069_80, g_1069_81, m_1069_81, g_1069_82, m_1069_82⟩ hM_1069 hR_1069 hL_1069 hI_1069 k_1069

set_option maxRecDepth 100000 in
theorem lk_best0 {K : Nat} {h : List ik_E} (E : st_S K h) (hK : K ≤ 600) {m : Int} {what : Int} (z_m : -2147483648 ≤ m ∧ m < 2147483648) (z_what : -2147483648 ≤ what ∧ what < 2147483648)  : ik_F 101 [.ref 0, fI 0, fI m, fI what] h (fun rv h_q => ∃ o_ : Int, rv = [fI o_] ∧ (h_q.length = (94 : Nat) ∧ ∃ fs, h_q[66]? = some (.inr (10, fs))) ∧ ik_F 171 [.ref 66, fI 0, fI m, fI what] h_q (fun rv' h'' => rv' = [fI o_] ∧ st_S (K + 1) h'')) := by
  refine E _ ?_
  intro tn fp pl mi sd ka pa fa kb pb fb xa xb r n0 n1 ga0 gm0 gd_0 gs0 g00 g01 g02 g03 g04 g05 gx0 gy0 ga1 gm1 gd_1 gs1 g10 g11 g12 g13 g14 g15 gx1 gy1 s T cn go ch wg wc we rp rt lr ci0 ci1 cnr gor chr T2 im f_pl f_s f_st f_cb f_cr f_rw f_al f_wy f_k f_p f_x f_m f_sd f_r f_rr f_n f_l0 f_l1 f_tn f_t f_i0 f_i1 gA gT gB gC gS gV gW gM gR gL gI gJ hO hB hC hT hS hM hR hL hI hl
  replace f_cb := ik_hid_i f_cb
  replace f_cr := ik_hid_i f_cr
  replace f_p := ik_hid_i f_p
  replace f_x := ik_hid_i f_x
  obtain ⟨h0, h18, h57⟩ := gA
  obtain ⟨h7, h8, n8, h9, n9, h10, n10, h11, n11, h12, n12, h13, n13⟩ := gB
  obtain ⟨h14, h15, h16⟩ := gC
  obtain ⟨bo, la, lb, t0, t1, t2, t3, h17, h19, h20⟩ := gS
  obtain ⟨h21, h33⟩ := gV
  obtain ⟨sc0, sc1, sc2, sc3, sc4, sc5, w24, sb, wa, h66⟩ := hO
  obtain ⟨h67, n67, h68, n68, h69, n69⟩ := hB
  obtain ⟨h70, h71⟩ := hC
  obtain ⟨gt, gdd, xs, ys, r1, r2, h77, n77, h78, n78, h79, n79, h80, n80, h81, n81, h82, n82⟩ := hS
  refine ik_F_mono (cp_best0 (pl := pl) (lo := ((mj_lost pl cn go : Nat) : Int)) (s := s) (bo := bo) (wg := wg) (wc := wc) (we := we) (W := (fun x => mx_w cnr gor chr s x)) (ka := ka) (pa := pa) (fa := fa) (kb := kb) (pb := pb) (fb := fb) (la := la) (lb := lb) (t0 := t0) (t1 := t1) (t2 := t2) (t3 := t3) (m := m) (what := what) f_pl (fun x h0 h1 => by have e := mx_al_w f_rw f_al s x h0 h1; exact e.symm ▸ f_wy x h0 h1) (mx_rw_ok (mx_al_rw f_rw f_al) _) (fun w => (f_p w).1) (fun w => (f_p w).2) ⟨f_k.1.1, f_k.1.2, f_k.2.1.1, f_k.2.1.2⟩ ⟨f_k.2.2.1.1, f_k.2.2.1.2, f_k.2.2.2.1.1, f_k.2.2.2.1.2⟩ z_m z_what h0 h7 h11 n11 h12 n12 h13 n13 h17 h18 h15 h19 h21 h33 h20 hl) ?_
  rintro v_1070 h_1070 ⟨l0_1070, l1_1070, l2_1070, z0_1070, z1_1070, z2_1070, z3_1070, er_1070, e_1070_17, e_1070_19, e_1070_21, e_1070_33, e_1070_20, F_1070⟩ <;> subst er_1070
  have k_1070 : cL h_1070 := F_1070.1.trans hl
  have g_1070_0 := (hfr_g F_1070 0 rfl).trans h0
  have g_1070_7 := (hfr_g F_1070 7 rfl).trans h7
  have g_1070_8 := (hfr_g F_1070 8 rfl).trans h8
  have g_1070_9 := (hfr_g F_1070 9 rfl).trans h9
  have g_1070_10 := (hfr_g F_1070 10 rfl).trans h10
  have g_1070_11 := (hfr_g F_1070 11 rfl).trans h11
  have g_1070_12 := (hfr_g F_1070 12 rfl).trans h12
  have g_1070_13 := (hfr_g F_1070 13 rfl).trans h13
  have g_1070_14 := (hfr_g F_1070 14 rfl).trans h14
  have g_1070_15 := (hfr_g F_1070 15 rfl).trans h15
  have g_1070_16 := (hfr_g F_1070 16 rfl).trans h16
  have g_1070_18 := (hfr_g F_1070 18 rfl).trans h18
  have g_1070_57 := (hfr_g F_1070 57 rfl).trans h57
  have g_1070_66 := (hfr_g F_1070 66 rfl).trans h66
  have g_1070_67 := (hfr_g F_1070 67 rfl).trans h67
  have g_1070_68 := (hfr_g F_1070 68 rfl).trans h68
  have g_1070_69 := (hfr_g F_1070 69 rfl).trans h69
  have g_1070_70 := (hfr_g F_1070 70 rfl).trans h70
  have g_1070_71 := (hfr_g F_1070 71 rfl).trans h71
  have g_1070_77 := (hfr_g F_1070 77 rfl).trans h77
  have g_1070_78 := (hfr_g F_1070 78 rfl).trans h78
  have g_1070_79 := (hfr_g F_1070 79 rfl).trans h79
  have g_1070_80 := (hfr_g F_1070 80 rfl).trans h80
  have g_1070_81 := (hfr_g F_1070 81 rfl).trans h81
  have g_1070_82 := (hfr_g F_1070 82 rfl).trans h82
  have g_1070_17 : cE h_1070 17 (.inr (8, [.ref 7, .ref 15, .ref 18, .ref 19, fJ l2_1070, .ref 20])) := e_1070_17
  have g_1070_19 : cE h_1070 19 (.inl (.long, fL [l0_1070, l1_1070])) := e_1070_19
  have g_1070_21 : mf_cr h_1070 21  := e_1070_21
  have g_1070_33 : mf_cr h_1070 33  := e_1070_33
  have g_1070_20 : cE h_1070 20 (.inl (.int, fA [z0_1070, z1_1070, z2_1070, z3_1070])) := e_1070_20
  refine ⟨an_be m what pl (if what = 0 then (mk_bp (mk_vb (fun x => mx_w cnr gor chr s x) pl ka pa fa kb pb fb 0) (m.toNat + 1) (pl - 1).toNat 0 0 0 1000001).1 else if what = 1 then (mk_bp (mk_vb (fun x => mx_w cnr gor chr s x) pl ka pa fa kb pb fb 0) (m.toNat + 1) (pl - 1).toNat 0 0 0 1000001).2.1 else (mk_bp (mk_vb (fun x => mx_w cnr gor chr s x) pl ka pa fa kb pb fb 0) (m.toNat + 1) (pl - 1).toNat 0 0 0 1000001).2.2), rfl, ⟨k_1070, _, g_1070_66⟩, ?_⟩
  have gT_1070 := st_gT_t F_1070 (hdj_b rfl) gT
  have gW_1070 := st_gW_t F_1070 (hdj_b rfl) gW
  have gM_1070 := st_gM_t F_1070 (hdj_b rfl) gM
  have gR_1070 := st_gR_t F_1070 (hdj_b rfl) gR
  have gL_1070 := st_gL_t F_1070 (hdj_b rfl) gL
  have gI_1070 := st_gI_t F_1070 (hdj_b rfl) gI
  have gJ_1070 := st_gJ_t F_1070 (hdj_b rfl) gJ
  have hT_1070 := st_hT_t F_1070 (hdj_b rfl) hT
  have hM_1070 := st_hM_t F_1070 (hdj_b rfl) hM
  have hR_1070 := st_hR_t F_1070 (hdj_b rfl) hR
  have hL_1070 := st_hL_t F_1070 (hdj_b rfl) hL
  have hI_1070 := st_hI_t F_1070 (hdj_b rfl) hI
  refine ik_F_mono (rp_best0 (pl := pl) (f := fun j => ((0 :: 0 :: 0 :: 0 :: 0 :: 0 :: 0 :: mi :: sd :: 0 :: tn :: fp :: sc0 :: sc1 :: sc2 :: sc3 :: sc4 :: sc5 :: 0 :: 0 :: 0 :: 0 :: 0 :: 0 :: w24 :: 0 :: 0 :: 0 :: 0 :: 0 :: 0 :: 0 :: sb :: wa :: 0 :: 0 :: r :: 0 :: 0 :: 0 :: 0 :: 0 :: 0 :: []) : List Int).getD j 0) (s := s) (cn := cnr) (go := gor) (ch := chr) (gt := gt) (gd := gdd) (xs := xs) (ys := ys) (ka := ka) (pa := pa) (fa := fa) (kb := kb) (pb := pb) (fb := fb) (r1 := r1) (r2 := r2) (m := m) (what := what) f_pl f_s (fun x h0 h1 => by have := ((mx_al_rw f_rw f_al) x h0 h1).1; omega) (mx_rw_ch (mx_al_rw f_rw f_al)) (mx_rw_ok (mx_al_rw f_rw f_al) _) f_k.1 f_k.2.1 (fun w => (f_p w).1) (fun w => (f_p w).2) f_k.2.2.1 f_k.2.2.2.1 z_m z_what g_1070_66 g_1070_67 n67 g_1070_68 n68 g_1070_69 n69 g_1070_77 n77 g_1070_78 n78 g_1070_79 n79 g_1070_80 n80 g_1070_70 g_1070_81 n81 g_1070_82 n82 k_1070) ?_
  rintro v_1071 h_1071 ⟨w'_1071, gt'_1071, gd'_1071, xs'_1071, ys'_1071, r1'_1071, r2'_1071, er_1071, e_1071_66, e_1071_77, m_1071_77, e_1071_78, m_1071_78, e_1071_79, m_1071_79, e_1071_80, m_1071_80, e_1071_81, m_1071_81, e_1071_82, m_1071_82, e_1071_70, F_1071⟩ <;> subst er_1071
  have k_1071 : cL h_1071 := F_1071.1.trans k_1070
  have g_1071_0 := (hfr_g F_1071 0 rfl).trans g_1070_0
  have g_1071_7 := (hfr_g F_1071 7 rfl).trans g_1070_7
  have g_1071_8 := (hfr_g F_1071 8 rfl).trans g_1070_8
  have g_1071_9 := (hfr_g F_1071 9 rfl).trans g_1070_9
  have g_1071_10 := (hfr_g F_1071 10 rfl).trans g_1070_10
  have g_1071_11 := (hfr_g F_1071 11 rfl).trans g_1070_11
  have g_1071_12 := (hfr_g F_1071 12 rfl).trans g_1070_12
  have g_1071_13 := (hfr_g F_1071 13 rfl).trans g_1070_13
  have g_1071_14 := (hfr_g F_1071 14 rfl).trans g_1070_14
  have g_1071_15 := (hfr_g F_1071 15 rfl).trans g_1070_15
  have g_1071_16 := (hfr_g F_1071 16 rfl).trans g_1070_16
  have g_1071_17 := (hfr_g F_1071 17 rfl).trans g_1070_17
  have g_1071_18 := (hfr_g F_1071 18 rfl).trans g_1070_18
  have g_1071_19 := (hfr_g F_1071 19 rfl).trans g_1070_19
  have g_1071_20 := (hfr_g F_1071 20 rfl).trans g_1070_20
  have g_1071_21 := mf_cr_f g_1070_21 (hfr_g F_1071 21 rfl) (hfr_g F_1071 22 rfl) (hfr_g F_1071 23 rfl) (hfr_g F_1071 24 rfl)
  have g_1071_33 := mf_cr_f g_1070_33 (hfr_g F_1071 33 rfl) (hfr_g F_1071 34 rfl) (hfr_g F_1071 35 rfl) (hfr_g F_1071 36 rfl)
  have g_1071_57 := (hfr_g F_1071 57 rfl).trans g_1070_57
  have g_1071_67 := (hfr_g F_1071 67 rfl).trans g_1070_67
  have g_1071_68 := (hfr_g F_1071 68 rfl).trans g_1070_68
  have g_1071_69 := (hfr_g F_1071 69 rfl).trans g_1070_69
  have g_1071_71 := (hfr_g F_1071 71 rfl).trans g_1070_71
  have g_1071_66 : cE h_1071 66 (.inr (10, (fI pl :: .ref 67 :: .ref 68 :: .ref 69 :: fI ((s : Nat) : Int) :: .ref 70 :: .ref 71 :: fI mi :: fI sd :: .ref 72 :: fI tn :: fI fp :: fI sc0 :: fJ sc1 :: fI sc2 :: fI sc3 :: fI sc4 :: fI sc5 :: .ref 73 :: .ref 74 :: .ref 75 :: .ref 76 :: .ref 77 :: .ref 78 :: fI w'_1071 :: .ref 79 :: .ref 80 :: .ref 81 :: .ref 82 :: .ref 83 :: .ref 84 :: .ref 85 :: fJ sb :: fJ wa :: .ref 86 :: .ref 87 :: fI r :: .ref 88 :: .ref 89 :: .ref 90 :: .ref 91 :: .ref 92 :: .ref 93 :: []))) := e_1071_66
  have g_1071_77 : cE h_1071 77 (.inl (.int, fA gt'_1071)) := e_1071_77
  have g_1071_78 : cE h_1071 78 (.inl (.int, fA gd'_1071)) := e_1071_78
  have g_1071_79 : cE h_1071 79 (.inl (.long, fL xs'_1071)) := e_1071_79
  have g_1071_80 : cE h_1071 80 (.inl (.long, fL ys'_1071)) := e_1071_80
  have g_1071_81 : cE h_1071 81 (.inl (.long, fL r1'_1071)) := e_1071_81
  have g_1071_82 : cE h_1071 82 (.inl (.long, fL r2'_1071)) := e_1071_82
  have g_1071_70 : cE h_1071 70 (.inl (.int, fA [ka, pa, fa, kb, pb, fb])) := e_1071_70
  refine ⟨rfl, ?_⟩
  have gT_1071 := st_gT_t F_1071 (hdj_b rfl) gT_1070
  have gW_1071 := st_gW_t F_1071 (hdj_b rfl) gW_1070
  have gM_1071 := st_gM_t F_1071 (hdj_b rfl) gM_1070
  have gR_1071 := st_gR_t F_1071 (hdj_b rfl) gR_1070
  have gL_1071 := st_gL_t F_1071 (hdj_b rfl) gL_1070
  have gI_1071 := st_gI_t F_1071 (hdj_b rfl) gI_1070
  have gJ_1071 := st_gJ_t F_1071 (hdj_b rfl) gJ_1070
  have hT_1071 := st_hT_t F_1071 (hdj_b rfl) hT_1070
  have hM_1071 := st_hM_t F_1071 (hdj_b rfl) hM_1070
  have hR_1071 := st_hR_t F_1071 (hdj_b rfl) hR_1070
  have hL_1071 := st_hL_t F_1071 (hdj_b rfl) hL_1070
  have hI_1071 := st_hI_t F_1071 (hdj_b rfl) hI_1070
  intro C_ k_
  exact k_ tn fp pl mi sd ka pa fa kb pb fb xa xb r n0 n1 ga0 gm0 gd_0 gs0 g00 g01 g02 g03 g04 g05 gx0 gy0 ga1 gm1 gd_1 gs1 g10 g11 g12 g13 g14 g15 gx1 gy1 s T cn go ch wg wc we rp rt lr ci0 ci1 cnr gor chr T2 im f_pl f_s f_st f_cb f_cr f_rw f_al f_wy f_k f_p f_x (by first | exact st_m f_m | omega) f_sd f_r f_rr f_n f_l0 f_l1 f_tn f_t (st_I_K f_i0) (st_I_K f_i1) ⟨g_1071_0, g_1071_18, g_1071_57⟩ gT_1071 ⟨g_1071_7, g_1071_8, n8, g_1071_9, n9, g_1071_10, n10, g_1071_11, n11, g_1071_12, n12, g_1071_13, n13⟩ ⟨g_1071_14, g_1071_15, g_1071_16⟩ ⟨l2_1070, l0_1070, l1_1070, z0_1070, z1_1070, z2_1070, z3_1070, g_1071_17, g_1071_19, g_1071_20⟩ ⟨g_1071_21, g_1071_33⟩ gW_1071 gM_1071 gR_1071 gL_1071 gI_1071 gJ_1071 ⟨sc0, sc1, sc2, sc3, sc4, sc5, w'_1071, sb, wa, g_1071_66⟩ ⟨g_1071_67, n67, g_1071_68, n68, g_1071_69, n69⟩ ⟨g_1071_70, g_1071_71⟩ hT_1071 ⟨gt'_1071, gd'_1071, xs'_1071, ys'_1071, r1'_1071, r2'_1071, g_1071_77, m_1071_77, g_1071_78, m_1071_78, g_1071_79, m_1071_79, g_1071_80, m_1071_80, g_1071_81, m_1071_81, g_1071_82, m_1071_82⟩ hM_1071 hR_1071 hL_1071 hI_1071 k_1071

set_option maxRecDepth 100000 in
theorem lk_best1 {K : Nat} {h : List ik_E} (E : st_S K h) (hK : K ≤ 600) {m : Int} {what : Int} (z_m : -2147483648 ≤ m ∧ m < 2147483648) (z_what : -2147483648 ≤ what ∧ what < 2147483648)  : ik_F 101 [.ref 0, fI 1, fI m, fI what] h (fun rv h_q => ∃ o_ : Int, rv = [fI o_] ∧ (h_q.length = (94 : Nat) ∧ ∃ fs, h_q[66]? = some (.inr (10, fs))) ∧ ik_F 171 [.ref 66, fI 1, fI m, fI what] h_q (fun rv' h'' => rv' = [fI o_] ∧ st_S (K + 1) h'')) := by
  refine E _ ?_
  intro tn fp pl mi sd ka pa fa kb pb fb xa xb r n0 n1 ga0 gm0 gd_0 gs0 g00 g01 g02 g03 g04 g05 gx0 gy0 ga1 gm1 gd_1 gs1 g10 g11 g12 g13 g14 g15 gx1 gy1 s T cn go ch wg wc we rp rt lr ci0 ci1 cnr gor chr T2 im f_pl f_s f_st f_cb f_cr f_rw f_al f_wy f_k f_p f_x f_m f_sd f_r f_rr f_n f_l0 f_l1 f_tn f_t f_i0 f_i1 gA gT gB gC gS gV gW gM gR gL gI gJ hO hB hC hT hS hM hR hL hI hl
  replace f_cb := ik_hid_i f_cb
  replace f_cr := ik_hid_i f_cr
  replace f_p := ik_hid_i f_p
  replace f_x := ik_hid_i f_x
  obtain ⟨h0, h18, h57⟩ := gA
  obtain ⟨h7, h8, n8, h9, n9, h10, n10, h11, n11, h12, n12, h13, n13⟩ := gB
  obtain ⟨h14, h15, h16⟩ := gC
  obtain ⟨bo, la, lb, t0, t1, t2, t3, h17, h19, h20⟩ := gS
  obtain ⟨h21, h33⟩ := gV
  obtain ⟨sc0, sc1, sc2, sc3, sc4, sc5, w24, sb, wa, h66⟩ := hO
  obtain ⟨h67, n67, h68, n68, h69, n69⟩ := hB
  obtain ⟨h70, h71⟩ := hC
  obtain ⟨gt, gdd, xs, ys, r1, r2, h77, n77, h78, n78, h79, n79, h80, n80, h81, n81, h82, n82⟩ := hS
  refine ik_F_mono (cp_best1 (pl := pl) (lo := ((mj_lost pl cn go : Nat) : Int)) (s := s) (bo := bo) (wg := wg) (wc := wc) (we := we) (W := (fun x => mx_w cnr gor chr s x)) (ka := ka) (pa := pa) (fa := fa) (kb := kb) (pb := pb) (fb := fb) (la := la) (lb := lb) (t0 := t0) (t1 := t1) (t2 := t2) (t3 := t3) (m := m) (what := what) f_pl (fun x h0 h1 => by have e := mx_al_w f_rw f_al s x h0 h1; exact e.symm ▸ f_wy x h0 h1) (mx_rw_ok (mx_al_rw f_rw f_al) _) (fun w => (f_p w).1) (fun w => (f_p w).2) ⟨f_k.1.1, f_k.1.2, f_k.2.1.1, f_k.2.1.2⟩ ⟨f_k.2.2.1.1, f_k.2.2.1.2, f_k.2.2.2.1.1, f_k.2.2.2.1.2⟩ z_m z_what h0 h7 h11 n11 h12 n12 h13 n13 h17 h18 h15 h19 h21 h33 h20 hl) ?_
  rintro v_1072 h_1072 ⟨l0_1072, l1_1072, l2_1072, z0_1072, z1_1072, z2_1072, z3_1072, er_1072, e_1072_17, e_1072_19, e_1072_21, e_1072_33, e_1072_20, F_1072⟩ <;> subst er_1072
  have k_1072 : cL h_1072 := F_1072.1.trans hl
  have g_1072_0 := (hfr_g F_1072 0 rfl).trans h0
  have g_1072_7 := (hfr_g F_1072 7 rfl).trans h7
  have g_1072_8 := (hfr_g F_1072 8 rfl).trans h8
  have g_1072_9 := (hfr_g F_1072 9 rfl).trans h9
  have g_1072_10 := (hfr_g F_1072 10 rfl).trans h10
  have g_1072_11 := (hfr_g F_1072 11 rfl).trans h11
  have g_1072_12 := (hfr_g F_1072 12 rfl).trans h12
  have g_1072_13 := (hfr_g F_1072 13 rfl).trans h13
  have g_1072_14 := (hfr_g F_1072 14 rfl).trans h14
  have g_1072_15 := (hfr_g F_1072 15 rfl).trans h15
  have g_1072_16 := (hfr_g F_1072 16 rfl).trans h16
  have g_1072_18 := (hfr_g F_1072 18 rfl).trans h18
  have g_1072_57 := (hfr_g F_1072 57 rfl).trans h57
  have g_1072_66 := (hfr_g F_1072 66 rfl).trans h66
  have g_1072_67 := (hfr_g F_1072 67 rfl).trans h67
  have g_1072_68 := (hfr_g F_1072 68 rfl).trans h68
  have g_1072_69 := (hfr_g F_1072 69 rfl).trans h69
  have g_1072_70 := (hfr_g F_1072 70 rfl).trans h70
  have g_1072_71 := (hfr_g F_1072 71 rfl).trans h71
  have g_1072_77 := (hfr_g F_1072 77 rfl).trans h77
  have g_1072_78 := (hfr_g F_1072 78 rfl).trans h78
  have g_1072_79 := (hfr_g F_1072 79 rfl).trans h79
  have g_1072_80 := (hfr_g F_1072 80 rfl).trans h80
  have g_1072_81 := (hfr_g F_1072 81 rfl).trans h81
  have g_1072_82 := (hfr_g F_1072 82 rfl).trans h82
  have g_1072_17 : cE h_1072 17 (.inr (8, [.ref 7, .ref 15, .ref 18, .ref 19, fJ l2_1072, .ref 20])) := e_1072_17
  have g_1072_19 : cE h_1072 19 (.inl (.long, fL [l0_1072, l1_1072])) := e_1072_19
  have g_1072_21 : mf_cr h_1072 21  := e_1072_21
  have g_1072_33 : mf_cr h_1072 33  := e_1072_33
  have g_1072_20 : cE h_1072 20 (.inl (.int, fA [z0_1072, z1_1072, z2_1072, z3_1072])) := e_1072_20
  refine ⟨an_be m what pl (if what = 0 then (mk_bp (mk_vb (fun x => mx_w cnr gor chr s x) pl ka pa fa kb pb fb 1) (m.toNat + 1) (pl - 1).toNat 0 0 0 1000001).1 else if what = 1 then (mk_bp (mk_vb (fun x => mx_w cnr gor chr s x) pl ka pa fa kb pb fb 1) (m.toNat + 1) (pl - 1).toNat 0 0 0 1000001).2.1 else (mk_bp (mk_vb (fun x => mx_w cnr gor chr s x) pl ka pa fa kb pb fb 1) (m.toNat + 1) (pl - 1).toNat 0 0 0 1000001).2.2), rfl, ⟨k_1072, _, g_1072_66⟩, ?_⟩
  have gT_1072 := st_gT_t F_1072 (hdj_b rfl) gT
  have gW_1072 := st_gW_t F_1072 (hdj_b rfl) gW
  have gM_1072 := st_gM_t F_1072 (hdj_b rfl) gM
  have gR_1072 := st_gR_t F_1072 (hdj_b rfl) gR
  have gL_1072 := st_gL_t F_1072 (hdj_b rfl) gL
  have gI_1072 := st_gI_t F_1072 (hdj_b rfl) gI
  have gJ_1072 := st_gJ_t F_1072 (hdj_b rfl) gJ
  have hT_1072 := st_hT_t F_1072 (hdj_b rfl) hT
  have hM_1072 := st_hM_t F_1072 (hdj_b rfl) hM
  have hR_1072 := st_hR_t F_1072 (hdj_b rfl) hR
  have hL_1072 := st_hL_t F_1072 (hdj_b rfl) hL
  have hI_1072 := st_hI_t F_1072 (hdj_b rfl) hI
  refine ik_F_mono (rp_best1 (pl := pl) (f := fun j => ((0 :: 0 :: 0 :: 0 :: 0 :: 0 :: 0 :: mi :: sd :: 0 :: tn :: fp :: sc0 :: sc1 :: sc2 :: sc3 :: sc4 :: sc5 :: 0 :: 0 :: 0 :: 0 :: 0 :: 0 :: w24 :: 0 :: 0 :: 0 :: 0 :: 0 :: 0 :: 0 :: sb :: wa :: 0 :: 0 :: r :: 0 :: 0 :: 0 :: 0 :: 0 :: 0 :: []) : List Int).getD j 0) (s := s) (cn := cnr) (go := gor) (ch := chr) (gt := gt) (gd := gdd) (xs := xs) (ys := ys) (ka := ka) (pa := pa) (fa := fa) (kb := kb) (pb := pb) (fb := fb) (r1 := r1) (r2 := r2) (m := m) (what := what) f_pl f_s (fun x h0 h1 => by have := ((mx_al_rw f_rw f_al) x h0 h1).1; omega) (mx_rw_ch (mx_al_rw f_rw f_al)) (mx_rw_ok (mx_al_rw f_rw f_al) _) f_k.1 f_k.2.1 (fun w => (f_p w).1) (fun w => (f_p w).2) f_k.2.2.1 f_k.2.2.2.1 z_m z_what g_1072_66 g_1072_67 n67 g_1072_68 n68 g_1072_69 n69 g_1072_77 n77 g_1072_78 n78 g_1072_79 n79 g_1072_80 n80 g_1072_70 g_1072_81 n81 g_1072_82 n82 k_1072) ?_
  rintro v_1073 h_1073 ⟨w'_1073, gt'_1073, gd'_1073, xs'_1073, ys'_1073, r1'_1073, r2'_1073, er_1073, e_1073_66, e_1073_77, m_1073_77, e_1073_78, m_1073_78, e_1073_79, m_1073_79, e_1073_80, m_1073_80, e_1073_81, m_1073_81, e_1073_82, m_1073_82, e_1073_70, F_1073⟩ <;> subst er_1073
  have k_1073 : cL h_1073 := F_1073.1.trans k_1072
  have g_1073_0 := (hfr_g F_1073 0 rfl).trans g_1072_0
  have g_1073_7 := (hfr_g F_1073 7 rfl).trans g_1072_7
  have g_1073_8 := (hfr_g F_1073 8 rfl).trans g_1072_8
  have g_1073_9 := (hfr_g F_1073 9 rfl).trans g_1072_9
  have g_1073_10 := (hfr_g F_1073 10 rfl).trans g_1072_10
  have g_1073_11 := (hfr_g F_1073 11 rfl).trans g_1072_11
  have g_1073_12 := (hfr_g F_1073 12 rfl).trans g_1072_12
  have g_1073_13 := (hfr_g F_1073 13 rfl).trans g_1072_13
  have g_1073_14 := (hfr_g F_1073 14 rfl).trans g_1072_14
  have g_1073_15 := (hfr_g F_1073 15 rfl).trans g_1072_15
  have g_1073_16 := (hfr_g F_1073 16 rfl).trans g_1072_16
  have g_1073_17 := (hfr_g F_1073 17 rfl).trans g_1072_17
  have g_1073_18 := (hfr_g F_1073 18 rfl).trans g_1072_18
  have g_1073_19 := (hfr_g F_1073 19 rfl).trans g_1072_19
  have g_1073_20 := (hfr_g F_1073 20 rfl).trans g_1072_20
  have g_1073_21 := mf_cr_f g_1072_21 (hfr_g F_1073 21 rfl) (hfr_g F_1073 22 rfl) (hfr_g F_1073 23 rfl) (hfr_g F_1073 24 rfl)
  have g_1073_33 := mf_cr_f g_1072_33 (hfr_g F_1073 33 rfl) (hfr_g F_1073 34 rfl) (hfr_g F_1073 35 rfl) (hfr_g F_1073 36 rfl)
  have g_1073_57 := (hfr_g F_1073 57 rfl).trans g_1072_57
  have g_1073_67 := (hfr_g F_1073 67 rfl).trans g_1072_67
  have g_1073_68 := (hfr_g F_1073 68 rfl).trans g_1072_68
  have g_1073_69 := (hfr_g F_1073 69 rfl).trans g_1072_69
  have g_1073_71 := (hfr_g F_1073 71 rfl).trans g_1072_71
  have g_1073_66 : cE h_1073 66 (.inr (10, (fI pl :: .ref 67 :: .ref 68 :: .ref 69 :: fI ((s : Nat) : Int) :: .ref 70 :: .ref 71 :: fI mi :: fI sd :: .ref 72 :: fI tn :: fI fp :: fI sc0 :: fJ sc1 :: fI sc2 :: fI sc3 :: fI sc4 :: fI sc5 :: .ref 73 :: .ref 74 :: .ref 75 :: .ref 76 :: .ref 77 :: .ref 78 :: fI w'_1073 :: .ref 79 :: .ref 80 :: .ref 81 :: .ref 82 :: .ref 83 :: .ref 84 :: .ref 85 :: fJ sb :: fJ wa :: .ref 86 :: .ref 87 :: fI r :: .ref 88 :: .ref 89 :: .ref 90 :: .ref 91 :: .ref 92 :: .ref 93 :: []))) := e_1073_66
  have g_1073_77 : cE h_1073 77 (.inl (.int, fA gt'_1073)) := e_1073_77
  have g_1073_78 : cE h_1073 78 (.inl (.int, fA gd'_1073)) := e_1073_78
  have g_1073_79 : cE h_1073 79 (.inl (.long, fL xs'_1073)) := e_1073_79
  have g_1073_80 : cE h_1073 80 (.inl (.long, fL ys'_1073)) := e_1073_80
  have g_1073_81 : cE h_1073 81 (.inl (.long, fL r1'_1073)) := e_1073_81
  have g_1073_82 : cE h_1073 82 (.inl (.long, fL r2'_1073)) := e_1073_82
  have g_1073_70 : cE h_1073 70 (.inl (.int, fA [ka, pa, fa, kb, pb, fb])) := e_1073_70
  refine ⟨rfl, ?_⟩
  have gT_1073 := st_gT_t F_1073 (hdj_b rfl) gT_1072
  have gW_1073 := st_gW_t F_1073 (hdj_b rfl) gW_1072
  have gM_1073 := st_gM_t F_1073 (hdj_b rfl) gM_1072
  have gR_1073 := st_gR_t F_1073 (hdj_b rfl) gR_1072
  have gL_1073 := st_gL_t F_1073 (hdj_b rfl) gL_1072
  have gI_1073 := st_gI_t F_1073 (hdj_b rfl) gI_1072
  have gJ_1073 := st_gJ_t F_1073 (hdj_b rfl) gJ_1072
  have hT_1073 := st_hT_t F_1073 (hdj_b rfl) hT_1072
  have hM_1073 := st_hM_t F_1073 (hdj_b rfl) hM_1072
  have hR_1073 := st_hR_t F_1073 (hdj_b rfl) hR_1072
  have hL_1073 := st_hL_t F_1073 (hdj_b rfl) hL_1072
  have hI_1073 := st_hI_t F_1073 (hdj_b rfl) hI_1072
  intro C_ k_
  exact k_ tn fp pl mi sd ka pa fa kb pb fb xa xb r n0 n1 ga0 gm0 gd_0 gs0 g00 g01 g02 g03 g04 g05 gx0 gy0 ga1 gm1 gd_1 gs1 g10 g11 g12 g13 g14 g15 gx1 gy1 s T cn go ch wg wc we rp rt lr ci0 ci1 cnr gor chr T2 im f_pl f_s f_st f_cb f_cr f_rw f_al f_wy f_k f_p f_x (by first | exact st_m f_m | omega) f_sd f_r f_rr f_n f_l0 f_l1 f_tn f_t (st_I_K f_i0) (st_I_K f_i1) ⟨g_1073_0, g_1073_18, g_1073_57⟩ gT_1073 ⟨g_1073_7, g_1073_8, n8, g_1073_9, n9, g_1073_10, n10, g_1073_11, n11, g_1073_12, n12, g_1073_13, n13⟩ ⟨g_1073_14, g_1073_15, g_1073_16⟩ ⟨l2_1072, l0_1072, l1_1072, z0_1072, z1_1072, z2_1072, z3_1072, g_1073_17, g_1073_19, g_1073_20⟩ ⟨g_1073_21, g_1073_33⟩ gW_1073 gM_1073 gR_1073 gL_1073 gI_1073 gJ_1073 ⟨sc0, sc1, sc2, sc3, sc4, sc5, w'_1073, sb, wa, g_1073_66⟩ ⟨g_1073_67, n67, g_1073_68, n68, g_1073_69, n69⟩ ⟨g_1073_70, g_1073_71⟩ hT_1073 ⟨gt'_1073, gd'_1073, xs'_1073, ys'_1073, r1'_1073, r2'_1073, g_1073_77, m_1073_77, g_1073_78, m_1073_78, g_1073_79, m_1073_79, g_1073_80, m_1073_80, g_1073_81, m_1073_81, g_1073_82, m_1073_82⟩ hM_1073 hR_1073 hL_1073 hI_1073 k_1073

set_option maxRecDepth 100000 in
theorem lk_bestE {K : Nat} {h : List ik_E} (E : st_S K h) (hK : K ≤ 600) {side : Int} {m : Int} {what : Int} (z_side : -2147483648 ≤ side ∧ side < 2147483648) (z_m : -2147483648 ≤ m ∧ m < 2147483648) (z_what : -2147483648 ≤ what ∧ what < 2147483648) (n0_ : ¬ side = 0) (n1_ : ¬ side = 1) : ik_F 101 [.ref 0, fI side, fI m, fI what] h (fun rv h_q => ∃ o_ : Int, rv = [fI o_] ∧ (h_q.length = (94 : Nat) ∧ ∃ fs, h_q[66]? = some (.inr (10, fs))) ∧ ik_F 171 [.ref 66, fI side, fI m, fI what] h_q (fun rv' h'' => rv' = [fI o_] ∧ st_S (K + 1) h'')) := by
  refine E _ ?_
  intro tn fp pl mi sd ka pa fa kb pb fb xa xb r n0 n1 ga0 gm0 gd_0 gs0 g00 g01 g02 g03 g04 g05 gx0 gy0 ga1 gm1 gd_1 gs1 g10 g11 g12 g13 g14 g15 gx1 gy1 s T cn go ch wg wc we rp rt lr ci0 ci1 cnr gor chr T2 im f_pl f_s f_st f_cb f_cr f_rw f_al f_wy f_k f_p f_x f_m f_sd f_r f_rr f_n f_l0 f_l1 f_tn f_t f_i0 f_i1 gA gT gB gC gS gV gW gM gR gL gI gJ hO hB hC hT hS hM hR hL hI hl
  replace f_cb := ik_hid_i f_cb
  replace f_cr := ik_hid_i f_cr
  replace f_p := ik_hid_i f_p
  replace f_x := ik_hid_i f_x
  obtain ⟨h0, h18, h57⟩ := gA
  obtain ⟨sc0, sc1, sc2, sc3, sc4, sc5, w24, sb, wa, h66⟩ := hO
  refine ik_F_mono (cp_bestE (side := side) (m := m) (what := what) z_side n0_ n1_ h0 hl) ?_
  rintro v_1074 h_1074 ⟨er_1074, F_1074⟩ <;> subst er_1074
  have k_1074 : cL h_1074 := F_1074.1.trans hl
  have g_1074_0 := (hfr_g F_1074 0 rfl).trans h0
  have g_1074_18 := (hfr_g F_1074 18 rfl).trans h18
  have g_1074_57 := (hfr_g F_1074 57 rfl).trans h57
  have g_1074_66 := (hfr_g F_1074 66 rfl).trans h66
  refine ⟨-1000000001, rfl, ⟨k_1074, _, g_1074_66⟩, ?_⟩
  have gT_1074 := st_gT_t F_1074 (hdj_b rfl) gT
  have gB_1074 := st_gB_t F_1074 (hdj_b rfl) gB
  have gC_1074 := st_gC_t F_1074 (hdj_b rfl) gC
  have gS_1074 := st_gS_t F_1074 (hdj_b rfl) gS
  have gV_1074 := st_gV_t F_1074 (hdj_b rfl) gV
  have gW_1074 := st_gW_t F_1074 (hdj_b rfl) gW
  have gM_1074 := st_gM_t F_1074 (hdj_b rfl) gM
  have gR_1074 := st_gR_t F_1074 (hdj_b rfl) gR
  have gL_1074 := st_gL_t F_1074 (hdj_b rfl) gL
  have gI_1074 := st_gI_t F_1074 (hdj_b rfl) gI
  have gJ_1074 := st_gJ_t F_1074 (hdj_b rfl) gJ
  have hB_1074 := st_hB_t F_1074 (hdj_b rfl) hB
  have hC_1074 := st_hC_t F_1074 (hdj_b rfl) hC
  have hT_1074 := st_hT_t F_1074 (hdj_b rfl) hT
  have hS_1074 := st_hS_t F_1074 (hdj_b rfl) hS
  have hM_1074 := st_hM_t F_1074 (hdj_b rfl) hM
  have hR_1074 := st_hR_t F_1074 (hdj_b rfl) hR
  have hL_1074 := st_hL_t F_1074 (hdj_b rfl) hL
  have hI_1074 := st_hI_t F_1074 (hdj_b rfl) hI
  refine ik_F_mono (rp_bestE (side := side) (m := m) (what := what) (f := fun j => ((pl :: 0 :: 0 :: 0 :: (((s : Nat) : Int)) :: 0 :: 0 :: mi :: sd :: 0 :: tn :: fp :: sc0 :: sc1 :: sc2 :: sc3 :: sc4 :: sc5 :: 0 :: 0 :: 0 :: 0 :: 0 :: 0 :: w24 :: 0 :: 0 :: 0 :: 0 :: 0 :: 0 :: 0 :: sb :: wa :: 0 :: 0 :: r :: 0 :: 0 :: 0 :: 0 :: 0 :: 0 :: []) : List Int).getD j 0) z_side n0_ n1_ g_1074_66 k_1074) ?_
  rintro v_1075 h_1075 ⟨er_1075, F_1075⟩ <;> subst er_1075
  have k_1075 : cL h_1075 := F_1075.1.trans k_1074
  have g_1075_0 := (hfr_g F_1075 0 rfl).trans g_1074_0
  have g_1075_18 := (hfr_g F_1075 18 rfl).trans g_1074_18
  have g_1075_57 := (hfr_g F_1075 57 rfl).trans g_1074_57
  have g_1075_66 := (hfr_g F_1075 66 rfl).trans g_1074_66
  refine ⟨rfl, ?_⟩
  have gT_1075 := st_gT_t F_1075 (hdj_b rfl) gT_1074
  have gB_1075 := st_gB_t F_1075 (hdj_b rfl) gB_1074
  have gC_1075 := st_gC_t F_1075 (hdj_b rfl) gC_1074
  have gS_1075 := st_gS_t F_1075 (hdj_b rfl) gS_1074
  have gV_1075 := st_gV_t F_1075 (hdj_b rfl) gV_1074
  have gW_1075 := st_gW_t F_1075 (hdj_b rfl) gW_1074
  have gM_1075 := st_gM_t F_1075 (hdj_b rfl) gM_1074
  have gR_1075 := st_gR_t F_1075 (hdj_b rfl) gR_1074
  have gL_1075 := st_gL_t F_1075 (hdj_b rfl) gL_1074
  have gI_1075 := st_gI_t F_1075 (hdj_b rfl) gI_1074
  have gJ_1075 := st_gJ_t F_1075 (hdj_b rfl) gJ_1074
  have hB_1075 := st_hB_t F_1075 (hdj_b rfl) hB_1074
  have hC_1075 := st_hC_t F_1075 (hdj_b rfl) hC_1074
  have hT_1075 := st_hT_t F_1075 (hdj_b rfl) hT_1074
  have hS_1075 := st_hS_t F_1075 (hdj_b rfl) hS_1074
  have hM_1075 := st_hM_t F_1075 (hdj_b rfl) hM_1074
  have hR_1075 := st_hR_t F_1075 (hdj_b rfl) hR_1074
  have hL_1075 := st_hL_t F_1075 (hdj_b rfl) hL_1074
  have hI_1075 := st_hI_t F_1075 (hdj_b rfl) hI_1074
  intro C_ k_
  exact k_ tn fp pl mi sd ka pa fa kb pb fb xa xb r n0 n1 ga0 gm0 gd_0 gs0 g00 g01 g02 g03 g04 g05 gx0 gy0 ga1 gm1 gd_1 gs1 g10 g11 g12 g13 g14 g15 gx1 gy1 s T cn go ch wg wc we rp rt lr ci0 ci1 cnr gor chr T2 im f_pl f_s f_st f_cb f_cr f_rw f_al f_wy f_k f_p f_x (by first | exact st_m f_m | omega) f_sd f_r f_rr f_n f_l0 f_l1 f_tn f_t (st_I_K f_i0) (st_I_K f_i1) ⟨g_1075_0, g_1075_18, g_1075_57⟩ gT_1075 gB_1075 gC_1075 gS_1075 gV_1075 gW_1075 gM_1075 gR_1075 gL_1075 gI_1075 gJ_1075 ⟨sc0, sc1, sc2, sc3, sc4, sc5, w24, sb, wa, g_1075_66⟩ hB_1075 hC_1075 hT_1075 hS_1075 hM_1075 hR_1075 hL_1075 hI_1075 k_1075

set_option maxRecDepth 100000 in
theorem lk_most0 {K : Nat} {h : List ik_E} (E : st_S K h) (hK : K ≤ 600) {what : Int} (z_what : -2147483648 ≤ what ∧ what < 2147483648)  : ik_F 104 [.ref 0, fI 0, fI what] h (fun rv h_q => ∃ o_ : Int, rv = [fI o_] ∧ (h_q.length = (94 : Nat) ∧ ∃ fs, h_q[66]? = some (.inr (10, fs))) ∧ ik_F 182 [.ref 66, fI 0, fI what] h_q (fun rv' h'' => rv' = [fI o_] ∧ st_S (K + 1) h'')) := by
  refine E _ ?_
  intro tn fp pl mi sd ka pa fa kb pb fb xa xb r n0 n1 ga0 gm0 gd_0 gs0 g00 g01 g02 g03 g04 g05 gx0 gy0 ga1 gm1 gd_1 gs1 g10 g11 g12 g13 g14 g15 gx1 gy1 s T cn go ch wg wc we rp rt lr ci0 ci1 cnr gor chr T2 im f_pl f_s f_st f_cb f_cr f_rw f_al f_wy f_k f_p f_x f_m f_sd f_r f_rr f_n f_l0 f_l1 f_tn f_t f_i0 f_i1 gA gT gB gC gS gV gW gM gR gL gI gJ hO hB hC hT hS hM hR hL hI hl
  replace f_cb := ik_hid_i f_cb
  replace f_cr := ik_hid_i f_cr
  replace f_p := ik_hid_i f_p
  replace f_x := ik_hid_i f_x
  obtain ⟨h0, h18, h57⟩ := gA
  obtain ⟨h7, h8, n8, h9, n9, h10, n10, h11, n11, h12, n12, h13, n13⟩ := gB
  obtain ⟨h14, h15, h16⟩ := gC
  obtain ⟨bo, la, lb, t0, t1, t2, t3, h17, h19, h20⟩ := gS
  obtain ⟨h21, h33⟩ := gV
  obtain ⟨sc0, sc1, sc2, sc3, sc4, sc5, w24, sb, wa, h66⟩ := hO
  obtain ⟨h67, n67, h68, n68, h69, n69⟩ := hB
  obtain ⟨h70, h71⟩ := hC
  obtain ⟨gt, gdd, xs, ys, r1, r2, h77, n77, h78, n78, h79, n79, h80, n80, h81, n81, h82, n82⟩ := hS
  refine ik_F_mono (cp_most0 (pl := pl) (lo := ((mj_lost pl cn go : Nat) : Int)) (s := s) (bo := bo) (wg := wg) (wc := wc) (we := we) (ka := ka) (pa := pa) (fa := fa) (kb := kb) (pb := pb) (fb := fb) (la := la) (lb := lb) (t0 := t0) (t1 := t1) (t2 := t2) (t3 := t3) (what := what) (cn := cn) (go := go) (ch := ch) f_pl f_wy f_rw f_s (fun w => (f_p w).1) (fun w => (f_p w).2) ⟨f_k.1.1, f_k.1.2, f_k.2.1.1, f_k.2.1.2⟩ ⟨f_k.2.2.1.1, f_k.2.2.1.2, f_k.2.2.2.1.1, f_k.2.2.2.1.2⟩ z_what h0 h7 h11 n11 h12 n12 h13 n13 h17 h18 h15 h19 h21 h33 h8 n8 h9 n9 h10 n10 h20 hl) ?_
  rintro v_1076 h_1076 ⟨l0_1076, l1_1076, l2_1076, wg'_1076, wc'_1076, we'_1076, z0_1076, z1_1076, z2_1076, z3_1076, er_1076, e_1076_7, e_1076_11, m_1076_11, e_1076_12, m_1076_12, e_1076_13, m_1076_13, e_1076_17, e_1076_19, e_1076_21, e_1076_33, e_1076_20, p_1076_0, F_1076⟩ <;> subst er_1076
  have k_1076 : cL h_1076 := F_1076.1.trans hl
  have g_1076_0 := (hfr_g F_1076 0 rfl).trans h0
  have g_1076_8 := (hfr_g F_1076 8 rfl).trans h8
  have g_1076_9 := (hfr_g F_1076 9 rfl).trans h9
  have g_1076_10 := (hfr_g F_1076 10 rfl).trans h10
  have g_1076_14 := (hfr_g F_1076 14 rfl).trans h14
  have g_1076_15 := (hfr_g F_1076 15 rfl).trans h15
  have g_1076_16 := (hfr_g F_1076 16 rfl).trans h16
  have g_1076_18 := (hfr_g F_1076 18 rfl).trans h18
  have g_1076_57 := (hfr_g F_1076 57 rfl).trans h57
  have g_1076_66 := (hfr_g F_1076 66 rfl).trans h66
  have g_1076_67 := (hfr_g F_1076 67 rfl).trans h67
  have g_1076_68 := (hfr_g F_1076 68 rfl).trans h68
  have g_1076_69 := (hfr_g F_1076 69 rfl).trans h69
  have g_1076_70 := (hfr_g F_1076 70 rfl).trans h70
  have g_1076_71 := (hfr_g F_1076 71 rfl).trans h71
  have g_1076_77 := (hfr_g F_1076 77 rfl).trans h77
  have g_1076_78 := (hfr_g F_1076 78 rfl).trans h78
  have g_1076_79 := (hfr_g F_1076 79 rfl).trans h79
  have g_1076_80 := (hfr_g F_1076 80 rfl).trans h80
  have g_1076_81 := (hfr_g F_1076 81 rfl).trans h81
  have g_1076_82 := (hfr_g F_1076 82 rfl).trans h82
  have g_1076_7 : cE h_1076 7 (.inr (0, [fI pl, fI ((s : Nat) : Int), fI ((mj_lost pl cn go : Nat) : Int), .ref 8, .ref 9, .ref 10, .ref 11, .ref 12, .ref 13])) := e_1076_7
  have g_1076_11 : cE h_1076 11 (.inl (.int, fA wg'_1076)) := e_1076_11
  have g_1076_12 : cE h_1076 12 (.inl (.int, fA wc'_1076)) := e_1076_12
  have g_1076_13 : cE h_1076 13 (.inl (.int, fA we'_1076)) := e_1076_13
  have g_1076_17 : cE h_1076 17 (.inr (8, [.ref 7, .ref 15, .ref 18, .ref 19, fJ l2_1076, .ref 20])) := e_1076_17
  have g_1076_19 : cE h_1076 19 (.inl (.long, fL [l0_1076, l1_1076])) := e_1076_19
  have g_1076_21 : mf_cr h_1076 21  := e_1076_21
  have g_1076_33 : mf_cr h_1076 33  := e_1076_33
  have g_1076_20 : cE h_1076 20 (.inl (.int, fA [z0_1076, z1_1076, z2_1076, z3_1076])) := e_1076_20
  refine ⟨an_mo what pl (if what = 0 then (mk_mo (mk_vm cn go ch s pl ka pa fa kb pb fb 0) (pl - 1).toNat 0 (-1) 0).1 else (mk_mo (mk_vm cn go ch s pl ka pa fa kb pb fb 0) (pl - 1).toNat 0 (-1) 0).2), rfl, ⟨k_1076, _, g_1076_66⟩, ?_⟩
  have gT_1076 := st_gT_t F_1076 (hdj_b rfl) gT
  have gW_1076 := st_gW_t F_1076 (hdj_b rfl) gW
  have gM_1076 := st_gM_t F_1076 (hdj_b rfl) gM
  have gR_1076 := st_gR_t F_1076 (hdj_b rfl) gR
  have gL_1076 := st_gL_t F_1076 (hdj_b rfl) gL
  have gI_1076 := st_gI_t F_1076 (hdj_b rfl) gI
  have gJ_1076 := st_gJ_t F_1076 (hdj_b rfl) gJ
  have hT_1076 := st_hT_t F_1076 (hdj_b rfl) hT
  have hM_1076 := st_hM_t F_1076 (hdj_b rfl) hM
  have hR_1076 := st_hR_t F_1076 (hdj_b rfl) hR
  have hL_1076 := st_hL_t F_1076 (hdj_b rfl) hL
  have hI_1076 := st_hI_t F_1076 (hdj_b rfl) hI
  refine ik_F_mono (rp_most0 (pl := pl) (f := fun j => ((0 :: 0 :: 0 :: 0 :: 0 :: 0 :: 0 :: mi :: sd :: 0 :: tn :: fp :: sc0 :: sc1 :: sc2 :: sc3 :: sc4 :: sc5 :: 0 :: 0 :: 0 :: 0 :: 0 :: 0 :: w24 :: 0 :: 0 :: 0 :: 0 :: 0 :: 0 :: 0 :: sb :: wa :: 0 :: 0 :: r :: 0 :: 0 :: 0 :: 0 :: 0 :: 0 :: []) : List Int).getD j 0) (s := s) (cn := cnr) (go := gor) (ch := chr) (gt := gt) (gd := gdd) (xs := xs) (ys := ys) (ka := ka) (pa := pa) (fa := fa) (kb := kb) (pb := pb) (fb := fb) (r1 := r1) (r2 := r2) (what := what) f_pl f_s (fun x h0 h1 => by have := ((mx_al_rw f_rw f_al) x h0 h1).1; omega) (mx_rw_ch (mx_al_rw f_rw f_al)) (mx_rw_ok (mx_al_rw f_rw f_al) _) f_k.1 f_k.2.1 (fun w => (f_p w).1) (fun w => (f_p w).2) f_k.2.2.1 f_k.2.2.2.1 (mx_al_rw f_rw f_al) z_what g_1076_66 g_1076_67 n67 g_1076_68 n68 g_1076_69 n69 g_1076_77 n77 g_1076_78 n78 g_1076_79 n79 g_1076_80 n80 g_1076_70 g_1076_81 n81 g_1076_82 n82 k_1076) ?_
  rintro v_1077 h_1077 ⟨w'_1077, gt'_1077, gd'_1077, xs'_1077, ys'_1077, r1'_1077, r2'_1077, er_1077, e_1077_66, e_1077_77, m_1077_77, e_1077_78, m_1077_78, e_1077_79, m_1077_79, e_1077_80, m_1077_80, e_1077_81, m_1077_81, e_1077_82, m_1077_82, F_1077⟩ <;> subst er_1077
  have k_1077 : cL h_1077 := F_1077.1.trans k_1076
  have g_1077_0 := (hfr_g F_1077 0 rfl).trans g_1076_0
  have g_1077_7 := (hfr_g F_1077 7 rfl).trans g_1076_7
  have g_1077_8 := (hfr_g F_1077 8 rfl).trans g_1076_8
  have g_1077_9 := (hfr_g F_1077 9 rfl).trans g_1076_9
  have g_1077_10 := (hfr_g F_1077 10 rfl).trans g_1076_10
  have g_1077_11 := (hfr_g F_1077 11 rfl).trans g_1076_11
  have g_1077_12 := (hfr_g F_1077 12 rfl).trans g_1076_12
  have g_1077_13 := (hfr_g F_1077 13 rfl).trans g_1076_13
  have g_1077_14 := (hfr_g F_1077 14 rfl).trans g_1076_14
  have g_1077_15 := (hfr_g F_1077 15 rfl).trans g_1076_15
  have g_1077_16 := (hfr_g F_1077 16 rfl).trans g_1076_16
  have g_1077_17 := (hfr_g F_1077 17 rfl).trans g_1076_17
  have g_1077_18 := (hfr_g F_1077 18 rfl).trans g_1076_18
  have g_1077_19 := (hfr_g F_1077 19 rfl).trans g_1076_19
  have g_1077_20 := (hfr_g F_1077 20 rfl).trans g_1076_20
  have g_1077_21 := mf_cr_f g_1076_21 (hfr_g F_1077 21 rfl) (hfr_g F_1077 22 rfl) (hfr_g F_1077 23 rfl) (hfr_g F_1077 24 rfl)
  have g_1077_33 := mf_cr_f g_1076_33 (hfr_g F_1077 33 rfl) (hfr_g F_1077 34 rfl) (hfr_g F_1077 35 rfl) (hfr_g F_1077 36 rfl)
  have g_1077_57 := (hfr_g F_1077 57 rfl).trans g_1076_57
  have g_1077_67 := (hfr_g F_1077 67 rfl).trans g_1076_67
  have g_1077_68 := (hfr_g F_1077 68 rfl).trans g_1076_68
  have g_1077_69 := (hfr_g F_1077 69 rfl).trans g_1076_69
  have g_1077_70 := (hfr_g F_1077 70 rfl).trans g_1076_70
  have g_1077_71 := (hfr_g F_1077 71 rfl).trans g_1076_71
  have g_1077_66 : cE h_1077 66 (.inr (10, (fI pl :: .ref 67 :: .ref 68 :: .ref 69 :: fI ((s : Nat) : Int) :: .ref 70 :: .ref 71 :: fI mi :: fI sd :: .ref 72 :: fI tn :: fI fp :: fI sc0 :: fJ sc1 :: fI sc2 :: fI sc3 :: fI sc4 :: fI sc5 :: .ref 73 :: .ref 74 :: .ref 75 :: .ref 76 :: .ref 77 :: .ref 78 :: fI w'_1077 :: .ref 79 :: .ref 80 :: .ref 81 :: .ref 82 :: .ref 83 :: .ref 84 :: .ref 85 :: fJ sb :: fJ wa :: .ref 86 :: .ref 87 :: fI r :: .ref 88 :: .ref 89 :: .ref 90 :: .ref 91 :: .ref 92 :: .ref 93 :: []))) := e_1077_66
  have g_1077_77 : cE h_1077 77 (.inl (.int, fA gt'_1077)) := e_1077_77
  have g_1077_78 : cE h_1077 78 (.inl (.int, fA gd'_1077)) := e_1077_78
  have g_1077_79 : cE h_1077 79 (.inl (.long, fL xs'_1077)) := e_1077_79
  have g_1077_80 : cE h_1077 80 (.inl (.long, fL ys'_1077)) := e_1077_80
  have g_1077_81 : cE h_1077 81 (.inl (.long, fL r1'_1077)) := e_1077_81
  have g_1077_82 : cE h_1077 82 (.inl (.long, fL r2'_1077)) := e_1077_82
  refine ⟨(congrArg (fun z => [fI z]) (by rw [mx_al_vm f_rw f_al])), ?_⟩
  have gT_1077 := st_gT_t F_1077 (hdj_b rfl) gT_1076
  have gW_1077 := st_gW_t F_1077 (hdj_b rfl) gW_1076
  have gM_1077 := st_gM_t F_1077 (hdj_b rfl) gM_1076
  have gR_1077 := st_gR_t F_1077 (hdj_b rfl) gR_1076
  have gL_1077 := st_gL_t F_1077 (hdj_b rfl) gL_1076
  have gI_1077 := st_gI_t F_1077 (hdj_b rfl) gI_1076
  have gJ_1077 := st_gJ_t F_1077 (hdj_b rfl) gJ_1076
  have hT_1077 := st_hT_t F_1077 (hdj_b rfl) hT_1076
  have hM_1077 := st_hM_t F_1077 (hdj_b rfl) hM_1076
  have hR_1077 := st_hR_t F_1077 (hdj_b rfl) hR_1076
  have hL_1077 := st_hL_t F_1077 (hdj_b rfl) hL_1076
  have hI_1077 := st_hI_t F_1077 (hdj_b rfl) hI_1076
  intro C_ k_
  exact k_ tn fp pl mi sd ka pa fa kb pb fb xa xb r n0 n1 ga0 gm0 gd_0 gs0 g00 g01 g02 g03 g04 g05 gx0 gy0 ga1 gm1 gd_1 gs1 g10 g11 g12 g13 g14 g15 gx1 gy1 s T cn go ch wg'_1076 wc'_1076 we'_1076 rp rt lr ci0 ci1 cnr gor chr T2 im f_pl f_s f_st f_cb f_cr f_rw f_al p_1076_0 f_k f_p f_x (by first | exact st_m f_m | omega) f_sd f_r f_rr f_n f_l0 f_l1 f_tn f_t (st_I_K f_i0) (st_I_K f_i1) ⟨g_1077_0, g_1077_18, g_1077_57⟩ gT_1077 ⟨g_1077_7, g_1077_8, n8, g_1077_9, n9, g_1077_10, n10, g_1077_11, m_1076_11, g_1077_12, m_1076_12, g_1077_13, m_1076_13⟩ ⟨g_1077_14, g_1077_15, g_1077_16⟩ ⟨l2_1076, l0_1076, l1_1076, z0_1076, z1_1076, z2_1076, z3_1076, g_1077_17, g_1077_19, g_1077_20⟩ ⟨g_1077_21, g_1077_33⟩ gW_1077 gM_1077 gR_1077 gL_1077 gI_1077 gJ_1077 ⟨sc0, sc1, sc2, sc3, sc4, sc5, w'_1077, sb, wa, g_1077_66⟩ ⟨g_1077_67, n67, g_1077_68, n68, g_1077_69, n69⟩ ⟨g_1077_70, g_1077_71⟩ hT_1077 ⟨gt'_1077, gd'_1077, xs'_1077, ys'_1077, r1'_1077, r2'_1077, g_1077_77, m_1077_77, g_1077_78, m_1077_78, g_1077_79, m_1077_79, g_1077_80, m_1077_80, g_1077_81, m_1077_81, g_1077_82, m_1077_82⟩ hM_1077 hR_1077 hL_1077 hI_1077 k_1077

set_option maxRecDepth 100000 in
theorem lk_most1 {K : Nat} {h : List ik_E} (E : st_S K h) (hK : K ≤ 600) {what : Int} (z_what : -2147483648 ≤ what ∧ what < 2147483648)  : ik_F 104 [.ref 0, fI 1, fI what] h (fun rv h_q => ∃ o_ : Int, rv = [fI o_] ∧ (h_q.length = (94 : Nat) ∧ ∃ fs, h_q[66]? = some (.inr (10, fs))) ∧ ik_F 182 [.ref 66, fI 1, fI what] h_q (fun rv' h'' => rv' = [fI o_] ∧ st_S (K + 1) h'')) := by
  refine E _ ?_
  intro tn fp pl mi sd ka pa fa kb pb fb xa xb r n0 n1 ga0 gm0 gd_0 gs0 g00 g01 g02 g03 g04 g05 gx0 gy0 ga1 gm1 gd_1 gs1 g10 g11 g12 g13 g14 g15 gx1 gy1 s T cn go ch wg wc we rp rt lr ci0 ci1 cnr gor chr T2 im f_pl f_s f_st f_cb f_cr f_rw f_al f_wy f_k f_p f_x f_m f_sd f_r f_rr f_n f_l0 f_l1 f_tn f_t f_i0 f_i1 gA gT gB gC gS gV gW gM gR gL gI gJ hO hB hC hT hS hM hR hL hI hl
  replace f_cb := ik_hid_i f_cb
  replace f_cr := ik_hid_i f_cr
  replace f_p := ik_hid_i f_p
  replace f_x := ik_hid_i f_x
  obtain ⟨h0, h18, h57⟩ := gA
  obtain ⟨h7, h8, n8, h9, n9, h10, n10, h11, n11, h12, n12, h13, n13⟩ := gB
  obtain ⟨h14, h15, h16⟩ := gC
  obtain ⟨bo, la, lb, t0, t1, t2, t3, h17, h19, h20⟩ := gS
  obtain ⟨h21, h33⟩ := gV
  obtain ⟨sc0, sc1, sc2, sc3, sc4, sc5, w24, sb, wa, h66⟩ := hO
  obtain ⟨h67, n67, h68, n68, h69, n69⟩ := hB
  obtain ⟨h70, h71⟩ := hC
  obtain ⟨gt, gdd, xs, ys, r1, r2, h77, n77, h78, n78, h79, n79, h80, n80, h81, n81, h82, n82⟩ := hS
  refine ik_F_mono (cp_most1 (pl := pl) (lo := ((mj_lost pl cn go : Nat) : Int)) (s := s) (bo := bo) (wg := wg) (wc := wc) (we := we) (ka := ka) (pa := pa) (fa := fa) (kb := kb) (pb := pb) (fb := fb) (la := la) (lb := lb) (t0 := t0) (t1 := t1) (t2 := t2) (t3 := t3) (what := what) (cn := cn) (go := go) (ch := ch) f_pl f_wy f_rw f_s (fun w => (f_p w).1) (fun w => (f_p w).2) ⟨f_k.1.1, f_k.1.2, f_k.2.1.1, f_k.2.1.2⟩ ⟨f_k.2.2.1.1, f_k.2.2.1.2, f_k.2.2.2.1.1, f_k.2.2.2.1.2⟩ z_what h0 h7 h11 n11 h12 n12 h13 n13 h17 h18 h15 h19 h21 h33 h8 n8 h9 n9 h10 n10 h20 hl) ?_
  rintro v_1078 h_1078 ⟨l0_1078, l1_1078, l2_1078, wg'_1078, wc'_1078, we'_1078, z0_1078, z1_1078, z2_1078, z3_1078, er_1078, e_1078_7, e_1078_11, m_1078_11, e_1078_12, m_1078_12, e_1078_13, m_1078_13, e_1078_17, e_1078_19, e_1078_21, e_1078_33, e_1078_20, p_1078_0, F_1078⟩ <;> subst er_1078
  have k_1078 : cL h_1078 := F_1078.1.trans hl
  have g_1078_0 := (hfr_g F_1078 0 rfl).trans h0
  have g_1078_8 := (hfr_g F_1078 8 rfl).trans h8
  have g_1078_9 := (hfr_g F_1078 9 rfl).trans h9
  have g_1078_10 := (hfr_g F_1078 10 rfl).trans h10
  have g_1078_14 := (hfr_g F_1078 14 rfl).trans h14
  have g_1078_15 := (hfr_g F_1078 15 rfl).trans h15
  have g_1078_16 := (hfr_g F_1078 16 rfl).trans h16
  have g_1078_18 := (hfr_g F_1078 18 rfl).trans h18
  have g_1078_57 := (hfr_g F_1078 57 rfl).trans h57
  have g_1078_66 := (hfr_g F_1078 66 rfl).trans h66
  have g_1078_67 := (hfr_g F_1078 67 rfl).trans h67
  have g_1078_68 := (hfr_g F_1078 68 rfl).trans h68
  have g_1078_69 := (hfr_g F_1078 69 rfl).trans h69
  have g_1078_70 := (hfr_g F_1078 70 rfl).trans h70
  have g_1078_71 := (hfr_g F_1078 71 rfl).trans h71
  have g_1078_77 := (hfr_g F_1078 77 rfl).trans h77
  have g_1078_78 := (hfr_g F_1078 78 rfl).trans h78
  have g_1078_79 := (hfr_g F_1078 79 rfl).trans h79
  have g_1078_80 := (hfr_g F_1078 80 rfl).trans h80
  have g_1078_81 := (hfr_g F_1078 81 rfl).trans h81
  have g_1078_82 := (hfr_g F_1078 82 rfl).trans h82
  have g_1078_7 : cE h_1078 7 (.inr (0, [fI pl, fI ((s : Nat) : Int), fI ((mj_lost pl cn go : Nat) : Int), .ref 8, .ref 9, .ref 10, .ref 11, .ref 12, .ref 13])) := e_1078_7
  have g_1078_11 : cE h_1078 11 (.inl (.int, fA wg'_1078)) := e_1078_11
  have g_1078_12 : cE h_1078 12 (.inl (.int, fA wc'_1078)) := e_1078_12
  have g_1078_13 : cE h_1078 13 (.inl (.int, fA we'_1078)) := e_1078_13
  have g_1078_17 : cE h_1078 17 (.inr (8, [.ref 7, .ref 15, .ref 18, .ref 19, fJ l2_1078, .ref 20])) := e_1078_17
  have g_1078_19 : cE h_1078 19 (.inl (.long, fL [l0_1078, l1_1078])) := e_1078_19
  have g_1078_21 : mf_cr h_1078 21  := e_1078_21
  have g_1078_33 : mf_cr h_1078 33  := e_1078_33
  have g_1078_20 : cE h_1078 20 (.inl (.int, fA [z0_1078, z1_1078, z2_1078, z3_1078])) := e_1078_20
  refine ⟨an_mo what pl (if what = 0 then (mk_mo (mk_vm cn go ch s pl ka pa fa kb pb fb 1) (pl - 1).toNat 0 (-1) 0).1 else (mk_mo (mk_vm cn go ch s pl ka pa fa kb pb fb 1) (pl - 1).toNat 0 (-1) 0).2), rfl, ⟨k_1078, _, g_1078_66⟩, ?_⟩
  have gT_1078 := st_gT_t F_1078 (hdj_b rfl) gT
  have gW_1078 := st_gW_t F_1078 (hdj_b rfl) gW
  have gM_1078 := st_gM_t F_1078 (hdj_b rfl) gM
  have gR_1078 := st_gR_t F_1078 (hdj_b rfl) gR
  have gL_1078 := st_gL_t F_1078 (hdj_b rfl) gL
  have gI_1078 := st_gI_t F_1078 (hdj_b rfl) gI
  have gJ_1078 := st_gJ_t F_1078 (hdj_b rfl) gJ
  have hT_1078 := st_hT_t F_1078 (hdj_b rfl) hT
  have hM_1078 := st_hM_t F_1078 (hdj_b rfl) hM
  have hR_1078 := st_hR_t F_1078 (hdj_b rfl) hR
  have hL_1078 := st_hL_t F_1078 (hdj_b rfl) hL
  have hI_1078 := st_hI_t F_1078 (hdj_b rfl) hI
  refine ik_F_mono (rp_most1 (pl := pl) (f := fun j => ((0 :: 0 :: 0 :: 0 :: 0 :: 0 :: 0 :: mi :: sd :: 0 :: tn :: fp :: sc0 :: sc1 :: sc2 :: sc3 :: sc4 :: sc5 :: 0 :: 0 :: 0 :: 0 :: 0 :: 0 :: w24 :: 0 :: 0 :: 0 :: 0 :: 0 :: 0 :: 0 :: sb :: wa :: 0 :: 0 :: r :: 0 :: 0 :: 0 :: 0 :: 0 :: 0 :: []) : List Int).getD j 0) (s := s) (cn := cnr) (go := gor) (ch := chr) (gt := gt) (gd := gdd) (xs := xs) (ys := ys) (ka := ka) (pa := pa) (fa := fa) (kb := kb) (pb := pb) (fb := fb) (r1 := r1) (r2 := r2) (what := what) f_pl f_s (fun x h0 h1 => by have := ((mx_al_rw f_rw f_al) x h0 h1).1; omega) (mx_rw_ch (mx_al_rw f_rw f_al)) (mx_rw_ok (mx_al_rw f_rw f_al) _) f_k.1 f_k.2.1 (fun w => (f_p w).1) (fun w => (f_p w).2) f_k.2.2.1 f_k.2.2.2.1 (mx_al_rw f_rw f_al) z_what g_1078_66 g_1078_67 n67 g_1078_68 n68 g_1078_69 n69 g_1078_77 n77 g_1078_78 n78 g_1078_79 n79 g_1078_80 n80 g_1078_70 g_1078_81 n81 g_1078_82 n82 k_1078) ?_
  rintro v_1079 h_1079 ⟨w'_1079, gt'_1079, gd'_1079, xs'_1079, ys'_1079, r1'_1079, r2'_1079, er_1079, e_1079_66, e_1079_77, m_1079_77, e_1079_78, m_1079_78, e_1079_79, m_1079_79, e_1079_80, m_1079_80, e_1079_81, m_1079_81, e_1079_82, m_1079_82, F_1079⟩ <;> subst er_1079
  have k_1079 : cL h_1079 := F_1079.1.trans k_1078
  have g_1079_0 := (hfr_g F_1079 0 rfl).trans g_1078_0
  have g_1079_7 := (hfr_g F_1079 7 rfl).trans g_1078_7
  have g_1079_8 := (hfr_g F_1079 8 rfl).trans g_1078_8
  have g_1079_9 := (hfr_g F_1079 9 rfl).trans g_1078_9
  have g_1079_10 := (hfr_g F_1079 10 rfl).trans g_1078_10
  have g_1079_11 := (hfr_g F_1079 11 rfl).trans g_1078_11
  have g_1079_12 := (hfr_g F_1079 12 rfl).trans g_1078_12
  have g_1079_13 := (hfr_g F_1079 13 rfl).trans g_1078_13
  have g_1079_14 := (hfr_g F_1079 14 rfl).trans g_1078_14
  have g_1079_15 := (hfr_g F_1079 15 rfl).trans g_1078_15
  have g_1079_16 := (hfr_g F_1079 16 rfl).trans g_1078_16
  have g_1079_17 := (hfr_g F_1079 17 rfl).trans g_1078_17
  have g_1079_18 := (hfr_g F_1079 18 rfl).trans g_1078_18
  have g_1079_19 := (hfr_g F_1079 19 rfl).trans g_1078_19
  have g_1079_20 := (hfr_g F_1079 20 rfl).trans g_1078_20
  have g_1079_21 := mf_cr_f g_1078_21 (hfr_g F_1079 21 rfl) (hfr_g F_1079 22 rfl) (hfr_g F_1079 23 rfl) (hfr_g F_1079 24 rfl)
  have g_1079_33 := mf_cr_f g_1078_33 (hfr_g F_1079 33 rfl) (hfr_g F_1079 34 rfl) (hfr_g F_1079 35 rfl) (hfr_g F_1079 36 rfl)
  have g_1079_57 := (hfr_g F_1079 57 rfl).trans g_1078_57
  have g_1079_67 := (hfr_g F_1079 67 rfl).trans g_1078_67
  have g_1079_68 := (hfr_g F_1079 68 rfl).trans g_1078_68
  have g_1079_69 := (hfr_g F_1079 69 rfl).trans g_1078_69
  have g_1079_70 := (hfr_g F_1079 70 rfl).trans g_1078_70
  have g_1079_71 := (hfr_g F_1079 71 rfl).trans g_1078_71
  have g_1079_66 : cE h_1079 66 (.inr (10, (fI pl :: .ref 67 :: .ref 68 :: .ref 69 :: fI ((s : Nat) : Int) :: .ref 70 :: .ref 71 :: fI mi :: fI sd :: .ref 72 :: fI tn :: fI fp :: fI sc0 :: fJ sc1 :: fI sc2 :: fI sc3 :: fI sc4 :: fI sc5 :: .ref 73 :: .ref 74 :: .ref 75 :: .ref 76 :: .ref 77 :: .ref 78 :: fI w'_1079 :: .ref 79 :: .ref 80 :: .ref 81 :: .ref 82 :: .ref 83 :: .ref 84 :: .ref 85 :: fJ sb :: fJ wa :: .ref 86 :: .ref 87 :: fI r :: .ref 88 :: .ref 89 :: .ref 90 :: .ref 91 :: .ref 92 :: .ref 93 :: []))) := e_1079_66
  have g_1079_77 : cE h_1079 77 (.inl (.int, fA gt'_1079)) := e_1079_77
  have g_1079_78 : cE h_1079 78 (.inl (.int, fA gd'_1079)) := e_1079_78
  have g_1079_79 : cE h_1079 79 (.inl (.long, fL xs'_1079)) := e_1079_79
  have g_1079_80 : cE h_1079 80 (.inl (.long, fL ys'_1079)) := e_1079_80
  have g_1079_81 : cE h_1079 81 (.inl (.long, fL r1'_1079)) := e_1079_81
  have g_1079_82 : cE h_1079 82 (.inl (.long, fL r2'_1079)) := e_1079_82
  refine ⟨(congrArg (fun z => [fI z]) (by rw [mx_al_vm f_rw f_al])), ?_⟩
  have gT_1079 := st_gT_t F_1079 (hdj_b rfl) gT_1078
  have gW_1079 := st_gW_t F_1079 (hdj_b rfl) gW_1078
  have gM_1079 := st_gM_t F_1079 (hdj_b rfl) gM_1078
  have gR_1079 := st_gR_t F_1079 (hdj_b rfl) gR_1078
  have gL_1079 := st_gL_t F_1079 (hdj_b rfl) gL_1078
  have gI_1079 := st_gI_t F_1079 (hdj_b rfl) gI_1078
  have gJ_1079 := st_gJ_t F_1079 (hdj_b rfl) gJ_1078
  have hT_1079 := st_hT_t F_1079 (hdj_b rfl) hT_1078
  have hM_1079 := st_hM_t F_1079 (hdj_b rfl) hM_1078
  have hR_1079 := st_hR_t F_1079 (hdj_b rfl) hR_1078
  have hL_1079 := st_hL_t F_1079 (hdj_b rfl) hL_1078
  have hI_1079 := st_hI_t F_1079 (hdj_b rfl) hI_1078
  intro C_ k_
  exact k_ tn fp pl mi sd ka pa fa kb pb fb xa xb r n0 n1 ga0 gm0 gd_0 gs0 g00 g01 g02 g03 g04 g05 gx0 gy0 ga1 gm1 gd_1 gs1 g10 g11 g12 g13 g14 g15 gx1 gy1 s T cn go ch wg'_1078 wc'_1078 we'_1078 rp rt lr ci0 ci1 cnr gor chr T2 im f_pl f_s f_st f_cb f_cr f_rw f_al p_1078_0 f_k f_p f_x (by first | exact st_m f_m | omega) f_sd f_r f_rr f_n f_l0 f_l1 f_tn f_t (st_I_K f_i0) (st_I_K f_i1) ⟨g_1079_0, g_1079_18, g_1079_57⟩ gT_1079 ⟨g_1079_7, g_1079_8, n8, g_1079_9, n9, g_1079_10, n10, g_1079_11, m_1078_11, g_1079_12, m_1078_12, g_1079_13, m_1078_13⟩ ⟨g_1079_14, g_1079_15, g_1079_16⟩ ⟨l2_1078, l0_1078, l1_1078, z0_1078, z1_1078, z2_1078, z3_1078, g_1079_17, g_1079_19, g_1079_20⟩ ⟨g_1079_21, g_1079_33⟩ gW_1079 gM_1079 gR_1079 gL_1079 gI_1079 gJ_1079 ⟨sc0, sc1, sc2, sc3, sc4, sc5, w'_1079, sb, wa, g_1079_66⟩ ⟨g_1079_67, n67, g_1079_68, n68, g_1079_69, n69⟩ ⟨g_1079_70, g_1079_71⟩ hT_1079 ⟨gt'_1079, gd'_1079, xs'_1079, ys'_1079, r1'_1079, r2'_1079, g_1079_77, m_1079_77, g_1079_78, m_1079_78, g_1079_79, m_1079_79, g_1079_80, m_1079_80, g_1079_81, m_1079_81, g_1079_82, m_1079_82⟩ hM_1079 hR_1079 hL_1079 hI_1079 k_1079

set_option maxRecDepth 100000 in
theorem lk_mostE {K : Nat} {h : List ik_E} (E : st_S K h) (hK : K ≤ 600) {side : Int} {what : Int} (z_side : -2147483648 ≤ side ∧ side < 2147483648) (z_what : -2147483648 ≤ what ∧ what < 2147483648) (n0_ : ¬ side = 0) (n1_ : ¬ side = 1) : ik_F 104 [.ref 0, fI side, fI what] h (fun rv h_q => ∃ o_ : Int, rv = [fI o_] ∧ (h_q.length = (94 : Nat) ∧ ∃ fs, h_q[66]? = some (.inr (10, fs))) ∧ ik_F 182 [.ref 66, fI side, fI what] h_q (fun rv' h'' => rv' = [fI o_] ∧ st_S (K + 1) h'')) := by
  refine E _ ?_
  intro tn fp pl mi sd ka pa fa kb pb fb xa xb r n0 n1 ga0 gm0 gd_0 gs0 g00 g01 g02 g03 g04 g05 gx0 gy0 ga1 gm1 gd_1 gs1 g10 g11 g12 g13 g14 g15 gx1 gy1 s T cn go ch wg wc we rp rt lr ci0 ci1 cnr gor chr T2 im f_pl f_s f_st f_cb f_cr f_rw f_al f_wy f_k f_p f_x f_m f_sd f_r f_rr f_n f_l0 f_l1 f_tn f_t f_i0 f_i1 gA gT gB gC gS gV gW gM gR gL gI gJ hO hB hC hT hS hM hR hL hI hl
  replace f_cb := ik_hid_i f_cb
  replace f_cr := ik_hid_i f_cr
  replace f_p := ik_hid_i f_p
  replace f_x := ik_hid_i f_x
  obtain ⟨h0, h18, h57⟩ := gA
  obtain ⟨sc0, sc1, sc2, sc3, sc4, sc5, w24, sb, wa, h66⟩ := hO
  refine ik_F_mono (cp_mostE (side := side) (what := what) z_side n0_ n1_ h0 hl) ?_
  rintro v_1080 h_1080 ⟨er_1080, F_1080⟩ <;> subst er_1080
  have k_1080 : cL h_1080 := F_1080.1.trans hl
  have g_1080_0 := (hfr_g F_1080 0 rfl).trans h0
  have g_1080_18 := (hfr_g F_1080 18 rfl).trans h18
  have g_1080_57 := (hfr_g F_1080 57 rfl).trans h57
  have g_1080_66 := (hfr_g F_1080 66 rfl).trans h66
  refine ⟨-1000000001, rfl, ⟨k_1080, _, g_1080_66⟩, ?_⟩
  have gT_1080 := st_gT_t F_1080 (hdj_b rfl) gT
  have gB_1080 := st_gB_t F_1080 (hdj_b rfl) gB
  have gC_1080 := st_gC_t F_1080 (hdj_b rfl) gC
  have gS_1080 := st_gS_t F_1080 (hdj_b rfl) gS
  have gV_1080 := st_gV_t F_1080 (hdj_b rfl) gV
  have gW_1080 := st_gW_t F_1080 (hdj_b rfl) gW
  have gM_1080 := st_gM_t F_1080 (hdj_b rfl) gM
  have gR_1080 := st_gR_t F_1080 (hdj_b rfl) gR
  have gL_1080 := st_gL_t F_1080 (hdj_b rfl) gL
  have gI_1080 := st_gI_t F_1080 (hdj_b rfl) gI
  have gJ_1080 := st_gJ_t F_1080 (hdj_b rfl) gJ
  have hB_1080 := st_hB_t F_1080 (hdj_b rfl) hB
  have hC_1080 := st_hC_t F_1080 (hdj_b rfl) hC
  have hT_1080 := st_hT_t F_1080 (hdj_b rfl) hT
  have hS_1080 := st_hS_t F_1080 (hdj_b rfl) hS
  have hM_1080 := st_hM_t F_1080 (hdj_b rfl) hM
  have hR_1080 := st_hR_t F_1080 (hdj_b rfl) hR
  have hL_1080 := st_hL_t F_1080 (hdj_b rfl) hL
  have hI_1080 := st_hI_t F_1080 (hdj_b rfl) hI
  refine ik_F_mono (rp_mostE (side := side) (what := what) (f := fun j => ((pl :: 0 :: 0 :: 0 :: (((s : Nat) : Int)) :: 0 :: 0 :: mi :: sd :: 0 :: tn :: fp :: sc0 :: sc1 :: sc2 :: sc3 :: sc4 :: sc5 :: 0 :: 0 :: 0 :: 0 :: 0 :: 0 :: w24 :: 0 :: 0 :: 0 :: 0 :: 0 :: 0 :: 0 :: sb :: wa :: 0 :: 0 :: r :: 0 :: 0 :: 0 :: 0 :: 0 :: 0 :: []) : List Int).getD j 0) z_side n0_ n1_ g_1080_66 k_1080) ?_
  rintro v_1081 h_1081 ⟨er_1081, F_1081⟩ <;> subst er_1081
  have k_1081 : cL h_1081 := F_1081.1.trans k_1080
  have g_1081_0 := (hfr_g F_1081 0 rfl).trans g_1080_0
  have g_1081_18 := (hfr_g F_1081 18 rfl).trans g_1080_18
  have g_1081_57 := (hfr_g F_1081 57 rfl).trans g_1080_57
  have g_1081_66 := (hfr_g F_1081 66 rfl).trans g_1080_66
  refine ⟨rfl, ?_⟩
  have gT_1081 := st_gT_t F_1081 (hdj_b rfl) gT_1080
  have gB_1081 := st_gB_t F_1081 (hdj_b rfl) gB_1080
  have gC_1081 := st_gC_t F_1081 (hdj_b rfl) gC_1080
  have gS_1081 := st_gS_t F_1081 (hdj_b rfl) gS_1080
  have gV_1081 := st_gV_t F_1081 (hdj_b rfl) gV_1080
  have gW_1081 := st_gW_t F_1081 (hdj_b rfl) gW_1080
  have gM_1081 := st_gM_t F_1081 (hdj_b rfl) gM_1080
  have gR_1081 := st_gR_t F_1081 (hdj_b rfl) gR_1080
  have gL_1081 := st_gL_t F_1081 (hdj_b rfl) gL_1080
  have gI_1081 := st_gI_t F_1081 (hdj_b rfl) gI_1080
  have gJ_1081 := st_gJ_t F_1081 (hdj_b rfl) gJ_1080
  have hB_1081 := st_hB_t F_1081 (hdj_b rfl) hB_1080
  have hC_1081 := st_hC_t F_1081 (hdj_b rfl) hC_1080
  have hT_1081 := st_hT_t F_1081 (hdj_b rfl) hT_1080
  have hS_1081 := st_hS_t F_1081 (hdj_b rfl) hS_1080
  have hM_1081 := st_hM_t F_1081 (hdj_b rfl) hM_1080
  have hR_1081 := st_hR_t F_1081 (hdj_b rfl) hR_1080
  have hL_1081 := st_hL_t F_1081 (hdj_b rfl) hL_1080
  have hI_1081 := st_hI_t F_1081 (hdj_b rfl) hI_1080
  intro C_ k_
  exact k_ tn fp pl mi sd ka pa fa kb pb fb xa xb r n0 n1 ga0 gm0 gd_0 gs0 g00 g01 g02 g03 g04 g05 gx0 gy0 ga1 gm1 gd_1 gs1 g10 g11 g12 g13 g14 g15 gx1 gy1 s T cn go ch wg wc we rp rt lr ci0 ci1 cnr gor chr T2 im f_pl f_s f_st f_cb f_cr f_rw f_al f_wy f_k f_p f_x (by first | exact st_m f_m | omega) f_sd f_r f_rr f_n f_l0 f_l1 f_tn f_t (st_I_K f_i0) (st_I_K f_i1) ⟨g_1081_0, g_1081_18, g_1081_57⟩ gT_1081 gB_1081 gC_1081 gS_1081 gV_1081 gW_1081 gM_1081 gR_1081 gL_1081 gI_1081 gJ_1081 ⟨sc0, sc1, sc2, sc3, sc4, sc5, w24, sb, wa, g_1081_66⟩ hB_1081 hC_1081 hT_1081 hS_1081 hM_1081 hR_1081 hL_1081 hI_1081 k_1081

end

/-! 38zzz3.pairs -/
noncomputable section
set_option maxRecDepth 100000 in
theorem lk_fit {K : Nat} {h : List ik_E} (E : st_S K h) (hK : K ≤ 600) {p : Int} (z_p : -2147483648 ≤ p ∧ p < 2147483648)  : ik_F 107 [.ref 0, fI p] h (fun rv h_q => ∃ o_ : Int, rv = [fI o_] ∧ (h_q.length = (94 : Nat) ∧ ∃ fs, h_q[66]? = some (.inr (10, fs))) ∧ ik_F 187 [.ref 66, fI p] h_q (fun rv' h'' => rv' = [fI o_] ∧ st_S (K + 1) h'')) := by
  refine E _ ?_
  intro tn fp pl mi sd ka pa fa kb pb fb xa xb r n0 n1 ga0 gm0 gd_0 gs0 g00 g01 g02 g03 g04 g05 gx0 gy0 ga1 gm1 gd_1 gs1 g10 g11 g12 g13 g14 g15 gx1 gy1 s T cn go ch wg wc we rp rt lr ci0 ci1 cnr gor chr T2 im f_pl f_s f_st f_cb f_cr f_rw f_al f_wy f_k f_p f_x f_m f_sd f_r f_rr f_n f_l0 f_l1 f_tn f_t f_i0 f_i1 gA gT gB gC gS gV gW gM gR gL gI gJ hO hB hC hT hS hM hR hL hI hl
  replace f_cb := ik_hid_i f_cb
  replace f_cr := ik_hid_i f_cr
  replace f_p := ik_hid_i f_p
  replace f_x := ik_hid_i f_x
  obtain ⟨h0, h18, h57⟩ := gA
  obtain ⟨h7, h8, n8, h9, n9, h10, n10, h11, n11, h12, n12, h13, n13⟩ := gB
  obtain ⟨bo, la, lb, t0, t1, t2, t3, h17, h19, h20⟩ := gS
  obtain ⟨h21, h33⟩ := gV
  obtain ⟨h51, h52, n52, h53, n53⟩ := gR
  obtain ⟨sc0, sc1, sc2, sc3, sc4, sc5, w24, sb, wa, h66⟩ := hO
  obtain ⟨h67, n67, h68, n68, h69, n69⟩ := hB
  obtain ⟨gt, gdd, xs, ys, r1, r2, h77, n77, h78, n78, h79, n79, h80, n80, h81, n81, h82, n82⟩ := hS
  obtain ⟨h88, n88, h89, n89⟩ := hR
  refine ik_F_mono (cp_fit (pl := pl) (lo := ((mj_lost pl cn go : Nat) : Int)) (s := s) (bo := bo) (r := r) (rp := rp) (rt := rt) (wg := wg) (wc := wc) (we := we) (cn := cn) (go := go) (ch := ch) (p := p) f_pl f_r f_rr f_wy f_rw f_s z_p h0 h7 h8 n8 h9 n9 h10 n10 h11 n11 h12 n12 h13 n13 h17 h18 h51 h52 n52 h53 n53 h21 hl) ?_
  rintro v_1082 h_1082 ⟨wg'_1082, wc'_1082, we'_1082, er_1082, e_1082_7, e_1082_11, m_1082_11, e_1082_12, m_1082_12, e_1082_13, m_1082_13, e_1082_21, p_1082_0, F_1082⟩ <;> subst er_1082
  have k_1082 : cL h_1082 := F_1082.1.trans hl
  have g_1082_0 := (hfr_g F_1082 0 rfl).trans h0
  have g_1082_8 := (hfr_g F_1082 8 rfl).trans h8
  have g_1082_9 := (hfr_g F_1082 9 rfl).trans h9
  have g_1082_10 := (hfr_g F_1082 10 rfl).trans h10
  have g_1082_17 := (hfr_g F_1082 17 rfl).trans h17
  have g_1082_18 := (hfr_g F_1082 18 rfl).trans h18
  have g_1082_19 := (hfr_g F_1082 19 rfl).trans h19
  have g_1082_20 := (hfr_g F_1082 20 rfl).trans h20
  have g_1082_33 := mf_cr_f h33 (hfr_g F_1082 33 rfl) (hfr_g F_1082 34 rfl) (hfr_g F_1082 35 rfl) (hfr_g F_1082 36 rfl)
  have g_1082_51 := (hfr_g F_1082 51 rfl).trans h51
  have g_1082_52 := (hfr_g F_1082 52 rfl).trans h52
  have g_1082_53 := (hfr_g F_1082 53 rfl).trans h53
  have g_1082_57 := (hfr_g F_1082 57 rfl).trans h57
  have g_1082_66 := (hfr_g F_1082 66 rfl).trans h66
  have g_1082_67 := (hfr_g F_1082 67 rfl).trans h67
  have g_1082_68 := (hfr_g F_1082 68 rfl).trans h68
  have g_1082_69 := (hfr_g F_1082 69 rfl).trans h69
  have g_1082_77 := (hfr_g F_1082 77 rfl).trans h77
  have g_1082_78 := (hfr_g F_1082 78 rfl).trans h78
  have g_1082_79 := (hfr_g F_1082 79 rfl).trans h79
  have g_1082_80 := (hfr_g F_1082 80 rfl).trans h80
  have g_1082_81 := (hfr_g F_1082 81 rfl).trans h81
  have g_1082_82 := (hfr_g F_1082 82 rfl).trans h82
  have g_1082_88 := (hfr_g F_1082 88 rfl).trans h88
  have g_1082_89 := (hfr_g F_1082 89 rfl).trans h89
  have g_1082_7 : cE h_1082 7 (.inr (0, [fI pl, fI ((s : Nat) : Int), fI ((mj_lost pl cn go : Nat) : Int), .ref 8, .ref 9, .ref 10, .ref 11, .ref 12, .ref 13])) := e_1082_7
  have g_1082_11 : cE h_1082 11 (.inl (.int, fA wg'_1082)) := e_1082_11
  have g_1082_12 : cE h_1082 12 (.inl (.int, fA wc'_1082)) := e_1082_12
  have g_1082_13 : cE h_1082 13 (.inl (.int, fA we'_1082)) := e_1082_13
  have g_1082_21 : mf_cr h_1082 21  := e_1082_21
  refine ⟨an_fi p pl (mk_fv cn go ch s pl rp rt r) (mk_vs cn go ch s pl rp rt r p), rfl, ⟨k_1082, _, g_1082_66⟩, ?_⟩
  have gT_1082 := st_gT_t F_1082 (hdj_b rfl) gT
  have gC_1082 := st_gC_t F_1082 (hdj_b rfl) gC
  have gW_1082 := st_gW_t F_1082 (hdj_b rfl) gW
  have gM_1082 := st_gM_t F_1082 (hdj_b rfl) gM
  have gL_1082 := st_gL_t F_1082 (hdj_b rfl) gL
  have gI_1082 := st_gI_t F_1082 (hdj_b rfl) gI
  have gJ_1082 := st_gJ_t F_1082 (hdj_b rfl) gJ
  have hC_1082 := st_hC_t F_1082 (hdj_b rfl) hC
  have hT_1082 := st_hT_t F_1082 (hdj_b rfl) hT
  have hM_1082 := st_hM_t F_1082 (hdj_b rfl) hM
  have hL_1082 := st_hL_t F_1082 (hdj_b rfl) hL
  have hI_1082 := st_hI_t F_1082 (hdj_b rfl) hI
  refine ik_F_mono (rp_fit (pl := pl) (f := fun j => ((0 :: 0 :: 0 :: 0 :: 0 :: 0 :: 0 :: mi :: sd :: 0 :: tn :: fp :: sc0 :: sc1 :: sc2 :: sc3 :: sc4 :: sc5 :: 0 :: 0 :: 0 :: 0 :: 0 :: 0 :: w24 :: 0 :: 0 :: 0 :: 0 :: 0 :: 0 :: 0 :: sb :: wa :: 0 :: 0 :: 0 :: 0 :: 0 :: 0 :: 0 :: 0 :: 0 :: []) : List Int).getD j 0) (s := s) (cn := cnr) (go := gor) (ch := chr) (gt := gt) (gd := gdd) (xs := xs) (ys := ys) (r := r) (rp := rp) (rt := rt) (p := p) f_pl f_s (mx_al_rw f_rw f_al) f_r f_rr z_p g_1082_66 g_1082_67 n67 g_1082_68 n68 g_1082_69 n69 g_1082_77 n77 g_1082_78 n78 g_1082_79 n79 g_1082_80 n80 g_1082_88 n88 g_1082_89 n89 k_1082) ?_
  rintro v_1083 h_1083 ⟨w'_1083, gt'_1083, gd'_1083, xs'_1083, ys'_1083, er_1083, e_1083_66, e_1083_77, m_1083_77, e_1083_78, m_1083_78, e_1083_79, m_1083_79, e_1083_80, m_1083_80, F_1083⟩ <;> subst er_1083
  have k_1083 : cL h_1083 := F_1083.1.trans k_1082
  have g_1083_0 := (hfr_g F_1083 0 rfl).trans g_1082_0
  have g_1083_7 := (hfr_g F_1083 7 rfl).trans g_1082_7
  have g_1083_8 := (hfr_g F_1083 8 rfl).trans g_1082_8
  have g_1083_9 := (hfr_g F_1083 9 rfl).trans g_1082_9
  have g_1083_10 := (hfr_g F_1083 10 rfl).trans g_1082_10
  have g_1083_11 := (hfr_g F_1083 11 rfl).trans g_1082_11
  have g_1083_12 := (hfr_g F_1083 12 rfl).trans g_1082_12
  have g_1083_13 := (hfr_g F_1083 13 rfl).trans g_1082_13
  have g_1083_17 := (hfr_g F_1083 17 rfl).trans g_1082_17
  have g_1083_18 := (hfr_g F_1083 18 rfl).trans g_1082_18
  have g_1083_19 := (hfr_g F_1083 19 rfl).trans g_1082_19
  have g_1083_20 := (hfr_g F_1083 20 rfl).trans g_1082_20
  have g_1083_21 := mf_cr_f g_1082_21 (hfr_g F_1083 21 rfl) (hfr_g F_1083 22 rfl) (hfr_g F_1083 23 rfl) (hfr_g F_1083 24 rfl)
  have g_1083_33 := mf_cr_f g_1082_33 (hfr_g F_1083 33 rfl) (hfr_g F_1083 34 rfl) (hfr_g F_1083 35 rfl) (hfr_g F_1083 36 rfl)
  have g_1083_51 := (hfr_g F_1083 51 rfl).trans g_1082_51
  have g_1083_52 := (hfr_g F_1083 52 rfl).trans g_1082_52
  have g_1083_53 := (hfr_g F_1083 53 rfl).trans g_1082_53
  have g_1083_57 := (hfr_g F_1083 57 rfl).trans g_1082_57
  have g_1083_67 := (hfr_g F_1083 67 rfl).trans g_1082_67
  have g_1083_68 := (hfr_g F_1083 68 rfl).trans g_1082_68
  have g_1083_69 := (hfr_g F_1083 69 rfl).trans g_1082_69
  have g_1083_81 := (hfr_g F_1083 81 rfl).trans g_1082_81
  have g_1083_82 := (hfr_g F_1083 82 rfl).trans g_1082_82
  have g_1083_88 := (hfr_g F_1083 88 rfl).trans g_1082_88
  have g_1083_89 := (hfr_g F_1083 89 rfl).trans g_1082_89
  have g_1083_66 : cE h_1083 66 (.inr (10, (fI pl :: .ref 67 :: .ref 68 :: .ref 69 :: fI ((s : Nat) : Int) :: .ref 70 :: .ref 71 :: fI mi :: fI sd :: .ref 72 :: fI tn :: fI fp :: fI sc0 :: fJ sc1 :: fI sc2 :: fI sc3 :: fI sc4 :: fI sc5 :: .ref 73 :: .ref 74 :: .ref 75 :: .ref 76 :: .ref 77 :: .ref 78 :: fI w'_1083 :: .ref 79 :: .ref 80 :: .ref 81 :: .ref 82 :: .ref 83 :: .ref 84 :: .ref 85 :: fJ sb :: fJ wa :: .ref 86 :: .ref 87 :: fI r :: .ref 88 :: .ref 89 :: .ref 90 :: .ref 91 :: .ref 92 :: .ref 93 :: []))) := e_1083_66
  have g_1083_77 : cE h_1083 77 (.inl (.int, fA gt'_1083)) := e_1083_77
  have g_1083_78 : cE h_1083 78 (.inl (.int, fA gd'_1083)) := e_1083_78
  have g_1083_79 : cE h_1083 79 (.inl (.long, fL xs'_1083)) := e_1083_79
  have g_1083_80 : cE h_1083 80 (.inl (.long, fL ys'_1083)) := e_1083_80
  refine ⟨(congrArg (fun z => [fI z]) (by rw [mx_al_fv f_rw f_al (fun _ _ => ⟨rfl, rfl⟩), mx_al_vs f_rw f_al (fun _ _ => ⟨rfl, rfl⟩)])), ?_⟩
  have gT_1083 := st_gT_t F_1083 (hdj_b rfl) gT_1082
  have gC_1083 := st_gC_t F_1083 (hdj_b rfl) gC_1082
  have gW_1083 := st_gW_t F_1083 (hdj_b rfl) gW_1082
  have gM_1083 := st_gM_t F_1083 (hdj_b rfl) gM_1082
  have gL_1083 := st_gL_t F_1083 (hdj_b rfl) gL_1082
  have gI_1083 := st_gI_t F_1083 (hdj_b rfl) gI_1082
  have gJ_1083 := st_gJ_t F_1083 (hdj_b rfl) gJ_1082
  have hC_1083 := st_hC_t F_1083 (hdj_b rfl) hC_1082
  have hT_1083 := st_hT_t F_1083 (hdj_b rfl) hT_1082
  have hM_1083 := st_hM_t F_1083 (hdj_b rfl) hM_1082
  have hL_1083 := st_hL_t F_1083 (hdj_b rfl) hL_1082
  have hI_1083 := st_hI_t F_1083 (hdj_b rfl) hI_1082
  intro C_ k_
  exact k_ tn fp pl mi sd ka pa fa kb pb fb xa xb r n0 n1 ga0 gm0 gd_0 gs0 g00 g01 g02 g03 g04 g05 gx0 gy0 ga1 gm1 gd_1 gs1 g10 g11 g12 g13 g14 g15 gx1 gy1 s T cn go ch wg'_1082 wc'_1082 we'_1082 rp rt lr ci0 ci1 cnr gor chr T2 im f_pl f_s f_st f_cb f_cr f_rw f_al p_1082_0 f_k f_p f_x (by first | exact st_m f_m | omega) f_sd f_r f_rr f_n f_l0 f_l1 f_tn f_t (st_I_K f_i0) (st_I_K f_i1) ⟨g_1083_0, g_1083_18, g_1083_57⟩ gT_1083 ⟨g_1083_7, g_1083_8, n8, g_1083_9, n9, g_1083_10, n10, g_1083_11, m_1082_11, g_1083_12, m_1082_12, g_1083_13, m_1082_13⟩ gC_1083 ⟨bo, la, lb, t0, t1, t2, t3, g_1083_17, g_1083_19, g_1083_20⟩ ⟨g_1083_21, g_1083_33⟩ gW_1083 gM_1083 ⟨g_1083_51, g_1083_52, n52, g_1083_53, n53⟩ gL_1083 gI_1083 gJ_1083 ⟨sc0, sc1, sc2, sc3, sc4, sc5, w'_1083, sb, wa, g_1083_66⟩ ⟨g_1083_67, n67, g_1083_68, n68, g_1083_69, n69⟩ hC_1083 hT_1083 ⟨gt'_1083, gd'_1083, xs'_1083, ys'_1083, r1, r2, g_1083_77, m_1083_77, g_1083_78, m_1083_78, g_1083_79, m_1083_79, g_1083_80, m_1083_80, g_1083_81, n81, g_1083_82, n82⟩ hM_1083 ⟨g_1083_88, n88, g_1083_89, n89⟩ hL_1083 hI_1083 k_1083

set_option maxRecDepth 100000 in
theorem lk_stoned {K : Nat} {h : List ik_E} (E : st_S K h) (hK : K ≤ 600)    : ik_F 108 [.ref 0] h (fun rv h_q => ∃ o_ : Int, rv = [fI o_] ∧ (h_q.length = (94 : Nat) ∧ ∃ fs, h_q[66]? = some (.inr (10, fs))) ∧ ik_F 188 [.ref 66] h_q (fun rv' h'' => rv' = [fI o_] ∧ st_S (K + 1) h'')) := by
  refine E _ ?_
  intro tn fp pl mi sd ka pa fa kb pb fb xa xb r n0 n1 ga0 gm0 gd_0 gs0 g00 g01 g02 g03 g04 g05 gx0 gy0 ga1 gm1 gd_1 gs1 g10 g11 g12 g13 g14 g15 gx1 gy1 s T cn go ch wg wc we rp rt lr ci0 ci1 cnr gor chr T2 im f_pl f_s f_st f_cb f_cr f_rw f_al f_wy f_k f_p f_x f_m f_sd f_r f_rr f_n f_l0 f_l1 f_tn f_t f_i0 f_i1 gA gT gB gC gS gV gW gM gR gL gI gJ hO hB hC hT hS hM hR hL hI hl
  replace f_cb := ik_hid_i f_cb
  replace f_cr := ik_hid_i f_cr
  replace f_p := ik_hid_i f_p
  replace f_x := ik_hid_i f_x
  obtain ⟨h0, h18, h57⟩ := gA
  obtain ⟨h7, h8, n8, h9, n9, h10, n10, h11, n11, h12, n12, h13, n13⟩ := gB
  obtain ⟨bo, la, lb, t0, t1, t2, t3, h17, h19, h20⟩ := gS
  obtain ⟨h21, h33⟩ := gV
  obtain ⟨h51, h52, n52, h53, n53⟩ := gR
  obtain ⟨sc0, sc1, sc2, sc3, sc4, sc5, w24, sb, wa, h66⟩ := hO
  obtain ⟨h67, n67, h68, n68, h69, n69⟩ := hB
  obtain ⟨gt, gdd, xs, ys, r1, r2, h77, n77, h78, n78, h79, n79, h80, n80, h81, n81, h82, n82⟩ := hS
  obtain ⟨h88, n88, h89, n89⟩ := hR
  refine ik_F_mono (cp_stoned (pl := pl) (lo := ((mj_lost pl cn go : Nat) : Int)) (s := s) (bo := bo) (r := r) (rp := rp) (rt := rt) (wg := wg) (wc := wc) (we := we) (cn := cn) (go := go) (ch := ch) f_pl f_r f_rr f_wy f_rw f_s h0 h7 h8 n8 h9 n9 h10 n10 h11 n11 h12 n12 h13 n13 h17 h18 h51 h52 n52 h53 n53 h21 hl) ?_
  rintro v_1084 h_1084 ⟨wg'_1084, wc'_1084, we'_1084, er_1084, e_1084_7, e_1084_11, m_1084_11, e_1084_12, m_1084_12, e_1084_13, m_1084_13, e_1084_21, p_1084_0, F_1084⟩ <;> subst er_1084
  have k_1084 : cL h_1084 := F_1084.1.trans hl
  have g_1084_0 := (hfr_g F_1084 0 rfl).trans h0
  have g_1084_8 := (hfr_g F_1084 8 rfl).trans h8
  have g_1084_9 := (hfr_g F_1084 9 rfl).trans h9
  have g_1084_10 := (hfr_g F_1084 10 rfl).trans h10
  have g_1084_17 := (hfr_g F_1084 17 rfl).trans h17
  have g_1084_18 := (hfr_g F_1084 18 rfl).trans h18
  have g_1084_19 := (hfr_g F_1084 19 rfl).trans h19
  have g_1084_20 := (hfr_g F_1084 20 rfl).trans h20
  have g_1084_33 := mf_cr_f h33 (hfr_g F_1084 33 rfl) (hfr_g F_1084 34 rfl) (hfr_g F_1084 35 rfl) (hfr_g F_1084 36 rfl)
  have g_1084_51 := (hfr_g F_1084 51 rfl).trans h51
  have g_1084_52 := (hfr_g F_1084 52 rfl).trans h52
  have g_1084_53 := (hfr_g F_1084 53 rfl).trans h53
  have g_1084_57 := (hfr_g F_1084 57 rfl).trans h57
  have g_1084_66 := (hfr_g F_1084 66 rfl).trans h66
  have g_1084_67 := (hfr_g F_1084 67 rfl).trans h67
  have g_1084_68 := (hfr_g F_1084 68 rfl).trans h68
  have g_1084_69 := (hfr_g F_1084 69 rfl).trans h69
  have g_1084_77 := (hfr_g F_1084 77 rfl).trans h77
  have g_1084_78 := (hfr_g F_1084 78 rfl).trans h78
  have g_1084_79 := (hfr_g F_1084 79 rfl).trans h79
  have g_1084_80 := (hfr_g F_1084 80 rfl).trans h80
  have g_1084_81 := (hfr_g F_1084 81 rfl).trans h81
  have g_1084_82 := (hfr_g F_1084 82 rfl).trans h82
  have g_1084_88 := (hfr_g F_1084 88 rfl).trans h88
  have g_1084_89 := (hfr_g F_1084 89 rfl).trans h89
  have g_1084_7 : cE h_1084 7 (.inr (0, [fI pl, fI ((s : Nat) : Int), fI ((mj_lost pl cn go : Nat) : Int), .ref 8, .ref 9, .ref 10, .ref 11, .ref 12, .ref 13])) := e_1084_7
  have g_1084_11 : cE h_1084 11 (.inl (.int, fA wg'_1084)) := e_1084_11
  have g_1084_12 : cE h_1084 12 (.inl (.int, fA wc'_1084)) := e_1084_12
  have g_1084_13 : cE h_1084 13 (.inl (.int, fA we'_1084)) := e_1084_13
  have g_1084_21 : mf_cr h_1084 21  := e_1084_21
  refine ⟨mk_so (mk_vs cn go ch s pl rp rt r) (pl - 1).toNat 0 (mk_fv cn go ch s pl rp rt r) (-1), rfl, ⟨k_1084, _, g_1084_66⟩, ?_⟩
  have gT_1084 := st_gT_t F_1084 (hdj_b rfl) gT
  have gC_1084 := st_gC_t F_1084 (hdj_b rfl) gC
  have gW_1084 := st_gW_t F_1084 (hdj_b rfl) gW
  have gM_1084 := st_gM_t F_1084 (hdj_b rfl) gM
  have gL_1084 := st_gL_t F_1084 (hdj_b rfl) gL
  have gI_1084 := st_gI_t F_1084 (hdj_b rfl) gI
  have gJ_1084 := st_gJ_t F_1084 (hdj_b rfl) gJ
  have hC_1084 := st_hC_t F_1084 (hdj_b rfl) hC
  have hT_1084 := st_hT_t F_1084 (hdj_b rfl) hT
  have hM_1084 := st_hM_t F_1084 (hdj_b rfl) hM
  have hL_1084 := st_hL_t F_1084 (hdj_b rfl) hL
  have hI_1084 := st_hI_t F_1084 (hdj_b rfl) hI
  refine ik_F_mono (rp_stoned (pl := pl) (f := fun j => ((0 :: 0 :: 0 :: 0 :: 0 :: 0 :: 0 :: mi :: sd :: 0 :: tn :: fp :: sc0 :: sc1 :: sc2 :: sc3 :: sc4 :: sc5 :: 0 :: 0 :: 0 :: 0 :: 0 :: 0 :: w24 :: 0 :: 0 :: 0 :: 0 :: 0 :: 0 :: 0 :: sb :: wa :: 0 :: 0 :: 0 :: 0 :: 0 :: 0 :: 0 :: 0 :: 0 :: []) : List Int).getD j 0) (s := s) (cn := cnr) (go := gor) (ch := chr) (gt := gt) (gd := gdd) (xs := xs) (ys := ys) (r := r) (rp := rp) (rt := rt) f_pl f_s (mx_al_rw f_rw f_al) f_r f_rr g_1084_66 g_1084_67 n67 g_1084_68 n68 g_1084_69 n69 g_1084_77 n77 g_1084_78 n78 g_1084_79 n79 g_1084_80 n80 g_1084_88 n88 g_1084_89 n89 k_1084) ?_
  rintro v_1085 h_1085 ⟨w'_1085, gt'_1085, gd'_1085, xs'_1085, ys'_1085, er_1085, e_1085_66, e_1085_77, m_1085_77, e_1085_78, m_1085_78, e_1085_79, m_1085_79, e_1085_80, m_1085_80, F_1085⟩ <;> subst er_1085
  have k_1085 : cL h_1085 := F_1085.1.trans k_1084
  have g_1085_0 := (hfr_g F_1085 0 rfl).trans g_1084_0
  have g_1085_7 := (hfr_g F_1085 7 rfl).trans g_1084_7
  have g_1085_8 := (hfr_g F_1085 8 rfl).trans g_1084_8
  have g_1085_9 := (hfr_g F_1085 9 rfl).trans g_1084_9
  have g_1085_10 := (hfr_g F_1085 10 rfl).trans g_1084_10
  have g_1085_11 := (hfr_g F_1085 11 rfl).trans g_1084_11
  have g_1085_12 := (hfr_g F_1085 12 rfl).trans g_1084_12
  have g_1085_13 := (hfr_g F_1085 13 rfl).trans g_1084_13
  have g_1085_17 := (hfr_g F_1085 17 rfl).trans g_1084_17
  have g_1085_18 := (hfr_g F_1085 18 rfl).trans g_1084_18
  have g_1085_19 := (hfr_g F_1085 19 rfl).trans g_1084_19
  have g_1085_20 := (hfr_g F_1085 20 rfl).trans g_1084_20
  have g_1085_21 := mf_cr_f g_1084_21 (hfr_g F_1085 21 rfl) (hfr_g F_1085 22 rfl) (hfr_g F_1085 23 rfl) (hfr_g F_1085 24 rfl)
  have g_1085_33 := mf_cr_f g_1084_33 (hfr_g F_1085 33 rfl) (hfr_g F_1085 34 rfl) (hfr_g F_1085 35 rfl) (hfr_g F_1085 36 rfl)
  have g_1085_51 := (hfr_g F_1085 51 rfl).trans g_1084_51
  have g_1085_52 := (hfr_g F_1085 52 rfl).trans g_1084_52
  have g_1085_53 := (hfr_g F_1085 53 rfl).trans g_1084_53
  have g_1085_57 := (hfr_g F_1085 57 rfl).trans g_1084_57
  have g_1085_67 := (hfr_g F_1085 67 rfl).trans g_1084_67
  have g_1085_68 := (hfr_g F_1085 68 rfl).trans g_1084_68
  have g_1085_69 := (hfr_g F_1085 69 rfl).trans g_1084_69
  have g_1085_81 := (hfr_g F_1085 81 rfl).trans g_1084_81
  have g_1085_82 := (hfr_g F_1085 82 rfl).trans g_1084_82
  have g_1085_88 := (hfr_g F_1085 88 rfl).trans g_1084_88
  have g_1085_89 := (hfr_g F_1085 89 rfl).trans g_1084_89
  have g_1085_66 : cE h_1085 66 (.inr (10, (fI pl :: .ref 67 :: .ref 68 :: .ref 69 :: fI ((s : Nat) : Int) :: .ref 70 :: .ref 71 :: fI mi :: fI sd :: .ref 72 :: fI tn :: fI fp :: fI sc0 :: fJ sc1 :: fI sc2 :: fI sc3 :: fI sc4 :: fI sc5 :: .ref 73 :: .ref 74 :: .ref 75 :: .ref 76 :: .ref 77 :: .ref 78 :: fI w'_1085 :: .ref 79 :: .ref 80 :: .ref 81 :: .ref 82 :: .ref 83 :: .ref 84 :: .ref 85 :: fJ sb :: fJ wa :: .ref 86 :: .ref 87 :: fI r :: .ref 88 :: .ref 89 :: .ref 90 :: .ref 91 :: .ref 92 :: .ref 93 :: []))) := e_1085_66
  have g_1085_77 : cE h_1085 77 (.inl (.int, fA gt'_1085)) := e_1085_77
  have g_1085_78 : cE h_1085 78 (.inl (.int, fA gd'_1085)) := e_1085_78
  have g_1085_79 : cE h_1085 79 (.inl (.long, fL xs'_1085)) := e_1085_79
  have g_1085_80 : cE h_1085 80 (.inl (.long, fL ys'_1085)) := e_1085_80
  refine ⟨(congrArg (fun z => [fI z]) (by rw [mx_al_fv f_rw f_al (fun _ _ => ⟨rfl, rfl⟩), mx_al_vs f_rw f_al (fun _ _ => ⟨rfl, rfl⟩)])), ?_⟩
  have gT_1085 := st_gT_t F_1085 (hdj_b rfl) gT_1084
  have gC_1085 := st_gC_t F_1085 (hdj_b rfl) gC_1084
  have gW_1085 := st_gW_t F_1085 (hdj_b rfl) gW_1084
  have gM_1085 := st_gM_t F_1085 (hdj_b rfl) gM_1084
  have gL_1085 := st_gL_t F_1085 (hdj_b rfl) gL_1084
  have gI_1085 := st_gI_t F_1085 (hdj_b rfl) gI_1084
  have gJ_1085 := st_gJ_t F_1085 (hdj_b rfl) gJ_1084
  have hC_1085 := st_hC_t F_1085 (hdj_b rfl) hC_1084
  have hT_1085 := st_hT_t F_1085 (hdj_b rfl) hT_1084
  have hM_1085 := st_hM_t F_1085 (hdj_b rfl) hM_1084
  have hL_1085 := st_hL_t F_1085 (hdj_b rfl) hL_1084
  have hI_1085 := st_hI_t F_1085 (hdj_b rfl) hI_1084
  intro C_ k_
  exact k_ tn fp pl mi sd ka pa fa kb pb fb xa xb r n0 n1 ga0 gm0 gd_0 gs0 g00 g01 g02 g03 g04 g05 gx0 gy0 ga1 gm1 gd_1 gs1 g10 g11 g12 g13 g14 g15 gx1 gy1 s T cn go ch wg'_1084 wc'_1084 we'_1084 rp rt lr ci0 ci1 cnr gor chr T2 im f_pl f_s f_st f_cb f_cr f_rw f_al p_1084_0 f_k f_p f_x (by first | exact st_m f_m | omega) f_sd f_r f_rr f_n f_l0 f_l1 f_tn f_t (st_I_K f_i0) (st_I_K f_i1) ⟨g_1085_0, g_1085_18, g_1085_57⟩ gT_1085 ⟨g_1085_7, g_1085_8, n8, g_1085_9, n9, g_1085_10, n10, g_1085_11, m_1084_11, g_1085_12, m_1084_12, g_1085_13, m_1084_13⟩ gC_1085 ⟨bo, la, lb, t0, t1, t2, t3, g_1085_17, g_1085_19, g_1085_20⟩ ⟨g_1085_21, g_1085_33⟩ gW_1085 gM_1085 ⟨g_1085_51, g_1085_52, n52, g_1085_53, n53⟩ gL_1085 gI_1085 gJ_1085 ⟨sc0, sc1, sc2, sc3, sc4, sc5, w'_1085, sb, wa, g_1085_66⟩ ⟨g_1085_67, n67, g_1085_68, n68, g_1085_69, n69⟩ hC_1085 hT_1085 ⟨gt'_1085, gd'_1085, xs'_1085, ys'_1085, r1, r2, g_1085_77, m_1085_77, g_1085_78, m_1085_78, g_1085_79, m_1085_79, g_1085_80, m_1085_80, g_1085_81, n81, g_1085_82, n82⟩ hM_1085 ⟨g_1085_88, n88, g_1085_89, n89⟩ hL_1085 hI_1085 k_1085

set_option maxRecDepth 100000 in
theorem lk_fair {K : Nat} {h : List ik_E} (E : st_S K h) (hK : K ≤ 600) {e : Int} {what : Int} (z_e : -2147483648 ≤ e ∧ e < 2147483648) (z_what : -2147483648 ≤ what ∧ what < 2147483648)  : ik_F 110 [.ref 0, fI e, fI what] h (fun rv h_q => ∃ o_ : Int, rv = [fI o_] ∧ (h_q.length = (94 : Nat) ∧ ∃ fs, h_q[66]? = some (.inr (10, fs))) ∧ ik_F 192 [.ref 66, fI e, fI what] h_q (fun rv' h'' => rv' = [fI o_] ∧ st_S (K + 1) h'')) := by
  refine E _ ?_
  intro tn fp pl mi sd ka pa fa kb pb fb xa xb r n0 n1 ga0 gm0 gd_0 gs0 g00 g01 g02 g03 g04 g05 gx0 gy0 ga1 gm1 gd_1 gs1 g10 g11 g12 g13 g14 g15 gx1 gy1 s T cn go ch wg wc we rp rt lr ci0 ci1 cnr gor chr T2 im f_pl f_s f_st f_cb f_cr f_rw f_al f_wy f_k f_p f_x f_m f_sd f_r f_rr f_n f_l0 f_l1 f_tn f_t f_i0 f_i1 gA gT gB gC gS gV gW gM gR gL gI gJ hO hB hC hT hS hM hR hL hI hl
  replace f_cb := ik_hid_i f_cb
  replace f_cr := ik_hid_i f_cr
  replace f_p := ik_hid_i f_p
  replace f_x := ik_hid_i f_x
  obtain ⟨h0, h18, h57⟩ := gA
  obtain ⟨h7, h8, n8, h9, n9, h10, n10, h11, n11, h12, n12, h13, n13⟩ := gB
  obtain ⟨h14, h15, h16⟩ := gC
  obtain ⟨bo, la, lb, t0, t1, t2, t3, h17, h19, h20⟩ := gS
  obtain ⟨h21, h33⟩ := gV
  obtain ⟨sc0, sc1, sc2, sc3, sc4, sc5, w24, sb, wa, h66⟩ := hO
  obtain ⟨h67, n67, h68, n68, h69, n69⟩ := hB
  obtain ⟨h70, h71⟩ := hC
  obtain ⟨gt, gdd, xs, ys, r1, r2, h77, n77, h78, n78, h79, n79, h80, n80, h81, n81, h82, n82⟩ := hS
  refine ik_F_mono (cp_fair (pl := pl) (lo := ((mj_lost pl cn go : Nat) : Int)) (s := s) (bo := bo) (wg := wg) (wc := wc) (we := we) (ka := ka) (pa := pa) (fa := fa) (kb := kb) (pb := pb) (fb := fb) (la := la) (lb := lb) (t0 := t0) (t1 := t1) (t2 := t2) (t3 := t3) (cn := cn) (go := go) (ch := ch) (e := e) (what := what) f_pl f_wy f_rw f_s (fun w => (f_p w).1) (fun w => (f_p w).2) ⟨f_k.1.1, f_k.1.2, f_k.2.1.1, f_k.2.1.2⟩ ⟨f_k.2.2.1.1, f_k.2.2.1.2, f_k.2.2.2.1.1, f_k.2.2.2.1.2⟩ z_e z_what h0 h7 h11 n11 h12 n12 h13 n13 h17 h18 h15 h19 h21 h33 h8 n8 h9 n9 h10 n10 h20 hl) ?_
  rintro v_1086 h_1086 ⟨l0_1086, l1_1086, l2_1086, wg'_1086, wc'_1086, we'_1086, z0_1086, z1_1086, z2_1086, z3_1086, er_1086, e_1086_10, m_1086_10, e_1086_11, m_1086_11, e_1086_12, m_1086_12, e_1086_13, m_1086_13, e_1086_17, e_1086_19, e_1086_21, e_1086_33, e_1086_20, p_1086_0, F_1086⟩ <;> subst er_1086
  have k_1086 : cL h_1086 := F_1086.1.trans hl
  have g_1086_0 := (hfr_g F_1086 0 rfl).trans h0
  have g_1086_7 := (hfr_g F_1086 7 rfl).trans h7
  have g_1086_8 := (hfr_g F_1086 8 rfl).trans h8
  have g_1086_9 := (hfr_g F_1086 9 rfl).trans h9
  have g_1086_14 := (hfr_g F_1086 14 rfl).trans h14
  have g_1086_15 := (hfr_g F_1086 15 rfl).trans h15
  have g_1086_16 := (hfr_g F_1086 16 rfl).trans h16
  have g_1086_18 := (hfr_g F_1086 18 rfl).trans h18
  have g_1086_57 := (hfr_g F_1086 57 rfl).trans h57
  have g_1086_66 := (hfr_g F_1086 66 rfl).trans h66
  have g_1086_67 := (hfr_g F_1086 67 rfl).trans h67
  have g_1086_68 := (hfr_g F_1086 68 rfl).trans h68
  have g_1086_69 := (hfr_g F_1086 69 rfl).trans h69
  have g_1086_70 := (hfr_g F_1086 70 rfl).trans h70
  have g_1086_71 := (hfr_g F_1086 71 rfl).trans h71
  have g_1086_77 := (hfr_g F_1086 77 rfl).trans h77
  have g_1086_78 := (hfr_g F_1086 78 rfl).trans h78
  have g_1086_79 := (hfr_g F_1086 79 rfl).trans h79
  have g_1086_80 := (hfr_g F_1086 80 rfl).trans h80
  have g_1086_81 := (hfr_g F_1086 81 rfl).trans h81
  have g_1086_82 := (hfr_g F_1086 82 rfl).trans h82
  have g_1086_10 : cE h_1086 10 (.inl (.int, fA ch)) := e_1086_10
  have g_1086_11 : cE h_1086 11 (.inl (.int, fA wg'_1086)) := e_1086_11
  have g_1086_12 : cE h_1086 12 (.inl (.int, fA wc'_1086)) := e_1086_12
  have g_1086_13 : cE h_1086 13 (.inl (.int, fA we'_1086)) := e_1086_13
  have g_1086_17 : cE h_1086 17 (.inr (8, [.ref 7, .ref 15, .ref 18, .ref 19, fJ l2_1086, .ref 20])) := e_1086_17
  have g_1086_19 : cE h_1086 19 (.inl (.long, fL [l0_1086, l1_1086])) := e_1086_19
  have g_1086_21 : mf_cr h_1086 21  := e_1086_21
  have g_1086_33 : mf_cr h_1086 33  := e_1086_33
  have g_1086_20 : cE h_1086 20 (.inl (.int, fA [z0_1086, z1_1086, z2_1086, z3_1086])) := e_1086_20
  refine ⟨an_fa e what pl (an_fw (mk_fz cn go ch s pl ka pa fa kb pb fb e) what), rfl, ⟨k_1086, _, g_1086_66⟩, ?_⟩
  have gT_1086 := st_gT_t F_1086 (hdj_b rfl) gT
  have gW_1086 := st_gW_t F_1086 (hdj_b rfl) gW
  have gM_1086 := st_gM_t F_1086 (hdj_b rfl) gM
  have gR_1086 := st_gR_t F_1086 (hdj_b rfl) gR
  have gL_1086 := st_gL_t F_1086 (hdj_b rfl) gL
  have gI_1086 := st_gI_t F_1086 (hdj_b rfl) gI
  have gJ_1086 := st_gJ_t F_1086 (hdj_b rfl) gJ
  have hT_1086 := st_hT_t F_1086 (hdj_b rfl) hT
  have hM_1086 := st_hM_t F_1086 (hdj_b rfl) hM
  have hR_1086 := st_hR_t F_1086 (hdj_b rfl) hR
  have hL_1086 := st_hL_t F_1086 (hdj_b rfl) hL
  have hI_1086 := st_hI_t F_1086 (hdj_b rfl) hI
  refine ik_F_mono (rp_fair (pl := pl) (f := fun j => ((0 :: 0 :: 0 :: 0 :: 0 :: 0 :: 0 :: mi :: sd :: 0 :: tn :: fp :: sc0 :: sc1 :: sc2 :: sc3 :: sc4 :: sc5 :: 0 :: 0 :: 0 :: 0 :: 0 :: 0 :: w24 :: 0 :: 0 :: 0 :: 0 :: 0 :: 0 :: 0 :: sb :: wa :: 0 :: 0 :: r :: 0 :: 0 :: 0 :: 0 :: 0 :: 0 :: []) : List Int).getD j 0) (s := s) (cn := cnr) (go := gor) (ch := chr) (gt := gt) (gd := gdd) (xs := xs) (ys := ys) (ka := ka) (pa := pa) (fa := fa) (kb := kb) (pb := pb) (fb := fb) (r1 := r1) (r2 := r2) (e := e) (what := what) f_pl f_s (mx_al_rw f_rw f_al) f_k.1 f_k.2.1 (fun w => (f_p w).1) (fun w => (f_p w).2) f_k.2.2.1 f_k.2.2.2.1 z_e z_what g_1086_66 g_1086_67 n67 g_1086_68 n68 g_1086_69 n69 g_1086_77 n77 g_1086_78 n78 g_1086_79 n79 g_1086_80 n80 g_1086_70 g_1086_81 n81 g_1086_82 n82 k_1086) ?_
  rintro v_1087 h_1087 ⟨w'_1087, gt'_1087, gd'_1087, xs'_1087, ys'_1087, r1'_1087, r2'_1087, er_1087, e_1087_66, e_1087_77, m_1087_77, e_1087_78, m_1087_78, e_1087_79, m_1087_79, e_1087_80, m_1087_80, e_1087_81, m_1087_81, e_1087_82, m_1087_82, e_1087_69, m_1087_69, F_1087⟩ <;> subst er_1087
  have k_1087 : cL h_1087 := F_1087.1.trans k_1086
  have g_1087_0 := (hfr_g F_1087 0 rfl).trans g_1086_0
  have g_1087_7 := (hfr_g F_1087 7 rfl).trans g_1086_7
  have g_1087_8 := (hfr_g F_1087 8 rfl).trans g_1086_8
  have g_1087_9 := (hfr_g F_1087 9 rfl).trans g_1086_9
  have g_1087_10 := (hfr_g F_1087 10 rfl).trans g_1086_10
  have g_1087_11 := (hfr_g F_1087 11 rfl).trans g_1086_11
  have g_1087_12 := (hfr_g F_1087 12 rfl).trans g_1086_12
  have g_1087_13 := (hfr_g F_1087 13 rfl).trans g_1086_13
  have g_1087_14 := (hfr_g F_1087 14 rfl).trans g_1086_14
  have g_1087_15 := (hfr_g F_1087 15 rfl).trans g_1086_15
  have g_1087_16 := (hfr_g F_1087 16 rfl).trans g_1086_16
  have g_1087_17 := (hfr_g F_1087 17 rfl).trans g_1086_17
  have g_1087_18 := (hfr_g F_1087 18 rfl).trans g_1086_18
  have g_1087_19 := (hfr_g F_1087 19 rfl).trans g_1086_19
  have g_1087_20 := (hfr_g F_1087 20 rfl).trans g_1086_20
  have g_1087_21 := mf_cr_f g_1086_21 (hfr_g F_1087 21 rfl) (hfr_g F_1087 22 rfl) (hfr_g F_1087 23 rfl) (hfr_g F_1087 24 rfl)
  have g_1087_33 := mf_cr_f g_1086_33 (hfr_g F_1087 33 rfl) (hfr_g F_1087 34 rfl) (hfr_g F_1087 35 rfl) (hfr_g F_1087 36 rfl)
  have g_1087_57 := (hfr_g F_1087 57 rfl).trans g_1086_57
  have g_1087_67 := (hfr_g F_1087 67 rfl).trans g_1086_67
  have g_1087_68 := (hfr_g F_1087 68 rfl).trans g_1086_68
  have g_1087_70 := (hfr_g F_1087 70 rfl).trans g_1086_70
  have g_1087_71 := (hfr_g F_1087 71 rfl).trans g_1086_71
  have g_1087_66 : cE h_1087 66 (.inr (10, (fI pl :: .ref 67 :: .ref 68 :: .ref 69 :: fI ((s : Nat) : Int) :: .ref 70 :: .ref 71 :: fI mi :: fI sd :: .ref 72 :: fI tn :: fI fp :: fI sc0 :: fJ sc1 :: fI sc2 :: fI sc3 :: fI sc4 :: fI sc5 :: .ref 73 :: .ref 74 :: .ref 75 :: .ref 76 :: .ref 77 :: .ref 78 :: fI w'_1087 :: .ref 79 :: .ref 80 :: .ref 81 :: .ref 82 :: .ref 83 :: .ref 84 :: .ref 85 :: fJ sb :: fJ wa :: .ref 86 :: .ref 87 :: fI r :: .ref 88 :: .ref 89 :: .ref 90 :: .ref 91 :: .ref 92 :: .ref 93 :: []))) := e_1087_66
  have g_1087_77 : cE h_1087 77 (.inl (.int, fA gt'_1087)) := e_1087_77
  have g_1087_78 : cE h_1087 78 (.inl (.int, fA gd'_1087)) := e_1087_78
  have g_1087_79 : cE h_1087 79 (.inl (.long, fL xs'_1087)) := e_1087_79
  have g_1087_80 : cE h_1087 80 (.inl (.long, fL ys'_1087)) := e_1087_80
  have g_1087_81 : cE h_1087 81 (.inl (.long, fL r1'_1087)) := e_1087_81
  have g_1087_82 : cE h_1087 82 (.inl (.long, fL r2'_1087)) := e_1087_82
  have g_1087_69 : cE h_1087 69 (.inl (.int, fA chr)) := e_1087_69
  refine ⟨(congrArg (fun z => [fI z]) (by rw [mx_al_fz f_rw f_al f_pl.2 n10 n69])), ?_⟩
  have gT_1087 := st_gT_t F_1087 (hdj_b rfl) gT_1086
  have gW_1087 := st_gW_t F_1087 (hdj_b rfl) gW_1086
  have gM_1087 := st_gM_t F_1087 (hdj_b rfl) gM_1086
  have gR_1087 := st_gR_t F_1087 (hdj_b rfl) gR_1086
  have gL_1087 := st_gL_t F_1087 (hdj_b rfl) gL_1086
  have gI_1087 := st_gI_t F_1087 (hdj_b rfl) gI_1086
  have gJ_1087 := st_gJ_t F_1087 (hdj_b rfl) gJ_1086
  have hT_1087 := st_hT_t F_1087 (hdj_b rfl) hT_1086
  have hM_1087 := st_hM_t F_1087 (hdj_b rfl) hM_1086
  have hR_1087 := st_hR_t F_1087 (hdj_b rfl) hR_1086
  have hL_1087 := st_hL_t F_1087 (hdj_b rfl) hL_1086
  have hI_1087 := st_hI_t F_1087 (hdj_b rfl) hI_1086
  intro C_ k_
  exact k_ tn fp pl mi sd ka pa fa kb pb fb xa xb r n0 n1 ga0 gm0 gd_0 gs0 g00 g01 g02 g03 g04 g05 gx0 gy0 ga1 gm1 gd_1 gs1 g10 g11 g12 g13 g14 g15 gx1 gy1 s T cn go ch wg'_1086 wc'_1086 we'_1086 rp rt lr ci0 ci1 cnr gor chr T2 im f_pl f_s f_st f_cb f_cr f_rw f_al p_1086_0 f_k f_p f_x (by first | exact st_m f_m | omega) f_sd f_r f_rr f_n f_l0 f_l1 f_tn f_t (st_I_K f_i0) (st_I_K f_i1) ⟨g_1087_0, g_1087_18, g_1087_57⟩ gT_1087 ⟨g_1087_7, g_1087_8, n8, g_1087_9, n9, g_1087_10, m_1086_10, g_1087_11, m_1086_11, g_1087_12, m_1086_12, g_1087_13, m_1086_13⟩ ⟨g_1087_14, g_1087_15, g_1087_16⟩ ⟨l2_1086, l0_1086, l1_1086, z0_1086, z1_1086, z2_1086, z3_1086, g_1087_17, g_1087_19, g_1087_20⟩ ⟨g_1087_21, g_1087_33⟩ gW_1087 gM_1087 gR_1087 gL_1087 gI_1087 gJ_1087 ⟨sc0, sc1, sc2, sc3, sc4, sc5, w'_1087, sb, wa, g_1087_66⟩ ⟨g_1087_67, n67, g_1087_68, n68, g_1087_69, m_1087_69⟩ ⟨g_1087_70, g_1087_71⟩ hT_1087 ⟨gt'_1087, gd'_1087, xs'_1087, ys'_1087, r1'_1087, r2'_1087, g_1087_77, m_1087_77, g_1087_78, m_1087_78, g_1087_79, m_1087_79, g_1087_80, m_1087_80, g_1087_81, m_1087_81, g_1087_82, m_1087_82⟩ hM_1087 hR_1087 hL_1087 hI_1087 k_1087

set_option maxRecDepth 100000 in
theorem lk_judge0 {K : Nat} {h : List ik_E} (E : st_S K h) (hK : K ≤ 600)    : ik_F 117 [.ref 0, fI 0] h (fun rv h_q => ∃ o_ : Int, rv = [fI o_] ∧ (h_q.length = (94 : Nat) ∧ ∃ fs, h_q[66]? = some (.inr (10, fs))) ∧ ik_F 207 [.ref 66, fI 0] h_q (fun rv' h'' => rv' = [fI o_] ∧ st_S (K + 1) h'')) := by
  refine E _ ?_
  intro tn fp pl mi sd ka pa fa kb pb fb xa xb r n0 n1 ga0 gm0 gd_0 gs0 g00 g01 g02 g03 g04 g05 gx0 gy0 ga1 gm1 gd_1 gs1 g10 g11 g12 g13 g14 g15 gx1 gy1 s T cn go ch wg wc we rp rt lr ci0 ci1 cnr gor chr T2 im f_pl f_s f_st f_cb f_cr f_rw f_al f_wy f_k f_p f_x f_m f_sd f_r f_rr f_n f_l0 f_l1 f_tn f_t f_i0 f_i1 gA gT gB gC gS gV gW gM gR gL gI gJ hO hB hC hT hS hM hR hL hI hl
  replace f_cb := ik_hid_i f_cb
  replace f_cr := ik_hid_i f_cr
  replace f_p := ik_hid_i f_p
  replace f_x := ik_hid_i f_x
  obtain ⟨h0, h18, h57⟩ := gA
  obtain ⟨h7, h8, n8, h9, n9, h10, n10, h11, n11, h12, n12, h13, n13⟩ := gB
  obtain ⟨h14, h15, h16⟩ := gC
  obtain ⟨h54, h55, n55, h56⟩ := gL
  obtain ⟨sc0, sc1, sc2, sc3, sc4, sc5, w24, sb, wa, h66⟩ := hO
  obtain ⟨h67, n67, h68, n68, h69, n69⟩ := hB
  obtain ⟨h70, h71⟩ := hC
  obtain ⟨gt, gdd, xs, ys, r1, r2, h77, n77, h78, n78, h79, n79, h80, n80, h81, n81, h82, n82⟩ := hS
  obtain ⟨h90, h91, n91⟩ := hL
  refine ik_F_mono (cp_judge0 (pl := pl) (lo := ((mj_lost pl cn go : Nat) : Int)) (s := s) (n0 := n0) (n1 := n1) (ka := ka) (pa := pa) (fa := fa) (kb := kb) (pb := pb) (fb := fb) (lr := lr) (wg := wg) (wc := wc) (we := we) (W := (fun x => mx_w cnr gor chr s x)) (mi := mi) (dr := sd) f_pl (fun x h0 h1 => by have e := mx_al_w f_rw f_al s x h0 h1; exact e.symm ▸ f_wy x h0 h1) (mx_rw_ok (mx_al_rw f_rw f_al) _) f_k.1 f_k.2.2.2.2.1 f_k.2.2.1 f_n.1 f_l0 h0 h7 h11 n11 h12 n12 h13 n13 h14 h15 h54 h55 n55 h56 hl) ?_
  rintro v_1088 h_1088 ⟨er_1088, F_1088⟩ <;> subst er_1088
  have k_1088 : cL h_1088 := F_1088.1.trans hl
  have g_1088_0 := (hfr_g F_1088 0 rfl).trans h0
  have g_1088_7 := (hfr_g F_1088 7 rfl).trans h7
  have g_1088_8 := (hfr_g F_1088 8 rfl).trans h8
  have g_1088_9 := (hfr_g F_1088 9 rfl).trans h9
  have g_1088_10 := (hfr_g F_1088 10 rfl).trans h10
  have g_1088_11 := (hfr_g F_1088 11 rfl).trans h11
  have g_1088_12 := (hfr_g F_1088 12 rfl).trans h12
  have g_1088_13 := (hfr_g F_1088 13 rfl).trans h13
  have g_1088_14 := (hfr_g F_1088 14 rfl).trans h14
  have g_1088_15 := (hfr_g F_1088 15 rfl).trans h15
  have g_1088_16 := (hfr_g F_1088 16 rfl).trans h16
  have g_1088_18 := (hfr_g F_1088 18 rfl).trans h18
  have g_1088_54 := (hfr_g F_1088 54 rfl).trans h54
  have g_1088_55 := (hfr_g F_1088 55 rfl).trans h55
  have g_1088_56 := (hfr_g F_1088 56 rfl).trans h56
  have g_1088_57 := (hfr_g F_1088 57 rfl).trans h57
  have g_1088_66 := (hfr_g F_1088 66 rfl).trans h66
  have g_1088_67 := (hfr_g F_1088 67 rfl).trans h67
  have g_1088_68 := (hfr_g F_1088 68 rfl).trans h68
  have g_1088_69 := (hfr_g F_1088 69 rfl).trans h69
  have g_1088_70 := (hfr_g F_1088 70 rfl).trans h70
  have g_1088_71 := (hfr_g F_1088 71 rfl).trans h71
  have g_1088_77 := (hfr_g F_1088 77 rfl).trans h77
  have g_1088_78 := (hfr_g F_1088 78 rfl).trans h78
  have g_1088_79 := (hfr_g F_1088 79 rfl).trans h79
  have g_1088_80 := (hfr_g F_1088 80 rfl).trans h80
  have g_1088_81 := (hfr_g F_1088 81 rfl).trans h81
  have g_1088_82 := (hfr_g F_1088 82 rfl).trans h82
  have g_1088_90 := (hfr_g F_1088 90 rfl).trans h90
  have g_1088_91 := (hfr_g F_1088 91 rfl).trans h91
  refine ⟨mj_fw (mj_ok (fun x => mx_w cnr gor chr s x) pl ka pa fa lr 0) n0.toNat 0, rfl, ⟨k_1088, _, g_1088_66⟩, ?_⟩
  have gT_1088 := st_gT_t F_1088 (hdj_b rfl) gT
  have gS_1088 := st_gS_t F_1088 (hdj_b rfl) gS
  have gV_1088 := st_gV_t F_1088 (hdj_b rfl) gV
  have gW_1088 := st_gW_t F_1088 (hdj_b rfl) gW
  have gM_1088 := st_gM_t F_1088 (hdj_b rfl) gM
  have gR_1088 := st_gR_t F_1088 (hdj_b rfl) gR
  have gI_1088 := st_gI_t F_1088 (hdj_b rfl) gI
  have gJ_1088 := st_gJ_t F_1088 (hdj_b rfl) gJ
  have hT_1088 := st_hT_t F_1088 (hdj_b rfl) hT
  have hM_1088 := st_hM_t F_1088 (hdj_b rfl) hM
  have hR_1088 := st_hR_t F_1088 (hdj_b rfl) hR
  have hI_1088 := st_hI_t F_1088 (hdj_b rfl) hI
  refine ik_F_mono (rp_judge0 (pl := pl) (f := fun j => ((0 :: 0 :: 0 :: 0 :: 0 :: 0 :: 0 :: mi :: sd :: 0 :: tn :: fp :: sc0 :: sc1 :: sc2 :: sc3 :: sc4 :: sc5 :: 0 :: 0 :: 0 :: 0 :: 0 :: 0 :: w24 :: 0 :: 0 :: 0 :: 0 :: 0 :: 0 :: 0 :: sb :: wa :: 0 :: 0 :: r :: 0 :: 0 :: 0 :: 0 :: 0 :: 0 :: []) : List Int).getD j 0) (s := s) (cn := cnr) (go := gor) (ch := chr) (gt := gt) (gd := gdd) (ka := ka) (pa := pa) (fa := fa) (kb := kb) (pb := pb) (fb := fb) (lr := lr) (n0 := n0) (n1 := n1) f_pl f_s (fun x h0 h1 => by have := ((mx_al_rw f_rw f_al) x h0 h1).1; omega) (mx_rw_ch (mx_al_rw f_rw f_al)) (mx_rw_ok (mx_al_rw f_rw f_al) _) f_k.1 f_k.2.2.2.2.1 f_k.2.2.1 f_n.1 f_l0 g_1088_66 g_1088_67 n67 g_1088_68 n68 g_1088_69 n69 g_1088_77 n77 g_1088_78 n78 g_1088_70 g_1088_91 n91 g_1088_90 k_1088) ?_
  rintro v_1089 h_1089 ⟨w'_1089, gt'_1089, gd'_1089, er_1089, e_1089_66, e_1089_77, m_1089_77, e_1089_78, m_1089_78, F_1089⟩ <;> subst er_1089
  have k_1089 : cL h_1089 := F_1089.1.trans k_1088
  have g_1089_0 := (hfr_g F_1089 0 rfl).trans g_1088_0
  have g_1089_7 := (hfr_g F_1089 7 rfl).trans g_1088_7
  have g_1089_8 := (hfr_g F_1089 8 rfl).trans g_1088_8
  have g_1089_9 := (hfr_g F_1089 9 rfl).trans g_1088_9
  have g_1089_10 := (hfr_g F_1089 10 rfl).trans g_1088_10
  have g_1089_11 := (hfr_g F_1089 11 rfl).trans g_1088_11
  have g_1089_12 := (hfr_g F_1089 12 rfl).trans g_1088_12
  have g_1089_13 := (hfr_g F_1089 13 rfl).trans g_1088_13
  have g_1089_14 := (hfr_g F_1089 14 rfl).trans g_1088_14
  have g_1089_15 := (hfr_g F_1089 15 rfl).trans g_1088_15
  have g_1089_16 := (hfr_g F_1089 16 rfl).trans g_1088_16
  have g_1089_18 := (hfr_g F_1089 18 rfl).trans g_1088_18
  have g_1089_54 := (hfr_g F_1089 54 rfl).trans g_1088_54
  have g_1089_55 := (hfr_g F_1089 55 rfl).trans g_1088_55
  have g_1089_56 := (hfr_g F_1089 56 rfl).trans g_1088_56
  have g_1089_57 := (hfr_g F_1089 57 rfl).trans g_1088_57
  have g_1089_67 := (hfr_g F_1089 67 rfl).trans g_1088_67
  have g_1089_68 := (hfr_g F_1089 68 rfl).trans g_1088_68
  have g_1089_69 := (hfr_g F_1089 69 rfl).trans g_1088_69
  have g_1089_70 := (hfr_g F_1089 70 rfl).trans g_1088_70
  have g_1089_71 := (hfr_g F_1089 71 rfl).trans g_1088_71
  have g_1089_79 := (hfr_g F_1089 79 rfl).trans g_1088_79
  have g_1089_80 := (hfr_g F_1089 80 rfl).trans g_1088_80
  have g_1089_81 := (hfr_g F_1089 81 rfl).trans g_1088_81
  have g_1089_82 := (hfr_g F_1089 82 rfl).trans g_1088_82
  have g_1089_90 := (hfr_g F_1089 90 rfl).trans g_1088_90
  have g_1089_91 := (hfr_g F_1089 91 rfl).trans g_1088_91
  have g_1089_66 : cE h_1089 66 (.inr (10, (fI pl :: .ref 67 :: .ref 68 :: .ref 69 :: fI ((s : Nat) : Int) :: .ref 70 :: .ref 71 :: fI mi :: fI sd :: .ref 72 :: fI tn :: fI fp :: fI sc0 :: fJ sc1 :: fI sc2 :: fI sc3 :: fI sc4 :: fI sc5 :: .ref 73 :: .ref 74 :: .ref 75 :: .ref 76 :: .ref 77 :: .ref 78 :: fI w'_1089 :: .ref 79 :: .ref 80 :: .ref 81 :: .ref 82 :: .ref 83 :: .ref 84 :: .ref 85 :: fJ sb :: fJ wa :: .ref 86 :: .ref 87 :: fI r :: .ref 88 :: .ref 89 :: .ref 90 :: .ref 91 :: .ref 92 :: .ref 93 :: []))) := e_1089_66
  have g_1089_77 : cE h_1089 77 (.inl (.int, fA gt'_1089)) := e_1089_77
  have g_1089_78 : cE h_1089 78 (.inl (.int, fA gd'_1089)) := e_1089_78
  refine ⟨rfl, ?_⟩
  have gT_1089 := st_gT_t F_1089 (hdj_b rfl) gT_1088
  have gS_1089 := st_gS_t F_1089 (hdj_b rfl) gS_1088
  have gV_1089 := st_gV_t F_1089 (hdj_b rfl) gV_1088
  have gW_1089 := st_gW_t F_1089 (hdj_b rfl) gW_1088
  have gM_1089 := st_gM_t F_1089 (hdj_b rfl) gM_1088
  have gR_1089 := st_gR_t F_1089 (hdj_b rfl) gR_1088
  have gI_1089 := st_gI_t F_1089 (hdj_b rfl) gI_1088
  have gJ_1089 := st_gJ_t F_1089 (hdj_b rfl) gJ_1088
  have hT_1089 := st_hT_t F_1089 (hdj_b rfl) hT_1088
  have hM_1089 := st_hM_t F_1089 (hdj_b rfl) hM_1088
  have hR_1089 := st_hR_t F_1089 (hdj_b rfl) hR_1088
  have hI_1089 := st_hI_t F_1089 (hdj_b rfl) hI_1088
  intro C_ k_
  exact k_ tn fp pl mi sd ka pa fa kb pb fb xa xb r n0 n1 ga0 gm0 gd_0 gs0 g00 g01 g02 g03 g04 g05 gx0 gy0 ga1 gm1 gd_1 gs1 g10 g11 g12 g13 g14 g15 gx1 gy1 s T cn go ch wg wc we rp rt lr ci0 ci1 cnr gor chr T2 im f_pl f_s f_st f_cb f_cr f_rw f_al f_wy f_k f_p f_x (by first | exact st_m f_m | omega) f_sd f_r f_rr f_n f_l0 f_l1 f_tn f_t (st_I_K f_i0) (st_I_K f_i1) ⟨g_1089_0, g_1089_18, g_1089_57⟩ gT_1089 ⟨g_1089_7, g_1089_8, n8, g_1089_9, n9, g_1089_10, n10, g_1089_11, n11, g_1089_12, n12, g_1089_13, n13⟩ ⟨g_1089_14, g_1089_15, g_1089_16⟩ gS_1089 gV_1089 gW_1089 gM_1089 gR_1089 ⟨g_1089_54, g_1089_55, n55, g_1089_56⟩ gI_1089 gJ_1089 ⟨sc0, sc1, sc2, sc3, sc4, sc5, w'_1089, sb, wa, g_1089_66⟩ ⟨g_1089_67, n67, g_1089_68, n68, g_1089_69, n69⟩ ⟨g_1089_70, g_1089_71⟩ hT_1089 ⟨gt'_1089, gd'_1089, xs, ys, r1, r2, g_1089_77, m_1089_77, g_1089_78, m_1089_78, g_1089_79, n79, g_1089_80, n80, g_1089_81, n81, g_1089_82, n82⟩ hM_1089 hR_1089 ⟨g_1089_90, g_1089_91, n91⟩ hI_1089 k_1089

set_option maxRecDepth 100000 in
theorem lk_judge1 {K : Nat} {h : List ik_E} (E : st_S K h) (hK : K ≤ 600)    : ik_F 117 [.ref 0, fI 1] h (fun rv h_q => ∃ o_ : Int, rv = [fI o_] ∧ (h_q.length = (94 : Nat) ∧ ∃ fs, h_q[66]? = some (.inr (10, fs))) ∧ ik_F 207 [.ref 66, fI 1] h_q (fun rv' h'' => rv' = [fI o_] ∧ st_S (K + 1) h'')) := by
  refine E _ ?_
  intro tn fp pl mi sd ka pa fa kb pb fb xa xb r n0 n1 ga0 gm0 gd_0 gs0 g00 g01 g02 g03 g04 g05 gx0 gy0 ga1 gm1 gd_1 gs1 g10 g11 g12 g13 g14 g15 gx1 gy1 s T cn go ch wg wc we rp rt lr ci0 ci1 cnr gor chr T2 im f_pl f_s f_st f_cb f_cr f_rw f_al f_wy f_k f_p f_x f_m f_sd f_r f_rr f_n f_l0 f_l1 f_tn f_t f_i0 f_i1 gA gT gB gC gS gV gW gM gR gL gI gJ hO hB hC hT hS hM hR hL hI hl
  replace f_cb := ik_hid_i f_cb
  replace f_cr := ik_hid_i f_cr
  replace f_p := ik_hid_i f_p
  replace f_x := ik_hid_i f_x
  obtain ⟨h0, h18, h57⟩ := gA
  obtain ⟨h7, h8, n8, h9, n9, h10, n10, h11, n11, h12, n12, h13, n13⟩ := gB
  obtain ⟨h14, h15, h16⟩ := gC
  obtain ⟨h54, h55, n55, h56⟩ := gL
  obtain ⟨sc0, sc1, sc2, sc3, sc4, sc5, w24, sb, wa, h66⟩ := hO
  obtain ⟨h67, n67, h68, n68, h69, n69⟩ := hB
  obtain ⟨h70, h71⟩ := hC
  obtain ⟨gt, gdd, xs, ys, r1, r2, h77, n77, h78, n78, h79, n79, h80, n80, h81, n81, h82, n82⟩ := hS
  obtain ⟨h90, h91, n91⟩ := hL
  refine ik_F_mono (cp_judge1 (pl := pl) (lo := ((mj_lost pl cn go : Nat) : Int)) (s := s) (n0 := n0) (n1 := n1) (ka := ka) (pa := pa) (fa := fa) (kb := kb) (pb := pb) (fb := fb) (lr := lr) (wg := wg) (wc := wc) (we := we) (W := (fun x => mx_w cnr gor chr s x)) (mi := mi) (dr := sd) f_pl (fun x h0 h1 => by have e := mx_al_w f_rw f_al s x h0 h1; exact e.symm ▸ f_wy x h0 h1) (mx_rw_ok (mx_al_rw f_rw f_al) _) f_k.2.1 f_k.2.2.2.2.2 f_k.2.2.2.1 f_n.2 f_l1 h0 h7 h11 n11 h12 n12 h13 n13 h14 h15 h54 h55 n55 h56 hl) ?_
  rintro v_1090 h_1090 ⟨er_1090, F_1090⟩ <;> subst er_1090
  have k_1090 : cL h_1090 := F_1090.1.trans hl
  have g_1090_0 := (hfr_g F_1090 0 rfl).trans h0
  have g_1090_7 := (hfr_g F_1090 7 rfl).trans h7
  have g_1090_8 := (hfr_g F_1090 8 rfl).trans h8
  have g_1090_9 := (hfr_g F_1090 9 rfl).trans h9
  have g_1090_10 := (hfr_g F_1090 10 rfl).trans h10
  have g_1090_11 := (hfr_g F_1090 11 rfl).trans h11
  have g_1090_12 := (hfr_g F_1090 12 rfl).trans h12
  have g_1090_13 := (hfr_g F_1090 13 rfl).trans h13
  have g_1090_14 := (hfr_g F_1090 14 rfl).trans h14
  have g_1090_15 := (hfr_g F_1090 15 rfl).trans h15
  have g_1090_16 := (hfr_g F_1090 16 rfl).trans h16
  have g_1090_18 := (hfr_g F_1090 18 rfl).trans h18
  have g_1090_54 := (hfr_g F_1090 54 rfl).trans h54
  have g_1090_55 := (hfr_g F_1090 55 rfl).trans h55
  have g_1090_56 := (hfr_g F_1090 56 rfl).trans h56
  have g_1090_57 := (hfr_g F_1090 57 rfl).trans h57
  have g_1090_66 := (hfr_g F_1090 66 rfl).trans h66
  have g_1090_67 := (hfr_g F_1090 67 rfl).trans h67
  have g_1090_68 := (hfr_g F_1090 68 rfl).trans h68
  have g_1090_69 := (hfr_g F_1090 69 rfl).trans h69
  have g_1090_70 := (hfr_g F_1090 70 rfl).trans h70
  have g_1090_71 := (hfr_g F_1090 71 rfl).trans h71
  have g_1090_77 := (hfr_g F_1090 77 rfl).trans h77
  have g_1090_78 := (hfr_g F_1090 78 rfl).trans h78
  have g_1090_79 := (hfr_g F_1090 79 rfl).trans h79
  have g_1090_80 := (hfr_g F_1090 80 rfl).trans h80
  have g_1090_81 := (hfr_g F_1090 81 rfl).trans h81
  have g_1090_82 := (hfr_g F_1090 82 rfl).trans h82
  have g_1090_90 := (hfr_g F_1090 90 rfl).trans h90
  have g_1090_91 := (hfr_g F_1090 91 rfl).trans h91
  refine ⟨mj_fw (mj_ok (fun x => mx_w cnr gor chr s x) pl kb pb fb lr 40) n1.toNat 0, rfl, ⟨k_1090, _, g_1090_66⟩, ?_⟩
  have gT_1090 := st_gT_t F_1090 (hdj_b rfl) gT
  have gS_1090 := st_gS_t F_1090 (hdj_b rfl) gS
  have gV_1090 := st_gV_t F_1090 (hdj_b rfl) gV
  have gW_1090 := st_gW_t F_1090 (hdj_b rfl) gW
  have gM_1090 := st_gM_t F_1090 (hdj_b rfl) gM
  have gR_1090 := st_gR_t F_1090 (hdj_b rfl) gR
  have gI_1090 := st_gI_t F_1090 (hdj_b rfl) gI
  have gJ_1090 := st_gJ_t F_1090 (hdj_b rfl) gJ
  have hT_1090 := st_hT_t F_1090 (hdj_b rfl) hT
  have hM_1090 := st_hM_t F_1090 (hdj_b rfl) hM
  have hR_1090 := st_hR_t F_1090 (hdj_b rfl) hR
  have hI_1090 := st_hI_t F_1090 (hdj_b rfl) hI
  refine ik_F_mono (rp_judge1 (pl := pl) (f := fun j => ((0 :: 0 :: 0 :: 0 :: 0 :: 0 :: 0 :: mi :: sd :: 0 :: tn :: fp :: sc0 :: sc1 :: sc2 :: sc3 :: sc4 :: sc5 :: 0 :: 0 :: 0 :: 0 :: 0 :: 0 :: w24 :: 0 :: 0 :: 0 :: 0 :: 0 :: 0 :: 0 :: sb :: wa :: 0 :: 0 :: r :: 0 :: 0 :: 0 :: 0 :: 0 :: 0 :: []) : List Int).getD j 0) (s := s) (cn := cnr) (go := gor) (ch := chr) (gt := gt) (gd := gdd) (ka := ka) (pa := pa) (fa := fa) (kb := kb) (pb := pb) (fb := fb) (lr := lr) (n0 := n0) (n1 := n1) f_pl f_s (fun x h0 h1 => by have := ((mx_al_rw f_rw f_al) x h0 h1).1; omega) (mx_rw_ch (mx_al_rw f_rw f_al)) (mx_rw_ok (mx_al_rw f_rw f_al) _) f_k.2.1 f_k.2.2.2.2.2 f_k.2.2.2.1 f_n.2 f_l1 g_1090_66 g_1090_67 n67 g_1090_68 n68 g_1090_69 n69 g_1090_77 n77 g_1090_78 n78 g_1090_70 g_1090_91 n91 g_1090_90 k_1090) ?_
  rintro v_1091 h_1091 ⟨w'_1091, gt'_1091, gd'_1091, er_1091, e_1091_66, e_1091_77, m_1091_77, e_1091_78, m_1091_78, F_1091⟩ <;> subst er_1091
  have k_1091 : cL h_1091 := F_1091.1.trans k_1090
  have g_1091_0 := (hfr_g F_1091 0 rfl).trans g_1090_0
  have g_1091_7 := (hfr_g F_1091 7 rfl).trans g_1090_7
  have g_1091_8 := (hfr_g F_1091 8 rfl).trans g_1090_8
  have g_1091_9 := (hfr_g F_1091 9 rfl).trans g_1090_9
  have g_1091_10 := (hfr_g F_1091 10 rfl).trans g_1090_10
  have g_1091_11 := (hfr_g F_1091 11 rfl).trans g_1090_11
  have g_1091_12 := (hfr_g F_1091 12 rfl).trans g_1090_12
  have g_1091_13 := (hfr_g F_1091 13 rfl).trans g_1090_13
  have g_1091_14 := (hfr_g F_1091 14 rfl).trans g_1090_14
  have g_1091_15 := (hfr_g F_1091 15 rfl).trans g_1090_15
  have g_1091_16 := (hfr_g F_1091 16 rfl).trans g_1090_16
  have g_1091_18 := (hfr_g F_1091 18 rfl).trans g_1090_18
  have g_1091_54 := (hfr_g F_1091 54 rfl).trans g_1090_54
  have g_1091_55 := (hfr_g F_1091 55 rfl).trans g_1090_55
  have g_1091_56 := (hfr_g F_1091 56 rfl).trans g_1090_56
  have g_1091_57 := (hfr_g F_1091 57 rfl).trans g_1090_57
  have g_1091_67 := (hfr_g F_1091 67 rfl).trans g_1090_67
  have g_1091_68 := (hfr_g F_1091 68 rfl).trans g_1090_68
  have g_1091_69 := (hfr_g F_1091 69 rfl).trans g_1090_69
  have g_1091_70 := (hfr_g F_1091 70 rfl).trans g_1090_70
  have g_1091_71 := (hfr_g F_1091 71 rfl).trans g_1090_71
  have g_1091_79 := (hfr_g F_1091 79 rfl).trans g_1090_79
  have g_1091_80 := (hfr_g F_1091 80 rfl).trans g_1090_80
  have g_1091_81 := (hfr_g F_1091 81 rfl).trans g_1090_81
  have g_1091_82 := (hfr_g F_1091 82 rfl).trans g_1090_82
  have g_1091_90 := (hfr_g F_1091 90 rfl).trans g_1090_90
  have g_1091_91 := (hfr_g F_1091 91 rfl).trans g_1090_91
  have g_1091_66 : cE h_1091 66 (.inr (10, (fI pl :: .ref 67 :: .ref 68 :: .ref 69 :: fI ((s : Nat) : Int) :: .ref 70 :: .ref 71 :: fI mi :: fI sd :: .ref 72 :: fI tn :: fI fp :: fI sc0 :: fJ sc1 :: fI sc2 :: fI sc3 :: fI sc4 :: fI sc5 :: .ref 73 :: .ref 74 :: .ref 75 :: .ref 76 :: .ref 77 :: .ref 78 :: fI w'_1091 :: .ref 79 :: .ref 80 :: .ref 81 :: .ref 82 :: .ref 83 :: .ref 84 :: .ref 85 :: fJ sb :: fJ wa :: .ref 86 :: .ref 87 :: fI r :: .ref 88 :: .ref 89 :: .ref 90 :: .ref 91 :: .ref 92 :: .ref 93 :: []))) := e_1091_66
  have g_1091_77 : cE h_1091 77 (.inl (.int, fA gt'_1091)) := e_1091_77
  have g_1091_78 : cE h_1091 78 (.inl (.int, fA gd'_1091)) := e_1091_78
  refine ⟨rfl, ?_⟩
  have gT_1091 := st_gT_t F_1091 (hdj_b rfl) gT_1090
  have gS_1091 := st_gS_t F_1091 (hdj_b rfl) gS_1090
  have gV_1091 := st_gV_t F_1091 (hdj_b rfl) gV_1090
  have gW_1091 := st_gW_t F_1091 (hdj_b rfl) gW_1090
  have gM_1091 := st_gM_t F_1091 (hdj_b rfl) gM_1090
  have gR_1091 := st_gR_t F_1091 (hdj_b rfl) gR_1090
  have gI_1091 := st_gI_t F_1091 (hdj_b rfl) gI_1090
  have gJ_1091 := st_gJ_t F_1091 (hdj_b rfl) gJ_1090
  have hT_1091 := st_hT_t F_1091 (hdj_b rfl) hT_1090
  have hM_1091 := st_hM_t F_1091 (hdj_b rfl) hM_1090
  have hR_1091 := st_hR_t F_1091 (hdj_b rfl) hR_1090
  have hI_1091 := st_hI_t F_1091 (hdj_b rfl) hI_1090
  intro C_ k_
  exact k_ tn fp pl mi sd ka pa fa kb pb fb xa xb r n0 n1 ga0 gm0 gd_0 gs0 g00 g01 g02 g03 g04 g05 gx0 gy0 ga1 gm1 gd_1 gs1 g10 g11 g12 g13 g14 g15 gx1 gy1 s T cn go ch wg wc we rp rt lr ci0 ci1 cnr gor chr T2 im f_pl f_s f_st f_cb f_cr f_rw f_al f_wy f_k f_p f_x (by first | exact st_m f_m | omega) f_sd f_r f_rr f_n f_l0 f_l1 f_tn f_t (st_I_K f_i0) (st_I_K f_i1) ⟨g_1091_0, g_1091_18, g_1091_57⟩ gT_1091 ⟨g_1091_7, g_1091_8, n8, g_1091_9, n9, g_1091_10, n10, g_1091_11, n11, g_1091_12, n12, g_1091_13, n13⟩ ⟨g_1091_14, g_1091_15, g_1091_16⟩ gS_1091 gV_1091 gW_1091 gM_1091 gR_1091 ⟨g_1091_54, g_1091_55, n55, g_1091_56⟩ gI_1091 gJ_1091 ⟨sc0, sc1, sc2, sc3, sc4, sc5, w'_1091, sb, wa, g_1091_66⟩ ⟨g_1091_67, n67, g_1091_68, n68, g_1091_69, n69⟩ ⟨g_1091_70, g_1091_71⟩ hT_1091 ⟨gt'_1091, gd'_1091, xs, ys, r1, r2, g_1091_77, m_1091_77, g_1091_78, m_1091_78, g_1091_79, n79, g_1091_80, n80, g_1091_81, n81, g_1091_82, n82⟩ hM_1091 hR_1091 ⟨g_1091_90, g_1091_91, n91⟩ hI_1091 k_1091

set_option maxRecDepth 100000 in
theorem lk_judgeE {K : Nat} {h : List ik_E} (E : st_S K h) (hK : K ≤ 600) {side : Int} (z_side : -2147483648 ≤ side ∧ side < 2147483648) (n0_ : ¬ side = 0) (n1_ : ¬ side = 1) : ik_F 117 [.ref 0, fI side] h (fun rv h_q => ∃ o_ : Int, rv = [fI o_] ∧ (h_q.length = (94 : Nat) ∧ ∃ fs, h_q[66]? = some (.inr (10, fs))) ∧ ik_F 207 [.ref 66, fI side] h_q (fun rv' h'' => rv' = [fI o_] ∧ st_S (K + 1) h'')) := by
  refine E _ ?_
  intro tn fp pl mi sd ka pa fa kb pb fb xa xb r n0 n1 ga0 gm0 gd_0 gs0 g00 g01 g02 g03 g04 g05 gx0 gy0 ga1 gm1 gd_1 gs1 g10 g11 g12 g13 g14 g15 gx1 gy1 s T cn go ch wg wc we rp rt lr ci0 ci1 cnr gor chr T2 im f_pl f_s f_st f_cb f_cr f_rw f_al f_wy f_k f_p f_x f_m f_sd f_r f_rr f_n f_l0 f_l1 f_tn f_t f_i0 f_i1 gA gT gB gC gS gV gW gM gR gL gI gJ hO hB hC hT hS hM hR hL hI hl
  replace f_cb := ik_hid_i f_cb
  replace f_cr := ik_hid_i f_cr
  replace f_p := ik_hid_i f_p
  replace f_x := ik_hid_i f_x
  obtain ⟨h0, h18, h57⟩ := gA
  obtain ⟨sc0, sc1, sc2, sc3, sc4, sc5, w24, sb, wa, h66⟩ := hO
  refine ik_F_mono (cp_judgeE (side := side) z_side n0_ n1_ h0 hl) ?_
  rintro v_1092 h_1092 ⟨er_1092, F_1092⟩ <;> subst er_1092
  have k_1092 : cL h_1092 := F_1092.1.trans hl
  have g_1092_0 := (hfr_g F_1092 0 rfl).trans h0
  have g_1092_18 := (hfr_g F_1092 18 rfl).trans h18
  have g_1092_57 := (hfr_g F_1092 57 rfl).trans h57
  have g_1092_66 := (hfr_g F_1092 66 rfl).trans h66
  refine ⟨-1000000001, rfl, ⟨k_1092, _, g_1092_66⟩, ?_⟩
  have gT_1092 := st_gT_t F_1092 (hdj_b rfl) gT
  have gB_1092 := st_gB_t F_1092 (hdj_b rfl) gB
  have gC_1092 := st_gC_t F_1092 (hdj_b rfl) gC
  have gS_1092 := st_gS_t F_1092 (hdj_b rfl) gS
  have gV_1092 := st_gV_t F_1092 (hdj_b rfl) gV
  have gW_1092 := st_gW_t F_1092 (hdj_b rfl) gW
  have gM_1092 := st_gM_t F_1092 (hdj_b rfl) gM
  have gR_1092 := st_gR_t F_1092 (hdj_b rfl) gR
  have gL_1092 := st_gL_t F_1092 (hdj_b rfl) gL
  have gI_1092 := st_gI_t F_1092 (hdj_b rfl) gI
  have gJ_1092 := st_gJ_t F_1092 (hdj_b rfl) gJ
  have hB_1092 := st_hB_t F_1092 (hdj_b rfl) hB
  have hC_1092 := st_hC_t F_1092 (hdj_b rfl) hC
  have hT_1092 := st_hT_t F_1092 (hdj_b rfl) hT
  have hS_1092 := st_hS_t F_1092 (hdj_b rfl) hS
  have hM_1092 := st_hM_t F_1092 (hdj_b rfl) hM
  have hR_1092 := st_hR_t F_1092 (hdj_b rfl) hR
  have hL_1092 := st_hL_t F_1092 (hdj_b rfl) hL
  have hI_1092 := st_hI_t F_1092 (hdj_b rfl) hI
  refine ik_F_mono (rp_judgeE (side := side) (f := fun j => ((pl :: 0 :: 0 :: 0 :: (((s : Nat) : Int)) :: 0 :: 0 :: mi :: sd :: 0 :: tn :: fp :: sc0 :: sc1 :: sc2 :: sc3 :: sc4 :: sc5 :: 0 :: 0 :: 0 :: 0 :: 0 :: 0 :: w24 :: 0 :: 0 :: 0 :: 0 :: 0 :: 0 :: 0 :: sb :: wa :: 0 :: 0 :: r :: 0 :: 0 :: 0 :: 0 :: 0 :: 0 :: []) : List Int).getD j 0) z_side n0_ n1_ g_1092_66 k_1092) ?_
  rintro v_1093 h_1093 ⟨er_1093, F_1093⟩ <;> subst er_1093
  have k_1093 : cL h_1093 := F_1093.1.trans k_1092
  have g_1093_0 := (hfr_g F_1093 0 rfl).trans g_1092_0
  have g_1093_18 := (hfr_g F_1093 18 rfl).trans g_1092_18
  have g_1093_57 := (hfr_g F_1093 57 rfl).trans g_1092_57
  have g_1093_66 := (hfr_g F_1093 66 rfl).trans g_1092_66
  refine ⟨rfl, ?_⟩
  have gT_1093 := st_gT_t F_1093 (hdj_b rfl) gT_1092
  have gB_1093 := st_gB_t F_1093 (hdj_b rfl) gB_1092
  have gC_1093 := st_gC_t F_1093 (hdj_b rfl) gC_1092
  have gS_1093 := st_gS_t F_1093 (hdj_b rfl) gS_1092
  have gV_1093 := st_gV_t F_1093 (hdj_b rfl) gV_1092
  have gW_1093 := st_gW_t F_1093 (hdj_b rfl) gW_1092
  have gM_1093 := st_gM_t F_1093 (hdj_b rfl) gM_1092
  have gR_1093 := st_gR_t F_1093 (hdj_b rfl) gR_1092
  have gL_1093 := st_gL_t F_1093 (hdj_b rfl) gL_1092
  have gI_1093 := st_gI_t F_1093 (hdj_b rfl) gI_1092
  have gJ_1093 := st_gJ_t F_1093 (hdj_b rfl) gJ_1092
  have hB_1093 := st_hB_t F_1093 (hdj_b rfl) hB_1092
  have hC_1093 := st_hC_t F_1093 (hdj_b rfl) hC_1092
  have hT_1093 := st_hT_t F_1093 (hdj_b rfl) hT_1092
  have hS_1093 := st_hS_t F_1093 (hdj_b rfl) hS_1092
  have hM_1093 := st_hM_t F_1093 (hdj_b rfl) hM_1092
  have hR_1093 := st_hR_t F_1093 (hdj_b rfl) hR_1092
  have hL_1093 := st_hL_t F_1093 (hdj_b rfl) hL_1092
  have hI_1093 := st_hI_t F_1093 (hdj_b rfl) hI_1092
  intro C_ k_
  exact k_ tn fp pl mi sd ka pa fa kb pb fb xa xb r n0 n1 ga0 gm0 gd_0 gs0 g00 g01 g02 g03 g04 g05 gx0 gy0 ga1 gm1 gd_1 gs1 g10 g11 g12 g13 g14 g15 gx1 gy1 s T cn go ch wg wc we rp rt lr ci0 ci1 cnr gor chr T2 im f_pl f_s f_st f_cb f_cr f_rw f_al f_wy f_k f_p f_x (by first | exact st_m f_m | omega) f_sd f_r f_rr f_n f_l0 f_l1 f_tn f_t (st_I_K f_i0) (st_I_K f_i1) ⟨g_1093_0, g_1093_18, g_1093_57⟩ gT_1093 gB_1093 gC_1093 gS_1093 gV_1093 gW_1093 gM_1093 gR_1093 gL_1093 gI_1093 gJ_1093 ⟨sc0, sc1, sc2, sc3, sc4, sc5, w24, sb, wa, g_1093_66⟩ hB_1093 hC_1093 hT_1093 hS_1093 hM_1093 hR_1093 hL_1093 hI_1093 k_1093

set_option maxRecDepth 100000 in
theorem lk_where0 {K : Nat} {h : List ik_E} (E : st_S K h) (hK : K ≤ 600)    : ik_F 112 [.ref 0, fI 0] h (fun rv h_q => ∃ o_ : Int, rv = [fI o_] ∧ (h_q.length = (94 : Nat) ∧ ∃ fs, h_q[66]? = some (.inr (10, fs))) ∧ ik_F 200 [.ref 66, fI 0] h_q (fun rv' h'' => rv' = [fI o_] ∧ st_S (K + 1) h'')) := by
  refine E _ ?_
  intro tn fp pl mi sd ka pa fa kb pb fb xa xb r n0 n1 ga0 gm0 gd_0 gs0 g00 g01 g02 g03 g04 g05 gx0 gy0 ga1 gm1 gd_1 gs1 g10 g11 g12 g13 g14 g15 gx1 gy1 s T cn go ch wg wc we rp rt lr ci0 ci1 cnr gor chr T2 im f_pl f_s f_st f_cb f_cr f_rw f_al f_wy f_k f_p f_x f_m f_sd f_r f_rr f_n f_l0 f_l1 f_tn f_t f_i0 f_i1 gA gT gB gC gS gV gW gM gR gL gI gJ hO hB hC hT hS hM hR hL hI hl
  replace f_cb := ik_hid_i f_cb
  replace f_cr := ik_hid_i f_cr
  replace f_p := ik_hid_i f_p
  replace f_x := ik_hid_i f_x
  obtain ⟨h0, h18, h57⟩ := gA
  obtain ⟨h7, h8, n8, h9, n9, h10, n10, h11, n11, h12, n12, h13, n13⟩ := gB
  obtain ⟨h14, h15, h16⟩ := gC
  obtain ⟨sc0, sc1, sc2, sc3, sc4, sc5, w24, sb, wa, h66⟩ := hO
  obtain ⟨h70, h71⟩ := hC
  refine ik_F_mono (cp_where0 (pl := pl) (st := ((s : Nat) : Int)) (lo := ((mj_lost pl cn go : Nat) : Int)) (mi := mi) (dr := sd) (xa := xa) (xb := xb) f_pl h0 h7 h14 h16 hl) ?_
  rintro v_1094 h_1094 ⟨er_1094, F_1094⟩ <;> subst er_1094
  have k_1094 : cL h_1094 := F_1094.1.trans hl
  have g_1094_0 := (hfr_g F_1094 0 rfl).trans h0
  have g_1094_7 := (hfr_g F_1094 7 rfl).trans h7
  have g_1094_8 := (hfr_g F_1094 8 rfl).trans h8
  have g_1094_9 := (hfr_g F_1094 9 rfl).trans h9
  have g_1094_10 := (hfr_g F_1094 10 rfl).trans h10
  have g_1094_11 := (hfr_g F_1094 11 rfl).trans h11
  have g_1094_12 := (hfr_g F_1094 12 rfl).trans h12
  have g_1094_13 := (hfr_g F_1094 13 rfl).trans h13
  have g_1094_14 := (hfr_g F_1094 14 rfl).trans h14
  have g_1094_15 := (hfr_g F_1094 15 rfl).trans h15
  have g_1094_16 := (hfr_g F_1094 16 rfl).trans h16
  have g_1094_18 := (hfr_g F_1094 18 rfl).trans h18
  have g_1094_57 := (hfr_g F_1094 57 rfl).trans h57
  have g_1094_66 := (hfr_g F_1094 66 rfl).trans h66
  have g_1094_70 := (hfr_g F_1094 70 rfl).trans h70
  have g_1094_71 := (hfr_g F_1094 71 rfl).trans h71
  refine ⟨if 1 < pl then xa else -1000000003, rfl, ⟨k_1094, _, g_1094_66⟩, ?_⟩
  have gT_1094 := st_gT_t F_1094 (hdj_b rfl) gT
  have gS_1094 := st_gS_t F_1094 (hdj_b rfl) gS
  have gV_1094 := st_gV_t F_1094 (hdj_b rfl) gV
  have gW_1094 := st_gW_t F_1094 (hdj_b rfl) gW
  have gM_1094 := st_gM_t F_1094 (hdj_b rfl) gM
  have gR_1094 := st_gR_t F_1094 (hdj_b rfl) gR
  have gL_1094 := st_gL_t F_1094 (hdj_b rfl) gL
  have gI_1094 := st_gI_t F_1094 (hdj_b rfl) gI
  have gJ_1094 := st_gJ_t F_1094 (hdj_b rfl) gJ
  have hB_1094 := st_hB_t F_1094 (hdj_b rfl) hB
  have hT_1094 := st_hT_t F_1094 (hdj_b rfl) hT
  have hS_1094 := st_hS_t F_1094 (hdj_b rfl) hS
  have hM_1094 := st_hM_t F_1094 (hdj_b rfl) hM
  have hR_1094 := st_hR_t F_1094 (hdj_b rfl) hR
  have hL_1094 := st_hL_t F_1094 (hdj_b rfl) hL
  have hI_1094 := st_hI_t F_1094 (hdj_b rfl) hI
  refine ik_F_mono (rp_where0 (f := fun j => ((0 :: 0 :: 0 :: 0 :: (((s : Nat) : Int)) :: 0 :: 0 :: mi :: sd :: 0 :: tn :: fp :: sc0 :: sc1 :: sc2 :: sc3 :: sc4 :: sc5 :: 0 :: 0 :: 0 :: 0 :: 0 :: 0 :: w24 :: 0 :: 0 :: 0 :: 0 :: 0 :: 0 :: 0 :: sb :: wa :: 0 :: 0 :: r :: 0 :: 0 :: 0 :: 0 :: 0 :: 0 :: []) : List Int).getD j 0) (pl := pl) (xa := xa) (xb := xb) f_pl g_1094_66 g_1094_71 k_1094) ?_
  rintro v_1095 h_1095 ⟨er_1095, F_1095⟩ <;> subst er_1095
  have k_1095 : cL h_1095 := F_1095.1.trans k_1094
  have g_1095_0 := (hfr_g F_1095 0 rfl).trans g_1094_0
  have g_1095_7 := (hfr_g F_1095 7 rfl).trans g_1094_7
  have g_1095_8 := (hfr_g F_1095 8 rfl).trans g_1094_8
  have g_1095_9 := (hfr_g F_1095 9 rfl).trans g_1094_9
  have g_1095_10 := (hfr_g F_1095 10 rfl).trans g_1094_10
  have g_1095_11 := (hfr_g F_1095 11 rfl).trans g_1094_11
  have g_1095_12 := (hfr_g F_1095 12 rfl).trans g_1094_12
  have g_1095_13 := (hfr_g F_1095 13 rfl).trans g_1094_13
  have g_1095_14 := (hfr_g F_1095 14 rfl).trans g_1094_14
  have g_1095_15 := (hfr_g F_1095 15 rfl).trans g_1094_15
  have g_1095_16 := (hfr_g F_1095 16 rfl).trans g_1094_16
  have g_1095_18 := (hfr_g F_1095 18 rfl).trans g_1094_18
  have g_1095_57 := (hfr_g F_1095 57 rfl).trans g_1094_57
  have g_1095_66 := (hfr_g F_1095 66 rfl).trans g_1094_66
  have g_1095_70 := (hfr_g F_1095 70 rfl).trans g_1094_70
  have g_1095_71 := (hfr_g F_1095 71 rfl).trans g_1094_71
  refine ⟨rfl, ?_⟩
  have gT_1095 := st_gT_t F_1095 (hdj_b rfl) gT_1094
  have gS_1095 := st_gS_t F_1095 (hdj_b rfl) gS_1094
  have gV_1095 := st_gV_t F_1095 (hdj_b rfl) gV_1094
  have gW_1095 := st_gW_t F_1095 (hdj_b rfl) gW_1094
  have gM_1095 := st_gM_t F_1095 (hdj_b rfl) gM_1094
  have gR_1095 := st_gR_t F_1095 (hdj_b rfl) gR_1094
  have gL_1095 := st_gL_t F_1095 (hdj_b rfl) gL_1094
  have gI_1095 := st_gI_t F_1095 (hdj_b rfl) gI_1094
  have gJ_1095 := st_gJ_t F_1095 (hdj_b rfl) gJ_1094
  have hB_1095 := st_hB_t F_1095 (hdj_b rfl) hB_1094
  have hT_1095 := st_hT_t F_1095 (hdj_b rfl) hT_1094
  have hS_1095 := st_hS_t F_1095 (hdj_b rfl) hS_1094
  have hM_1095 := st_hM_t F_1095 (hdj_b rfl) hM_1094
  have hR_1095 := st_hR_t F_1095 (hdj_b rfl) hR_1094
  have hL_1095 := st_hL_t F_1095 (hdj_b rfl) hL_1094
  have hI_1095 := st_hI_t F_1095 (hdj_b rfl) hI_1094
  intro C_ k_
  exact k_ tn fp pl mi sd ka pa fa kb pb fb xa xb r n0 n1 ga0 gm0 gd_0 gs0 g00 g01 g02 g03 g04 g05 gx0 gy0 ga1 gm1 gd_1 gs1 g10 g11 g12 g13 g14 g15 gx1 gy1 s T cn go ch wg wc we rp rt lr ci0 ci1 cnr gor chr T2 im f_pl f_s f_st f_cb f_cr f_rw f_al f_wy f_k f_p f_x (by first | exact st_m f_m | omega) f_sd f_r f_rr f_n f_l0 f_l1 f_tn f_t (st_I_K f_i0) (st_I_K f_i1) ⟨g_1095_0, g_1095_18, g_1095_57⟩ gT_1095 ⟨g_1095_7, g_1095_8, n8, g_1095_9, n9, g_1095_10, n10, g_1095_11, n11, g_1095_12, n12, g_1095_13, n13⟩ ⟨g_1095_14, g_1095_15, g_1095_16⟩ gS_1095 gV_1095 gW_1095 gM_1095 gR_1095 gL_1095 gI_1095 gJ_1095 ⟨sc0, sc1, sc2, sc3, sc4, sc5, w24, sb, wa, g_1095_66⟩ hB_1095 ⟨g_1095_70, g_1095_71⟩ hT_1095 hS_1095 hM_1095 hR_1095 hL_1095 hI_1095 k_1095

set_option maxRecDepth 100000 in
theorem lk_where1 {K : Nat} {h : List ik_E} (E : st_S K h) (hK : K ≤ 600)    : ik_F 112 [.ref 0, fI 1] h (fun rv h_q => ∃ o_ : Int, rv = [fI o_] ∧ (h_q.length = (94 : Nat) ∧ ∃ fs, h_q[66]? = some (.inr (10, fs))) ∧ ik_F 200 [.ref 66, fI 1] h_q (fun rv' h'' => rv' = [fI o_] ∧ st_S (K + 1) h'')) := by
  refine E _ ?_
  intro tn fp pl mi sd ka pa fa kb pb fb xa xb r n0 n1 ga0 gm0 gd_0 gs0 g00 g01 g02 g03 g04 g05 gx0 gy0 ga1 gm1 gd_1 gs1 g10 g11 g12 g13 g14 g15 gx1 gy1 s T cn go ch wg wc we rp rt lr ci0 ci1 cnr gor chr T2 im f_pl f_s f_st f_cb f_cr f_rw f_al f_wy f_k f_p f_x f_m f_sd f_r f_rr f_n f_l0 f_l1 f_tn f_t f_i0 f_i1 gA gT gB gC gS gV gW gM gR gL gI gJ hO hB hC hT hS hM hR hL hI hl
  replace f_cb := ik_hid_i f_cb
  replace f_cr := ik_hid_i f_cr
  replace f_p := ik_hid_i f_p
  replace f_x := ik_hid_i f_x
  obtain ⟨h0, h18, h57⟩ := gA
  obtain ⟨h7, h8, n8, h9, n9, h10, n10, h11, n11, h12, n12, h13, n13⟩ := gB
  obtain ⟨h14, h15, h16⟩ := gC
  obtain ⟨sc0, sc1, sc2, sc3, sc4, sc5, w24, sb, wa, h66⟩ := hO
  obtain ⟨h70, h71⟩ := hC
  refine ik_F_mono (cp_where1 (pl := pl) (st := ((s : Nat) : Int)) (lo := ((mj_lost pl cn go : Nat) : Int)) (mi := mi) (dr := sd) (xa := xa) (xb := xb) f_pl h0 h7 h14 h16 hl) ?_
  rintro v_1096 h_1096 ⟨er_1096, F_1096⟩ <;> subst er_1096
  have k_1096 : cL h_1096 := F_1096.1.trans hl
  have g_1096_0 := (hfr_g F_1096 0 rfl).trans h0
  have g_1096_7 := (hfr_g F_1096 7 rfl).trans h7
  have g_1096_8 := (hfr_g F_1096 8 rfl).trans h8
  have g_1096_9 := (hfr_g F_1096 9 rfl).trans h9
  have g_1096_10 := (hfr_g F_1096 10 rfl).trans h10
  have g_1096_11 := (hfr_g F_1096 11 rfl).trans h11
  have g_1096_12 := (hfr_g F_1096 12 rfl).trans h12
  have g_1096_13 := (hfr_g F_1096 13 rfl).trans h13
  have g_1096_14 := (hfr_g F_1096 14 rfl).trans h14
  have g_1096_15 := (hfr_g F_1096 15 rfl).trans h15
  have g_1096_16 := (hfr_g F_1096 16 rfl).trans h16
  have g_1096_18 := (hfr_g F_1096 18 rfl).trans h18
  have g_1096_57 := (hfr_g F_1096 57 rfl).trans h57
  have g_1096_66 := (hfr_g F_1096 66 rfl).trans h66
  have g_1096_70 := (hfr_g F_1096 70 rfl).trans h70
  have g_1096_71 := (hfr_g F_1096 71 rfl).trans h71
  refine ⟨if 1 < pl then xb else -1000000003, rfl, ⟨k_1096, _, g_1096_66⟩, ?_⟩
  have gT_1096 := st_gT_t F_1096 (hdj_b rfl) gT
  have gS_1096 := st_gS_t F_1096 (hdj_b rfl) gS
  have gV_1096 := st_gV_t F_1096 (hdj_b rfl) gV
  have gW_1096 := st_gW_t F_1096 (hdj_b rfl) gW
  have gM_1096 := st_gM_t F_1096 (hdj_b rfl) gM
  have gR_1096 := st_gR_t F_1096 (hdj_b rfl) gR
  have gL_1096 := st_gL_t F_1096 (hdj_b rfl) gL
  have gI_1096 := st_gI_t F_1096 (hdj_b rfl) gI
  have gJ_1096 := st_gJ_t F_1096 (hdj_b rfl) gJ
  have hB_1096 := st_hB_t F_1096 (hdj_b rfl) hB
  have hT_1096 := st_hT_t F_1096 (hdj_b rfl) hT
  have hS_1096 := st_hS_t F_1096 (hdj_b rfl) hS
  have hM_1096 := st_hM_t F_1096 (hdj_b rfl) hM
  have hR_1096 := st_hR_t F_1096 (hdj_b rfl) hR
  have hL_1096 := st_hL_t F_1096 (hdj_b rfl) hL
  have hI_1096 := st_hI_t F_1096 (hdj_b rfl) hI
  refine ik_F_mono (rp_where1 (f := fun j => ((0 :: 0 :: 0 :: 0 :: (((s : Nat) : Int)) :: 0 :: 0 :: mi :: sd :: 0 :: tn :: fp :: sc0 :: sc1 :: sc2 :: sc3 :: sc4 :: sc5 :: 0 :: 0 :: 0 :: 0 :: 0 :: 0 :: w24 :: 0 :: 0 :: 0 :: 0 :: 0 :: 0 :: 0 :: sb :: wa :: 0 :: 0 :: r :: 0 :: 0 :: 0 :: 0 :: 0 :: 0 :: []) : List Int).getD j 0) (pl := pl) (xa := xa) (xb := xb) f_pl g_1096_66 g_1096_71 k_1096) ?_
  rintro v_1097 h_1097 ⟨er_1097, F_1097⟩ <;> subst er_1097
  have k_1097 : cL h_1097 := F_1097.1.trans k_1096
  have g_1097_0 := (hfr_g F_1097 0 rfl).trans g_1096_0
  have g_1097_7 := (hfr_g F_1097 7 rfl).trans g_1096_7
  have g_1097_8 := (hfr_g F_1097 8 rfl).trans g_1096_8
  have g_1097_9 := (hfr_g F_1097 9 rfl).trans g_1096_9
  have g_1097_10 := (hfr_g F_1097 10 rfl).trans g_1096_10
  have g_1097_11 := (hfr_g F_1097 11 rfl).trans g_1096_11
  have g_1097_12 := (hfr_g F_1097 12 rfl).trans g_1096_12
  have g_1097_13 := (hfr_g F_1097 13 rfl).trans g_1096_13
  have g_1097_14 := (hfr_g F_1097 14 rfl).trans g_1096_14
  have g_1097_15 := (hfr_g F_1097 15 rfl).trans g_1096_15
  have g_1097_16 := (hfr_g F_1097 16 rfl).trans g_1096_16
  have g_1097_18 := (hfr_g F_1097 18 rfl).trans g_1096_18
  have g_1097_57 := (hfr_g F_1097 57 rfl).trans g_1096_57
  have g_1097_66 := (hfr_g F_1097 66 rfl).trans g_1096_66
  have g_1097_70 := (hfr_g F_1097 70 rfl).trans g_1096_70
  have g_1097_71 := (hfr_g F_1097 71 rfl).trans g_1096_71
  refine ⟨rfl, ?_⟩
  have gT_1097 := st_gT_t F_1097 (hdj_b rfl) gT_1096
  have gS_1097 := st_gS_t F_1097 (hdj_b rfl) gS_1096
  have gV_1097 := st_gV_t F_1097 (hdj_b rfl) gV_1096
  have gW_1097 := st_gW_t F_1097 (hdj_b rfl) gW_1096
  have gM_1097 := st_gM_t F_1097 (hdj_b rfl) gM_1096
  have gR_1097 := st_gR_t F_1097 (hdj_b rfl) gR_1096
  have gL_1097 := st_gL_t F_1097 (hdj_b rfl) gL_1096
  have gI_1097 := st_gI_t F_1097 (hdj_b rfl) gI_1096
  have gJ_1097 := st_gJ_t F_1097 (hdj_b rfl) gJ_1096
  have hB_1097 := st_hB_t F_1097 (hdj_b rfl) hB_1096
  have hT_1097 := st_hT_t F_1097 (hdj_b rfl) hT_1096
  have hS_1097 := st_hS_t F_1097 (hdj_b rfl) hS_1096
  have hM_1097 := st_hM_t F_1097 (hdj_b rfl) hM_1096
  have hR_1097 := st_hR_t F_1097 (hdj_b rfl) hR_1096
  have hL_1097 := st_hL_t F_1097 (hdj_b rfl) hL_1096
  have hI_1097 := st_hI_t F_1097 (hdj_b rfl) hI_1096
  intro C_ k_
  exact k_ tn fp pl mi sd ka pa fa kb pb fb xa xb r n0 n1 ga0 gm0 gd_0 gs0 g00 g01 g02 g03 g04 g05 gx0 gy0 ga1 gm1 gd_1 gs1 g10 g11 g12 g13 g14 g15 gx1 gy1 s T cn go ch wg wc we rp rt lr ci0 ci1 cnr gor chr T2 im f_pl f_s f_st f_cb f_cr f_rw f_al f_wy f_k f_p f_x (by first | exact st_m f_m | omega) f_sd f_r f_rr f_n f_l0 f_l1 f_tn f_t (st_I_K f_i0) (st_I_K f_i1) ⟨g_1097_0, g_1097_18, g_1097_57⟩ gT_1097 ⟨g_1097_7, g_1097_8, n8, g_1097_9, n9, g_1097_10, n10, g_1097_11, n11, g_1097_12, n12, g_1097_13, n13⟩ ⟨g_1097_14, g_1097_15, g_1097_16⟩ gS_1097 gV_1097 gW_1097 gM_1097 gR_1097 gL_1097 gI_1097 gJ_1097 ⟨sc0, sc1, sc2, sc3, sc4, sc5, w24, sb, wa, g_1097_66⟩ hB_1097 ⟨g_1097_70, g_1097_71⟩ hT_1097 hS_1097 hM_1097 hR_1097 hL_1097 hI_1097 k_1097

set_option maxRecDepth 100000 in
theorem lk_whereE {K : Nat} {h : List ik_E} (E : st_S K h) (hK : K ≤ 600) {side : Int} (z_side : -2147483648 ≤ side ∧ side < 2147483648) (n0_ : ¬ side = 0) (n1_ : ¬ side = 1) : ik_F 112 [.ref 0, fI side] h (fun rv h_q => ∃ o_ : Int, rv = [fI o_] ∧ (h_q.length = (94 : Nat) ∧ ∃ fs, h_q[66]? = some (.inr (10, fs))) ∧ ik_F 200 [.ref 66, fI side] h_q (fun rv' h'' => rv' = [fI o_] ∧ st_S (K + 1) h'')) := by
  refine E _ ?_
  intro tn fp pl mi sd ka pa fa kb pb fb xa xb r n0 n1 ga0 gm0 gd_0 gs0 g00 g01 g02 g03 g04 g05 gx0 gy0 ga1 gm1 gd_1 gs1 g10 g11 g12 g13 g14 g15 gx1 gy1 s T cn go ch wg wc we rp rt lr ci0 ci1 cnr gor chr T2 im f_pl f_s f_st f_cb f_cr f_rw f_al f_wy f_k f_p f_x f_m f_sd f_r f_rr f_n f_l0 f_l1 f_tn f_t f_i0 f_i1 gA gT gB gC gS gV gW gM gR gL gI gJ hO hB hC hT hS hM hR hL hI hl
  replace f_cb := ik_hid_i f_cb
  replace f_cr := ik_hid_i f_cr
  replace f_p := ik_hid_i f_p
  replace f_x := ik_hid_i f_x
  obtain ⟨h0, h18, h57⟩ := gA
  obtain ⟨sc0, sc1, sc2, sc3, sc4, sc5, w24, sb, wa, h66⟩ := hO
  refine ik_F_mono (cp_whereE (side := side) z_side n0_ n1_ h0 hl) ?_
  rintro v_1098 h_1098 ⟨er_1098, F_1098⟩ <;> subst er_1098
  have k_1098 : cL h_1098 := F_1098.1.trans hl
  have g_1098_0 := (hfr_g F_1098 0 rfl).trans h0
  have g_1098_18 := (hfr_g F_1098 18 rfl).trans h18
  have g_1098_57 := (hfr_g F_1098 57 rfl).trans h57
  have g_1098_66 := (hfr_g F_1098 66 rfl).trans h66
  refine ⟨-1000000001, rfl, ⟨k_1098, _, g_1098_66⟩, ?_⟩
  have gT_1098 := st_gT_t F_1098 (hdj_b rfl) gT
  have gB_1098 := st_gB_t F_1098 (hdj_b rfl) gB
  have gC_1098 := st_gC_t F_1098 (hdj_b rfl) gC
  have gS_1098 := st_gS_t F_1098 (hdj_b rfl) gS
  have gV_1098 := st_gV_t F_1098 (hdj_b rfl) gV
  have gW_1098 := st_gW_t F_1098 (hdj_b rfl) gW
  have gM_1098 := st_gM_t F_1098 (hdj_b rfl) gM
  have gR_1098 := st_gR_t F_1098 (hdj_b rfl) gR
  have gL_1098 := st_gL_t F_1098 (hdj_b rfl) gL
  have gI_1098 := st_gI_t F_1098 (hdj_b rfl) gI
  have gJ_1098 := st_gJ_t F_1098 (hdj_b rfl) gJ
  have hB_1098 := st_hB_t F_1098 (hdj_b rfl) hB
  have hC_1098 := st_hC_t F_1098 (hdj_b rfl) hC
  have hT_1098 := st_hT_t F_1098 (hdj_b rfl) hT
  have hS_1098 := st_hS_t F_1098 (hdj_b rfl) hS
  have hM_1098 := st_hM_t F_1098 (hdj_b rfl) hM
  have hR_1098 := st_hR_t F_1098 (hdj_b rfl) hR
  have hL_1098 := st_hL_t F_1098 (hdj_b rfl) hL
  have hI_1098 := st_hI_t F_1098 (hdj_b rfl) hI
  refine ik_F_mono (rp_whereE (side := side) (f := fun j => ((pl :: 0 :: 0 :: 0 :: (((s : Nat) : Int)) :: 0 :: 0 :: mi :: sd :: 0 :: tn :: fp :: sc0 :: sc1 :: sc2 :: sc3 :: sc4 :: sc5 :: 0 :: 0 :: 0 :: 0 :: 0 :: 0 :: w24 :: 0 :: 0 :: 0 :: 0 :: 0 :: 0 :: 0 :: sb :: wa :: 0 :: 0 :: r :: 0 :: 0 :: 0 :: 0 :: 0 :: 0 :: []) : List Int).getD j 0) z_side n0_ n1_ g_1098_66 k_1098) ?_
  rintro v_1099 h_1099 ⟨er_1099, F_1099⟩ <;> subst er_1099
  have k_1099 : cL h_1099 := F_1099.1.trans k_1098
  have g_1099_0 := (hfr_g F_1099 0 rfl).trans g_1098_0
  have g_1099_18 := (hfr_g F_1099 18 rfl).trans g_1098_18
  have g_1099_57 := (hfr_g F_1099 57 rfl).trans g_1098_57
  have g_1099_66 := (hfr_g F_1099 66 rfl).trans g_1098_66
  refine ⟨rfl, ?_⟩
  have gT_1099 := st_gT_t F_1099 (hdj_b rfl) gT_1098
  have gB_1099 := st_gB_t F_1099 (hdj_b rfl) gB_1098
  have gC_1099 := st_gC_t F_1099 (hdj_b rfl) gC_1098
  have gS_1099 := st_gS_t F_1099 (hdj_b rfl) gS_1098
  have gV_1099 := st_gV_t F_1099 (hdj_b rfl) gV_1098
  have gW_1099 := st_gW_t F_1099 (hdj_b rfl) gW_1098
  have gM_1099 := st_gM_t F_1099 (hdj_b rfl) gM_1098
  have gR_1099 := st_gR_t F_1099 (hdj_b rfl) gR_1098
  have gL_1099 := st_gL_t F_1099 (hdj_b rfl) gL_1098
  have gI_1099 := st_gI_t F_1099 (hdj_b rfl) gI_1098
  have gJ_1099 := st_gJ_t F_1099 (hdj_b rfl) gJ_1098
  have hB_1099 := st_hB_t F_1099 (hdj_b rfl) hB_1098
  have hC_1099 := st_hC_t F_1099 (hdj_b rfl) hC_1098
  have hT_1099 := st_hT_t F_1099 (hdj_b rfl) hT_1098
  have hS_1099 := st_hS_t F_1099 (hdj_b rfl) hS_1098
  have hM_1099 := st_hM_t F_1099 (hdj_b rfl) hM_1098
  have hR_1099 := st_hR_t F_1099 (hdj_b rfl) hR_1098
  have hL_1099 := st_hL_t F_1099 (hdj_b rfl) hL_1098
  have hI_1099 := st_hI_t F_1099 (hdj_b rfl) hI_1098
  intro C_ k_
  exact k_ tn fp pl mi sd ka pa fa kb pb fb xa xb r n0 n1 ga0 gm0 gd_0 gs0 g00 g01 g02 g03 g04 g05 gx0 gy0 ga1 gm1 gd_1 gs1 g10 g11 g12 g13 g14 g15 gx1 gy1 s T cn go ch wg wc we rp rt lr ci0 ci1 cnr gor chr T2 im f_pl f_s f_st f_cb f_cr f_rw f_al f_wy f_k f_p f_x (by first | exact st_m f_m | omega) f_sd f_r f_rr f_n f_l0 f_l1 f_tn f_t (st_I_K f_i0) (st_I_K f_i1) ⟨g_1099_0, g_1099_18, g_1099_57⟩ gT_1099 gB_1099 gC_1099 gS_1099 gV_1099 gW_1099 gM_1099 gR_1099 gL_1099 gI_1099 gJ_1099 ⟨sc0, sc1, sc2, sc3, sc4, sc5, w24, sb, wa, g_1099_66⟩ hB_1099 hC_1099 hT_1099 hS_1099 hM_1099 hR_1099 hL_1099 hI_1099 k_1099

set_option maxRecDepth 100000 in
theorem lk_log0 {K : Nat} {h : List ik_E} (E : st_S K h) (hK : K ≤ 600) {p : Int} (z_p : -2147483648 ≤ p ∧ p < 2147483648)  : ik_F 115 [.ref 0, fI 0, fI p] h (fun rv h_q => ∃ o_ : Int, rv = [fI o_] ∧ (h_q.length = (94 : Nat) ∧ ∃ fs, h_q[66]? = some (.inr (10, fs))) ∧ ik_F 203 [.ref 66, fI 0, fI p] h_q (fun rv' h'' => rv' = [fI o_] ∧ st_S (K + 1) h'')) := by
  refine E _ ?_
  intro tn fp pl mi sd ka pa fa kb pb fb xa xb r n0 n1 ga0 gm0 gd_0 gs0 g00 g01 g02 g03 g04 g05 gx0 gy0 ga1 gm1 gd_1 gs1 g10 g11 g12 g13 g14 g15 gx1 gy1 s T cn go ch wg wc we rp rt lr ci0 ci1 cnr gor chr T2 im f_pl f_s f_st f_cb f_cr f_rw f_al f_wy f_k f_p f_x f_m f_sd f_r f_rr f_n f_l0 f_l1 f_tn f_t f_i0 f_i1 gA gT gB gC gS gV gW gM gR gL gI gJ hO hB hC hT hS hM hR hL hI hl
  replace f_cb := ik_hid_i f_cb
  replace f_cr := ik_hid_i f_cr
  replace f_p := ik_hid_i f_p
  replace f_x := ik_hid_i f_x
  obtain ⟨h0, h18, h57⟩ := gA
  obtain ⟨h7, h8, n8, h9, n9, h10, n10, h11, n11, h12, n12, h13, n13⟩ := gB
  obtain ⟨h54, h55, n55, h56⟩ := gL
  obtain ⟨sc0, sc1, sc2, sc3, sc4, sc5, w24, sb, wa, h66⟩ := hO
  obtain ⟨h90, h91, n91⟩ := hL
  refine ik_F_mono (cp_log0 (pl := pl) (st := ((s : Nat) : Int)) (lo := ((mj_lost pl cn go : Nat) : Int)) (p := p) (n0 := n0) (n1 := n1) (lr := lr) f_pl f_n.1 z_p h0 h7 h54 h55 n55 h56 hl) ?_
  rintro v_1100 h_1100 (⟨er_1100, e_1100_55, m_1100_55, e_1100_56, p_1100_0, F_1100⟩ | ⟨er_1100, e_1100_55, m_1100_55, e_1100_56, p_1100_0, F_1100⟩) <;> subst er_1100
  · have k_1100 : cL h_1100 := F_1100.1.trans hl
    have g_1100_0 := (hfr_g F_1100 0 rfl).trans h0
    have g_1100_7 := (hfr_g F_1100 7 rfl).trans h7
    have g_1100_8 := (hfr_g F_1100 8 rfl).trans h8
    have g_1100_9 := (hfr_g F_1100 9 rfl).trans h9
    have g_1100_10 := (hfr_g F_1100 10 rfl).trans h10
    have g_1100_11 := (hfr_g F_1100 11 rfl).trans h11
    have g_1100_12 := (hfr_g F_1100 12 rfl).trans h12
    have g_1100_13 := (hfr_g F_1100 13 rfl).trans h13
    have g_1100_18 := (hfr_g F_1100 18 rfl).trans h18
    have g_1100_54 := (hfr_g F_1100 54 rfl).trans h54
    have g_1100_57 := (hfr_g F_1100 57 rfl).trans h57
    have g_1100_66 := (hfr_g F_1100 66 rfl).trans h66
    have g_1100_90 := (hfr_g F_1100 90 rfl).trans h90
    have g_1100_91 := (hfr_g F_1100 91 rfl).trans h91
    have g_1100_55 : cE h_1100 55 (.inl (.int, fA (lr.set (0 + n0).toNat p))) := e_1100_55
    have g_1100_56 : cE h_1100 56 (.inl (.int, fA [n0 + 1, n1])) := e_1100_56
    refine ⟨n0 + 1, rfl, ⟨k_1100, _, g_1100_66⟩, ?_⟩
    have gT_1100 := st_gT_t F_1100 (hdj_b rfl) gT
    have gC_1100 := st_gC_t F_1100 (hdj_b rfl) gC
    have gS_1100 := st_gS_t F_1100 (hdj_b rfl) gS
    have gV_1100 := st_gV_t F_1100 (hdj_b rfl) gV
    have gW_1100 := st_gW_t F_1100 (hdj_b rfl) gW
    have gM_1100 := st_gM_t F_1100 (hdj_b rfl) gM
    have gR_1100 := st_gR_t F_1100 (hdj_b rfl) gR
    have gI_1100 := st_gI_t F_1100 (hdj_b rfl) gI
    have gJ_1100 := st_gJ_t F_1100 (hdj_b rfl) gJ
    have hB_1100 := st_hB_t F_1100 (hdj_b rfl) hB
    have hC_1100 := st_hC_t F_1100 (hdj_b rfl) hC
    have hT_1100 := st_hT_t F_1100 (hdj_b rfl) hT
    have hS_1100 := st_hS_t F_1100 (hdj_b rfl) hS
    have hM_1100 := st_hM_t F_1100 (hdj_b rfl) hM
    have hR_1100 := st_hR_t F_1100 (hdj_b rfl) hR
    have hI_1100 := st_hI_t F_1100 (hdj_b rfl) hI
    refine ik_F_mono (rp_log0 (f := fun j => ((0 :: 0 :: 0 :: 0 :: (((s : Nat) : Int)) :: 0 :: 0 :: mi :: sd :: 0 :: tn :: fp :: sc0 :: sc1 :: sc2 :: sc3 :: sc4 :: sc5 :: 0 :: 0 :: 0 :: 0 :: 0 :: 0 :: w24 :: 0 :: 0 :: 0 :: 0 :: 0 :: 0 :: 0 :: sb :: wa :: 0 :: 0 :: r :: 0 :: 0 :: 0 :: 0 :: 0 :: 0 :: []) : List Int).getD j 0) (pl := pl) (p := p) (n0 := n0) (n1 := n1) (lr := lr) f_pl f_n.1 z_p g_1100_66 g_1100_90 g_1100_91 n91 k_1100) ?_
    rintro v_1101 h_1101 (⟨er_1101, e_1101_91, m_1101_91, e_1101_90, p_1101_0, F_1101⟩ | ⟨er_1101, e_1101_91, m_1101_91, e_1101_90, p_1101_0, F_1101⟩) <;> subst er_1101
    · have k_1101 : cL h_1101 := F_1101.1.trans k_1100
      have g_1101_0 := (hfr_g F_1101 0 rfl).trans g_1100_0
      have g_1101_7 := (hfr_g F_1101 7 rfl).trans g_1100_7
      have g_1101_8 := (hfr_g F_1101 8 rfl).trans g_1100_8
      have g_1101_9 := (hfr_g F_1101 9 rfl).trans g_1100_9
      have g_1101_10 := (hfr_g F_1101 10 rfl).trans g_1100_10
      have g_1101_11 := (hfr_g F_1101 11 rfl).trans g_1100_11
      have g_1101_12 := (hfr_g F_1101 12 rfl).trans g_1100_12
      have g_1101_13 := (hfr_g F_1101 13 rfl).trans g_1100_13
      have g_1101_18 := (hfr_g F_1101 18 rfl).trans g_1100_18
      have g_1101_54 := (hfr_g F_1101 54 rfl).trans g_1100_54
      have g_1101_55 := (hfr_g F_1101 55 rfl).trans g_1100_55
      have g_1101_56 := (hfr_g F_1101 56 rfl).trans g_1100_56
      have g_1101_57 := (hfr_g F_1101 57 rfl).trans g_1100_57
      have g_1101_66 := (hfr_g F_1101 66 rfl).trans g_1100_66
      have g_1101_91 : cE h_1101 91 (.inl (.int, fA (lr.set (0 + n0).toNat p))) := e_1101_91
      have g_1101_90 : cE h_1101 90 (.inl (.int, fA [n0 + 1, n1])) := e_1101_90
      refine ⟨rfl, ?_⟩
      have gT_1101 := st_gT_t F_1101 (hdj_b rfl) gT_1100
      have gC_1101 := st_gC_t F_1101 (hdj_b rfl) gC_1100
      have gS_1101 := st_gS_t F_1101 (hdj_b rfl) gS_1100
      have gV_1101 := st_gV_t F_1101 (hdj_b rfl) gV_1100
      have gW_1101 := st_gW_t F_1101 (hdj_b rfl) gW_1100
      have gM_1101 := st_gM_t F_1101 (hdj_b rfl) gM_1100
      have gR_1101 := st_gR_t F_1101 (hdj_b rfl) gR_1100
      have gI_1101 := st_gI_t F_1101 (hdj_b rfl) gI_1100
      have gJ_1101 := st_gJ_t F_1101 (hdj_b rfl) gJ_1100
      have hB_1101 := st_hB_t F_1101 (hdj_b rfl) hB_1100
      have hC_1101 := st_hC_t F_1101 (hdj_b rfl) hC_1100
      have hT_1101 := st_hT_t F_1101 (hdj_b rfl) hT_1100
      have hS_1101 := st_hS_t F_1101 (hdj_b rfl) hS_1100
      have hM_1101 := st_hM_t F_1101 (hdj_b rfl) hM_1100
      have hR_1101 := st_hR_t F_1101 (hdj_b rfl) hR_1100
      have hI_1101 := st_hI_t F_1101 (hdj_b rfl) hI_1100
      intro C_ k_
      exact k_ tn fp pl mi sd ka pa fa kb pb fb xa xb r (n0 + 1) n1 ga0 gm0 gd_0 gs0 g00 g01 g02 g03 g04 g05 gx0 gy0 ga1 gm1 gd_1 gs1 g10 g11 g12 g13 g14 g15 gx1 gy1 s T cn go ch wg wc we rp rt (lr.set (0 + n0).toNat p) ci0 ci1 cnr gor chr T2 im f_pl f_s f_st f_cb f_cr f_rw f_al f_wy f_k f_p f_x (by first | exact st_m f_m | omega) f_sd f_r f_rr (by omega) (fun j hj => by rw [fz_getD_set]; split; { exact p_1100_0.1 }; { exact f_l0 j (by omega) }) (fun j hj => by rw [fz_getD_set, if_neg (by omega)]; exact f_l1 j hj) f_tn f_t (st_I_K f_i0) (st_I_K f_i1) ⟨g_1101_0, g_1101_18, g_1101_57⟩ gT_1101 ⟨g_1101_7, g_1101_8, n8, g_1101_9, n9, g_1101_10, n10, g_1101_11, n11, g_1101_12, n12, g_1101_13, n13⟩ gC_1101 gS_1101 gV_1101 gW_1101 gM_1101 gR_1101 ⟨g_1101_54, g_1101_55, m_1100_55, g_1101_56⟩ gI_1101 gJ_1101 ⟨sc0, sc1, sc2, sc3, sc4, sc5, w24, sb, wa, g_1101_66⟩ hB_1101 hC_1101 hT_1101 hS_1101 hM_1101 hR_1101 ⟨g_1101_90, g_1101_91, m_1101_91⟩ hI_1101 k_1101
    · have k_1101 : cL h_1101 := F_1101.1.trans k_1100
      have g_1101_0 := (hfr_g F_1101 0 rfl).trans g_1100_0
      have g_1101_7 := (hfr_g F_1101 7 rfl).trans g_1100_7
      have g_1101_8 := (hfr_g F_1101 8 rfl).trans g_1100_8
      have g_1101_9 := (hfr_g F_1101 9 rfl).trans g_1100_9
      have g_1101_10 := (hfr_g F_1101 10 rfl).trans g_1100_10
      have g_1101_11 := (hfr_g F_1101 11 rfl).trans g_1100_11
      have g_1101_12 := (hfr_g F_1101 12 rfl).trans g_1100_12
      have g_1101_13 := (hfr_g F_1101 13 rfl).trans g_1100_13
      have g_1101_18 := (hfr_g F_1101 18 rfl).trans g_1100_18
      have g_1101_54 := (hfr_g F_1101 54 rfl).trans g_1100_54
      have g_1101_55 := (hfr_g F_1101 55 rfl).trans g_1100_55
      have g_1101_56 := (hfr_g F_1101 56 rfl).trans g_1100_56
      have g_1101_57 := (hfr_g F_1101 57 rfl).trans g_1100_57
      have g_1101_66 := (hfr_g F_1101 66 rfl).trans g_1100_66
      have g_1101_91 : cE h_1101 91 (.inl (.int, fA lr)) := e_1101_91
      have g_1101_90 : cE h_1101 90 (.inl (.int, fA [n0, n1])) := e_1101_90
      exact absurd p_1100_0 p_1101_0
  · have k_1100 : cL h_1100 := F_1100.1.trans hl
    have g_1100_0 := (hfr_g F_1100 0 rfl).trans h0
    have g_1100_7 := (hfr_g F_1100 7 rfl).trans h7
    have g_1100_8 := (hfr_g F_1100 8 rfl).trans h8
    have g_1100_9 := (hfr_g F_1100 9 rfl).trans h9
    have g_1100_10 := (hfr_g F_1100 10 rfl).trans h10
    have g_1100_11 := (hfr_g F_1100 11 rfl).trans h11
    have g_1100_12 := (hfr_g F_1100 12 rfl).trans h12
    have g_1100_13 := (hfr_g F_1100 13 rfl).trans h13
    have g_1100_18 := (hfr_g F_1100 18 rfl).trans h18
    have g_1100_54 := (hfr_g F_1100 54 rfl).trans h54
    have g_1100_57 := (hfr_g F_1100 57 rfl).trans h57
    have g_1100_66 := (hfr_g F_1100 66 rfl).trans h66
    have g_1100_90 := (hfr_g F_1100 90 rfl).trans h90
    have g_1100_91 := (hfr_g F_1100 91 rfl).trans h91
    have g_1100_55 : cE h_1100 55 (.inl (.int, fA lr)) := e_1100_55
    have g_1100_56 : cE h_1100 56 (.inl (.int, fA [n0, n1])) := e_1100_56
    refine ⟨an_lg pl p, rfl, ⟨k_1100, _, g_1100_66⟩, ?_⟩
    have gT_1100 := st_gT_t F_1100 (hdj_b rfl) gT
    have gC_1100 := st_gC_t F_1100 (hdj_b rfl) gC
    have gS_1100 := st_gS_t F_1100 (hdj_b rfl) gS
    have gV_1100 := st_gV_t F_1100 (hdj_b rfl) gV
    have gW_1100 := st_gW_t F_1100 (hdj_b rfl) gW
    have gM_1100 := st_gM_t F_1100 (hdj_b rfl) gM
    have gR_1100 := st_gR_t F_1100 (hdj_b rfl) gR
    have gI_1100 := st_gI_t F_1100 (hdj_b rfl) gI
    have gJ_1100 := st_gJ_t F_1100 (hdj_b rfl) gJ
    have hB_1100 := st_hB_t F_1100 (hdj_b rfl) hB
    have hC_1100 := st_hC_t F_1100 (hdj_b rfl) hC
    have hT_1100 := st_hT_t F_1100 (hdj_b rfl) hT
    have hS_1100 := st_hS_t F_1100 (hdj_b rfl) hS
    have hM_1100 := st_hM_t F_1100 (hdj_b rfl) hM
    have hR_1100 := st_hR_t F_1100 (hdj_b rfl) hR
    have hI_1100 := st_hI_t F_1100 (hdj_b rfl) hI
    refine ik_F_mono (rp_log0 (f := fun j => ((0 :: 0 :: 0 :: 0 :: (((s : Nat) : Int)) :: 0 :: 0 :: mi :: sd :: 0 :: tn :: fp :: sc0 :: sc1 :: sc2 :: sc3 :: sc4 :: sc5 :: 0 :: 0 :: 0 :: 0 :: 0 :: 0 :: w24 :: 0 :: 0 :: 0 :: 0 :: 0 :: 0 :: 0 :: sb :: wa :: 0 :: 0 :: r :: 0 :: 0 :: 0 :: 0 :: 0 :: 0 :: []) : List Int).getD j 0) (pl := pl) (p := p) (n0 := n0) (n1 := n1) (lr := lr) f_pl f_n.1 z_p g_1100_66 g_1100_90 g_1100_91 n91 k_1100) ?_
    rintro v_1102 h_1102 (⟨er_1102, e_1102_91, m_1102_91, e_1102_90, p_1102_0, F_1102⟩ | ⟨er_1102, e_1102_91, m_1102_91, e_1102_90, p_1102_0, F_1102⟩) <;> subst er_1102
    · have k_1102 : cL h_1102 := F_1102.1.trans k_1100
      have g_1102_0 := (hfr_g F_1102 0 rfl).trans g_1100_0
      have g_1102_7 := (hfr_g F_1102 7 rfl).trans g_1100_7
      have g_1102_8 := (hfr_g F_1102 8 rfl).trans g_1100_8
      have g_1102_9 := (hfr_g F_1102 9 rfl).trans g_1100_9
      have g_1102_10 := (hfr_g F_1102 10 rfl).trans g_1100_10
      have g_1102_11 := (hfr_g F_1102 11 rfl).trans g_1100_11
      have g_1102_12 := (hfr_g F_1102 12 rfl).trans g_1100_12
      have g_1102_13 := (hfr_g F_1102 13 rfl).trans g_1100_13
      have g_1102_18 := (hfr_g F_1102 18 rfl).trans g_1100_18
      have g_1102_54 := (hfr_g F_1102 54 rfl).trans g_1100_54
      have g_1102_55 := (hfr_g F_1102 55 rfl).trans g_1100_55
      have g_1102_56 := (hfr_g F_1102 56 rfl).trans g_1100_56
      have g_1102_57 := (hfr_g F_1102 57 rfl).trans g_1100_57
      have g_1102_66 := (hfr_g F_1102 66 rfl).trans g_1100_66
      have g_1102_91 : cE h_1102 91 (.inl (.int, fA (lr.set (0 + n0).toNat p))) := e_1102_91
      have g_1102_90 : cE h_1102 90 (.inl (.int, fA [n0 + 1, n1])) := e_1102_90
      exact absurd p_1102_0 p_1100_0
    · have k_1102 : cL h_1102 := F_1102.1.trans k_1100
      have g_1102_0 := (hfr_g F_1102 0 rfl).trans g_1100_0
      have g_1102_7 := (hfr_g F_1102 7 rfl).trans g_1100_7
      have g_1102_8 := (hfr_g F_1102 8 rfl).trans g_1100_8
      have g_1102_9 := (hfr_g F_1102 9 rfl).trans g_1100_9
      have g_1102_10 := (hfr_g F_1102 10 rfl).trans g_1100_10
      have g_1102_11 := (hfr_g F_1102 11 rfl).trans g_1100_11
      have g_1102_12 := (hfr_g F_1102 12 rfl).trans g_1100_12
      have g_1102_13 := (hfr_g F_1102 13 rfl).trans g_1100_13
      have g_1102_18 := (hfr_g F_1102 18 rfl).trans g_1100_18
      have g_1102_54 := (hfr_g F_1102 54 rfl).trans g_1100_54
      have g_1102_55 := (hfr_g F_1102 55 rfl).trans g_1100_55
      have g_1102_56 := (hfr_g F_1102 56 rfl).trans g_1100_56
      have g_1102_57 := (hfr_g F_1102 57 rfl).trans g_1100_57
      have g_1102_66 := (hfr_g F_1102 66 rfl).trans g_1100_66
      have g_1102_91 : cE h_1102 91 (.inl (.int, fA lr)) := e_1102_91
      have g_1102_90 : cE h_1102 90 (.inl (.int, fA [n0, n1])) := e_1102_90
      refine ⟨rfl, ?_⟩
      have gT_1102 := st_gT_t F_1102 (hdj_b rfl) gT_1100
      have gC_1102 := st_gC_t F_1102 (hdj_b rfl) gC_1100
      have gS_1102 := st_gS_t F_1102 (hdj_b rfl) gS_1100
      have gV_1102 := st_gV_t F_1102 (hdj_b rfl) gV_1100
      have gW_1102 := st_gW_t F_1102 (hdj_b rfl) gW_1100
      have gM_1102 := st_gM_t F_1102 (hdj_b rfl) gM_1100
      have gR_1102 := st_gR_t F_1102 (hdj_b rfl) gR_1100
      have gI_1102 := st_gI_t F_1102 (hdj_b rfl) gI_1100
      have gJ_1102 := st_gJ_t F_1102 (hdj_b rfl) gJ_1100
      have hB_1102 := st_hB_t F_1102 (hdj_b rfl) hB_1100
      have hC_1102 := st_hC_t F_1102 (hdj_b rfl) hC_1100
      have hT_1102 := st_hT_t F_1102 (hdj_b rfl) hT_1100
      have hS_1102 := st_hS_t F_1102 (hdj_b rfl) hS_1100
      have hM_1102 := st_hM_t F_1102 (hdj_b rfl) hM_1100
      have hR_1102 := st_hR_t F_1102 (hdj_b rfl) hR_1100
      have hI_1102 := st_hI_t F_1102 (hdj_b rfl) hI_1100
      intro C_ k_
      exact k_ tn fp pl mi sd ka pa fa kb pb fb xa xb r n0 n1 ga0 gm0 gd_0 gs0 g00 g01 g02 g03 g04 g05 gx0 gy0 ga1 gm1 gd_1 gs1 g10 g11 g12 g13 g14 g15 gx1 gy1 s T cn go ch wg wc we rp rt lr ci0 ci1 cnr gor chr T2 im f_pl f_s f_st f_cb f_cr f_rw f_al f_wy f_k f_p f_x (by first | exact st_m f_m | omega) f_sd f_r f_rr f_n f_l0 f_l1 f_tn f_t (st_I_K f_i0) (st_I_K f_i1) ⟨g_1102_0, g_1102_18, g_1102_57⟩ gT_1102 ⟨g_1102_7, g_1102_8, n8, g_1102_9, n9, g_1102_10, n10, g_1102_11, n11, g_1102_12, n12, g_1102_13, n13⟩ gC_1102 gS_1102 gV_1102 gW_1102 gM_1102 gR_1102 ⟨g_1102_54, g_1102_55, m_1100_55, g_1102_56⟩ gI_1102 gJ_1102 ⟨sc0, sc1, sc2, sc3, sc4, sc5, w24, sb, wa, g_1102_66⟩ hB_1102 hC_1102 hT_1102 hS_1102 hM_1102 hR_1102 ⟨g_1102_90, g_1102_91, m_1102_91⟩ hI_1102 k_1102

set_option maxRecDepth 100000 in
theorem lk_log1 {K : Nat} {h : List ik_E} (E : st_S K h) (hK : K ≤ 600) {p : Int} (z_p : -2147483648 ≤ p ∧ p < 2147483648)  : ik_F 115 [.ref 0, fI 1, fI p] h (fun rv h_q => ∃ o_ : Int, rv = [fI o_] ∧ (h_q.length = (94 : Nat) ∧ ∃ fs, h_q[66]? = some (.inr (10, fs))) ∧ ik_F 203 [.ref 66, fI 1, fI p] h_q (fun rv' h'' => rv' = [fI o_] ∧ st_S (K + 1) h'')) := by
  refine E _ ?_
  intro tn fp pl mi sd ka pa fa kb pb fb xa xb r n0 n1 ga0 gm0 gd_0 gs0 g00 g01 g02 g03 g04 g05 gx0 gy0 ga1 gm1 gd_1 gs1 g10 g11 g12 g13 g14 g15 gx1 gy1 s T cn go ch wg wc we rp rt lr ci0 ci1 cnr gor chr T2 im f_pl f_s f_st f_cb f_cr f_rw f_al f_wy f_k f_p f_x f_m f_sd f_r f_rr f_n f_l0 f_l1 f_tn f_t f_i0 f_i1 gA gT gB gC gS gV gW gM gR gL gI gJ hO hB hC hT hS hM hR hL hI hl
  replace f_cb := ik_hid_i f_cb
  replace f_cr := ik_hid_i f_cr
  replace f_p := ik_hid_i f_p
  replace f_x := ik_hid_i f_x
  obtain ⟨h0, h18, h57⟩ := gA
  obtain ⟨h7, h8, n8, h9, n9, h10, n10, h11, n11, h12, n12, h13, n13⟩ := gB
  obtain ⟨h54, h55, n55, h56⟩ := gL
  obtain ⟨sc0, sc1, sc2, sc3, sc4, sc5, w24, sb, wa, h66⟩ := hO
  obtain ⟨h90, h91, n91⟩ := hL
  refine ik_F_mono (cp_log1 (pl := pl) (st := ((s : Nat) : Int)) (lo := ((mj_lost pl cn go : Nat) : Int)) (p := p) (n0 := n0) (n1 := n1) (lr := lr) f_pl f_n.2 z_p h0 h7 h54 h55 n55 h56 hl) ?_
  rintro v_1103 h_1103 (⟨er_1103, e_1103_55, m_1103_55, e_1103_56, p_1103_0, F_1103⟩ | ⟨er_1103, e_1103_55, m_1103_55, e_1103_56, p_1103_0, F_1103⟩) <;> subst er_1103
  · have k_1103 : cL h_1103 := F_1103.1.trans hl
    have g_1103_0 := (hfr_g F_1103 0 rfl).trans h0
    have g_1103_7 := (hfr_g F_1103 7 rfl).trans h7
    have g_1103_8 := (hfr_g F_1103 8 rfl).trans h8
    have g_1103_9 := (hfr_g F_1103 9 rfl).trans h9
    have g_1103_10 := (hfr_g F_1103 10 rfl).trans h10
    have g_1103_11 := (hfr_g F_1103 11 rfl).trans h11
    have g_1103_12 := (hfr_g F_1103 12 rfl).trans h12
    have g_1103_13 := (hfr_g F_1103 13 rfl).trans h13
    have g_1103_18 := (hfr_g F_1103 18 rfl).trans h18
    have g_1103_54 := (hfr_g F_1103 54 rfl).trans h54
    have g_1103_57 := (hfr_g F_1103 57 rfl).trans h57
    have g_1103_66 := (hfr_g F_1103 66 rfl).trans h66
    have g_1103_90 := (hfr_g F_1103 90 rfl).trans h90
    have g_1103_91 := (hfr_g F_1103 91 rfl).trans h91
    have g_1103_55 : cE h_1103 55 (.inl (.int, fA (lr.set (40 + n1).toNat p))) := e_1103_55
    have g_1103_56 : cE h_1103 56 (.inl (.int, fA [n0, n1 + 1])) := e_1103_56
    refine ⟨n1 + 1, rfl, ⟨k_1103, _, g_1103_66⟩, ?_⟩
    have gT_1103 := st_gT_t F_1103 (hdj_b rfl) gT
    have gC_1103 := st_gC_t F_1103 (hdj_b rfl) gC
    have gS_1103 := st_gS_t F_1103 (hdj_b rfl) gS
    have gV_1103 := st_gV_t F_1103 (hdj_b rfl) gV
    have gW_1103 := st_gW_t F_1103 (hdj_b rfl) gW
    have gM_1103 := st_gM_t F_1103 (hdj_b rfl) gM
    have gR_1103 := st_gR_t F_1103 (hdj_b rfl) gR
    have gI_1103 := st_gI_t F_1103 (hdj_b rfl) gI
    have gJ_1103 := st_gJ_t F_1103 (hdj_b rfl) gJ
    have hB_1103 := st_hB_t F_1103 (hdj_b rfl) hB
    have hC_1103 := st_hC_t F_1103 (hdj_b rfl) hC
    have hT_1103 := st_hT_t F_1103 (hdj_b rfl) hT
    have hS_1103 := st_hS_t F_1103 (hdj_b rfl) hS
    have hM_1103 := st_hM_t F_1103 (hdj_b rfl) hM
    have hR_1103 := st_hR_t F_1103 (hdj_b rfl) hR
    have hI_1103 := st_hI_t F_1103 (hdj_b rfl) hI
    refine ik_F_mono (rp_log1 (f := fun j => ((0 :: 0 :: 0 :: 0 :: (((s : Nat) : Int)) :: 0 :: 0 :: mi :: sd :: 0 :: tn :: fp :: sc0 :: sc1 :: sc2 :: sc3 :: sc4 :: sc5 :: 0 :: 0 :: 0 :: 0 :: 0 :: 0 :: w24 :: 0 :: 0 :: 0 :: 0 :: 0 :: 0 :: 0 :: sb :: wa :: 0 :: 0 :: r :: 0 :: 0 :: 0 :: 0 :: 0 :: 0 :: []) : List Int).getD j 0) (pl := pl) (p := p) (n0 := n0) (n1 := n1) (lr := lr) f_pl f_n.2 z_p g_1103_66 g_1103_90 g_1103_91 n91 k_1103) ?_
    rintro v_1104 h_1104 (⟨er_1104, e_1104_91, m_1104_91, e_1104_90, p_1104_0, F_1104⟩ | ⟨er_1104, e_1104_91, m_1104_91, e_1104_90, p_1104_0, F_1104⟩) <;> subst er_1104
    · have k_1104 : cL h_1104 := F_1104.1.trans k_1103
      have g_1104_0 := (hfr_g F_1104 0 rfl).trans g_1103_0
      have g_1104_7 := (hfr_g F_1104 7 rfl).trans g_1103_7
      have g_1104_8 := (hfr_g F_1104 8 rfl).trans g_1103_8
      have g_1104_9 := (hfr_g F_1104 9 rfl).trans g_1103_9
      have g_1104_10 := (hfr_g F_1104 10 rfl).trans g_1103_10
      have g_1104_11 := (hfr_g F_1104 11 rfl).trans g_1103_11
      have g_1104_12 := (hfr_g F_1104 12 rfl).trans g_1103_12
      have g_1104_13 := (hfr_g F_1104 13 rfl).trans g_1103_13
      have g_1104_18 := (hfr_g F_1104 18 rfl).trans g_1103_18
      have g_1104_54 := (hfr_g F_1104 54 rfl).trans g_1103_54
      have g_1104_55 := (hfr_g F_1104 55 rfl).trans g_1103_55
      have g_1104_56 := (hfr_g F_1104 56 rfl).trans g_1103_56
      have g_1104_57 := (hfr_g F_1104 57 rfl).trans g_1103_57
      have g_1104_66 := (hfr_g F_1104 66 rfl).trans g_1103_66
      have g_1104_91 : cE h_1104 91 (.inl (.int, fA (lr.set (40 + n1).toNat p))) := e_1104_91
      have g_1104_90 : cE h_1104 90 (.inl (.int, fA [n0, n1 + 1])) := e_1104_90
      refine ⟨rfl, ?_⟩
      have gT_1104 := st_gT_t F_1104 (hdj_b rfl) gT_1103
      have gC_1104 := st_gC_t F_1104 (hdj_b rfl) gC_1103
      have gS_1104 := st_gS_t F_1104 (hdj_b rfl) gS_1103
      have gV_1104 := st_gV_t F_1104 (hdj_b rfl) gV_1103
      have gW_1104 := st_gW_t F_1104 (hdj_b rfl) gW_1103
      have gM_1104 := st_gM_t F_1104 (hdj_b rfl) gM_1103
      have gR_1104 := st_gR_t F_1104 (hdj_b rfl) gR_1103
      have gI_1104 := st_gI_t F_1104 (hdj_b rfl) gI_1103
      have gJ_1104 := st_gJ_t F_1104 (hdj_b rfl) gJ_1103
      have hB_1104 := st_hB_t F_1104 (hdj_b rfl) hB_1103
      have hC_1104 := st_hC_t F_1104 (hdj_b rfl) hC_1103
      have hT_1104 := st_hT_t F_1104 (hdj_b rfl) hT_1103
      have hS_1104 := st_hS_t F_1104 (hdj_b rfl) hS_1103
      have hM_1104 := st_hM_t F_1104 (hdj_b rfl) hM_1103
      have hR_1104 := st_hR_t F_1104 (hdj_b rfl) hR_1103
      have hI_1104 := st_hI_t F_1104 (hdj_b rfl) hI_1103
      intro C_ k_
      exact k_ tn fp pl mi sd ka pa fa kb pb fb xa xb r n0 (n1 + 1) ga0 gm0 gd_0 gs0 g00 g01 g02 g03 g04 g05 gx0 gy0 ga1 gm1 gd_1 gs1 g10 g11 g12 g13 g14 g15 gx1 gy1 s T cn go ch wg wc we rp rt (lr.set (40 + n1).toNat p) ci0 ci1 cnr gor chr T2 im f_pl f_s f_st f_cb f_cr f_rw f_al f_wy f_k f_p f_x (by first | exact st_m f_m | omega) f_sd f_r f_rr (by omega) (fun j hj => by rw [fz_getD_set, if_neg (by omega)]; exact f_l0 j hj) (fun j hj => by rw [fz_getD_set]; split; { exact p_1103_0.1 }; { exact f_l1 j (by omega) }) f_tn f_t (st_I_K f_i0) (st_I_K f_i1) ⟨g_1104_0, g_1104_18, g_1104_57⟩ gT_1104 ⟨g_1104_7, g_1104_8, n8, g_1104_9, n9, g_1104_10, n10, g_1104_11, n11, g_1104_12, n12, g_1104_13, n13⟩ gC_1104 gS_1104 gV_1104 gW_1104 gM_1104 gR_1104 ⟨g_1104_54, g_1104_55, m_1103_55, g_1104_56⟩ gI_1104 gJ_1104 ⟨sc0, sc1, sc2, sc3, sc4, sc5, w24, sb, wa, g_1104_66⟩ hB_1104 hC_1104 hT_1104 hS_1104 hM_1104 hR_1104 ⟨g_1104_90, g_1104_91, m_1104_91⟩ hI_1104 k_1104
    · have k_1104 : cL h_1104 := F_1104.1.trans k_1103
      have g_1104_0 := (hfr_g F_1104 0 rfl).trans g_1103_0
      have g_1104_7 := (hfr_g F_1104 7 rfl).trans g_1103_7
      have g_1104_8 := (hfr_g F_1104 8 rfl).trans g_1103_8
      have g_1104_9 := (hfr_g F_1104 9 rfl).trans g_1103_9
      have g_1104_10 := (hfr_g F_1104 10 rfl).trans g_1103_10
      have g_1104_11 := (hfr_g F_1104 11 rfl).trans g_1103_11
      have g_1104_12 := (hfr_g F_1104 12 rfl).trans g_1103_12
      have g_1104_13 := (hfr_g F_1104 13 rfl).trans g_1103_13
      have g_1104_18 := (hfr_g F_1104 18 rfl).trans g_1103_18
      have g_1104_54 := (hfr_g F_1104 54 rfl).trans g_1103_54
      have g_1104_55 := (hfr_g F_1104 55 rfl).trans g_1103_55
      have g_1104_56 := (hfr_g F_1104 56 rfl).trans g_1103_56
      have g_1104_57 := (hfr_g F_1104 57 rfl).trans g_1103_57
      have g_1104_66 := (hfr_g F_1104 66 rfl).trans g_1103_66
      have g_1104_91 : cE h_1104 91 (.inl (.int, fA lr)) := e_1104_91
      have g_1104_90 : cE h_1104 90 (.inl (.int, fA [n0, n1])) := e_1104_90
      exact absurd p_1103_0 p_1104_0
  · have k_1103 : cL h_1103 := F_1103.1.trans hl
    have g_1103_0 := (hfr_g F_1103 0 rfl).trans h0
    have g_1103_7 := (hfr_g F_1103 7 rfl).trans h7
    have g_1103_8 := (hfr_g F_1103 8 rfl).trans h8
    have g_1103_9 := (hfr_g F_1103 9 rfl).trans h9
    have g_1103_10 := (hfr_g F_1103 10 rfl).trans h10
    have g_1103_11 := (hfr_g F_1103 11 rfl).trans h11
    have g_1103_12 := (hfr_g F_1103 12 rfl).trans h12
    have g_1103_13 := (hfr_g F_1103 13 rfl).trans h13
    have g_1103_18 := (hfr_g F_1103 18 rfl).trans h18
    have g_1103_54 := (hfr_g F_1103 54 rfl).trans h54
    have g_1103_57 := (hfr_g F_1103 57 rfl).trans h57
    have g_1103_66 := (hfr_g F_1103 66 rfl).trans h66
    have g_1103_90 := (hfr_g F_1103 90 rfl).trans h90
    have g_1103_91 := (hfr_g F_1103 91 rfl).trans h91
    have g_1103_55 : cE h_1103 55 (.inl (.int, fA lr)) := e_1103_55
    have g_1103_56 : cE h_1103 56 (.inl (.int, fA [n0, n1])) := e_1103_56
    refine ⟨an_lg pl p, rfl, ⟨k_1103, _, g_1103_66⟩, ?_⟩
    have gT_1103 := st_gT_t F_1103 (hdj_b rfl) gT
    have gC_1103 := st_gC_t F_1103 (hdj_b rfl) gC
    have gS_1103 := st_gS_t F_1103 (hdj_b rfl) gS
    have gV_1103 := st_gV_t F_1103 (hdj_b rfl) gV
    have gW_1103 := st_gW_t F_1103 (hdj_b rfl) gW
    have gM_1103 := st_gM_t F_1103 (hdj_b rfl) gM
    have gR_1103 := st_gR_t F_1103 (hdj_b rfl) gR
    have gI_1103 := st_gI_t F_1103 (hdj_b rfl) gI
    have gJ_1103 := st_gJ_t F_1103 (hdj_b rfl) gJ
    have hB_1103 := st_hB_t F_1103 (hdj_b rfl) hB
    have hC_1103 := st_hC_t F_1103 (hdj_b rfl) hC
    have hT_1103 := st_hT_t F_1103 (hdj_b rfl) hT
    have hS_1103 := st_hS_t F_1103 (hdj_b rfl) hS
    have hM_1103 := st_hM_t F_1103 (hdj_b rfl) hM
    have hR_1103 := st_hR_t F_1103 (hdj_b rfl) hR
    have hI_1103 := st_hI_t F_1103 (hdj_b rfl) hI
    refine ik_F_mono (rp_log1 (f := fun j => ((0 :: 0 :: 0 :: 0 :: (((s : Nat) : Int)) :: 0 :: 0 :: mi :: sd :: 0 :: tn :: fp :: sc0 :: sc1 :: sc2 :: sc3 :: sc4 :: sc5 :: 0 :: 0 :: 0 :: 0 :: 0 :: 0 :: w24 :: 0 :: 0 :: 0 :: 0 :: 0 :: 0 :: 0 :: sb :: wa :: 0 :: 0 :: r :: 0 :: 0 :: 0 :: 0 :: 0 :: 0 :: []) : List Int).getD j 0) (pl := pl) (p := p) (n0 := n0) (n1 := n1) (lr := lr) f_pl f_n.2 z_p g_1103_66 g_1103_90 g_1103_91 n91 k_1103) ?_
    rintro v_1105 h_1105 (⟨er_1105, e_1105_91, m_1105_91, e_1105_90, p_1105_0, F_1105⟩ | ⟨er_1105, e_1105_91, m_1105_91, e_1105_90, p_1105_0, F_1105⟩) <;> subst er_1105
    · have k_1105 : cL h_1105 := F_1105.1.trans k_1103
      have g_1105_0 := (hfr_g F_1105 0 rfl).trans g_1103_0
      have g_1105_7 := (hfr_g F_1105 7 rfl).trans g_1103_7
      have g_1105_8 := (hfr_g F_1105 8 rfl).trans g_1103_8
      have g_1105_9 := (hfr_g F_1105 9 rfl).trans g_1103_9
      have g_1105_10 := (hfr_g F_1105 10 rfl).trans g_1103_10
      have g_1105_11 := (hfr_g F_1105 11 rfl).trans g_1103_11
      have g_1105_12 := (hfr_g F_1105 12 rfl).trans g_1103_12
      have g_1105_13 := (hfr_g F_1105 13 rfl).trans g_1103_13
      have g_1105_18 := (hfr_g F_1105 18 rfl).trans g_1103_18
      have g_1105_54 := (hfr_g F_1105 54 rfl).trans g_1103_54
      have g_1105_55 := (hfr_g F_1105 55 rfl).trans g_1103_55
      have g_1105_56 := (hfr_g F_1105 56 rfl).trans g_1103_56
      have g_1105_57 := (hfr_g F_1105 57 rfl).trans g_1103_57
      have g_1105_66 := (hfr_g F_1105 66 rfl).trans g_1103_66
      have g_1105_91 : cE h_1105 91 (.inl (.int, fA (lr.set (40 + n1).toNat p))) := e_1105_91
      have g_1105_90 : cE h_1105 90 (.inl (.int, fA [n0, n1 + 1])) := e_1105_90
      exact absurd p_1105_0 p_1103_0
    · have k_1105 : cL h_1105 := F_1105.1.trans k_1103
      have g_1105_0 := (hfr_g F_1105 0 rfl).trans g_1103_0
      have g_1105_7 := (hfr_g F_1105 7 rfl).trans g_1103_7
      have g_1105_8 := (hfr_g F_1105 8 rfl).trans g_1103_8
      have g_1105_9 := (hfr_g F_1105 9 rfl).trans g_1103_9
      have g_1105_10 := (hfr_g F_1105 10 rfl).trans g_1103_10
      have g_1105_11 := (hfr_g F_1105 11 rfl).trans g_1103_11
      have g_1105_12 := (hfr_g F_1105 12 rfl).trans g_1103_12
      have g_1105_13 := (hfr_g F_1105 13 rfl).trans g_1103_13
      have g_1105_18 := (hfr_g F_1105 18 rfl).trans g_1103_18
      have g_1105_54 := (hfr_g F_1105 54 rfl).trans g_1103_54
      have g_1105_55 := (hfr_g F_1105 55 rfl).trans g_1103_55
      have g_1105_56 := (hfr_g F_1105 56 rfl).trans g_1103_56
      have g_1105_57 := (hfr_g F_1105 57 rfl).trans g_1103_57
      have g_1105_66 := (hfr_g F_1105 66 rfl).trans g_1103_66
      have g_1105_91 : cE h_1105 91 (.inl (.int, fA lr)) := e_1105_91
      have g_1105_90 : cE h_1105 90 (.inl (.int, fA [n0, n1])) := e_1105_90
      refine ⟨rfl, ?_⟩
      have gT_1105 := st_gT_t F_1105 (hdj_b rfl) gT_1103
      have gC_1105 := st_gC_t F_1105 (hdj_b rfl) gC_1103
      have gS_1105 := st_gS_t F_1105 (hdj_b rfl) gS_1103
      have gV_1105 := st_gV_t F_1105 (hdj_b rfl) gV_1103
      have gW_1105 := st_gW_t F_1105 (hdj_b rfl) gW_1103
      have gM_1105 := st_gM_t F_1105 (hdj_b rfl) gM_1103
      have gR_1105 := st_gR_t F_1105 (hdj_b rfl) gR_1103
      have gI_1105 := st_gI_t F_1105 (hdj_b rfl) gI_1103
      have gJ_1105 := st_gJ_t F_1105 (hdj_b rfl) gJ_1103
      have hB_1105 := st_hB_t F_1105 (hdj_b rfl) hB_1103
      have hC_1105 := st_hC_t F_1105 (hdj_b rfl) hC_1103
      have hT_1105 := st_hT_t F_1105 (hdj_b rfl) hT_1103
      have hS_1105 := st_hS_t F_1105 (hdj_b rfl) hS_1103
      have hM_1105 := st_hM_t F_1105 (hdj_b rfl) hM_1103
      have hR_1105 := st_hR_t F_1105 (hdj_b rfl) hR_1103
      have hI_1105 := st_hI_t F_1105 (hdj_b rfl) hI_1103
      intro C_ k_
      exact k_ tn fp pl mi sd ka pa fa kb pb fb xa xb r n0 n1 ga0 gm0 gd_0 gs0 g00 g01 g02 g03 g04 g05 gx0 gy0 ga1 gm1 gd_1 gs1 g10 g11 g12 g13 g14 g15 gx1 gy1 s T cn go ch wg wc we rp rt lr ci0 ci1 cnr gor chr T2 im f_pl f_s f_st f_cb f_cr f_rw f_al f_wy f_k f_p f_x (by first | exact st_m f_m | omega) f_sd f_r f_rr f_n f_l0 f_l1 f_tn f_t (st_I_K f_i0) (st_I_K f_i1) ⟨g_1105_0, g_1105_18, g_1105_57⟩ gT_1105 ⟨g_1105_7, g_1105_8, n8, g_1105_9, n9, g_1105_10, n10, g_1105_11, n11, g_1105_12, n12, g_1105_13, n13⟩ gC_1105 gS_1105 gV_1105 gW_1105 gM_1105 gR_1105 ⟨g_1105_54, g_1105_55, m_1103_55, g_1105_56⟩ gI_1105 gJ_1105 ⟨sc0, sc1, sc2, sc3, sc4, sc5, w24, sb, wa, g_1105_66⟩ hB_1105 hC_1105 hT_1105 hS_1105 hM_1105 hR_1105 ⟨g_1105_90, g_1105_91, m_1105_91⟩ hI_1105 k_1105

set_option maxRecDepth 100000 in
theorem lk_logE {K : Nat} {h : List ik_E} (E : st_S K h) (hK : K ≤ 600) {side : Int} {p : Int} (z_side : -2147483648 ≤ side ∧ side < 2147483648) (z_p : -2147483648 ≤ p ∧ p < 2147483648) (n0_ : ¬ side = 0) (n1_ : ¬ side = 1) : ik_F 115 [.ref 0, fI side, fI p] h (fun rv h_q => ∃ o_ : Int, rv = [fI o_] ∧ (h_q.length = (94 : Nat) ∧ ∃ fs, h_q[66]? = some (.inr (10, fs))) ∧ ik_F 203 [.ref 66, fI side, fI p] h_q (fun rv' h'' => rv' = [fI o_] ∧ st_S (K + 1) h'')) := by
  refine E _ ?_
  intro tn fp pl mi sd ka pa fa kb pb fb xa xb r n0 n1 ga0 gm0 gd_0 gs0 g00 g01 g02 g03 g04 g05 gx0 gy0 ga1 gm1 gd_1 gs1 g10 g11 g12 g13 g14 g15 gx1 gy1 s T cn go ch wg wc we rp rt lr ci0 ci1 cnr gor chr T2 im f_pl f_s f_st f_cb f_cr f_rw f_al f_wy f_k f_p f_x f_m f_sd f_r f_rr f_n f_l0 f_l1 f_tn f_t f_i0 f_i1 gA gT gB gC gS gV gW gM gR gL gI gJ hO hB hC hT hS hM hR hL hI hl
  replace f_cb := ik_hid_i f_cb
  replace f_cr := ik_hid_i f_cr
  replace f_p := ik_hid_i f_p
  replace f_x := ik_hid_i f_x
  obtain ⟨h0, h18, h57⟩ := gA
  obtain ⟨sc0, sc1, sc2, sc3, sc4, sc5, w24, sb, wa, h66⟩ := hO
  refine ik_F_mono (cp_logE (side := side) (p := p) z_side n0_ n1_ h0 hl) ?_
  rintro v_1106 h_1106 ⟨er_1106, F_1106⟩ <;> subst er_1106
  have k_1106 : cL h_1106 := F_1106.1.trans hl
  have g_1106_0 := (hfr_g F_1106 0 rfl).trans h0
  have g_1106_18 := (hfr_g F_1106 18 rfl).trans h18
  have g_1106_57 := (hfr_g F_1106 57 rfl).trans h57
  have g_1106_66 := (hfr_g F_1106 66 rfl).trans h66
  refine ⟨-1000000001, rfl, ⟨k_1106, _, g_1106_66⟩, ?_⟩
  have gT_1106 := st_gT_t F_1106 (hdj_b rfl) gT
  have gB_1106 := st_gB_t F_1106 (hdj_b rfl) gB
  have gC_1106 := st_gC_t F_1106 (hdj_b rfl) gC
  have gS_1106 := st_gS_t F_1106 (hdj_b rfl) gS
  have gV_1106 := st_gV_t F_1106 (hdj_b rfl) gV
  have gW_1106 := st_gW_t F_1106 (hdj_b rfl) gW
  have gM_1106 := st_gM_t F_1106 (hdj_b rfl) gM
  have gR_1106 := st_gR_t F_1106 (hdj_b rfl) gR
  have gL_1106 := st_gL_t F_1106 (hdj_b rfl) gL
  have gI_1106 := st_gI_t F_1106 (hdj_b rfl) gI
  have gJ_1106 := st_gJ_t F_1106 (hdj_b rfl) gJ
  have hB_1106 := st_hB_t F_1106 (hdj_b rfl) hB
  have hC_1106 := st_hC_t F_1106 (hdj_b rfl) hC
  have hT_1106 := st_hT_t F_1106 (hdj_b rfl) hT
  have hS_1106 := st_hS_t F_1106 (hdj_b rfl) hS
  have hM_1106 := st_hM_t F_1106 (hdj_b rfl) hM
  have hR_1106 := st_hR_t F_1106 (hdj_b rfl) hR
  have hL_1106 := st_hL_t F_1106 (hdj_b rfl) hL
  have hI_1106 := st_hI_t F_1106 (hdj_b rfl) hI
  refine ik_F_mono (rp_logE (side := side) (p := p) (f := fun j => ((pl :: 0 :: 0 :: 0 :: (((s : Nat) : Int)) :: 0 :: 0 :: mi :: sd :: 0 :: tn :: fp :: sc0 :: sc1 :: sc2 :: sc3 :: sc4 :: sc5 :: 0 :: 0 :: 0 :: 0 :: 0 :: 0 :: w24 :: 0 :: 0 :: 0 :: 0 :: 0 :: 0 :: 0 :: sb :: wa :: 0 :: 0 :: r :: 0 :: 0 :: 0 :: 0 :: 0 :: 0 :: []) : List Int).getD j 0) z_side n0_ n1_ g_1106_66 k_1106) ?_
  rintro v_1107 h_1107 ⟨er_1107, F_1107⟩ <;> subst er_1107
  have k_1107 : cL h_1107 := F_1107.1.trans k_1106
  have g_1107_0 := (hfr_g F_1107 0 rfl).trans g_1106_0
  have g_1107_18 := (hfr_g F_1107 18 rfl).trans g_1106_18
  have g_1107_57 := (hfr_g F_1107 57 rfl).trans g_1106_57
  have g_1107_66 := (hfr_g F_1107 66 rfl).trans g_1106_66
  refine ⟨rfl, ?_⟩
  have gT_1107 := st_gT_t F_1107 (hdj_b rfl) gT_1106
  have gB_1107 := st_gB_t F_1107 (hdj_b rfl) gB_1106
  have gC_1107 := st_gC_t F_1107 (hdj_b rfl) gC_1106
  have gS_1107 := st_gS_t F_1107 (hdj_b rfl) gS_1106
  have gV_1107 := st_gV_t F_1107 (hdj_b rfl) gV_1106
  have gW_1107 := st_gW_t F_1107 (hdj_b rfl) gW_1106
  have gM_1107 := st_gM_t F_1107 (hdj_b rfl) gM_1106
  have gR_1107 := st_gR_t F_1107 (hdj_b rfl) gR_1106
  have gL_1107 := st_gL_t F_1107 (hdj_b rfl) gL_1106
  have gI_1107 := st_gI_t F_1107 (hdj_b rfl) gI_1106
  have gJ_1107 := st_gJ_t F_1107 (hdj_b rfl) gJ_1106
  have hB_1107 := st_hB_t F_1107 (hdj_b rfl) hB_1106
  have hC_1107 := st_hC_t F_1107 (hdj_b rfl) hC_1106
  have hT_1107 := st_hT_t F_1107 (hdj_b rfl) hT_1106
  have hS_1107 := st_hS_t F_1107 (hdj_b rfl) hS_1106
  have hM_1107 := st_hM_t F_1107 (hdj_b rfl) hM_1106
  have hR_1107 := st_hR_t F_1107 (hdj_b rfl) hR_1106
  have hL_1107 := st_hL_t F_1107 (hdj_b rfl) hL_1106
  have hI_1107 := st_hI_t F_1107 (hdj_b rfl) hI_1106
  intro C_ k_
  exact k_ tn fp pl mi sd ka pa fa kb pb fb xa xb r n0 n1 ga0 gm0 gd_0 gs0 g00 g01 g02 g03 g04 g05 gx0 gy0 ga1 gm1 gd_1 gs1 g10 g11 g12 g13 g14 g15 gx1 gy1 s T cn go ch wg wc we rp rt lr ci0 ci1 cnr gor chr T2 im f_pl f_s f_st f_cb f_cr f_rw f_al f_wy f_k f_p f_x (by first | exact st_m f_m | omega) f_sd f_r f_rr f_n f_l0 f_l1 f_tn f_t (st_I_K f_i0) (st_I_K f_i1) ⟨g_1107_0, g_1107_18, g_1107_57⟩ gT_1107 gB_1107 gC_1107 gS_1107 gV_1107 gW_1107 gM_1107 gR_1107 gL_1107 gI_1107 gJ_1107 ⟨sc0, sc1, sc2, sc3, sc4, sc5, w24, sb, wa, g_1107_66⟩ hB_1107 hC_1107 hT_1107 hS_1107 hM_1107 hR_1107 hL_1107 hI_1107 k_1107

set_option maxRecDepth 100000 in
theorem lk_run {K : Nat} {h : List ik_E} (E : st_S K h) (hK : K ≤ 600) {p : Int} {t : Int} (z_p : -2147483648 ≤ p ∧ p < 2147483648) (z_t : -2147483648 ≤ t ∧ t < 2147483648)  : ik_F 105 [.ref 0, fI p, fI t] h (fun rv h_q => ∃ o_ : Int, rv = [fI o_] ∧ (h_q.length = (94 : Nat) ∧ ∃ fs, h_q[66]? = some (.inr (10, fs))) ∧ ik_F 183 [.ref 66, fI p, fI t] h_q (fun rv' h'' => rv' = [fI o_] ∧ st_S (K + 1) h'')) := by
  refine E _ ?_
  intro tn fp pl mi sd ka pa fa kb pb fb xa xb r n0 n1 ga0 gm0 gd_0 gs0 g00 g01 g02 g03 g04 g05 gx0 gy0 ga1 gm1 gd_1 gs1 g10 g11 g12 g13 g14 g15 gx1 gy1 s T cn go ch wg wc we rp rt lr ci0 ci1 cnr gor chr T2 im f_pl f_s f_st f_cb f_cr f_rw f_al f_wy f_k f_p f_x f_m f_sd f_r f_rr f_n f_l0 f_l1 f_tn f_t f_i0 f_i1 gA gT gB gC gS gV gW gM gR gL gI gJ hO hB hC hT hS hM hR hL hI hl
  replace f_cb := ik_hid_i f_cb
  replace f_cr := ik_hid_i f_cr
  replace f_p := ik_hid_i f_p
  replace f_x := ik_hid_i f_x
  obtain ⟨h0, h18, h57⟩ := gA
  obtain ⟨h7, h8, n8, h9, n9, h10, n10, h11, n11, h12, n12, h13, n13⟩ := gB
  obtain ⟨h51, h52, n52, h53, n53⟩ := gR
  obtain ⟨sc0, sc1, sc2, sc3, sc4, sc5, w24, sb, wa, h66⟩ := hO
  obtain ⟨h88, n88, h89, n89⟩ := hR
  refine ik_F_mono (cp_run (pl := pl) (st := ((s : Nat) : Int)) (lo := ((mj_lost pl cn go : Nat) : Int)) (p := p) (t := t) (r := r) (rp := rp) (rt := rt) f_pl f_r z_p z_t h0 h7 h51 h52 n52 h53 n53 hl) ?_
  rintro v_1108 h_1108 (⟨er_1108, e_1108_51, e_1108_52, m_1108_52, e_1108_53, m_1108_53, p_1108_0, F_1108⟩ | ⟨er_1108, e_1108_51, e_1108_52, m_1108_52, e_1108_53, m_1108_53, p_1108_0, F_1108⟩) <;> subst er_1108
  · have k_1108 : cL h_1108 := F_1108.1.trans hl
    have g_1108_0 := (hfr_g F_1108 0 rfl).trans h0
    have g_1108_7 := (hfr_g F_1108 7 rfl).trans h7
    have g_1108_8 := (hfr_g F_1108 8 rfl).trans h8
    have g_1108_9 := (hfr_g F_1108 9 rfl).trans h9
    have g_1108_10 := (hfr_g F_1108 10 rfl).trans h10
    have g_1108_11 := (hfr_g F_1108 11 rfl).trans h11
    have g_1108_12 := (hfr_g F_1108 12 rfl).trans h12
    have g_1108_13 := (hfr_g F_1108 13 rfl).trans h13
    have g_1108_18 := (hfr_g F_1108 18 rfl).trans h18
    have g_1108_57 := (hfr_g F_1108 57 rfl).trans h57
    have g_1108_66 := (hfr_g F_1108 66 rfl).trans h66
    have g_1108_88 := (hfr_g F_1108 88 rfl).trans h88
    have g_1108_89 := (hfr_g F_1108 89 rfl).trans h89
    have g_1108_51 : cE h_1108 51 (.inr (7, [.ref 7, fI (r + 1), .ref 52, .ref 53])) := e_1108_51
    have g_1108_52 : cE h_1108 52 (.inl (.int, fA (rp.set r.toNat p))) := e_1108_52
    have g_1108_53 : cE h_1108 53 (.inl (.int, fA (rt.set r.toNat t))) := e_1108_53
    refine ⟨r + 1, rfl, ⟨k_1108, _, g_1108_66⟩, ?_⟩
    have gT_1108 := st_gT_t F_1108 (hdj_b rfl) gT
    have gC_1108 := st_gC_t F_1108 (hdj_b rfl) gC
    have gS_1108 := st_gS_t F_1108 (hdj_b rfl) gS
    have gV_1108 := st_gV_t F_1108 (hdj_b rfl) gV
    have gW_1108 := st_gW_t F_1108 (hdj_b rfl) gW
    have gM_1108 := st_gM_t F_1108 (hdj_b rfl) gM
    have gL_1108 := st_gL_t F_1108 (hdj_b rfl) gL
    have gI_1108 := st_gI_t F_1108 (hdj_b rfl) gI
    have gJ_1108 := st_gJ_t F_1108 (hdj_b rfl) gJ
    have hB_1108 := st_hB_t F_1108 (hdj_b rfl) hB
    have hC_1108 := st_hC_t F_1108 (hdj_b rfl) hC
    have hT_1108 := st_hT_t F_1108 (hdj_b rfl) hT
    have hS_1108 := st_hS_t F_1108 (hdj_b rfl) hS
    have hM_1108 := st_hM_t F_1108 (hdj_b rfl) hM
    have hL_1108 := st_hL_t F_1108 (hdj_b rfl) hL
    have hI_1108 := st_hI_t F_1108 (hdj_b rfl) hI
    refine ik_F_mono (rp_run (f := fun j => ((0 :: 0 :: 0 :: 0 :: (((s : Nat) : Int)) :: 0 :: 0 :: mi :: sd :: 0 :: tn :: fp :: sc0 :: sc1 :: sc2 :: sc3 :: sc4 :: sc5 :: 0 :: 0 :: 0 :: 0 :: 0 :: 0 :: w24 :: 0 :: 0 :: 0 :: 0 :: 0 :: 0 :: 0 :: sb :: wa :: 0 :: 0 :: 0 :: 0 :: 0 :: 0 :: 0 :: 0 :: 0 :: []) : List Int).getD j 0) (pl := pl) (p := p) (t := t) (r := r) (rp := rp) (rt := rt) f_pl f_r z_p z_t g_1108_66 g_1108_88 n88 g_1108_89 n89 k_1108) ?_
    rintro v_1109 h_1109 (⟨er_1109, e_1109_66, e_1109_88, m_1109_88, e_1109_89, m_1109_89, p_1109_0, F_1109⟩ | ⟨er_1109, e_1109_66, e_1109_88, m_1109_88, e_1109_89, m_1109_89, p_1109_0, F_1109⟩) <;> subst er_1109
    · have k_1109 : cL h_1109 := F_1109.1.trans k_1108
      have g_1109_0 := (hfr_g F_1109 0 rfl).trans g_1108_0
      have g_1109_7 := (hfr_g F_1109 7 rfl).trans g_1108_7
      have g_1109_8 := (hfr_g F_1109 8 rfl).trans g_1108_8
      have g_1109_9 := (hfr_g F_1109 9 rfl).trans g_1108_9
      have g_1109_10 := (hfr_g F_1109 10 rfl).trans g_1108_10
      have g_1109_11 := (hfr_g F_1109 11 rfl).trans g_1108_11
      have g_1109_12 := (hfr_g F_1109 12 rfl).trans g_1108_12
      have g_1109_13 := (hfr_g F_1109 13 rfl).trans g_1108_13
      have g_1109_18 := (hfr_g F_1109 18 rfl).trans g_1108_18
      have g_1109_51 := (hfr_g F_1109 51 rfl).trans g_1108_51
      have g_1109_52 := (hfr_g F_1109 52 rfl).trans g_1108_52
      have g_1109_53 := (hfr_g F_1109 53 rfl).trans g_1108_53
      have g_1109_57 := (hfr_g F_1109 57 rfl).trans g_1108_57
      have g_1109_66 : cE h_1109 66 (.inr (10, (fI pl :: .ref 67 :: .ref 68 :: .ref 69 :: fI ((s : Nat) : Int) :: .ref 70 :: .ref 71 :: fI mi :: fI sd :: .ref 72 :: fI tn :: fI fp :: fI sc0 :: fJ sc1 :: fI sc2 :: fI sc3 :: fI sc4 :: fI sc5 :: .ref 73 :: .ref 74 :: .ref 75 :: .ref 76 :: .ref 77 :: .ref 78 :: fI w24 :: .ref 79 :: .ref 80 :: .ref 81 :: .ref 82 :: .ref 83 :: .ref 84 :: .ref 85 :: fJ sb :: fJ wa :: .ref 86 :: .ref 87 :: fI (r + 1) :: .ref 88 :: .ref 89 :: .ref 90 :: .ref 91 :: .ref 92 :: .ref 93 :: []))) := e_1109_66
      have g_1109_88 : cE h_1109 88 (.inl (.int, fA (rp.set r.toNat p))) := e_1109_88
      have g_1109_89 : cE h_1109 89 (.inl (.int, fA (rt.set r.toNat t))) := e_1109_89
      refine ⟨rfl, ?_⟩
      have gT_1109 := st_gT_t F_1109 (hdj_b rfl) gT_1108
      have gC_1109 := st_gC_t F_1109 (hdj_b rfl) gC_1108
      have gS_1109 := st_gS_t F_1109 (hdj_b rfl) gS_1108
      have gV_1109 := st_gV_t F_1109 (hdj_b rfl) gV_1108
      have gW_1109 := st_gW_t F_1109 (hdj_b rfl) gW_1108
      have gM_1109 := st_gM_t F_1109 (hdj_b rfl) gM_1108
      have gL_1109 := st_gL_t F_1109 (hdj_b rfl) gL_1108
      have gI_1109 := st_gI_t F_1109 (hdj_b rfl) gI_1108
      have gJ_1109 := st_gJ_t F_1109 (hdj_b rfl) gJ_1108
      have hB_1109 := st_hB_t F_1109 (hdj_b rfl) hB_1108
      have hC_1109 := st_hC_t F_1109 (hdj_b rfl) hC_1108
      have hT_1109 := st_hT_t F_1109 (hdj_b rfl) hT_1108
      have hS_1109 := st_hS_t F_1109 (hdj_b rfl) hS_1108
      have hM_1109 := st_hM_t F_1109 (hdj_b rfl) hM_1108
      have hL_1109 := st_hL_t F_1109 (hdj_b rfl) hL_1108
      have hI_1109 := st_hI_t F_1109 (hdj_b rfl) hI_1108
      intro C_ k_
      exact k_ tn fp pl mi sd ka pa fa kb pb fb xa xb (r + 1) n0 n1 ga0 gm0 gd_0 gs0 g00 g01 g02 g03 g04 g05 gx0 gy0 ga1 gm1 gd_1 gs1 g10 g11 g12 g13 g14 g15 gx1 gy1 s T cn go ch wg wc we (rp.set r.toNat p) (rt.set r.toNat t) lr ci0 ci1 cnr gor chr T2 im f_pl f_s f_st f_cb f_cr f_rw f_al f_wy f_k f_p f_x (by first | exact st_m f_m | omega) f_sd (by omega) (fun i hi => by rw [fz_getD_set, fz_getD_set]; by_cases z : i = r.toNat; { rw [if_pos ⟨z, by omega⟩, if_pos ⟨z, by omega⟩]; omega }; { rw [if_neg (fun y => z y.1), if_neg (fun y => z y.1)]; exact f_rr i (by omega) }) f_n f_l0 f_l1 f_tn f_t (st_I_K f_i0) (st_I_K f_i1) ⟨g_1109_0, g_1109_18, g_1109_57⟩ gT_1109 ⟨g_1109_7, g_1109_8, n8, g_1109_9, n9, g_1109_10, n10, g_1109_11, n11, g_1109_12, n12, g_1109_13, n13⟩ gC_1109 gS_1109 gV_1109 gW_1109 gM_1109 ⟨g_1109_51, g_1109_52, m_1108_52, g_1109_53, m_1108_53⟩ gL_1109 gI_1109 gJ_1109 ⟨sc0, sc1, sc2, sc3, sc4, sc5, w24, sb, wa, g_1109_66⟩ hB_1109 hC_1109 hT_1109 hS_1109 hM_1109 ⟨g_1109_88, m_1109_88, g_1109_89, m_1109_89⟩ hL_1109 hI_1109 k_1109
    · have k_1109 : cL h_1109 := F_1109.1.trans k_1108
      have g_1109_0 := (hfr_g F_1109 0 rfl).trans g_1108_0
      have g_1109_7 := (hfr_g F_1109 7 rfl).trans g_1108_7
      have g_1109_8 := (hfr_g F_1109 8 rfl).trans g_1108_8
      have g_1109_9 := (hfr_g F_1109 9 rfl).trans g_1108_9
      have g_1109_10 := (hfr_g F_1109 10 rfl).trans g_1108_10
      have g_1109_11 := (hfr_g F_1109 11 rfl).trans g_1108_11
      have g_1109_12 := (hfr_g F_1109 12 rfl).trans g_1108_12
      have g_1109_13 := (hfr_g F_1109 13 rfl).trans g_1108_13
      have g_1109_18 := (hfr_g F_1109 18 rfl).trans g_1108_18
      have g_1109_51 := (hfr_g F_1109 51 rfl).trans g_1108_51
      have g_1109_52 := (hfr_g F_1109 52 rfl).trans g_1108_52
      have g_1109_53 := (hfr_g F_1109 53 rfl).trans g_1108_53
      have g_1109_57 := (hfr_g F_1109 57 rfl).trans g_1108_57
      have g_1109_66 : cE h_1109 66 (.inr (10, (fI pl :: .ref 67 :: .ref 68 :: .ref 69 :: fI ((s : Nat) : Int) :: .ref 70 :: .ref 71 :: fI mi :: fI sd :: .ref 72 :: fI tn :: fI fp :: fI sc0 :: fJ sc1 :: fI sc2 :: fI sc3 :: fI sc4 :: fI sc5 :: .ref 73 :: .ref 74 :: .ref 75 :: .ref 76 :: .ref 77 :: .ref 78 :: fI w24 :: .ref 79 :: .ref 80 :: .ref 81 :: .ref 82 :: .ref 83 :: .ref 84 :: .ref 85 :: fJ sb :: fJ wa :: .ref 86 :: .ref 87 :: fI r :: .ref 88 :: .ref 89 :: .ref 90 :: .ref 91 :: .ref 92 :: .ref 93 :: []))) := e_1109_66
      have g_1109_88 : cE h_1109 88 (.inl (.int, fA rp)) := e_1109_88
      have g_1109_89 : cE h_1109 89 (.inl (.int, fA rt)) := e_1109_89
      exact absurd p_1108_0 p_1109_0
  · have k_1108 : cL h_1108 := F_1108.1.trans hl
    have g_1108_0 := (hfr_g F_1108 0 rfl).trans h0
    have g_1108_7 := (hfr_g F_1108 7 rfl).trans h7
    have g_1108_8 := (hfr_g F_1108 8 rfl).trans h8
    have g_1108_9 := (hfr_g F_1108 9 rfl).trans h9
    have g_1108_10 := (hfr_g F_1108 10 rfl).trans h10
    have g_1108_11 := (hfr_g F_1108 11 rfl).trans h11
    have g_1108_12 := (hfr_g F_1108 12 rfl).trans h12
    have g_1108_13 := (hfr_g F_1108 13 rfl).trans h13
    have g_1108_18 := (hfr_g F_1108 18 rfl).trans h18
    have g_1108_57 := (hfr_g F_1108 57 rfl).trans h57
    have g_1108_66 := (hfr_g F_1108 66 rfl).trans h66
    have g_1108_88 := (hfr_g F_1108 88 rfl).trans h88
    have g_1108_89 := (hfr_g F_1108 89 rfl).trans h89
    have g_1108_51 : cE h_1108 51 (.inr (7, [.ref 7, fI r, .ref 52, .ref 53])) := e_1108_51
    have g_1108_52 : cE h_1108 52 (.inl (.int, fA rp)) := e_1108_52
    have g_1108_53 : cE h_1108 53 (.inl (.int, fA rt)) := e_1108_53
    refine ⟨an_rn pl p t, rfl, ⟨k_1108, _, g_1108_66⟩, ?_⟩
    have gT_1108 := st_gT_t F_1108 (hdj_b rfl) gT
    have gC_1108 := st_gC_t F_1108 (hdj_b rfl) gC
    have gS_1108 := st_gS_t F_1108 (hdj_b rfl) gS
    have gV_1108 := st_gV_t F_1108 (hdj_b rfl) gV
    have gW_1108 := st_gW_t F_1108 (hdj_b rfl) gW
    have gM_1108 := st_gM_t F_1108 (hdj_b rfl) gM
    have gL_1108 := st_gL_t F_1108 (hdj_b rfl) gL
    have gI_1108 := st_gI_t F_1108 (hdj_b rfl) gI
    have gJ_1108 := st_gJ_t F_1108 (hdj_b rfl) gJ
    have hB_1108 := st_hB_t F_1108 (hdj_b rfl) hB
    have hC_1108 := st_hC_t F_1108 (hdj_b rfl) hC
    have hT_1108 := st_hT_t F_1108 (hdj_b rfl) hT
    have hS_1108 := st_hS_t F_1108 (hdj_b rfl) hS
    have hM_1108 := st_hM_t F_1108 (hdj_b rfl) hM
    have hL_1108 := st_hL_t F_1108 (hdj_b rfl) hL
    have hI_1108 := st_hI_t F_1108 (hdj_b rfl) hI
    refine ik_F_mono (rp_run (f := fun j => ((0 :: 0 :: 0 :: 0 :: (((s : Nat) : Int)) :: 0 :: 0 :: mi :: sd :: 0 :: tn :: fp :: sc0 :: sc1 :: sc2 :: sc3 :: sc4 :: sc5 :: 0 :: 0 :: 0 :: 0 :: 0 :: 0 :: w24 :: 0 :: 0 :: 0 :: 0 :: 0 :: 0 :: 0 :: sb :: wa :: 0 :: 0 :: 0 :: 0 :: 0 :: 0 :: 0 :: 0 :: 0 :: []) : List Int).getD j 0) (pl := pl) (p := p) (t := t) (r := r) (rp := rp) (rt := rt) f_pl f_r z_p z_t g_1108_66 g_1108_88 n88 g_1108_89 n89 k_1108) ?_
    rintro v_1110 h_1110 (⟨er_1110, e_1110_66, e_1110_88, m_1110_88, e_1110_89, m_1110_89, p_1110_0, F_1110⟩ | ⟨er_1110, e_1110_66, e_1110_88, m_1110_88, e_1110_89, m_1110_89, p_1110_0, F_1110⟩) <;> subst er_1110
    · have k_1110 : cL h_1110 := F_1110.1.trans k_1108
      have g_1110_0 := (hfr_g F_1110 0 rfl).trans g_1108_0
      have g_1110_7 := (hfr_g F_1110 7 rfl).trans g_1108_7
      have g_1110_8 := (hfr_g F_1110 8 rfl).trans g_1108_8
      have g_1110_9 := (hfr_g F_1110 9 rfl).trans g_1108_9
      have g_1110_10 := (hfr_g F_1110 10 rfl).trans g_1108_10
      have g_1110_11 := (hfr_g F_1110 11 rfl).trans g_1108_11
      have g_1110_12 := (hfr_g F_1110 12 rfl).trans g_1108_12
      have g_1110_13 := (hfr_g F_1110 13 rfl).trans g_1108_13
      have g_1110_18 := (hfr_g F_1110 18 rfl).trans g_1108_18
      have g_1110_51 := (hfr_g F_1110 51 rfl).trans g_1108_51
      have g_1110_52 := (hfr_g F_1110 52 rfl).trans g_1108_52
      have g_1110_53 := (hfr_g F_1110 53 rfl).trans g_1108_53
      have g_1110_57 := (hfr_g F_1110 57 rfl).trans g_1108_57
      have g_1110_66 : cE h_1110 66 (.inr (10, (fI pl :: .ref 67 :: .ref 68 :: .ref 69 :: fI ((s : Nat) : Int) :: .ref 70 :: .ref 71 :: fI mi :: fI sd :: .ref 72 :: fI tn :: fI fp :: fI sc0 :: fJ sc1 :: fI sc2 :: fI sc3 :: fI sc4 :: fI sc5 :: .ref 73 :: .ref 74 :: .ref 75 :: .ref 76 :: .ref 77 :: .ref 78 :: fI w24 :: .ref 79 :: .ref 80 :: .ref 81 :: .ref 82 :: .ref 83 :: .ref 84 :: .ref 85 :: fJ sb :: fJ wa :: .ref 86 :: .ref 87 :: fI (r + 1) :: .ref 88 :: .ref 89 :: .ref 90 :: .ref 91 :: .ref 92 :: .ref 93 :: []))) := e_1110_66
      have g_1110_88 : cE h_1110 88 (.inl (.int, fA (rp.set r.toNat p))) := e_1110_88
      have g_1110_89 : cE h_1110 89 (.inl (.int, fA (rt.set r.toNat t))) := e_1110_89
      exact absurd p_1110_0 p_1108_0
    · have k_1110 : cL h_1110 := F_1110.1.trans k_1108
      have g_1110_0 := (hfr_g F_1110 0 rfl).trans g_1108_0
      have g_1110_7 := (hfr_g F_1110 7 rfl).trans g_1108_7
      have g_1110_8 := (hfr_g F_1110 8 rfl).trans g_1108_8
      have g_1110_9 := (hfr_g F_1110 9 rfl).trans g_1108_9
      have g_1110_10 := (hfr_g F_1110 10 rfl).trans g_1108_10
      have g_1110_11 := (hfr_g F_1110 11 rfl).trans g_1108_11
      have g_1110_12 := (hfr_g F_1110 12 rfl).trans g_1108_12
      have g_1110_13 := (hfr_g F_1110 13 rfl).trans g_1108_13
      have g_1110_18 := (hfr_g F_1110 18 rfl).trans g_1108_18
      have g_1110_51 := (hfr_g F_1110 51 rfl).trans g_1108_51
      have g_1110_52 := (hfr_g F_1110 52 rfl).trans g_1108_52
      have g_1110_53 := (hfr_g F_1110 53 rfl).trans g_1108_53
      have g_1110_57 := (hfr_g F_1110 57 rfl).trans g_1108_57
      have g_1110_66 : cE h_1110 66 (.inr (10, (fI pl :: .ref 67 :: .ref 68 :: .ref 69 :: fI ((s : Nat) : Int) :: .ref 70 :: .ref 71 :: fI mi :: fI sd :: .ref 72 :: fI tn :: fI fp :: fI sc0 :: fJ sc1 :: fI sc2 :: fI sc3 :: fI sc4 :: fI sc5 :: .ref 73 :: .ref 74 :: .ref 75 :: .ref 76 :: .ref 77 :: .ref 78 :: fI w24 :: .ref 79 :: .ref 80 :: .ref 81 :: .ref 82 :: .ref 83 :: .ref 84 :: .ref 85 :: fJ sb :: fJ wa :: .ref 86 :: .ref 87 :: fI r :: .ref 88 :: .ref 89 :: .ref 90 :: .ref 91 :: .ref 92 :: .ref 93 :: []))) := e_1110_66
      have g_1110_88 : cE h_1110 88 (.inl (.int, fA rp)) := e_1110_88
      have g_1110_89 : cE h_1110 89 (.inl (.int, fA rt)) := e_1110_89
      refine ⟨rfl, ?_⟩
      have gT_1110 := st_gT_t F_1110 (hdj_b rfl) gT_1108
      have gC_1110 := st_gC_t F_1110 (hdj_b rfl) gC_1108
      have gS_1110 := st_gS_t F_1110 (hdj_b rfl) gS_1108
      have gV_1110 := st_gV_t F_1110 (hdj_b rfl) gV_1108
      have gW_1110 := st_gW_t F_1110 (hdj_b rfl) gW_1108
      have gM_1110 := st_gM_t F_1110 (hdj_b rfl) gM_1108
      have gL_1110 := st_gL_t F_1110 (hdj_b rfl) gL_1108
      have gI_1110 := st_gI_t F_1110 (hdj_b rfl) gI_1108
      have gJ_1110 := st_gJ_t F_1110 (hdj_b rfl) gJ_1108
      have hB_1110 := st_hB_t F_1110 (hdj_b rfl) hB_1108
      have hC_1110 := st_hC_t F_1110 (hdj_b rfl) hC_1108
      have hT_1110 := st_hT_t F_1110 (hdj_b rfl) hT_1108
      have hS_1110 := st_hS_t F_1110 (hdj_b rfl) hS_1108
      have hM_1110 := st_hM_t F_1110 (hdj_b rfl) hM_1108
      have hL_1110 := st_hL_t F_1110 (hdj_b rfl) hL_1108
      have hI_1110 := st_hI_t F_1110 (hdj_b rfl) hI_1108
      intro C_ k_
      exact k_ tn fp pl mi sd ka pa fa kb pb fb xa xb r n0 n1 ga0 gm0 gd_0 gs0 g00 g01 g02 g03 g04 g05 gx0 gy0 ga1 gm1 gd_1 gs1 g10 g11 g12 g13 g14 g15 gx1 gy1 s T cn go ch wg wc we rp rt lr ci0 ci1 cnr gor chr T2 im f_pl f_s f_st f_cb f_cr f_rw f_al f_wy f_k f_p f_x (by first | exact st_m f_m | omega) f_sd f_r f_rr f_n f_l0 f_l1 f_tn f_t (st_I_K f_i0) (st_I_K f_i1) ⟨g_1110_0, g_1110_18, g_1110_57⟩ gT_1110 ⟨g_1110_7, g_1110_8, n8, g_1110_9, n9, g_1110_10, n10, g_1110_11, n11, g_1110_12, n12, g_1110_13, n13⟩ gC_1110 gS_1110 gV_1110 gW_1110 gM_1110 ⟨g_1110_51, g_1110_52, m_1108_52, g_1110_53, m_1108_53⟩ gL_1110 gI_1110 gJ_1110 ⟨sc0, sc1, sc2, sc3, sc4, sc5, w24, sb, wa, g_1110_66⟩ hB_1110 hC_1110 hT_1110 hS_1110 hM_1110 ⟨g_1110_88, m_1110_88, g_1110_89, m_1110_89⟩ hL_1110 hI_1110 k_1110

set_option maxRecDepth 100000 in
theorem lk_forget {K : Nat} {h : List ik_E} (E : st_S K h) (hK : K ≤ 600)    : ik_F 106 [.ref 0] h (fun rv h_q => ∃ o_ : Int, rv = [fI o_] ∧ (h_q.length = (94 : Nat) ∧ ∃ fs, h_q[66]? = some (.inr (10, fs))) ∧ ik_F 184 [.ref 66] h_q (fun rv' h'' => rv' = [fI o_] ∧ st_S (K + 1) h'')) := by
  refine E _ ?_
  intro tn fp pl mi sd ka pa fa kb pb fb xa xb r n0 n1 ga0 gm0 gd_0 gs0 g00 g01 g02 g03 g04 g05 gx0 gy0 ga1 gm1 gd_1 gs1 g10 g11 g12 g13 g14 g15 gx1 gy1 s T cn go ch wg wc we rp rt lr ci0 ci1 cnr gor chr T2 im f_pl f_s f_st f_cb f_cr f_rw f_al f_wy f_k f_p f_x f_m f_sd f_r f_rr f_n f_l0 f_l1 f_tn f_t f_i0 f_i1 gA gT gB gC gS gV gW gM gR gL gI gJ hO hB hC hT hS hM hR hL hI hl
  replace f_cb := ik_hid_i f_cb
  replace f_cr := ik_hid_i f_cr
  replace f_p := ik_hid_i f_p
  replace f_x := ik_hid_i f_x
  obtain ⟨h0, h18, h57⟩ := gA
  obtain ⟨h51, h52, n52, h53, n53⟩ := gR
  obtain ⟨sc0, sc1, sc2, sc3, sc4, sc5, w24, sb, wa, h66⟩ := hO
  refine ik_F_mono (cp_forget (r := r)  h0 h51 hl) ?_
  rintro v_1111 h_1111 ⟨er_1111, e_1111_51, F_1111⟩ <;> subst er_1111
  have k_1111 : cL h_1111 := F_1111.1.trans hl
  have g_1111_0 := (hfr_g F_1111 0 rfl).trans h0
  have g_1111_18 := (hfr_g F_1111 18 rfl).trans h18
  have g_1111_52 := (hfr_g F_1111 52 rfl).trans h52
  have g_1111_53 := (hfr_g F_1111 53 rfl).trans h53
  have g_1111_57 := (hfr_g F_1111 57 rfl).trans h57
  have g_1111_66 := (hfr_g F_1111 66 rfl).trans h66
  have g_1111_51 : cE h_1111 51 (.inr (7, [.ref 7, fI 0, .ref 52, .ref 53])) := e_1111_51
  refine ⟨r, rfl, ⟨k_1111, _, g_1111_66⟩, ?_⟩
  have gT_1111 := st_gT_t F_1111 (hdj_b rfl) gT
  have gB_1111 := st_gB_t F_1111 (hdj_b rfl) gB
  have gC_1111 := st_gC_t F_1111 (hdj_b rfl) gC
  have gS_1111 := st_gS_t F_1111 (hdj_b rfl) gS
  have gV_1111 := st_gV_t F_1111 (hdj_b rfl) gV
  have gW_1111 := st_gW_t F_1111 (hdj_b rfl) gW
  have gM_1111 := st_gM_t F_1111 (hdj_b rfl) gM
  have gL_1111 := st_gL_t F_1111 (hdj_b rfl) gL
  have gI_1111 := st_gI_t F_1111 (hdj_b rfl) gI
  have gJ_1111 := st_gJ_t F_1111 (hdj_b rfl) gJ
  have hB_1111 := st_hB_t F_1111 (hdj_b rfl) hB
  have hC_1111 := st_hC_t F_1111 (hdj_b rfl) hC
  have hT_1111 := st_hT_t F_1111 (hdj_b rfl) hT
  have hS_1111 := st_hS_t F_1111 (hdj_b rfl) hS
  have hM_1111 := st_hM_t F_1111 (hdj_b rfl) hM
  have hR_1111 := st_hR_t F_1111 (hdj_b rfl) hR
  have hL_1111 := st_hL_t F_1111 (hdj_b rfl) hL
  have hI_1111 := st_hI_t F_1111 (hdj_b rfl) hI
  refine ik_F_mono (rp_forget (f := fun j => ((pl :: 0 :: 0 :: 0 :: (((s : Nat) : Int)) :: 0 :: 0 :: mi :: sd :: 0 :: tn :: fp :: sc0 :: sc1 :: sc2 :: sc3 :: sc4 :: sc5 :: 0 :: 0 :: 0 :: 0 :: 0 :: 0 :: w24 :: 0 :: 0 :: 0 :: 0 :: 0 :: 0 :: 0 :: sb :: wa :: 0 :: 0 :: 0 :: 0 :: 0 :: 0 :: 0 :: 0 :: 0 :: []) : List Int).getD j 0) (r := r)  g_1111_66 k_1111) ?_
  rintro v_1112 h_1112 ⟨er_1112, e_1112_66, F_1112⟩ <;> subst er_1112
  have k_1112 : cL h_1112 := F_1112.1.trans k_1111
  have g_1112_0 := (hfr_g F_1112 0 rfl).trans g_1111_0
  have g_1112_18 := (hfr_g F_1112 18 rfl).trans g_1111_18
  have g_1112_51 := (hfr_g F_1112 51 rfl).trans g_1111_51
  have g_1112_52 := (hfr_g F_1112 52 rfl).trans g_1111_52
  have g_1112_53 := (hfr_g F_1112 53 rfl).trans g_1111_53
  have g_1112_57 := (hfr_g F_1112 57 rfl).trans g_1111_57
  have g_1112_66 : cE h_1112 66 (.inr (10, (fI pl :: .ref 67 :: .ref 68 :: .ref 69 :: fI ((s : Nat) : Int) :: .ref 70 :: .ref 71 :: fI mi :: fI sd :: .ref 72 :: fI tn :: fI fp :: fI sc0 :: fJ sc1 :: fI sc2 :: fI sc3 :: fI sc4 :: fI sc5 :: .ref 73 :: .ref 74 :: .ref 75 :: .ref 76 :: .ref 77 :: .ref 78 :: fI w24 :: .ref 79 :: .ref 80 :: .ref 81 :: .ref 82 :: .ref 83 :: .ref 84 :: .ref 85 :: fJ sb :: fJ wa :: .ref 86 :: .ref 87 :: fI 0 :: .ref 88 :: .ref 89 :: .ref 90 :: .ref 91 :: .ref 92 :: .ref 93 :: []))) := e_1112_66
  refine ⟨rfl, ?_⟩
  have gT_1112 := st_gT_t F_1112 (hdj_b rfl) gT_1111
  have gB_1112 := st_gB_t F_1112 (hdj_b rfl) gB_1111
  have gC_1112 := st_gC_t F_1112 (hdj_b rfl) gC_1111
  have gS_1112 := st_gS_t F_1112 (hdj_b rfl) gS_1111
  have gV_1112 := st_gV_t F_1112 (hdj_b rfl) gV_1111
  have gW_1112 := st_gW_t F_1112 (hdj_b rfl) gW_1111
  have gM_1112 := st_gM_t F_1112 (hdj_b rfl) gM_1111
  have gL_1112 := st_gL_t F_1112 (hdj_b rfl) gL_1111
  have gI_1112 := st_gI_t F_1112 (hdj_b rfl) gI_1111
  have gJ_1112 := st_gJ_t F_1112 (hdj_b rfl) gJ_1111
  have hB_1112 := st_hB_t F_1112 (hdj_b rfl) hB_1111
  have hC_1112 := st_hC_t F_1112 (hdj_b rfl) hC_1111
  have hT_1112 := st_hT_t F_1112 (hdj_b rfl) hT_1111
  have hS_1112 := st_hS_t F_1112 (hdj_b rfl) hS_1111
  have hM_1112 := st_hM_t F_1112 (hdj_b rfl) hM_1111
  have hR_1112 := st_hR_t F_1112 (hdj_b rfl) hR_1111
  have hL_1112 := st_hL_t F_1112 (hdj_b rfl) hL_1111
  have hI_1112 := st_hI_t F_1112 (hdj_b rfl) hI_1111
  intro C_ k_
  exact k_ tn fp pl mi sd ka pa fa kb pb fb xa xb 0 n0 n1 ga0 gm0 gd_0 gs0 g00 g01 g02 g03 g04 g05 gx0 gy0 ga1 gm1 gd_1 gs1 g10 g11 g12 g13 g14 g15 gx1 gy1 s T cn go ch wg wc we rp rt lr ci0 ci1 cnr gor chr T2 im f_pl f_s f_st f_cb f_cr f_rw f_al f_wy f_k f_p f_x (by first | exact st_m f_m | omega) f_sd (by decide +kernel) (fun i hi => absurd hi (by omega)) f_n f_l0 f_l1 f_tn f_t (st_I_K f_i0) (st_I_K f_i1) ⟨g_1112_0, g_1112_18, g_1112_57⟩ gT_1112 gB_1112 gC_1112 gS_1112 gV_1112 gW_1112 gM_1112 ⟨g_1112_51, g_1112_52, n52, g_1112_53, n53⟩ gL_1112 gI_1112 gJ_1112 ⟨sc0, sc1, sc2, sc3, sc4, sc5, w24, sb, wa, g_1112_66⟩ hB_1112 hC_1112 hT_1112 hS_1112 hM_1112 hR_1112 hL_1112 hI_1112 k_1112

set_option maxRecDepth 100000 in
theorem lk_clear {K : Nat} {h : List ik_E} (E : st_S K h) (hK : K ≤ 600)    : ik_F 116 [.ref 0] h (fun rv h_q => ∃ o_ : Int, rv = [fI o_] ∧ (h_q.length = (94 : Nat) ∧ ∃ fs, h_q[66]? = some (.inr (10, fs))) ∧ ik_F 204 [.ref 66] h_q (fun rv' h'' => rv' = [fI o_] ∧ st_S (K + 1) h'')) := by
  refine E _ ?_
  intro tn fp pl mi sd ka pa fa kb pb fb xa xb r n0 n1 ga0 gm0 gd_0 gs0 g00 g01 g02 g03 g04 g05 gx0 gy0 ga1 gm1 gd_1 gs1 g10 g11 g12 g13 g14 g15 gx1 gy1 s T cn go ch wg wc we rp rt lr ci0 ci1 cnr gor chr T2 im f_pl f_s f_st f_cb f_cr f_rw f_al f_wy f_k f_p f_x f_m f_sd f_r f_rr f_n f_l0 f_l1 f_tn f_t f_i0 f_i1 gA gT gB gC gS gV gW gM gR gL gI gJ hO hB hC hT hS hM hR hL hI hl
  replace f_cb := ik_hid_i f_cb
  replace f_cr := ik_hid_i f_cr
  replace f_p := ik_hid_i f_p
  replace f_x := ik_hid_i f_x
  obtain ⟨h0, h18, h57⟩ := gA
  obtain ⟨h54, h55, n55, h56⟩ := gL
  obtain ⟨sc0, sc1, sc2, sc3, sc4, sc5, w24, sb, wa, h66⟩ := hO
  obtain ⟨h90, h91, n91⟩ := hL
  refine ik_F_mono (cp_clear (n0 := n0) (n1 := n1)  h0 h54 h56 hl) ?_
  rintro v_1113 h_1113 ⟨er_1113, e_1113_56, F_1113⟩ <;> subst er_1113
  have k_1113 : cL h_1113 := F_1113.1.trans hl
  have g_1113_0 := (hfr_g F_1113 0 rfl).trans h0
  have g_1113_18 := (hfr_g F_1113 18 rfl).trans h18
  have g_1113_54 := (hfr_g F_1113 54 rfl).trans h54
  have g_1113_55 := (hfr_g F_1113 55 rfl).trans h55
  have g_1113_57 := (hfr_g F_1113 57 rfl).trans h57
  have g_1113_66 := (hfr_g F_1113 66 rfl).trans h66
  have g_1113_90 := (hfr_g F_1113 90 rfl).trans h90
  have g_1113_91 := (hfr_g F_1113 91 rfl).trans h91
  have g_1113_56 : cE h_1113 56 (.inl (.int, fA [0, 0])) := e_1113_56
  refine ⟨n0 + n1, rfl, ⟨k_1113, _, g_1113_66⟩, ?_⟩
  have gT_1113 := st_gT_t F_1113 (hdj_b rfl) gT
  have gB_1113 := st_gB_t F_1113 (hdj_b rfl) gB
  have gC_1113 := st_gC_t F_1113 (hdj_b rfl) gC
  have gS_1113 := st_gS_t F_1113 (hdj_b rfl) gS
  have gV_1113 := st_gV_t F_1113 (hdj_b rfl) gV
  have gW_1113 := st_gW_t F_1113 (hdj_b rfl) gW
  have gM_1113 := st_gM_t F_1113 (hdj_b rfl) gM
  have gR_1113 := st_gR_t F_1113 (hdj_b rfl) gR
  have gI_1113 := st_gI_t F_1113 (hdj_b rfl) gI
  have gJ_1113 := st_gJ_t F_1113 (hdj_b rfl) gJ
  have hB_1113 := st_hB_t F_1113 (hdj_b rfl) hB
  have hC_1113 := st_hC_t F_1113 (hdj_b rfl) hC
  have hT_1113 := st_hT_t F_1113 (hdj_b rfl) hT
  have hS_1113 := st_hS_t F_1113 (hdj_b rfl) hS
  have hM_1113 := st_hM_t F_1113 (hdj_b rfl) hM
  have hR_1113 := st_hR_t F_1113 (hdj_b rfl) hR
  have hI_1113 := st_hI_t F_1113 (hdj_b rfl) hI
  refine ik_F_mono (rp_clear (f := fun j => ((pl :: 0 :: 0 :: 0 :: (((s : Nat) : Int)) :: 0 :: 0 :: mi :: sd :: 0 :: tn :: fp :: sc0 :: sc1 :: sc2 :: sc3 :: sc4 :: sc5 :: 0 :: 0 :: 0 :: 0 :: 0 :: 0 :: w24 :: 0 :: 0 :: 0 :: 0 :: 0 :: 0 :: 0 :: sb :: wa :: 0 :: 0 :: r :: 0 :: 0 :: 0 :: 0 :: 0 :: 0 :: []) : List Int).getD j 0) (n0 := n0) (n1 := n1)  g_1113_66 g_1113_90 k_1113) ?_
  rintro v_1114 h_1114 ⟨er_1114, e_1114_90, F_1114⟩ <;> subst er_1114
  have k_1114 : cL h_1114 := F_1114.1.trans k_1113
  have g_1114_0 := (hfr_g F_1114 0 rfl).trans g_1113_0
  have g_1114_18 := (hfr_g F_1114 18 rfl).trans g_1113_18
  have g_1114_54 := (hfr_g F_1114 54 rfl).trans g_1113_54
  have g_1114_55 := (hfr_g F_1114 55 rfl).trans g_1113_55
  have g_1114_56 := (hfr_g F_1114 56 rfl).trans g_1113_56
  have g_1114_57 := (hfr_g F_1114 57 rfl).trans g_1113_57
  have g_1114_66 := (hfr_g F_1114 66 rfl).trans g_1113_66
  have g_1114_91 := (hfr_g F_1114 91 rfl).trans g_1113_91
  have g_1114_90 : cE h_1114 90 (.inl (.int, fA [0, 0])) := e_1114_90
  refine ⟨rfl, ?_⟩
  have gT_1114 := st_gT_t F_1114 (hdj_b rfl) gT_1113
  have gB_1114 := st_gB_t F_1114 (hdj_b rfl) gB_1113
  have gC_1114 := st_gC_t F_1114 (hdj_b rfl) gC_1113
  have gS_1114 := st_gS_t F_1114 (hdj_b rfl) gS_1113
  have gV_1114 := st_gV_t F_1114 (hdj_b rfl) gV_1113
  have gW_1114 := st_gW_t F_1114 (hdj_b rfl) gW_1113
  have gM_1114 := st_gM_t F_1114 (hdj_b rfl) gM_1113
  have gR_1114 := st_gR_t F_1114 (hdj_b rfl) gR_1113
  have gI_1114 := st_gI_t F_1114 (hdj_b rfl) gI_1113
  have gJ_1114 := st_gJ_t F_1114 (hdj_b rfl) gJ_1113
  have hB_1114 := st_hB_t F_1114 (hdj_b rfl) hB_1113
  have hC_1114 := st_hC_t F_1114 (hdj_b rfl) hC_1113
  have hT_1114 := st_hT_t F_1114 (hdj_b rfl) hT_1113
  have hS_1114 := st_hS_t F_1114 (hdj_b rfl) hS_1113
  have hM_1114 := st_hM_t F_1114 (hdj_b rfl) hM_1113
  have hR_1114 := st_hR_t F_1114 (hdj_b rfl) hR_1113
  have hI_1114 := st_hI_t F_1114 (hdj_b rfl) hI_1113
  intro C_ k_
  exact k_ tn fp pl mi sd ka pa fa kb pb fb xa xb r 0 0 ga0 gm0 gd_0 gs0 g00 g01 g02 g03 g04 g05 gx0 gy0 ga1 gm1 gd_1 gs1 g10 g11 g12 g13 g14 g15 gx1 gy1 s T cn go ch wg wc we rp rt lr ci0 ci1 cnr gor chr T2 im f_pl f_s f_st f_cb f_cr f_rw f_al f_wy f_k f_p f_x (by first | exact st_m f_m | omega) f_sd f_r f_rr (by decide +kernel) (fun j hj => absurd hj (by omega)) (fun j hj => absurd hj (by omega)) f_tn f_t (st_I_K f_i0) (st_I_K f_i1) ⟨g_1114_0, g_1114_18, g_1114_57⟩ gT_1114 gB_1114 gC_1114 gS_1114 gV_1114 gW_1114 gM_1114 gR_1114 ⟨g_1114_54, g_1114_55, n55, g_1114_56⟩ gI_1114 gJ_1114 ⟨sc0, sc1, sc2, sc3, sc4, sc5, w24, sb, wa, g_1114_66⟩ hB_1114 hC_1114 hT_1114 hS_1114 hM_1114 hR_1114 ⟨g_1114_90, g_1114_91, n91⟩ hI_1114 k_1114

end
