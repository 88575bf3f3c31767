noncomputable section
set_option maxRecDepth 100000 in
theorem lk_keep0 {K : Nat} {h : List ik_E} (E : st_S K h) (hK : K ≤ 600)    : ik_F 119 [.ref 0, fI 0] h (fun rv h' => ∃ o_ : Int, rv = [fI o_] ∧ (h'.length = 94 ∧ ∃ fs, h'[66]? = some (.inr (10, fs))) ∧ ik_F 209 [.ref 66, fI 0] h' (fun rv' h'' => rv' = [fI o_] ∧ st_S (K + 1) h'')) := by
  refine E _ ?_
  intro tn fp pl mi sd ka pa fa kb pb fb xa xb r n0 n1 ga0 gm0 gd_0 gs0 g00 g01 g02 g03 g04 g05 gx0 gy0 ga1 gm1 gd_1 gs1 g10 g11 g12 g13 g14 g15 gx1 gy1 s T cn go ch wg wc we rp rt lr ci0 ci1 cnr gor chr T2 im f_pl f_s f_st f_cb f_cr f_rw f_al f_wy f_k f_p f_x f_m f_sd f_r f_rr f_n f_l0 f_l1 f_tn f_t f_i0 f_i1 gA gT gB gC gS gV gW gM gR gL gI gJ hO hB hC hT hS hM hR hL hI hl
  obtain ⟨h0, h18, h57⟩ := gA
  obtain ⟨h7, h8, n8, h9, n9, h10, n10, h11, n11, h12, n12, h13, n13⟩ := gB
  obtain ⟨h14, h15, h16⟩ := gC
  obtain ⟨h58, h59, h60, h61, n61⟩ := gI
  obtain ⟨sc0, sc1, sc2, sc3, sc4, sc5, w24, sb, wa, h66⟩ := hO
  obtain ⟨h67, n67, h68, n68, h69, n69⟩ := hB
  obtain ⟨h70, h71⟩ := hC
  obtain ⟨h92, n92, h93⟩ := hI
  refine ik_F_mono (cp_keep0 (pl := pl) (st := ((s : Nat) : Int)) (lo := ((mj_lost pl cn go : Nat) : Int)) (it := ga0) (im_ := gm0) (id_ := gd_0) (is_ := gs0) (e0 := g00) (e1 := g01) (e2 := g02) (e3 := g03) (e4 := g04) (e5 := g05) (y0 := gx0) (y1 := gy0) (ci := ci0) (ka := ka) (pa := pa) (fa := fa) (kb := kb) (pb := pb) (fb := fb) (xa := xa) (xb := xb) (mi := mi) (dr := sd) (ch := ch)  h0 h7 h10 n10 h14 h15 h16 h57 h58 h59 h60 h61 n61 hl) ?_
  rintro _ h_1137 ⟨rfl, e_1137_58, e_1137_59, e_1137_60, e_1137_61, m_1137_61, F_1137⟩
  have k_1137 := F_1137.1.trans hl
  have g_1137_0 := (F_1137.2 0 (by decide +kernel)).trans h0
  have g_1137_7 := (F_1137.2 7 (by decide +kernel)).trans h7
  have g_1137_8 := (F_1137.2 8 (by decide +kernel)).trans h8
  have g_1137_9 := (F_1137.2 9 (by decide +kernel)).trans h9
  have g_1137_10 := (F_1137.2 10 (by decide +kernel)).trans h10
  have g_1137_11 := (F_1137.2 11 (by decide +kernel)).trans h11
  have g_1137_12 := (F_1137.2 12 (by decide +kernel)).trans h12
  have g_1137_13 := (F_1137.2 13 (by decide +kernel)).trans h13
  have g_1137_14 := (F_1137.2 14 (by decide +kernel)).trans h14
  have g_1137_15 := (F_1137.2 15 (by decide +kernel)).trans h15
  have g_1137_16 := (F_1137.2 16 (by decide +kernel)).trans h16
  have g_1137_18 := (F_1137.2 18 (by decide +kernel)).trans h18
  have g_1137_57 := (F_1137.2 57 (by decide +kernel)).trans h57
  have g_1137_66 := (F_1137.2 66 (by decide +kernel)).trans h66
  have g_1137_67 := (F_1137.2 67 (by decide +kernel)).trans h67
  have g_1137_68 := (F_1137.2 68 (by decide +kernel)).trans h68
  have g_1137_69 := (F_1137.2 69 (by decide +kernel)).trans h69
  have g_1137_70 := (F_1137.2 70 (by decide +kernel)).trans h70
  have g_1137_71 := (F_1137.2 71 (by decide +kernel)).trans h71
  have g_1137_92 := (F_1137.2 92 (by decide +kernel)).trans h92
  have g_1137_93 := (F_1137.2 93 (by decide +kernel)).trans h93
  have g_1137_58 : cE h_1137 58 (.inr (3, [fI 1, .ref 59, .ref 60, fI mi, fJ sd, fI ((s : Nat) : Int), .ref 61])) := e_1137_58
  have g_1137_59 : cE h_1137 59 (.inl (.int, fA [ka, pa, fa, kb, pb, fb])) := e_1137_59
  have g_1137_60 : cE h_1137 60 (.inl (.int, fA [xa, xb])) := e_1137_60
  have g_1137_61 : cE h_1137 61 (.inl (.int, fA ch)) := e_1137_61
  refine ⟨1, rfl, ⟨k_1137, _, g_1137_66⟩, ?_⟩
  have gT_1137 := st_gT_t F_1137 (by decide +kernel) gT
  have gS_1137 := st_gS_t F_1137 (by decide +kernel) gS
  have gV_1137 := st_gV_t F_1137 (by decide +kernel) gV
  have gW_1137 := st_gW_t F_1137 (by decide +kernel) gW
  have gM_1137 := st_gM_t F_1137 (by decide +kernel) gM
  have gR_1137 := st_gR_t F_1137 (by decide +kernel) gR
  have gL_1137 := st_gL_t F_1137 (by decide +kernel) gL
  have gJ_1137 := st_gJ_t F_1137 (by decide +kernel) gJ
  have hT_1137 := st_hT_t F_1137 (by decide +kernel) hT
  have hS_1137 := st_hS_t F_1137 (by decide +kernel) hS
  have hM_1137 := st_hM_t F_1137 (by decide +kernel) hM
  have hR_1137 := st_hR_t F_1137 (by decide +kernel) hR
  have hL_1137 := st_hL_t F_1137 (by decide +kernel) hL
  refine ik_F_mono (rp_keep0 (f := fun j => ([pl, 0, 0, 0, 0, 0, 0, 0, 0, 0, tn, fp, sc0, sc1, sc2, sc3, sc4, sc5, 0, 0, 0, 0, 0, 0, w24, 0, 0, 0, 0, 0, 0, 0, sb, wa, 0, 0, r, 0, 0, 0, 0, 0, 0] : List Int).getD j 0) (s := s) (t0 := ga0) (t1 := ga1) (ka := ka) (pa := pa) (fa := fa) (kb := kb) (pb := pb) (fb := fb) (xa := xa) (xb := xb) (mi := mi) (sd := sd) (ch := chr) (im := im)  g_1137_66 g_1137_69 n69 g_1137_70 g_1137_71 g_1137_92 n92 g_1137_93 k_1137) ?_
  rintro _ h_1138 ⟨im'_1138, rfl, e_1138_92, m_1138_92, e_1138_93, p_1138_0, p_1138_1, F_1138⟩
  have k_1138 := F_1138.1.trans k_1137
  have g_1138_0 := (F_1138.2 0 (by decide +kernel)).trans g_1137_0
  have g_1138_7 := (F_1138.2 7 (by decide +kernel)).trans g_1137_7
  have g_1138_8 := (F_1138.2 8 (by decide +kernel)).trans g_1137_8
  have g_1138_9 := (F_1138.2 9 (by decide +kernel)).trans g_1137_9
  have g_1138_10 := (F_1138.2 10 (by decide +kernel)).trans g_1137_10
  have g_1138_11 := (F_1138.2 11 (by decide +kernel)).trans g_1137_11
  have g_1138_12 := (F_1138.2 12 (by decide +kernel)).trans g_1137_12
  have g_1138_13 := (F_1138.2 13 (by decide +kernel)).trans g_1137_13
  have g_1138_14 := (F_1138.2 14 (by decide +kernel)).trans g_1137_14
  have g_1138_15 := (F_1138.2 15 (by decide +kernel)).trans g_1137_15
  have g_1138_16 := (F_1138.2 16 (by decide +kernel)).trans g_1137_16
  have g_1138_18 := (F_1138.2 18 (by decide +kernel)).trans g_1137_18
  have g_1138_57 := (F_1138.2 57 (by decide +kernel)).trans g_1137_57
  have g_1138_58 := (F_1138.2 58 (by decide +kernel)).trans g_1137_58
  have g_1138_59 := (F_1138.2 59 (by decide +kernel)).trans g_1137_59
  have g_1138_60 := (F_1138.2 60 (by decide +kernel)).trans g_1137_60
  have g_1138_61 := (F_1138.2 61 (by decide +kernel)).trans g_1137_61
  have g_1138_66 := (F_1138.2 66 (by decide +kernel)).trans g_1137_66
  have g_1138_67 := (F_1138.2 67 (by decide +kernel)).trans g_1137_67
  have g_1138_68 := (F_1138.2 68 (by decide +kernel)).trans g_1137_68
  have g_1138_69 := (F_1138.2 69 (by decide +kernel)).trans g_1137_69
  have g_1138_70 := (F_1138.2 70 (by decide +kernel)).trans g_1137_70
  have g_1138_71 := (F_1138.2 71 (by decide +kernel)).trans g_1137_71
  have g_1138_92 : cE h_1138 92 (.inl (.int, fA im'_1138)) := e_1138_92
  have g_1138_93 : cE h_1138 93 (.inl (.boolean, fA [1, ga1])) := e_1138_93
  refine ⟨rfl, ?_⟩
  have gT_1138 := st_gT_t F_1138 (by decide +kernel) gT_1137
  have gS_1138 := st_gS_t F_1138 (by decide +kernel) gS_1137
  have gV_1138 := st_gV_t F_1138 (by decide +kernel) gV_1137
  have gW_1138 := st_gW_t F_1138 (by decide +kernel) gW_1137
  have gM_1138 := st_gM_t F_1138 (by decide +kernel) gM_1137
  have gR_1138 := st_gR_t F_1138 (by decide +kernel) gR_1137
  have gL_1138 := st_gL_t F_1138 (by decide +kernel) gL_1137
  have gJ_1138 := st_gJ_t F_1138 (by decide +kernel) gJ_1137
  have hT_1138 := st_hT_t F_1138 (by decide +kernel) hT_1137
  have hS_1138 := st_hS_t F_1138 (by decide +kernel) hS_1137
  have hM_1138 := st_hM_t F_1138 (by decide +kernel) hM_1137
  have hR_1138 := st_hR_t F_1138 (by decide +kernel) hR_1137
  have hL_1138 := st_hL_t F_1138 (by decide +kernel) hL_1137
  intro C_ k_
  exact k_ tn fp pl mi sd ka pa fa kb pb fb xa xb r n0 n1 1 mi sd ((s : Nat) : Int) ka pa fa kb pb fb xa xb ga1 gm1 gd_1 gs1 g10 g11 g12 g13 g14 g15 gx1 gy1 s T cn go ch wg wc we rp rt lr ch ci1 cnr gor chr T2 im'_1138 f_pl f_s f_st f_cb f_cr f_rw f_al f_wy f_k f_p f_x (by omega) f_sd f_r f_rr f_n f_l0 f_l1 f_tn f_t (Or.inr ⟨rfl, s, chr, rfl, f_s, f_st, f_rw, n69, p_1138_0, f_al, f_k, f_p, f_x, by omega, f_sd⟩) (st_I_K (st_I_o f_i1 p_1138_1 (by omega))) ⟨g_1138_0, g_1138_18, g_1138_57⟩ gT_1138 ⟨g_1138_7, g_1138_8, n8, g_1138_9, n9, g_1138_10, n10, g_1138_11, n11, g_1138_12, n12, g_1138_13, n13⟩ ⟨g_1138_14, g_1138_15, g_1138_16⟩ gS_1138 gV_1138 gW_1138 gM_1138 gR_1138 gL_1138 ⟨g_1138_58, g_1138_59, g_1138_60, g_1138_61, m_1137_61⟩ gJ_1138 ⟨sc0, sc1, sc2, sc3, sc4, sc5, w24, sb, wa, g_1138_66⟩ ⟨g_1138_67, n67, g_1138_68, n68, g_1138_69, n69⟩ ⟨g_1138_70, g_1138_71⟩ hT_1138 hS_1138 hM_1138 hR_1138 hL_1138 ⟨g_1138_92, m_1138_92, g_1138_93⟩ k_1138

set_option maxRecDepth 100000 in
theorem lk_keep1 {K : Nat} {h : List ik_E} (E : st_S K h) (hK : K ≤ 600)    : ik_F 119 [.ref 0, fI 1] h (fun rv h' => ∃ o_ : Int, rv = [fI o_] ∧ (h'.length = 94 ∧ ∃ fs, h'[66]? = some (.inr (10, fs))) ∧ ik_F 209 [.ref 66, fI 1] h' (fun rv' h'' => rv' = [fI o_] ∧ st_S (K + 1) h'')) := by
  refine E _ ?_
  intro tn fp pl mi sd ka pa fa kb pb fb xa xb r n0 n1 ga0 gm0 gd_0 gs0 g00 g01 g02 g03 g04 g05 gx0 gy0 ga1 gm1 gd_1 gs1 g10 g11 g12 g13 g14 g15 gx1 gy1 s T cn go ch wg wc we rp rt lr ci0 ci1 cnr gor chr T2 im f_pl f_s f_st f_cb f_cr f_rw f_al f_wy f_k f_p f_x f_m f_sd f_r f_rr f_n f_l0 f_l1 f_tn f_t f_i0 f_i1 gA gT gB gC gS gV gW gM gR gL gI gJ hO hB hC hT hS hM hR hL hI hl
  obtain ⟨h0, h18, h57⟩ := gA
  obtain ⟨h7, h8, n8, h9, n9, h10, n10, h11, n11, h12, n12, h13, n13⟩ := gB
  obtain ⟨h14, h15, h16⟩ := gC
  obtain ⟨h62, h63, h64, h65, n65⟩ := gJ
  obtain ⟨sc0, sc1, sc2, sc3, sc4, sc5, w24, sb, wa, h66⟩ := hO
  obtain ⟨h67, n67, h68, n68, h69, n69⟩ := hB
  obtain ⟨h70, h71⟩ := hC
  obtain ⟨h92, n92, h93⟩ := hI
  refine ik_F_mono (cp_keep1 (pl := pl) (st := ((s : Nat) : Int)) (lo := ((mj_lost pl cn go : Nat) : Int)) (it := ga1) (im_ := gm1) (id_ := gd_1) (is_ := gs1) (e0 := g10) (e1 := g11) (e2 := g12) (e3 := g13) (e4 := g14) (e5 := g15) (y0 := gx1) (y1 := gy1) (ci := ci1) (ka := ka) (pa := pa) (fa := fa) (kb := kb) (pb := pb) (fb := fb) (xa := xa) (xb := xb) (mi := mi) (dr := sd) (ch := ch)  h0 h7 h10 n10 h14 h15 h16 h57 h62 h63 h64 h65 n65 hl) ?_
  rintro _ h_1139 ⟨rfl, e_1139_62, e_1139_63, e_1139_64, e_1139_65, m_1139_65, F_1139⟩
  have k_1139 := F_1139.1.trans hl
  have g_1139_0 := (F_1139.2 0 (by decide +kernel)).trans h0
  have g_1139_7 := (F_1139.2 7 (by decide +kernel)).trans h7
  have g_1139_8 := (F_1139.2 8 (by decide +kernel)).trans h8
  have g_1139_9 := (F_1139.2 9 (by decide +kernel)).trans h9
  have g_1139_10 := (F_1139.2 10 (by decide +kernel)).trans h10
  have g_1139_11 := (F_1139.2 11 (by decide +kernel)).trans h11
  have g_1139_12 := (F_1139.2 12 (by decide +kernel)).trans h12
  have g_1139_13 := (F_1139.2 13 (by decide +kernel)).trans h13
  have g_1139_14 := (F_1139.2 14 (by decide +kernel)).trans h14
  have g_1139_15 := (F_1139.2 15 (by decide +kernel)).trans h15
  have g_1139_16 := (F_1139.2 16 (by decide +kernel)).trans h16
  have g_1139_18 := (F_1139.2 18 (by decide +kernel)).trans h18
  have g_1139_57 := (F_1139.2 57 (by decide +kernel)).trans h57
  have g_1139_66 := (F_1139.2 66 (by decide +kernel)).trans h66
  have g_1139_67 := (F_1139.2 67 (by decide +kernel)).trans h67
  have g_1139_68 := (F_1139.2 68 (by decide +kernel)).trans h68
  have g_1139_69 := (F_1139.2 69 (by decide +kernel)).trans h69
  have g_1139_70 := (F_1139.2 70 (by decide +kernel)).trans h70
  have g_1139_71 := (F_1139.2 71 (by decide +kernel)).trans h71
  have g_1139_92 := (F_1139.2 92 (by decide +kernel)).trans h92
  have g_1139_93 := (F_1139.2 93 (by decide +kernel)).trans h93
  have g_1139_62 : cE h_1139 62 (.inr (3, [fI 1, .ref 63, .ref 64, fI mi, fJ sd, fI ((s : Nat) : Int), .ref 65])) := e_1139_62
  have g_1139_63 : cE h_1139 63 (.inl (.int, fA [ka, pa, fa, kb, pb, fb])) := e_1139_63
  have g_1139_64 : cE h_1139 64 (.inl (.int, fA [xa, xb])) := e_1139_64
  have g_1139_65 : cE h_1139 65 (.inl (.int, fA ch)) := e_1139_65
  refine ⟨1, rfl, ⟨k_1139, _, g_1139_66⟩, ?_⟩
  have gT_1139 := st_gT_t F_1139 (by decide +kernel) gT
  have gS_1139 := st_gS_t F_1139 (by decide +kernel) gS
  have gV_1139 := st_gV_t F_1139 (by decide +kernel) gV
  have gW_1139 := st_gW_t F_1139 (by decide +kernel) gW
  have gM_1139 := st_gM_t F_1139 (by decide +kernel) gM
  have gR_1139 := st_gR_t F_1139 (by decide +kernel) gR
  have gL_1139 := st_gL_t F_1139 (by decide +kernel) gL
  have gI_1139 := st_gI_t F_1139 (by decide +kernel) gI
  have hT_1139 := st_hT_t F_1139 (by decide +kernel) hT
  have hS_1139 := st_hS_t F_1139 (by decide +kernel) hS
  have hM_1139 := st_hM_t F_1139 (by decide +kernel) hM
  have hR_1139 := st_hR_t F_1139 (by decide +kernel) hR
  have hL_1139 := st_hL_t F_1139 (by decide +kernel) hL
  refine ik_F_mono (rp_keep1 (f := fun j => ([pl, 0, 0, 0, 0, 0, 0, 0, 0, 0, tn, fp, sc0, sc1, sc2, sc3, sc4, sc5, 0, 0, 0, 0, 0, 0, w24, 0, 0, 0, 0, 0, 0, 0, sb, wa, 0, 0, r, 0, 0, 0, 0, 0, 0] : List Int).getD j 0) (s := s) (t0 := ga0) (t1 := ga1) (ka := ka) (pa := pa) (fa := fa) (kb := kb) (pb := pb) (fb := fb) (xa := xa) (xb := xb) (mi := mi) (sd := sd) (ch := chr) (im := im)  g_1139_66 g_1139_69 n69 g_1139_70 g_1139_71 g_1139_92 n92 g_1139_93 k_1139) ?_
  rintro _ h_1140 ⟨im'_1140, rfl, e_1140_92, m_1140_92, e_1140_93, p_1140_0, p_1140_1, F_1140⟩
  have k_1140 := F_1140.1.trans k_1139
  have g_1140_0 := (F_1140.2 0 (by decide +kernel)).trans g_1139_0
  have g_1140_7 := (F_1140.2 7 (by decide +kernel)).trans g_1139_7
  have g_1140_8 := (F_1140.2 8 (by decide +kernel)).trans g_1139_8
  have g_1140_9 := (F_1140.2 9 (by decide +kernel)).trans g_1139_9
  have g_1140_10 := (F_1140.2 10 (by decide +kernel)).trans g_1139_10
  have g_1140_11 := (F_1140.2 11 (by decide +kernel)).trans g_1139_11
  have g_1140_12 := (F_1140.2 12 (by decide +kernel)).trans g_1139_12
  have g_1140_13 := (F_1140.2 13 (by decide +kernel)).trans g_1139_13
  have g_1140_14 := (F_1140.2 14 (by decide +kernel)).trans g_1139_14
  have g_1140_15 := (F_1140.2 15 (by decide +kernel)).trans g_1139_15
  have g_1140_16 := (F_1140.2 16 (by decide +kernel)).trans g_1139_16
  have g_1140_18 := (F_1140.2 18 (by decide +kernel)).trans g_1139_18
  have g_1140_57 := (F_1140.2 57 (by decide +kernel)).trans g_1139_57
  have g_1140_62 := (F_1140.2 62 (by decide +kernel)).trans g_1139_62
  have g_1140_63 := (F_1140.2 63 (by decide +kernel)).trans g_1139_63
  have g_1140_64 := (F_1140.2 64 (by decide +kernel)).trans g_1139_64
  have g_1140_65 := (F_1140.2 65 (by decide +kernel)).trans g_1139_65
  have g_1140_66 := (F_1140.2 66 (by decide +kernel)).trans g_1139_66
  have g_1140_67 := (F_1140.2 67 (by decide +kernel)).trans g_1139_67
  have g_1140_68 := (F_1140.2 68 (by decide +kernel)).trans g_1139_68
  have g_1140_69 := (F_1140.2 69 (by decide +kernel)).trans g_1139_69
  have g_1140_70 := (F_1140.2 70 (by decide +kernel)).trans g_1139_70
  have g_1140_71 := (F_1140.2 71 (by decide +kernel)).trans g_1139_71
  have g_1140_92 : cE h_1140 92 (.inl (.int, fA im'_1140)) := e_1140_92
  have g_1140_93 : cE h_1140 93 (.inl (.boolean, fA [ga0, 1])) := e_1140_93
  refine ⟨rfl, ?_⟩
  have gT_1140 := st_gT_t F_1140 (by decide +kernel) gT_1139
  have gS_1140 := st_gS_t F_1140 (by decide +kernel) gS_1139
  have gV_1140 := st_gV_t F_1140 (by decide +kernel) gV_1139
  have gW_1140 := st_gW_t F_1140 (by decide +kernel) gW_1139
  have gM_1140 := st_gM_t F_1140 (by decide +kernel) gM_1139
  have gR_1140 := st_gR_t F_1140 (by decide +kernel) gR_1139
  have gL_1140 := st_gL_t F_1140 (by decide +kernel) gL_1139
  have gI_1140 := st_gI_t F_1140 (by decide +kernel) gI_1139
  have hT_1140 := st_hT_t F_1140 (by decide +kernel) hT_1139
  have hS_1140 := st_hS_t F_1140 (by decide +kernel) hS_1139
  have hM_1140 := st_hM_t F_1140 (by decide +kernel) hM_1139
  have hR_1140 := st_hR_t F_1140 (by decide +kernel) hR_1139
  have hL_1140 := st_hL_t F_1140 (by decide +kernel) hL_1139
  intro C_ k_
  exact k_ tn fp pl mi sd ka pa fa kb pb fb xa xb r n0 n1 ga0 gm0 gd_0 gs0 g00 g01 g02 g03 g04 g05 gx0 gy0 1 mi sd ((s : Nat) : Int) ka pa fa kb pb fb xa xb s T cn go ch wg wc we rp rt lr ci0 ch cnr gor chr T2 im'_1140 f_pl f_s f_st f_cb f_cr f_rw f_al f_wy f_k f_p f_x (by omega) f_sd f_r f_rr f_n f_l0 f_l1 f_tn f_t (st_I_K (st_I_o f_i0 p_1140_1 (by omega))) (Or.inr ⟨rfl, s, chr, rfl, f_s, f_st, f_rw, n69, p_1140_0, f_al, f_k, f_p, f_x, by omega, f_sd⟩) ⟨g_1140_0, g_1140_18, g_1140_57⟩ gT_1140 ⟨g_1140_7, g_1140_8, n8, g_1140_9, n9, g_1140_10, n10, g_1140_11, n11, g_1140_12, n12, g_1140_13, n13⟩ ⟨g_1140_14, g_1140_15, g_1140_16⟩ gS_1140 gV_1140 gW_1140 gM_1140 gR_1140 gL_1140 gI_1140 ⟨g_1140_62, g_1140_63, g_1140_64, g_1140_65, m_1139_65⟩ ⟨sc0, sc1, sc2, sc3, sc4, sc5, w24, sb, wa, g_1140_66⟩ ⟨g_1140_67, n67, g_1140_68, n68, g_1140_69, n69⟩ ⟨g_1140_70, g_1140_71⟩ hT_1140 hS_1140 hM_1140 hR_1140 hL_1140 ⟨g_1140_92, m_1140_92, g_1140_93⟩ k_1140

set_option maxRecDepth 100000 in
theorem lk_keepE {K : Nat} {h : List ik_E} (E : st_S K h) (hK : K ≤ 600) {i : Int} (z_i : -2147483648 ≤ i ∧ i < 2147483648) (q1 : i < 0 ∨ 1 < i) : ik_F 119 [.ref 0, fI i] h (fun rv h' => ∃ o_ : Int, rv = [fI o_] ∧ (h'.length = 94 ∧ ∃ fs, h'[66]? = some (.inr (10, fs))) ∧ ik_F 209 [.ref 66, fI i] h' (fun rv' h'' => rv' = [fI o_] ∧ st_S (K + 1) h'')) := by
  refine E _ ?_
  intro tn fp pl mi sd ka pa fa kb pb fb xa xb r n0 n1 ga0 gm0 gd_0 gs0 g00 g01 g02 g03 g04 g05 gx0 gy0 ga1 gm1 gd_1 gs1 g10 g11 g12 g13 g14 g15 gx1 gy1 s T cn go ch wg wc we rp rt lr ci0 ci1 cnr gor chr T2 im f_pl f_s f_st f_cb f_cr f_rw f_al f_wy f_k f_p f_x f_m f_sd f_r f_rr f_n f_l0 f_l1 f_tn f_t f_i0 f_i1 gA gT gB gC gS gV gW gM gR gL gI gJ hO hB hC hT hS hM hR hL hI hl
  obtain ⟨h0, h18, h57⟩ := gA
  obtain ⟨sc0, sc1, sc2, sc3, sc4, sc5, w24, sb, wa, h66⟩ := hO
  refine ik_F_mono (cp_keepE (i := i) z_i q1 h0 h57 hl) ?_
  rintro _ h_1141 ⟨rfl, F_1141⟩
  have k_1141 := F_1141.1.trans hl
  have g_1141_0 := (F_1141.2 0 (by decide +kernel)).trans h0
  have g_1141_18 := (F_1141.2 18 (by decide +kernel)).trans h18
  have g_1141_57 := (F_1141.2 57 (by decide +kernel)).trans h57
  have g_1141_66 := (F_1141.2 66 (by decide +kernel)).trans h66
  refine ⟨-1000000001, rfl, ⟨k_1141, _, g_1141_66⟩, ?_⟩
  have gT_1141 := st_gT_t F_1141 (by decide +kernel) gT
  have gB_1141 := st_gB_t F_1141 (by decide +kernel) gB
  have gC_1141 := st_gC_t F_1141 (by decide +kernel) gC
  have gS_1141 := st_gS_t F_1141 (by decide +kernel) gS
  have gV_1141 := st_gV_t F_1141 (by decide +kernel) gV
  have gW_1141 := st_gW_t F_1141 (by decide +kernel) gW
  have gM_1141 := st_gM_t F_1141 (by decide +kernel) gM
  have gR_1141 := st_gR_t F_1141 (by decide +kernel) gR
  have gL_1141 := st_gL_t F_1141 (by decide +kernel) gL
  have gI_1141 := st_gI_t F_1141 (by decide +kernel) gI
  have gJ_1141 := st_gJ_t F_1141 (by decide +kernel) gJ
  have hB_1141 := st_hB_t F_1141 (by decide +kernel) hB
  have hC_1141 := st_hC_t F_1141 (by decide +kernel) hC
  have hT_1141 := st_hT_t F_1141 (by decide +kernel) hT
  have hS_1141 := st_hS_t F_1141 (by decide +kernel) hS
  have hM_1141 := st_hM_t F_1141 (by decide +kernel) hM
  have hR_1141 := st_hR_t F_1141 (by decide +kernel) hR
  have hL_1141 := st_hL_t F_1141 (by decide +kernel) hL
  have hI_1141 := st_hI_t F_1141 (by decide +kernel) hI
  refine ik_F_mono (rp_keepE (f := fun j => ([pl, 0, 0, 0, ((s : Nat) : Int), 0, 0, mi, sd, 0, tn, fp, sc0, sc1, sc2, sc3, sc4, sc5, 0, 0, 0, 0, 0, 0, w24, 0, 0, 0, 0, 0, 0, 0, sb, wa, 0, 0, r, 0, 0, 0, 0, 0, 0] : List Int).getD j 0) (i := i) z_i q1 g_1141_66 k_1141) ?_
  rintro _ h_1142 ⟨rfl, F_1142⟩
  have k_1142 := F_1142.1.trans k_1141
  have g_1142_0 := (F_1142.2 0 (by decide +kernel)).trans g_1141_0
  have g_1142_18 := (F_1142.2 18 (by decide +kernel)).trans g_1141_18
  have g_1142_57 := (F_1142.2 57 (by decide +kernel)).trans g_1141_57
  have g_1142_66 := (F_1142.2 66 (by decide +kernel)).trans g_1141_66
  refine ⟨rfl, ?_⟩
  have gT_1142 := st_gT_t F_1142 (by decide +kernel) gT_1141
  have gB_1142 := st_gB_t F_1142 (by decide +kernel) gB_1141
  have gC_1142 := st_gC_t F_1142 (by decide +kernel) gC_1141
  have gS_1142 := st_gS_t F_1142 (by decide +kernel) gS_1141
  have gV_1142 := st_gV_t F_1142 (by decide +kernel) gV_1141
  have gW_1142 := st_gW_t F_1142 (by decide +kernel) gW_1141
  have gM_1142 := st_gM_t F_1142 (by decide +kernel) gM_1141
  have gR_1142 := st_gR_t F_1142 (by decide +kernel) gR_1141
  have gL_1142 := st_gL_t F_1142 (by decide +kernel) gL_1141
  have gI_1142 := st_gI_t F_1142 (by decide +kernel) gI_1141
  have gJ_1142 := st_gJ_t F_1142 (by decide +kernel) gJ_1141
  have hB_1142 := st_hB_t F_1142 (by decide +kernel) hB_1141
  have hC_1142 := st_hC_t F_1142 (by decide +kernel) hC_1141
  have hT_1142 := st_hT_t F_1142 (by decide +kernel) hT_1141
  have hS_1142 := st_hS_t F_1142 (by decide +kernel) hS_1141
  have hM_1142 := st_hM_t F_1142 (by decide +kernel) hM_1141
  have hR_1142 := st_hR_t F_1142 (by decide +kernel) hR_1141
  have hL_1142 := st_hL_t F_1142 (by decide +kernel) hL_1141
  have hI_1142 := st_hI_t F_1142 (by decide +kernel) hI_1141
  intro C_ k_
  exact k_ tn fp pl mi sd ka pa fa kb pb fb xa xb r n0 n1 ga0 gm0 gd_0 gs0 g00 g01 g02 g03 g04 g05 gx0 gy0 ga1 gm1 gd_1 gs1 g10 g11 g12 g13 g14 g15 gx1 gy1 s T cn go ch wg wc we rp rt lr ci0 ci1 cnr gor chr T2 im f_pl f_s f_st f_cb f_cr f_rw f_al f_wy f_k f_p f_x (by omega) f_sd f_r f_rr f_n f_l0 f_l1 f_tn f_t (st_I_K f_i0) (st_I_K f_i1) ⟨g_1142_0, g_1142_18, g_1142_57⟩ gT_1142 gB_1142 gC_1142 gS_1142 gV_1142 gW_1142 gM_1142 gR_1142 gL_1142 gI_1142 gJ_1142 ⟨sc0, sc1, sc2, sc3, sc4, sc5, w24, sb, wa, g_1142_66⟩ hB_1142 hC_1142 hT_1142 hS_1142 hM_1142 hR_1142 hL_1142 hI_1142 k_1142

set_option maxRecDepth 100000 in
theorem lk_goBackE {K : Nat} {h : List ik_E} (E : st_S K h) (hK : K ≤ 600) {i : Int} (z_i : -2147483648 ≤ i ∧ i < 2147483648) (q1 : i < 0 ∨ 1 < i) : ik_F 120 [.ref 0, fI i] h (fun rv h' => ∃ o_ : Int, rv = [fI o_] ∧ (h'.length = 94 ∧ ∃ fs, h'[66]? = some (.inr (10, fs))) ∧ ik_F 210 [.ref 66, fI i] h' (fun rv' h'' => rv' = [fI o_] ∧ st_S (K + 1) h'')) := by
  refine E _ ?_
  intro tn fp pl mi sd ka pa fa kb pb fb xa xb r n0 n1 ga0 gm0 gd_0 gs0 g00 g01 g02 g03 g04 g05 gx0 gy0 ga1 gm1 gd_1 gs1 g10 g11 g12 g13 g14 g15 gx1 gy1 s T cn go ch wg wc we rp rt lr ci0 ci1 cnr gor chr T2 im f_pl f_s f_st f_cb f_cr f_rw f_al f_wy f_k f_p f_x f_m f_sd f_r f_rr f_n f_l0 f_l1 f_tn f_t f_i0 f_i1 gA gT gB gC gS gV gW gM gR gL gI gJ hO hB hC hT hS hM hR hL hI hl
  obtain ⟨h0, h18, h57⟩ := gA
  obtain ⟨sc0, sc1, sc2, sc3, sc4, sc5, w24, sb, wa, h66⟩ := hO
  refine ik_F_mono (cp_goBackE (i := i) z_i q1 h0 h57 hl) ?_
  rintro _ h_1143 ⟨rfl, F_1143⟩
  have k_1143 := F_1143.1.trans hl
  have g_1143_0 := (F_1143.2 0 (by decide +kernel)).trans h0
  have g_1143_18 := (F_1143.2 18 (by decide +kernel)).trans h18
  have g_1143_57 := (F_1143.2 57 (by decide +kernel)).trans h57
  have g_1143_66 := (F_1143.2 66 (by decide +kernel)).trans h66
  refine ⟨-1000000001, rfl, ⟨k_1143, _, g_1143_66⟩, ?_⟩
  have gT_1143 := st_gT_t F_1143 (by decide +kernel) gT
  have gB_1143 := st_gB_t F_1143 (by decide +kernel) gB
  have gC_1143 := st_gC_t F_1143 (by decide +kernel) gC
  have gS_1143 := st_gS_t F_1143 (by decide +kernel) gS
  have gV_1143 := st_gV_t F_1143 (by decide +kernel) gV
  have gW_1143 := st_gW_t F_1143 (by decide +kernel) gW
  have gM_1143 := st_gM_t F_1143 (by decide +kernel) gM
  have gR_1143 := st_gR_t F_1143 (by decide +kernel) gR
  have gL_1143 := st_gL_t F_1143 (by decide +kernel) gL
  have gI_1143 := st_gI_t F_1143 (by decide +kernel) gI
  have gJ_1143 := st_gJ_t F_1143 (by decide +kernel) gJ
  have hB_1143 := st_hB_t F_1143 (by decide +kernel) hB
  have hC_1143 := st_hC_t F_1143 (by decide +kernel) hC
  have hT_1143 := st_hT_t F_1143 (by decide +kernel) hT
  have hS_1143 := st_hS_t F_1143 (by decide +kernel) hS
  have hM_1143 := st_hM_t F_1143 (by decide +kernel) hM
  have hR_1143 := st_hR_t F_1143 (by decide +kernel) hR
  have hL_1143 := st_hL_t F_1143 (by decide +kernel) hL
  have hI_1143 := st_hI_t F_1143 (by decide +kernel) hI
  refine ik_F_mono (rp_goBackE (f := fun j => ([pl, 0, 0, 0, ((s : Nat) : Int), 0, 0, mi, sd, 0, tn, fp, sc0, sc1, sc2, sc3, sc4, sc5, 0, 0, 0, 0, 0, 0, w24, 0, 0, 0, 0, 0, 0, 0, sb, wa, 0, 0, r, 0, 0, 0, 0, 0, 0] : List Int).getD j 0) (i := i) z_i q1 g_1143_66 k_1143) ?_
  rintro _ h_1144 ⟨rfl, F_1144⟩
  have k_1144 := F_1144.1.trans k_1143
  have g_1144_0 := (F_1144.2 0 (by decide +kernel)).trans g_1143_0
  have g_1144_18 := (F_1144.2 18 (by decide +kernel)).trans g_1143_18
  have g_1144_57 := (F_1144.2 57 (by decide +kernel)).trans g_1143_57
  have g_1144_66 := (F_1144.2 66 (by decide +kernel)).trans g_1143_66
  refine ⟨rfl, ?_⟩
  have gT_1144 := st_gT_t F_1144 (by decide +kernel) gT_1143
  have gB_1144 := st_gB_t F_1144 (by decide +kernel) gB_1143
  have gC_1144 := st_gC_t F_1144 (by decide +kernel) gC_1143
  have gS_1144 := st_gS_t F_1144 (by decide +kernel) gS_1143
  have gV_1144 := st_gV_t F_1144 (by decide +kernel) gV_1143
  have gW_1144 := st_gW_t F_1144 (by decide +kernel) gW_1143
  have gM_1144 := st_gM_t F_1144 (by decide +kernel) gM_1143
  have gR_1144 := st_gR_t F_1144 (by decide +kernel) gR_1143
  have gL_1144 := st_gL_t F_1144 (by decide +kernel) gL_1143
  have gI_1144 := st_gI_t F_1144 (by decide +kernel) gI_1143
  have gJ_1144 := st_gJ_t F_1144 (by decide +kernel) gJ_1143
  have hB_1144 := st_hB_t F_1144 (by decide +kernel) hB_1143
  have hC_1144 := st_hC_t F_1144 (by decide +kernel) hC_1143
  have hT_1144 := st_hT_t F_1144 (by decide +kernel) hT_1143
  have hS_1144 := st_hS_t F_1144 (by decide +kernel) hS_1143
  have hM_1144 := st_hM_t F_1144 (by decide +kernel) hM_1143
  have hR_1144 := st_hR_t F_1144 (by decide +kernel) hR_1143
  have hL_1144 := st_hL_t F_1144 (by decide +kernel) hL_1143
  have hI_1144 := st_hI_t F_1144 (by decide +kernel) hI_1143
  intro C_ k_
  exact k_ tn fp pl mi sd ka pa fa kb pb fb xa xb r n0 n1 ga0 gm0 gd_0 gs0 g00 g01 g02 g03 g04 g05 gx0 gy0 ga1 gm1 gd_1 gs1 g10 g11 g12 g13 g14 g15 gx1 gy1 s T cn go ch wg wc we rp rt lr ci0 ci1 cnr gor chr T2 im f_pl f_s f_st f_cb f_cr f_rw f_al f_wy f_k f_p f_x (by omega) f_sd f_r f_rr f_n f_l0 f_l1 f_tn f_t (st_I_K f_i0) (st_I_K f_i1) ⟨g_1144_0, g_1144_18, g_1144_57⟩ gT_1144 gB_1144 gC_1144 gS_1144 gV_1144 gW_1144 gM_1144 gR_1144 gL_1144 gI_1144 gJ_1144 ⟨sc0, sc1, sc2, sc3, sc4, sc5, w24, sb, wa, g_1144_66⟩ hB_1144 hC_1144 hT_1144 hS_1144 hM_1144 hR_1144 hL_1144 hI_1144 k_1144

set_option maxRecDepth 100000 in
theorem lk_goBack0 {K : Nat} {h : List ik_E} (E : st_S K h) (hK : K ≤ 600) : ik_F 120 [.ref 0, fI 0] h (fun rv h' => ∃ o_ : Int, rv = [fI o_] ∧ (h'.length = 94 ∧ ∃ fs, h'[66]? = some (.inr (10, fs))) ∧ ik_F 210 [.ref 66, fI 0] h' (fun rv' h'' => rv' = [fI o_] ∧ st_S (K + 1) h'')) := by
  refine E _ ?_
  intro tn fp pl mi sd ka pa fa kb pb fb xa xb r n0 n1 ga0 gm0 gd_0 gs0 g00 g01 g02 g03 g04 g05 gx0 gy0 ga1 gm1 gd_1 gs1 g10 g11 g12 g13 g14 g15 gx1 gy1 s T cn go ch wg wc we rp rt lr ci0 ci1 cnr gor chr T2 im f_pl f_s f_st f_cb f_cr f_rw f_al f_wy f_k f_p f_x f_m f_sd f_r f_rr f_n f_l0 f_l1 f_tn f_t f_i0 f_i1 gA gT gB gC gS gV gW gM gR gL gI gJ hO hB hC hT hS hM hR hL hI hl
  obtain ⟨h0, h18, h57⟩ := gA
  obtain ⟨h7, h8, n8, h9, n9, h10, n10, h11, n11, h12, n12, h13, n13⟩ := gB
  obtain ⟨h14, h15, h16⟩ := gC
  obtain ⟨h58, h59, h60, h61, n61⟩ := gI
  obtain ⟨sc0, sc1, sc2, sc3, sc4, sc5, w24, sb, wa, h66⟩ := hO
  obtain ⟨h67, n67, h68, n68, h69, n69⟩ := hB
  obtain ⟨h70, h71⟩ := hC
  obtain ⟨h92, n92, h93⟩ := hI
  have fi := f_i0
  rcases fi with fi | ⟨fi, s2, di, a1, a2, a3, a4, a5, a6, a7, a8, a9, a10, a11, a12⟩
  · subst fi
    refine ik_F_mono (cp_goBack0N (im_ := gm0) (id_ := gd_0) (is_ := gs0)  h0 h57 h58 hl) ?_
    rintro _ h_1145 ⟨rfl, F_1145⟩
    have k_1145 := F_1145.1.trans hl
    have g_1145_0 := (F_1145.2 0 (by decide +kernel)).trans h0
    have g_1145_7 := (F_1145.2 7 (by decide +kernel)).trans h7
    have g_1145_8 := (F_1145.2 8 (by decide +kernel)).trans h8
    have g_1145_9 := (F_1145.2 9 (by decide +kernel)).trans h9
    have g_1145_10 := (F_1145.2 10 (by decide +kernel)).trans h10
    have g_1145_11 := (F_1145.2 11 (by decide +kernel)).trans h11
    have g_1145_12 := (F_1145.2 12 (by decide +kernel)).trans h12
    have g_1145_13 := (F_1145.2 13 (by decide +kernel)).trans h13
    have g_1145_14 := (F_1145.2 14 (by decide +kernel)).trans h14
    have g_1145_15 := (F_1145.2 15 (by decide +kernel)).trans h15
    have g_1145_16 := (F_1145.2 16 (by decide +kernel)).trans h16
    have g_1145_18 := (F_1145.2 18 (by decide +kernel)).trans h18
    have g_1145_57 := (F_1145.2 57 (by decide +kernel)).trans h57
    have g_1145_58 := (F_1145.2 58 (by decide +kernel)).trans h58
    have g_1145_59 := (F_1145.2 59 (by decide +kernel)).trans h59
    have g_1145_60 := (F_1145.2 60 (by decide +kernel)).trans h60
    have g_1145_61 := (F_1145.2 61 (by decide +kernel)).trans h61
    have g_1145_66 := (F_1145.2 66 (by decide +kernel)).trans h66
    have g_1145_67 := (F_1145.2 67 (by decide +kernel)).trans h67
    have g_1145_68 := (F_1145.2 68 (by decide +kernel)).trans h68
    have g_1145_69 := (F_1145.2 69 (by decide +kernel)).trans h69
    have g_1145_70 := (F_1145.2 70 (by decide +kernel)).trans h70
    have g_1145_71 := (F_1145.2 71 (by decide +kernel)).trans h71
    have g_1145_92 := (F_1145.2 92 (by decide +kernel)).trans h92
    have g_1145_93 := (F_1145.2 93 (by decide +kernel)).trans h93
    refine ⟨-1000000003, rfl, ⟨k_1145, _, g_1145_66⟩, ?_⟩
    have gT_1145 := st_gT_t F_1145 (by decide +kernel) gT
    have gS_1145 := st_gS_t F_1145 (by decide +kernel) gS
    have gV_1145 := st_gV_t F_1145 (by decide +kernel) gV
    have gW_1145 := st_gW_t F_1145 (by decide +kernel) gW
    have gM_1145 := st_gM_t F_1145 (by decide +kernel) gM
    have gR_1145 := st_gR_t F_1145 (by decide +kernel) gR
    have gL_1145 := st_gL_t F_1145 (by decide +kernel) gL
    have gJ_1145 := st_gJ_t F_1145 (by decide +kernel) gJ
    have hT_1145 := st_hT_t F_1145 (by decide +kernel) hT
    have hS_1145 := st_hS_t F_1145 (by decide +kernel) hS
    have hM_1145 := st_hM_t F_1145 (by decide +kernel) hM
    have hR_1145 := st_hR_t F_1145 (by decide +kernel) hR
    have hL_1145 := st_hL_t F_1145 (by decide +kernel) hL
    refine ik_F_mono (rp_goBack0N (t0 := 0) (f := fun j => ([pl, 0, 0, 0, ((s : Nat) : Int), 0, 0, mi, sd, 0, tn, fp, sc0, sc1, sc2, sc3, sc4, sc5, 0, 0, 0, 0, 0, 0, w24, 0, 0, 0, 0, 0, 0, 0, sb, wa, 0, 0, r, 0, 0, 0, 0, 0, 0] : List Int).getD j 0) (t1 := ga1)  g_1145_66 g_1145_93 k_1145) ?_
    rintro _ h_1146 ⟨rfl, F_1146⟩
    have k_1146 := F_1146.1.trans k_1145
    have g_1146_0 := (F_1146.2 0 (by decide +kernel)).trans g_1145_0
    have g_1146_7 := (F_1146.2 7 (by decide +kernel)).trans g_1145_7
    have g_1146_8 := (F_1146.2 8 (by decide +kernel)).trans g_1145_8
    have g_1146_9 := (F_1146.2 9 (by decide +kernel)).trans g_1145_9
    have g_1146_10 := (F_1146.2 10 (by decide +kernel)).trans g_1145_10
    have g_1146_11 := (F_1146.2 11 (by decide +kernel)).trans g_1145_11
    have g_1146_12 := (F_1146.2 12 (by decide +kernel)).trans g_1145_12
    have g_1146_13 := (F_1146.2 13 (by decide +kernel)).trans g_1145_13
    have g_1146_14 := (F_1146.2 14 (by decide +kernel)).trans g_1145_14
    have g_1146_15 := (F_1146.2 15 (by decide +kernel)).trans g_1145_15
    have g_1146_16 := (F_1146.2 16 (by decide +kernel)).trans g_1145_16
    have g_1146_18 := (F_1146.2 18 (by decide +kernel)).trans g_1145_18
    have g_1146_57 := (F_1146.2 57 (by decide +kernel)).trans g_1145_57
    have g_1146_58 := (F_1146.2 58 (by decide +kernel)).trans g_1145_58
    have g_1146_59 := (F_1146.2 59 (by decide +kernel)).trans g_1145_59
    have g_1146_60 := (F_1146.2 60 (by decide +kernel)).trans g_1145_60
    have g_1146_61 := (F_1146.2 61 (by decide +kernel)).trans g_1145_61
    have g_1146_66 := (F_1146.2 66 (by decide +kernel)).trans g_1145_66
    have g_1146_67 := (F_1146.2 67 (by decide +kernel)).trans g_1145_67
    have g_1146_68 := (F_1146.2 68 (by decide +kernel)).trans g_1145_68
    have g_1146_69 := (F_1146.2 69 (by decide +kernel)).trans g_1145_69
    have g_1146_70 := (F_1146.2 70 (by decide +kernel)).trans g_1145_70
    have g_1146_71 := (F_1146.2 71 (by decide +kernel)).trans g_1145_71
    have g_1146_92 := (F_1146.2 92 (by decide +kernel)).trans g_1145_92
    have g_1146_93 := (F_1146.2 93 (by decide +kernel)).trans g_1145_93
    refine ⟨rfl, ?_⟩
    have gT_1146 := st_gT_t F_1146 (by decide +kernel) gT_1145
    have gS_1146 := st_gS_t F_1146 (by decide +kernel) gS_1145
    have gV_1146 := st_gV_t F_1146 (by decide +kernel) gV_1145
    have gW_1146 := st_gW_t F_1146 (by decide +kernel) gW_1145
    have gM_1146 := st_gM_t F_1146 (by decide +kernel) gM_1145
    have gR_1146 := st_gR_t F_1146 (by decide +kernel) gR_1145
    have gL_1146 := st_gL_t F_1146 (by decide +kernel) gL_1145
    have gJ_1146 := st_gJ_t F_1146 (by decide +kernel) gJ_1145
    have hT_1146 := st_hT_t F_1146 (by decide +kernel) hT_1145
    have hS_1146 := st_hS_t F_1146 (by decide +kernel) hS_1145
    have hM_1146 := st_hM_t F_1146 (by decide +kernel) hM_1145
    have hR_1146 := st_hR_t F_1146 (by decide +kernel) hR_1145
    have hL_1146 := st_hL_t F_1146 (by decide +kernel) hL_1145
    intro C_ k_
    exact k_ tn fp pl mi sd ka pa fa kb pb fb xa xb r n0 n1 0 gm0 gd_0 gs0 g00 g01 g02 g03 g04 g05 gx0 gy0 ga1 gm1 gd_1 gs1 g10 g11 g12 g13 g14 g15 gx1 gy1 s T cn go ch wg wc we rp rt lr ci0 ci1 cnr gor chr T2 im f_pl f_s f_st f_cb f_cr f_rw f_al f_wy f_k f_p f_x (by omega) f_sd f_r f_rr f_n f_l0 f_l1 f_tn f_t (Or.inl rfl) (st_I_K f_i1) ⟨g_1146_0, g_1146_18, g_1146_57⟩ gT_1146 ⟨g_1146_7, g_1146_8, n8, g_1146_9, n9, g_1146_10, n10, g_1146_11, n11, g_1146_12, n12, g_1146_13, n13⟩ ⟨g_1146_14, g_1146_15, g_1146_16⟩ gS_1146 gV_1146 gW_1146 gM_1146 gR_1146 gL_1146 ⟨g_1146_58, g_1146_59, g_1146_60, g_1146_61, n61⟩ gJ_1146 ⟨sc0, sc1, sc2, sc3, sc4, sc5, w24, sb, wa, g_1146_66⟩ ⟨g_1146_67, n67, g_1146_68, n68, g_1146_69, n69⟩ ⟨g_1146_70, g_1146_71⟩ hT_1146 hS_1146 hM_1146 hR_1146 hL_1146 ⟨g_1146_92, n92, g_1146_93⟩ k_1146
  · subst fi
    subst a1
    refine ik_F_mono (cp_goBack0T (pl := pl) (s := s) (lo := ((mj_lost pl cn go : Nat) : Int)) (im_ := gm0) (id_ := gd_0) (s2 := s2) (e0 := g00) (e1 := g01) (e2 := g02) (e3 := g03) (e4 := g04) (e5 := g05) (y0 := gx0) (y1 := gy0) (ci := ci0) (ka := ka) (pa := pa) (fa := fa) (kb := kb) (pb := pb) (fb := fb) (xa := xa) (xb := xb) (mi := mi) (dr := sd) (cn := cn) (go := go) (ch := ch) (wg := wg) (wc := wc) (we := we) f_pl a2 a4 f_cb a3 h0 h7 h8 n8 h9 n9 h10 n10 h11 n11 h12 n12 h13 n13 h14 h15 h16 h57 h58 h59 h60 h61 n61 hl) ?_
    rintro _ h_1147 ⟨wg'_1147, wc'_1147, we'_1147, rfl, e_1147_7, e_1147_10, m_1147_10, e_1147_11, m_1147_11, e_1147_12, m_1147_12, e_1147_13, m_1147_13, e_1147_14, e_1147_15, e_1147_16, p_1147_0, F_1147⟩
    have k_1147 := F_1147.1.trans hl
    have g_1147_0 := (F_1147.2 0 (by decide +kernel)).trans h0
    have g_1147_8 := (F_1147.2 8 (by decide +kernel)).trans h8
    have g_1147_9 := (F_1147.2 9 (by decide +kernel)).trans h9
    have g_1147_18 := (F_1147.2 18 (by decide +kernel)).trans h18
    have g_1147_57 := (F_1147.2 57 (by decide +kernel)).trans h57
    have g_1147_58 := (F_1147.2 58 (by decide +kernel)).trans h58
    have g_1147_59 := (F_1147.2 59 (by decide +kernel)).trans h59
    have g_1147_60 := (F_1147.2 60 (by decide +kernel)).trans h60
    have g_1147_61 := (F_1147.2 61 (by decide +kernel)).trans h61
    have g_1147_66 := (F_1147.2 66 (by decide +kernel)).trans h66
    have g_1147_67 := (F_1147.2 67 (by decide +kernel)).trans h67
    have g_1147_68 := (F_1147.2 68 (by decide +kernel)).trans h68
    have g_1147_69 := (F_1147.2 69 (by decide +kernel)).trans h69
    have g_1147_70 := (F_1147.2 70 (by decide +kernel)).trans h70
    have g_1147_71 := (F_1147.2 71 (by decide +kernel)).trans h71
    have g_1147_92 := (F_1147.2 92 (by decide +kernel)).trans h92
    have g_1147_93 := (F_1147.2 93 (by decide +kernel)).trans h93
    have g_1147_7 : cE h_1147 7 (.inr (0, [fI pl, fI ((s2 : Nat) : Int), fI ((mj_lost pl cn go : Nat) : Int), .ref 8, .ref 9, .ref 10, .ref 11, .ref 12, .ref 13])) := e_1147_7
    have g_1147_10 : cE h_1147 10 (.inl (.int, fA ci0)) := e_1147_10
    have g_1147_11 : cE h_1147 11 (.inl (.int, fA wg'_1147)) := e_1147_11
    have g_1147_12 : cE h_1147 12 (.inl (.int, fA wc'_1147)) := e_1147_12
    have g_1147_13 : cE h_1147 13 (.inl (.int, fA we'_1147)) := e_1147_13
    have g_1147_14 : cE h_1147 14 (.inr (1, [.ref 7, .ref 15, .ref 16, fI gm0, fJ gd_0])) := e_1147_14
    have g_1147_15 : cE h_1147 15 (.inl (.int, fA [g00, g01, g02, g03, g04, g05])) := e_1147_15
    have g_1147_16 : cE h_1147 16 (.inl (.int, fA [gx0, gy0])) := e_1147_16
    refine ⟨1, rfl, ⟨k_1147, _, g_1147_66⟩, ?_⟩
    have gT_1147 := st_gT_t F_1147 (by decide +kernel) gT
    have gS_1147 := st_gS_t F_1147 (by decide +kernel) gS
    have gV_1147 := st_gV_t F_1147 (by decide +kernel) gV
    have gW_1147 := st_gW_t F_1147 (by decide +kernel) gW
    have gM_1147 := st_gM_t F_1147 (by decide +kernel) gM
    have gR_1147 := st_gR_t F_1147 (by decide +kernel) gR
    have gL_1147 := st_gL_t F_1147 (by decide +kernel) gL
    have gJ_1147 := st_gJ_t F_1147 (by decide +kernel) gJ
    have hT_1147 := st_hT_t F_1147 (by decide +kernel) hT
    have hS_1147 := st_hS_t F_1147 (by decide +kernel) hS
    have hM_1147 := st_hM_t F_1147 (by decide +kernel) hM
    have hR_1147 := st_hR_t F_1147 (by decide +kernel) hR
    have hL_1147 := st_hL_t F_1147 (by decide +kernel) hL
    refine ik_F_mono (rp_goBack0T (t0 := 0) (f := fun j => ([pl, 0, 0, 0, 0, 0, 0, 0, 0, 0, tn, fp, sc0, sc1, sc2, sc3, sc4, sc5, 0, 0, 0, 0, 0, 0, w24, 0, 0, 0, 0, 0, 0, 0, sb, wa, 0, 0, r, 0, 0, 0, 0, 0, 0] : List Int).getD j 0) (s := s) (s2 := s2) (t1 := ga1) (e0 := g00) (e1 := g01) (e2 := g02) (e3 := g03) (e4 := g04) (e5 := g05) (y0 := gx0) (y1 := gy0) (m2 := gm0) (d2 := gd_0) (ka := ka) (pa := pa) (fa := fa) (kb := kb) (pb := pb) (fb := fb) (xa := xa) (xb := xb) (mi := mi) (sd := sd) (ch := chr) (im := im) (ci := di) a6 a5 g_1147_66 g_1147_69 n69 g_1147_70 g_1147_71 g_1147_92 n92 g_1147_93 k_1147) ?_
    rintro _ h_1148 ⟨rfl, e_1148_66, e_1148_69, m_1148_69, e_1148_70, e_1148_71, F_1148⟩
    have k_1148 := F_1148.1.trans k_1147
    have g_1148_0 := (F_1148.2 0 (by decide +kernel)).trans g_1147_0
    have g_1148_7 := (F_1148.2 7 (by decide +kernel)).trans g_1147_7
    have g_1148_8 := (F_1148.2 8 (by decide +kernel)).trans g_1147_8
    have g_1148_9 := (F_1148.2 9 (by decide +kernel)).trans g_1147_9
    have g_1148_10 := (F_1148.2 10 (by decide +kernel)).trans g_1147_10
    have g_1148_11 := (F_1148.2 11 (by decide +kernel)).trans g_1147_11
    have g_1148_12 := (F_1148.2 12 (by decide +kernel)).trans g_1147_12
    have g_1148_13 := (F_1148.2 13 (by decide +kernel)).trans g_1147_13
    have g_1148_14 := (F_1148.2 14 (by decide +kernel)).trans g_1147_14
    have g_1148_15 := (F_1148.2 15 (by decide +kernel)).trans g_1147_15
    have g_1148_16 := (F_1148.2 16 (by decide +kernel)).trans g_1147_16
    have g_1148_18 := (F_1148.2 18 (by decide +kernel)).trans g_1147_18
    have g_1148_57 := (F_1148.2 57 (by decide +kernel)).trans g_1147_57
    have g_1148_58 := (F_1148.2 58 (by decide +kernel)).trans g_1147_58
    have g_1148_59 := (F_1148.2 59 (by decide +kernel)).trans g_1147_59
    have g_1148_60 := (F_1148.2 60 (by decide +kernel)).trans g_1147_60
    have g_1148_61 := (F_1148.2 61 (by decide +kernel)).trans g_1147_61
    have g_1148_67 := (F_1148.2 67 (by decide +kernel)).trans g_1147_67
    have g_1148_68 := (F_1148.2 68 (by decide +kernel)).trans g_1147_68
    have g_1148_92 := (F_1148.2 92 (by decide +kernel)).trans g_1147_92
    have g_1148_93 := (F_1148.2 93 (by decide +kernel)).trans g_1147_93
    have g_1148_66 : cE h_1148 66 (.inr (10, [fI pl, .ref 67, .ref 68, .ref 69, fI ((s2 : Nat) : Int), .ref 70, .ref 71, fI gm0, fI gd_0, .ref 72, fI tn, fI fp, fI sc0, fJ sc1, fI sc2, fI sc3, fI sc4, fI sc5, .ref 73, .ref 74, .ref 75, .ref 76, .ref 77, .ref 78, fI w24, .ref 79, .ref 80, .ref 81, .ref 82, .ref 83, .ref 84, .ref 85, fJ sb, fJ wa, .ref 86, .ref 87, fI r, .ref 88, .ref 89, .ref 90, .ref 91, .ref 92, .ref 93])) := e_1148_66
    have g_1148_69 : cE h_1148 69 (.inl (.int, fA di)) := e_1148_69
    have g_1148_70 : cE h_1148 70 (.inl (.int, fA [g00, g01, g02, g03, g04, g05])) := e_1148_70
    have g_1148_71 : cE h_1148 71 (.inl (.int, fA [gx0, gy0])) := e_1148_71
    refine ⟨rfl, ?_⟩
    have gT_1148 := st_gT_t F_1148 (by decide +kernel) gT_1147
    have gS_1148 := st_gS_t F_1148 (by decide +kernel) gS_1147
    have gV_1148 := st_gV_t F_1148 (by decide +kernel) gV_1147
    have gW_1148 := st_gW_t F_1148 (by decide +kernel) gW_1147
    have gM_1148 := st_gM_t F_1148 (by decide +kernel) gM_1147
    have gR_1148 := st_gR_t F_1148 (by decide +kernel) gR_1147
    have gL_1148 := st_gL_t F_1148 (by decide +kernel) gL_1147
    have gJ_1148 := st_gJ_t F_1148 (by decide +kernel) gJ_1147
    have hT_1148 := st_hT_t F_1148 (by decide +kernel) hT_1147
    have hS_1148 := st_hS_t F_1148 (by decide +kernel) hS_1147
    have hM_1148 := st_hM_t F_1148 (by decide +kernel) hM_1147
    have hR_1148 := st_hR_t F_1148 (by decide +kernel) hR_1147
    have hL_1148 := st_hL_t F_1148 (by decide +kernel) hL_1147
    intro C_ k_
    exact k_ tn fp pl gm0 gd_0 g00 g01 g02 g03 g04 g05 gx0 gy0 r n0 n1 1 gm0 gd_0 ((s2 : Nat) : Int) g00 g01 g02 g03 g04 g05 gx0 gy0 ga1 gm1 gd_1 gs1 g10 g11 g12 g13 g14 g15 gx1 gy1 s2 T cn go ci0 wg'_1147 wc'_1147 we'_1147 rp rt lr ci0 ci1 cnr gor di T2 im f_pl a2 a3 f_cb f_cr a4 a7 p_1147_0 a8 a9 a10 (by omega) a12 f_r f_rr f_n f_l0 f_l1 f_tn f_t (Or.inr ⟨rfl, s2, di, rfl, a2, a3, a4, a5, a6, a7, a8, a9, a10, by omega, a12⟩) (st_I_K f_i1) ⟨g_1148_0, g_1148_18, g_1148_57⟩ gT_1148 ⟨g_1148_7, g_1148_8, n8, g_1148_9, n9, g_1148_10, m_1147_10, g_1148_11, m_1147_11, g_1148_12, m_1147_12, g_1148_13, m_1147_13⟩ ⟨g_1148_14, g_1148_15, g_1148_16⟩ gS_1148 gV_1148 gW_1148 gM_1148 gR_1148 gL_1148 ⟨g_1148_58, g_1148_59, g_1148_60, g_1148_61, n61⟩ gJ_1148 ⟨sc0, sc1, sc2, sc3, sc4, sc5, w24, sb, wa, g_1148_66⟩ ⟨g_1148_67, n67, g_1148_68, n68, g_1148_69, m_1148_69⟩ ⟨g_1148_70, g_1148_71⟩ hT_1148 hS_1148 hM_1148 hR_1148 hL_1148 ⟨g_1148_92, n92, g_1148_93⟩ k_1148

set_option maxRecDepth 100000 in
theorem lk_goBack1 {K : Nat} {h : List ik_E} (E : st_S K h) (hK : K ≤ 600) : ik_F 120 [.ref 0, fI 1] h (fun rv h' => ∃ o_ : Int, rv = [fI o_] ∧ (h'.length = 94 ∧ ∃ fs, h'[66]? = some (.inr (10, fs))) ∧ ik_F 210 [.ref 66, fI 1] h' (fun rv' h'' => rv' = [fI o_] ∧ st_S (K + 1) h'')) := by
  refine E _ ?_
  intro tn fp pl mi sd ka pa fa kb pb fb xa xb r n0 n1 ga0 gm0 gd_0 gs0 g00 g01 g02 g03 g04 g05 gx0 gy0 ga1 gm1 gd_1 gs1 g10 g11 g12 g13 g14 g15 gx1 gy1 s T cn go ch wg wc we rp rt lr ci0 ci1 cnr gor chr T2 im f_pl f_s f_st f_cb f_cr f_rw f_al f_wy f_k f_p f_x f_m f_sd f_r f_rr f_n f_l0 f_l1 f_tn f_t f_i0 f_i1 gA gT gB gC gS gV gW gM gR gL gI gJ hO hB hC hT hS hM hR hL hI hl
  obtain ⟨h0, h18, h57⟩ := gA
  obtain ⟨h7, h8, n8, h9, n9, h10, n10, h11, n11, h12, n12, h13, n13⟩ := gB
  obtain ⟨h14, h15, h16⟩ := gC
  obtain ⟨h62, h63, h64, h65, n65⟩ := gJ
  obtain ⟨sc0, sc1, sc2, sc3, sc4, sc5, w24, sb, wa, h66⟩ := hO
  obtain ⟨h67, n67, h68, n68, h69, n69⟩ := hB
  obtain ⟨h70, h71⟩ := hC
  obtain ⟨h92, n92, h93⟩ := hI
  have fi := f_i1
  rcases fi with fi | ⟨fi, s2, di, a1, a2, a3, a4, a5, a6, a7, a8, a9, a10, a11, a12⟩
  · subst fi
    refine ik_F_mono (cp_goBack1N (im_ := gm1) (id_ := gd_1) (is_ := gs1)  h0 h57 h62 hl) ?_
    rintro _ h_1149 ⟨rfl, F_1149⟩
    have k_1149 := F_1149.1.trans hl
    have g_1149_0 := (F_1149.2 0 (by decide +kernel)).trans h0
    have g_1149_7 := (F_1149.2 7 (by decide +kernel)).trans h7
    have g_1149_8 := (F_1149.2 8 (by decide +kernel)).trans h8
    have g_1149_9 := (F_1149.2 9 (by decide +kernel)).trans h9
    have g_1149_10 := (F_1149.2 10 (by decide +kernel)).trans h10
    have g_1149_11 := (F_1149.2 11 (by decide +kernel)).trans h11
    have g_1149_12 := (F_1149.2 12 (by decide +kernel)).trans h12
    have g_1149_13 := (F_1149.2 13 (by decide +kernel)).trans h13
    have g_1149_14 := (F_1149.2 14 (by decide +kernel)).trans h14
    have g_1149_15 := (F_1149.2 15 (by decide +kernel)).trans h15
    have g_1149_16 := (F_1149.2 16 (by decide +kernel)).trans h16
    have g_1149_18 := (F_1149.2 18 (by decide +kernel)).trans h18
    have g_1149_57 := (F_1149.2 57 (by decide +kernel)).trans h57
    have g_1149_62 := (F_1149.2 62 (by decide +kernel)).trans h62
    have g_1149_63 := (F_1149.2 63 (by decide +kernel)).trans h63
    have g_1149_64 := (F_1149.2 64 (by decide +kernel)).trans h64
    have g_1149_65 := (F_1149.2 65 (by decide +kernel)).trans h65
    have g_1149_66 := (F_1149.2 66 (by decide +kernel)).trans h66
    have g_1149_67 := (F_1149.2 67 (by decide +kernel)).trans h67
    have g_1149_68 := (F_1149.2 68 (by decide +kernel)).trans h68
    have g_1149_69 := (F_1149.2 69 (by decide +kernel)).trans h69
    have g_1149_70 := (F_1149.2 70 (by decide +kernel)).trans h70
    have g_1149_71 := (F_1149.2 71 (by decide +kernel)).trans h71
    have g_1149_92 := (F_1149.2 92 (by decide +kernel)).trans h92
    have g_1149_93 := (F_1149.2 93 (by decide +kernel)).trans h93
    refine ⟨-1000000003, rfl, ⟨k_1149, _, g_1149_66⟩, ?_⟩
    have gT_1149 := st_gT_t F_1149 (by decide +kernel) gT
    have gS_1149 := st_gS_t F_1149 (by decide +kernel) gS
    have gV_1149 := st_gV_t F_1149 (by decide +kernel) gV
    have gW_1149 := st_gW_t F_1149 (by decide +kernel) gW
    have gM_1149 := st_gM_t F_1149 (by decide +kernel) gM
    have gR_1149 := st_gR_t F_1149 (by decide +kernel) gR
    have gL_1149 := st_gL_t F_1149 (by decide +kernel) gL
    have gI_1149 := st_gI_t F_1149 (by decide +kernel) gI
    have hT_1149 := st_hT_t F_1149 (by decide +kernel) hT
    have hS_1149 := st_hS_t F_1149 (by decide +kernel) hS
    have hM_1149 := st_hM_t F_1149 (by decide +kernel) hM
    have hR_1149 := st_hR_t F_1149 (by decide +kernel) hR
    have hL_1149 := st_hL_t F_1149 (by decide +kernel) hL
    refine ik_F_mono (rp_goBack1N (t1 := 0) (f := fun j => ([pl, 0, 0, 0, ((s : Nat) : Int), 0, 0, mi, sd, 0, tn, fp, sc0, sc1, sc2, sc3, sc4, sc5, 0, 0, 0, 0, 0, 0, w24, 0, 0, 0, 0, 0, 0, 0, sb, wa, 0, 0, r, 0, 0, 0, 0, 0, 0] : List Int).getD j 0) (t0 := ga0)  g_1149_66 g_1149_93 k_1149) ?_
    rintro _ h_1150 ⟨rfl, F_1150⟩
    have k_1150 := F_1150.1.trans k_1149
    have g_1150_0 := (F_1150.2 0 (by decide +kernel)).trans g_1149_0
    have g_1150_7 := (F_1150.2 7 (by decide +kernel)).trans g_1149_7
    have g_1150_8 := (F_1150.2 8 (by decide +kernel)).trans g_1149_8
    have g_1150_9 := (F_1150.2 9 (by decide +kernel)).trans g_1149_9
    have g_1150_10 := (F_1150.2 10 (by decide +kernel)).trans g_1149_10
    have g_1150_11 := (F_1150.2 11 (by decide +kernel)).trans g_1149_11
    have g_1150_12 := (F_1150.2 12 (by decide +kernel)).trans g_1149_12
    have g_1150_13 := (F_1150.2 13 (by decide +kernel)).trans g_1149_13
    have g_1150_14 := (F_1150.2 14 (by decide +kernel)).trans g_1149_14
    have g_1150_15 := (F_1150.2 15 (by decide +kernel)).trans g_1149_15
    have g_1150_16 := (F_1150.2 16 (by decide +kernel)).trans g_1149_16
    have g_1150_18 := (F_1150.2 18 (by decide +kernel)).trans g_1149_18
    have g_1150_57 := (F_1150.2 57 (by decide +kernel)).trans g_1149_57
    have g_1150_62 := (F_1150.2 62 (by decide +kernel)).trans g_1149_62
    have g_1150_63 := (F_1150.2 63 (by decide +kernel)).trans g_1149_63
    have g_1150_64 := (F_1150.2 64 (by decide +kernel)).trans g_1149_64
    have g_1150_65 := (F_1150.2 65 (by decide +kernel)).trans g_1149_65
    have g_1150_66 := (F_1150.2 66 (by decide +kernel)).trans g_1149_66
    have g_1150_67 := (F_1150.2 67 (by decide +kernel)).trans g_1149_67
    have g_1150_68 := (F_1150.2 68 (by decide +kernel)).trans g_1149_68
    have g_1150_69 := (F_1150.2 69 (by decide +kernel)).trans g_1149_69
    have g_1150_70 := (F_1150.2 70 (by decide +kernel)).trans g_1149_70
    have g_1150_71 := (F_1150.2 71 (by decide +kernel)).trans g_1149_71
    have g_1150_92 := (F_1150.2 92 (by decide +kernel)).trans g_1149_92
    have g_1150_93 := (F_1150.2 93 (by decide +kernel)).trans g_1149_93
    refine ⟨rfl, ?_⟩
    have gT_1150 := st_gT_t F_1150 (by decide +kernel) gT_1149
    have gS_1150 := st_gS_t F_1150 (by decide +kernel) gS_1149
    have gV_1150 := st_gV_t F_1150 (by decide +kernel) gV_1149
    have gW_1150 := st_gW_t F_1150 (by decide +kernel) gW_1149
    have gM_1150 := st_gM_t F_1150 (by decide +kernel) gM_1149
    have gR_1150 := st_gR_t F_1150 (by decide +kernel) gR_1149
    have gL_1150 := st_gL_t F_1150 (by decide +kernel) gL_1149
    have gI_1150 := st_gI_t F_1150 (by decide +kernel) gI_1149
    have hT_1150 := st_hT_t F_1150 (by decide +kernel) hT_1149
    have hS_1150 := st_hS_t F_1150 (by decide +kernel) hS_1149
    have hM_1150 := st_hM_t F_1150 (by decide +kernel) hM_1149
    have hR_1150 := st_hR_t F_1150 (by decide +kernel) hR_1149
    have hL_1150 := st_hL_t F_1150 (by decide +kernel) hL_1149
    intro C_ k_
    exact k_ tn fp pl mi sd ka pa fa kb pb fb xa xb r n0 n1 ga0 gm0 gd_0 gs0 g00 g01 g02 g03 g04 g05 gx0 gy0 0 gm1 gd_1 gs1 g10 g11 g12 g13 g14 g15 gx1 gy1 s T cn go ch wg wc we rp rt lr ci0 ci1 cnr gor chr T2 im f_pl f_s f_st f_cb f_cr f_rw f_al f_wy f_k f_p f_x (by omega) f_sd f_r f_rr f_n f_l0 f_l1 f_tn f_t (st_I_K f_i0) (Or.inl rfl) ⟨g_1150_0, g_1150_18, g_1150_57⟩ gT_1150 ⟨g_1150_7, g_1150_8, n8, g_1150_9, n9, g_1150_10, n10, g_1150_11, n11, g_1150_12, n12, g_1150_13, n13⟩ ⟨g_1150_14, g_1150_15, g_1150_16⟩ gS_1150 gV_1150 gW_1150 gM_1150 gR_1150 gL_1150 gI_1150 ⟨g_1150_62, g_1150_63, g_1150_64, g_1150_65, n65⟩ ⟨sc0, sc1, sc2, sc3, sc4, sc5, w24, sb, wa, g_1150_66⟩ ⟨g_1150_67, n67, g_1150_68, n68, g_1150_69, n69⟩ ⟨g_1150_70, g_1150_71⟩ hT_1150 hS_1150 hM_1150 hR_1150 hL_1150 ⟨g_1150_92, n92, g_1150_93⟩ k_1150
  · subst fi
    subst a1
    refine ik_F_mono (cp_goBack1T (pl := pl) (s := s) (lo := ((mj_lost pl cn go : Nat) : Int)) (im_ := gm1) (id_ := gd_1) (s2 := s2) (e0 := g10) (e1 := g11) (e2 := g12) (e3 := g13) (e4 := g14) (e5 := g15) (y0 := gx1) (y1 := gy1) (ci := ci1) (ka := ka) (pa := pa) (fa := fa) (kb := kb) (pb := pb) (fb := fb) (xa := xa) (xb := xb) (mi := mi) (dr := sd) (cn := cn) (go := go) (ch := ch) (wg := wg) (wc := wc) (we := we) f_pl a2 a4 f_cb a3 h0 h7 h8 n8 h9 n9 h10 n10 h11 n11 h12 n12 h13 n13 h14 h15 h16 h57 h62 h63 h64 h65 n65 hl) ?_
    rintro _ h_1151 ⟨wg'_1151, wc'_1151, we'_1151, rfl, e_1151_7, e_1151_10, m_1151_10, e_1151_11, m_1151_11, e_1151_12, m_1151_12, e_1151_13, m_1151_13, e_1151_14, e_1151_15, e_1151_16, p_1151_0, F_1151⟩
    have k_1151 := F_1151.1.trans hl
    have g_1151_0 := (F_1151.2 0 (by decide +kernel)).trans h0
    have g_1151_8 := (F_1151.2 8 (by decide +kernel)).trans h8
    have g_1151_9 := (F_1151.2 9 (by decide +kernel)).trans h9
    have g_1151_18 := (F_1151.2 18 (by decide +kernel)).trans h18
    have g_1151_57 := (F_1151.2 57 (by decide +kernel)).trans h57
    have g_1151_62 := (F_1151.2 62 (by decide +kernel)).trans h62
    have g_1151_63 := (F_1151.2 63 (by decide +kernel)).trans h63
    have g_1151_64 := (F_1151.2 64 (by decide +kernel)).trans h64
    have g_1151_65 := (F_1151.2 65 (by decide +kernel)).trans h65
    have g_1151_66 := (F_1151.2 66 (by decide +kernel)).trans h66
    have g_1151_67 := (F_1151.2 67 (by decide +kernel)).trans h67
    have g_1151_68 := (F_1151.2 68 (by decide +kernel)).trans h68
    have g_1151_69 := (F_1151.2 69 (by decide +kernel)).trans h69
    have g_1151_70 := (F_1151.2 70 (by decide +kernel)).trans h70
    have g_1151_71 := (F_1151.2 71 (by decide +kernel)).trans h71
    have g_1151_92 := (F_1151.2 92 (by decide +kernel)).trans h92
    have g_1151_93 := (F_1151.2 93 (by decide +kernel)).trans h93
    have g_1151_7 : cE h_1151 7 (.inr (0, [fI pl, fI ((s2 : Nat) : Int), fI ((mj_lost pl cn go : Nat) : Int), .ref 8, .ref 9, .ref 10, .ref 11, .ref 12, .ref 13])) := e_1151_7
    have g_1151_10 : cE h_1151 10 (.inl (.int, fA ci1)) := e_1151_10
    have g_1151_11 : cE h_1151 11 (.inl (.int, fA wg'_1151)) := e_1151_11
    have g_1151_12 : cE h_1151 12 (.inl (.int, fA wc'_1151)) := e_1151_12
    have g_1151_13 : cE h_1151 13 (.inl (.int, fA we'_1151)) := e_1151_13
    have g_1151_14 : cE h_1151 14 (.inr (1, [.ref 7, .ref 15, .ref 16, fI gm1, fJ gd_1])) := e_1151_14
    have g_1151_15 : cE h_1151 15 (.inl (.int, fA [g10, g11, g12, g13, g14, g15])) := e_1151_15
    have g_1151_16 : cE h_1151 16 (.inl (.int, fA [gx1, gy1])) := e_1151_16
    refine ⟨1, rfl, ⟨k_1151, _, g_1151_66⟩, ?_⟩
    have gT_1151 := st_gT_t F_1151 (by decide +kernel) gT
    have gS_1151 := st_gS_t F_1151 (by decide +kernel) gS
    have gV_1151 := st_gV_t F_1151 (by decide +kernel) gV
    have gW_1151 := st_gW_t F_1151 (by decide +kernel) gW
    have gM_1151 := st_gM_t F_1151 (by decide +kernel) gM
    have gR_1151 := st_gR_t F_1151 (by decide +kernel) gR
    have gL_1151 := st_gL_t F_1151 (by decide +kernel) gL
    have gI_1151 := st_gI_t F_1151 (by decide +kernel) gI
    have hT_1151 := st_hT_t F_1151 (by decide +kernel) hT
    have hS_1151 := st_hS_t F_1151 (by decide +kernel) hS
    have hM_1151 := st_hM_t F_1151 (by decide +kernel) hM
    have hR_1151 := st_hR_t F_1151 (by decide +kernel) hR
    have hL_1151 := st_hL_t F_1151 (by decide +kernel) hL
    refine ik_F_mono (rp_goBack1T (t1 := 0) (f := fun j => ([pl, 0, 0, 0, 0, 0, 0, 0, 0, 0, tn, fp, sc0, sc1, sc2, sc3, sc4, sc5, 0, 0, 0, 0, 0, 0, w24, 0, 0, 0, 0, 0, 0, 0, sb, wa, 0, 0, r, 0, 0, 0, 0, 0, 0] : List Int).getD j 0) (s := s) (s2 := s2) (t0 := ga0) (e0 := g10) (e1 := g11) (e2 := g12) (e3 := g13) (e4 := g14) (e5 := g15) (y0 := gx1) (y1 := gy1) (m2 := gm1) (d2 := gd_1) (ka := ka) (pa := pa) (fa := fa) (kb := kb) (pb := pb) (fb := fb) (xa := xa) (xb := xb) (mi := mi) (sd := sd) (ch := chr) (im := im) (ci := di) a6 a5 g_1151_66 g_1151_69 n69 g_1151_70 g_1151_71 g_1151_92 n92 g_1151_93 k_1151) ?_
    rintro _ h_1152 ⟨rfl, e_1152_66, e_1152_69, m_1152_69, e_1152_70, e_1152_71, F_1152⟩
    have k_1152 := F_1152.1.trans k_1151
    have g_1152_0 := (F_1152.2 0 (by decide +kernel)).trans g_1151_0
    have g_1152_7 := (F_1152.2 7 (by decide +kernel)).trans g_1151_7
    have g_1152_8 := (F_1152.2 8 (by decide +kernel)).trans g_1151_8
    have g_1152_9 := (F_1152.2 9 (by decide +kernel)).trans g_1151_9
    have g_1152_10 := (F_1152.2 10 (by decide +kernel)).trans g_1151_10
    have g_1152_11 := (F_1152.2 11 (by decide +kernel)).trans g_1151_11
    have g_1152_12 := (F_1152.2 12 (by decide +kernel)).trans g_1151_12
    have g_1152_13 := (F_1152.2 13 (by decide +kernel)).trans g_1151_13
    have g_1152_14 := (F_1152.2 14 (by decide +kernel)).trans g_1151_14
    have g_1152_15 := (F_1152.2 15 (by decide +kernel)).trans g_1151_15
    have g_1152_16 := (F_1152.2 16 (by decide +kernel)).trans g_1151_16
    have g_1152_18 := (F_1152.2 18 (by decide +kernel)).trans g_1151_18
    have g_1152_57 := (F_1152.2 57 (by decide +kernel)).trans g_1151_57
    have g_1152_62 := (F_1152.2 62 (by decide +kernel)).trans g_1151_62
    have g_1152_63 := (F_1152.2 63 (by decide +kernel)).trans g_1151_63
    have g_1152_64 := (F_1152.2 64 (by decide +kernel)).trans g_1151_64
    have g_1152_65 := (F_1152.2 65 (by decide +kernel)).trans g_1151_65
    have g_1152_67 := (F_1152.2 67 (by decide +kernel)).trans g_1151_67
    have g_1152_68 := (F_1152.2 68 (by decide +kernel)).trans g_1151_68
    have g_1152_92 := (F_1152.2 92 (by decide +kernel)).trans g_1151_92
    have g_1152_93 := (F_1152.2 93 (by decide +kernel)).trans g_1151_93
    have g_1152_66 : cE h_1152 66 (.inr (10, [fI pl, .ref 67, .ref 68, .ref 69, fI ((s2 : Nat) : Int), .ref 70, .ref 71, fI gm1, fI gd_1, .ref 72, fI tn, fI fp, fI sc0, fJ sc1, fI sc2, fI sc3, fI sc4, fI sc5, .ref 73, .ref 74, .ref 75, .ref 76, .ref 77, .ref 78, fI w24, .ref 79, .ref 80, .ref 81, .ref 82, .ref 83, .ref 84, .ref 85, fJ sb, fJ wa, .ref 86, .ref 87, fI r, .ref 88, .ref 89, .ref 90, .ref 91, .ref 92, .ref 93])) := e_1152_66
    have g_1152_69 : cE h_1152 69 (.inl (.int, fA di)) := e_1152_69
    have g_1152_70 : cE h_1152 70 (.inl (.int, fA [g10, g11, g12, g13, g14, g15])) := e_1152_70
    have g_1152_71 : cE h_1152 71 (.inl (.int, fA [gx1, gy1])) := e_1152_71
    refine ⟨rfl, ?_⟩
    have gT_1152 := st_gT_t F_1152 (by decide +kernel) gT_1151
    have gS_1152 := st_gS_t F_1152 (by decide +kernel) gS_1151
    have gV_1152 := st_gV_t F_1152 (by decide +kernel) gV_1151
    have gW_1152 := st_gW_t F_1152 (by decide +kernel) gW_1151
    have gM_1152 := st_gM_t F_1152 (by decide +kernel) gM_1151
    have gR_1152 := st_gR_t F_1152 (by decide +kernel) gR_1151
    have gL_1152 := st_gL_t F_1152 (by decide +kernel) gL_1151
    have gI_1152 := st_gI_t F_1152 (by decide +kernel) gI_1151
    have hT_1152 := st_hT_t F_1152 (by decide +kernel) hT_1151
    have hS_1152 := st_hS_t F_1152 (by decide +kernel) hS_1151
    have hM_1152 := st_hM_t F_1152 (by decide +kernel) hM_1151
    have hR_1152 := st_hR_t F_1152 (by decide +kernel) hR_1151
    have hL_1152 := st_hL_t F_1152 (by decide +kernel) hL_1151
    intro C_ k_
    exact k_ tn fp pl gm1 gd_1 g10 g11 g12 g13 g14 g15 gx1 gy1 r n0 n1 ga0 gm0 gd_0 gs0 g00 g01 g02 g03 g04 g05 gx0 gy0 1 gm1 gd_1 ((s2 : Nat) : Int) g10 g11 g12 g13 g14 g15 gx1 gy1 s2 T cn go ci1 wg'_1151 wc'_1151 we'_1151 rp rt lr ci0 ci1 cnr gor di T2 im f_pl a2 a3 f_cb f_cr a4 a7 p_1151_0 a8 a9 a10 (by omega) a12 f_r f_rr f_n f_l0 f_l1 f_tn f_t (st_I_K f_i0) (Or.inr ⟨rfl, s2, di, rfl, a2, a3, a4, a5, a6, a7, a8, a9, a10, by omega, a12⟩) ⟨g_1152_0, g_1152_18, g_1152_57⟩ gT_1152 ⟨g_1152_7, g_1152_8, n8, g_1152_9, n9, g_1152_10, m_1151_10, g_1152_11, m_1151_11, g_1152_12, m_1151_12, g_1152_13, m_1151_13⟩ ⟨g_1152_14, g_1152_15, g_1152_16⟩ gS_1152 gV_1152 gW_1152 gM_1152 gR_1152 gL_1152 gI_1152 ⟨g_1152_62, g_1152_63, g_1152_64, g_1152_65, n65⟩ ⟨sc0, sc1, sc2, sc3, sc4, sc5, w24, sb, wa, g_1152_66⟩ ⟨g_1152_67, n67, g_1152_68, n68, g_1152_69, m_1152_69⟩ ⟨g_1152_70, g_1152_71⟩ hT_1152 hS_1152 hM_1152 hR_1152 hL_1152 ⟨g_1152_92, n92, g_1152_93⟩ k_1152

set_option maxRecDepth 100000 in
theorem lk_mixed1 {K : Nat} {h : List ik_E} (E : st_S K h) (hK : K ≤ 600) {p : Int} {what : Int} (z_p : -2147483648 ≤ p ∧ p < 2147483648) (z_what : -2147483648 ≤ what ∧ what < 2147483648)  : ik_F 102 [.ref 0, fI p, fI 1, fI what] h (fun rv h' => ∃ o_ : Int, rv = [fI o_] ∧ (h'.length = 94 ∧ ∃ fs, h'[66]? = some (.inr (10, fs))) ∧ ik_F 180 [.ref 66, fI p, fI 1, fI what] h' (fun rv' h'' => (∃ v' : Int, rv' = [fI v']) ∧ st_S (K + 1) h'')) := by
  refine E _ ?_
  intro tn fp pl mi sd ka pa fa kb pb fb xa xb r n0 n1 ga0 gm0 gd_0 gs0 g00 g01 g02 g03 g04 g05 gx0 gy0 ga1 gm1 gd_1 gs1 g10 g11 g12 g13 g14 g15 gx1 gy1 s T cn go ch wg wc we rp rt lr ci0 ci1 cnr gor chr T2 im f_pl f_s f_st f_cb f_cr f_rw f_al f_wy f_k f_p f_x f_m f_sd f_r f_rr f_n f_l0 f_l1 f_tn f_t f_i0 f_i1 gA gT gB gC gS gV gW gM gR gL gI gJ hO hB hC hT hS hM hR hL hI hl
  obtain ⟨h0, h18, h57⟩ := gA
  obtain ⟨h7, h8, n8, h9, n9, h10, n10, h11, n11, h12, n12, h13, n13⟩ := gB
  obtain ⟨h14, h15, h16⟩ := gC
  obtain ⟨bo, la, lb, t0, t1, t2, t3, h17, h19, h20⟩ := gS
  obtain ⟨h21, h33⟩ := gV
  obtain ⟨h25, h29, h37, h41⟩ := gW
  obtain ⟨fe, bo_, sh, wh, wo, f_fe, h45, h46, n46, h47, n47, h48, n48, h49, n49, h50, n50⟩ := gM
  obtain ⟨sc0, sc1, sc2, sc3, sc4, sc5, w24, sb, wa, h66⟩ := hO
  obtain ⟨h67, n67, h68, n68, h69, n69⟩ := hB
  obtain ⟨h70, h71⟩ := hC
  obtain ⟨gt, gdd, xs, ys, r1, r2, h77, n77, h78, n78, h79, n79, h80, n80, h81, n81, h82, n82⟩ := hS
  obtain ⟨fr, so, sw, ro, cl, f_ro, f_cl, h83, n83, h84, n84, h85, n85, h86, n86, h87, n87⟩ := hM
  refine ik_F_mono (cp_mixed1 (pl := pl) (lo := ((mj_lost pl cn go : Nat) : Int)) (s := s) (ka := ka) (pa := pa) (fa := fa) (kb := kb) (pb := pb) (fb := fb) (bo := bo) (la := la) (lb := lb) (wg := wg) (wc := wc) (we := we) (W := (fun x => mx_w cnr gor chr s x)) (fe := fe) (bo_ := bo_) (sh := sh) (wh := wh) (wo := wo) (p := p) (what := what) f_pl (fun _ => ⟨f_k.1.1, f_k.1.2, f_k.2.1.1, f_k.2.1.2⟩) (fun x h0 h1 => by have e := mx_al_w f_rw f_al s x h0 h1; exact e.symm ▸ f_wy x h0 h1) (mx_rw_ok (mx_al_rw f_rw f_al) _) f_fe z_p z_what h0 h7 h11 n11 h12 n12 h13 n13 h15 h17 h18 h19 h21 h25 h29 h33 h37 h41 h46 n46 h45 h47 n47 h48 n48 h49 n49 h50 n50 hl) ?_
  rintro _ h_1153 ⟨l0_1153, l1_1153, l2_1153, fe'_1153, bo'_1153, sh'_1153, wh'_1153, wo'_1153, v_1153, rfl, e_1153_17, e_1153_19, e_1153_21, e_1153_25, e_1153_29, e_1153_33, e_1153_37, e_1153_41, e_1153_46, m_1153_46, e_1153_47, m_1153_47, e_1153_48, m_1153_48, e_1153_49, m_1153_49, e_1153_50, m_1153_50, p_1153_0, F_1153⟩
  have k_1153 := F_1153.1.trans hl
  have g_1153_0 := (F_1153.2 0 (by decide +kernel)).trans h0
  have g_1153_7 := (F_1153.2 7 (by decide +kernel)).trans h7
  have g_1153_8 := (F_1153.2 8 (by decide +kernel)).trans h8
  have g_1153_9 := (F_1153.2 9 (by decide +kernel)).trans h9
  have g_1153_10 := (F_1153.2 10 (by decide +kernel)).trans h10
  have g_1153_11 := (F_1153.2 11 (by decide +kernel)).trans h11
  have g_1153_12 := (F_1153.2 12 (by decide +kernel)).trans h12
  have g_1153_13 := (F_1153.2 13 (by decide +kernel)).trans h13
  have g_1153_14 := (F_1153.2 14 (by decide +kernel)).trans h14
  have g_1153_15 := (F_1153.2 15 (by decide +kernel)).trans h15
  have g_1153_16 := (F_1153.2 16 (by decide +kernel)).trans h16
  have g_1153_18 := (F_1153.2 18 (by decide +kernel)).trans h18
  have g_1153_20 := (F_1153.2 20 (by decide +kernel)).trans h20
  have g_1153_45 := (F_1153.2 45 (by decide +kernel)).trans h45
  have g_1153_57 := (F_1153.2 57 (by decide +kernel)).trans h57
  have g_1153_66 := (F_1153.2 66 (by decide +kernel)).trans h66
  have g_1153_67 := (F_1153.2 67 (by decide +kernel)).trans h67
  have g_1153_68 := (F_1153.2 68 (by decide +kernel)).trans h68
  have g_1153_69 := (F_1153.2 69 (by decide +kernel)).trans h69
  have g_1153_70 := (F_1153.2 70 (by decide +kernel)).trans h70
  have g_1153_71 := (F_1153.2 71 (by decide +kernel)).trans h71
  have g_1153_77 := (F_1153.2 77 (by decide +kernel)).trans h77
  have g_1153_78 := (F_1153.2 78 (by decide +kernel)).trans h78
  have g_1153_79 := (F_1153.2 79 (by decide +kernel)).trans h79
  have g_1153_80 := (F_1153.2 80 (by decide +kernel)).trans h80
  have g_1153_81 := (F_1153.2 81 (by decide +kernel)).trans h81
  have g_1153_82 := (F_1153.2 82 (by decide +kernel)).trans h82
  have g_1153_83 := (F_1153.2 83 (by decide +kernel)).trans h83
  have g_1153_84 := (F_1153.2 84 (by decide +kernel)).trans h84
  have g_1153_85 := (F_1153.2 85 (by decide +kernel)).trans h85
  have g_1153_86 := (F_1153.2 86 (by decide +kernel)).trans h86
  have g_1153_87 := (F_1153.2 87 (by decide +kernel)).trans h87
  have g_1153_17 : cE h_1153 17 (.inr (8, [.ref 7, .ref 15, .ref 18, .ref 19, fJ l2_1153, .ref 20])) := e_1153_17
  have g_1153_19 : cE h_1153 19 (.inl (.long, fL [l0_1153, l1_1153])) := e_1153_19
  have g_1153_21 : mf_cr h_1153 21  := e_1153_21
  have g_1153_25 : mf_cr h_1153 25  := e_1153_25
  have g_1153_29 : mf_cr h_1153 29  := e_1153_29
  have g_1153_33 : mf_cr h_1153 33  := e_1153_33
  have g_1153_37 : mf_cr h_1153 37  := e_1153_37
  have g_1153_41 : mf_cr h_1153 41  := e_1153_41
  have g_1153_46 : cE h_1153 46 (.inl (.int, fA fe'_1153)) := e_1153_46
  have g_1153_47 : cE h_1153 47 (.inl (.long, fL bo'_1153)) := e_1153_47
  have g_1153_48 : cE h_1153 48 (.inl (.long, fL sh'_1153)) := e_1153_48
  have g_1153_49 : cE h_1153 49 (.inl (.long, fL wh'_1153)) := e_1153_49
  have g_1153_50 : cE h_1153 50 (.inl (.long, fL wo'_1153)) := e_1153_50
  refine ⟨v_1153, rfl, ⟨k_1153, _, g_1153_66⟩, ?_⟩
  have gT_1153 := st_gT_t F_1153 (by decide +kernel) gT
  have gR_1153 := st_gR_t F_1153 (by decide +kernel) gR
  have gL_1153 := st_gL_t F_1153 (by decide +kernel) gL
  have gI_1153 := st_gI_t F_1153 (by decide +kernel) gI
  have gJ_1153 := st_gJ_t F_1153 (by decide +kernel) gJ
  have hT_1153 := st_hT_t F_1153 (by decide +kernel) hT
  have hR_1153 := st_hR_t F_1153 (by decide +kernel) hR
  have hL_1153 := st_hL_t F_1153 (by decide +kernel) hL
  have hI_1153 := st_hI_t F_1153 (by decide +kernel) hI
  refine ik_F_mono (rp_mixed1 (pl := pl) (f := fun j => ([0, 0, 0, 0, 0, 0, 0, mi, sd, 0, tn, fp, sc0, sc1, sc2, sc3, sc4, sc5, 0, 0, 0, 0, 0, 0, w24, 0, 0, 0, 0, 0, 0, 0, sb, wa, 0, 0, r, 0, 0, 0, 0, 0, 0] : List Int).getD j 0) (s := s) (cn := cnr) (go := gor) (ch := chr) (gt := gt) (gd := gdd) (xs := xs) (ys := ys) (ka := ka) (pa := pa) (fa := fa) (kb := kb) (pb := pb) (fb := fb) (r1 := r1) (r2 := r2) (p := p) (what := what) (fr := fr) (so := so) (sw := sw) (ro := ro) (cl := cl) f_pl f_s (fun x h0 h1 => by have := ((mx_al_rw f_rw f_al) x h0 h1).1; omega) (mx_rw_ch (mx_al_rw f_rw f_al)) (mx_rw_ok (mx_al_rw f_rw f_al) _) (fun _ => f_k.1) (fun _ => f_k.2.1) f_ro f_cl z_p z_what g_1153_66 g_1153_67 n67 g_1153_68 n68 g_1153_69 n69 g_1153_77 n77 g_1153_78 n78 g_1153_79 n79 g_1153_80 n80 g_1153_70 g_1153_81 n81 g_1153_82 n82 g_1153_83 n83 g_1153_84 n84 g_1153_85 n85 g_1153_86 n86 g_1153_87 n87 k_1153) ?_
  rintro _ h_1154 ⟨w'_1154, gt'_1154, gd'_1154, xs'_1154, ys'_1154, r1'_1154, r2'_1154, fr'_1154, sb'_1154, wa'_1154, so'_1154, sw'_1154, ro'_1154, cl'_1154, v_1154, rfl, e_1154_77, m_1154_77, e_1154_78, m_1154_78, e_1154_79, m_1154_79, e_1154_80, m_1154_80, e_1154_81, m_1154_81, e_1154_82, m_1154_82, e_1154_66, e_1154_70, e_1154_83, m_1154_83, e_1154_84, m_1154_84, e_1154_85, m_1154_85, e_1154_86, m_1154_86, e_1154_87, m_1154_87, p_1154_0, p_1154_1, F_1154⟩
  have k_1154 := F_1154.1.trans k_1153
  have g_1154_0 := (F_1154.2 0 (by decide +kernel)).trans g_1153_0
  have g_1154_7 := (F_1154.2 7 (by decide +kernel)).trans g_1153_7
  have g_1154_8 := (F_1154.2 8 (by decide +kernel)).trans g_1153_8
  have g_1154_9 := (F_1154.2 9 (by decide +kernel)).trans g_1153_9
  have g_1154_10 := (F_1154.2 10 (by decide +kernel)).trans g_1153_10
  have g_1154_11 := (F_1154.2 11 (by decide +kernel)).trans g_1153_11
  have g_1154_12 := (F_1154.2 12 (by decide +kernel)).trans g_1153_12
  have g_1154_13 := (F_1154.2 13 (by decide +kernel)).trans g_1153_13
  have g_1154_14 := (F_1154.2 14 (by decide +kernel)).trans g_1153_14
  have g_1154_15 := (F_1154.2 15 (by decide +kernel)).trans g_1153_15
  have g_1154_16 := (F_1154.2 16 (by decide +kernel)).trans g_1153_16
  have g_1154_17 := (F_1154.2 17 (by decide +kernel)).trans g_1153_17
  have g_1154_18 := (F_1154.2 18 (by decide +kernel)).trans g_1153_18
  have g_1154_19 := (F_1154.2 19 (by decide +kernel)).trans g_1153_19
  have g_1154_20 := (F_1154.2 20 (by decide +kernel)).trans g_1153_20
  have g_1154_21 := mf_cr_f g_1153_21 (F_1154.2 21 (by decide +kernel)) (F_1154.2 22 (by decide +kernel)) (F_1154.2 23 (by decide +kernel)) (F_1154.2 24 (by decide +kernel))
  have g_1154_25 := mf_cr_f g_1153_25 (F_1154.2 25 (by decide +kernel)) (F_1154.2 26 (by decide +kernel)) (F_1154.2 27 (by decide +kernel)) (F_1154.2 28 (by decide +kernel))
  have g_1154_29 := mf_cr_f g_1153_29 (F_1154.2 29 (by decide +kernel)) (F_1154.2 30 (by decide +kernel)) (F_1154.2 31 (by decide +kernel)) (F_1154.2 32 (by decide +kernel))
  have g_1154_33 := mf_cr_f g_1153_33 (F_1154.2 33 (by decide +kernel)) (F_1154.2 34 (by decide +kernel)) (F_1154.2 35 (by decide +kernel)) (F_1154.2 36 (by decide +kernel))
  have g_1154_37 := mf_cr_f g_1153_37 (F_1154.2 37 (by decide +kernel)) (F_1154.2 38 (by decide +kernel)) (F_1154.2 39 (by decide +kernel)) (F_1154.2 40 (by decide +kernel))
  have g_1154_41 := mf_cr_f g_1153_41 (F_1154.2 41 (by decide +kernel)) (F_1154.2 42 (by decide +kernel)) (F_1154.2 43 (by decide +kernel)) (F_1154.2 44 (by decide +kernel))
  have g_1154_45 := (F_1154.2 45 (by decide +kernel)).trans g_1153_45
  have g_1154_46 := (F_1154.2 46 (by decide +kernel)).trans g_1153_46
  have g_1154_47 := (F_1154.2 47 (by decide +kernel)).trans g_1153_47
  have g_1154_48 := (F_1154.2 48 (by decide +kernel)).trans g_1153_48
  have g_1154_49 := (F_1154.2 49 (by decide +kernel)).trans g_1153_49
  have g_1154_50 := (F_1154.2 50 (by decide +kernel)).trans g_1153_50
  have g_1154_57 := (F_1154.2 57 (by decide +kernel)).trans g_1153_57
  have g_1154_67 := (F_1154.2 67 (by decide +kernel)).trans g_1153_67
  have g_1154_68 := (F_1154.2 68 (by decide +kernel)).trans g_1153_68
  have g_1154_69 := (F_1154.2 69 (by decide +kernel)).trans g_1153_69
  have g_1154_71 := (F_1154.2 71 (by decide +kernel)).trans g_1153_71
  have g_1154_77 : cE h_1154 77 (.inl (.int, fA gt'_1154)) := e_1154_77
  have g_1154_78 : cE h_1154 78 (.inl (.int, fA gd'_1154)) := e_1154_78
  have g_1154_79 : cE h_1154 79 (.inl (.long, fL xs'_1154)) := e_1154_79
  have g_1154_80 : cE h_1154 80 (.inl (.long, fL ys'_1154)) := e_1154_80
  have g_1154_81 : cE h_1154 81 (.inl (.long, fL r1'_1154)) := e_1154_81
  have g_1154_82 : cE h_1154 82 (.inl (.long, fL r2'_1154)) := e_1154_82
  have g_1154_66 : cE h_1154 66 (.inr (10, [fI pl, .ref 67, .ref 68, .ref 69, fI ((s : Nat) : Int), .ref 70, .ref 71, fI mi, fI sd, .ref 72, fI tn, fI fp, fI sc0, fJ sc1, fI sc2, fI sc3, fI sc4, fI sc5, .ref 73, .ref 74, .ref 75, .ref 76, .ref 77, .ref 78, fI w'_1154, .ref 79, .ref 80, .ref 81, .ref 82, .ref 83, .ref 84, .ref 85, fJ sb'_1154, fJ wa'_1154, .ref 86, .ref 87, fI r, .ref 88, .ref 89, .ref 90, .ref 91, .ref 92, .ref 93])) := e_1154_66
  have g_1154_70 : cE h_1154 70 (.inl (.int, fA [ka, pa, fa, kb, pb, fb])) := e_1154_70
  have g_1154_83 : cE h_1154 83 (.inl (.long, fL fr'_1154)) := e_1154_83
  have g_1154_84 : cE h_1154 84 (.inl (.long, fL so'_1154)) := e_1154_84
  have g_1154_85 : cE h_1154 85 (.inl (.long, fL sw'_1154)) := e_1154_85
  have g_1154_86 : cE h_1154 86 (.inl (.int, fA ro'_1154)) := e_1154_86
  have g_1154_87 : cE h_1154 87 (.inl (.int, fA cl'_1154)) := e_1154_87
  refine ⟨⟨_, rfl⟩, ?_⟩
  have gT_1154 := st_gT_t F_1154 (by decide +kernel) gT_1153
  have gR_1154 := st_gR_t F_1154 (by decide +kernel) gR_1153
  have gL_1154 := st_gL_t F_1154 (by decide +kernel) gL_1153
  have gI_1154 := st_gI_t F_1154 (by decide +kernel) gI_1153
  have gJ_1154 := st_gJ_t F_1154 (by decide +kernel) gJ_1153
  have hT_1154 := st_hT_t F_1154 (by decide +kernel) hT_1153
  have hR_1154 := st_hR_t F_1154 (by decide +kernel) hR_1153
  have hL_1154 := st_hL_t F_1154 (by decide +kernel) hL_1153
  have hI_1154 := st_hI_t F_1154 (by decide +kernel) hI_1153
  intro C_ k_
  exact k_ tn fp pl mi sd ka pa fa kb pb fb xa xb r n0 n1 ga0 gm0 gd_0 gs0 g00 g01 g02 g03 g04 g05 gx0 gy0 ga1 gm1 gd_1 gs1 g10 g11 g12 g13 g14 g15 gx1 gy1 s T cn go ch wg wc we rp rt lr ci0 ci1 cnr gor chr T2 im f_pl f_s f_st f_cb f_cr f_rw f_al f_wy f_k f_p f_x (by omega) f_sd f_r f_rr f_n f_l0 f_l1 f_tn f_t (st_I_K f_i0) (st_I_K f_i1) ⟨g_1154_0, g_1154_18, g_1154_57⟩ gT_1154 ⟨g_1154_7, g_1154_8, n8, g_1154_9, n9, g_1154_10, n10, g_1154_11, n11, g_1154_12, n12, g_1154_13, n13⟩ ⟨g_1154_14, g_1154_15, g_1154_16⟩ ⟨l2_1153, l0_1153, l1_1153, t0, t1, t2, t3, g_1154_17, g_1154_19, g_1154_20⟩ ⟨g_1154_21, g_1154_33⟩ ⟨g_1154_25, g_1154_29, g_1154_37, g_1154_41⟩ ⟨fe'_1153, bo'_1153, sh'_1153, wh'_1153, wo'_1153, p_1153_0, g_1154_45, g_1154_46, m_1153_46, g_1154_47, m_1153_47, g_1154_48, m_1153_48, g_1154_49, m_1153_49, g_1154_50, m_1153_50⟩ gR_1154 gL_1154 gI_1154 gJ_1154 ⟨sc0, sc1, sc2, sc3, sc4, sc5, w'_1154, sb'_1154, wa'_1154, g_1154_66⟩ ⟨g_1154_67, n67, g_1154_68, n68, g_1154_69, n69⟩ ⟨g_1154_70, g_1154_71⟩ hT_1154 ⟨gt'_1154, gd'_1154, xs'_1154, ys'_1154, r1'_1154, r2'_1154, g_1154_77, m_1154_77, g_1154_78, m_1154_78, g_1154_79, m_1154_79, g_1154_80, m_1154_80, g_1154_81, m_1154_81, g_1154_82, m_1154_82⟩ ⟨fr'_1154, so'_1154, sw'_1154, ro'_1154, cl'_1154, p_1154_0, p_1154_1, g_1154_83, m_1154_83, g_1154_84, m_1154_84, g_1154_85, m_1154_85, g_1154_86, m_1154_86, g_1154_87, m_1154_87⟩ hR_1154 hL_1154 hI_1154 k_1154

set_option maxRecDepth 100000 in
theorem lk_mixed2 {K : Nat} {h : List ik_E} (E : st_S K h) (hK : K ≤ 600) {p : Int} {what : Int} (z_p : -2147483648 ≤ p ∧ p < 2147483648) (z_what : -2147483648 ≤ what ∧ what < 2147483648)  : ik_F 102 [.ref 0, fI p, fI 2, fI what] h (fun rv h' => ∃ o_ : Int, rv = [fI o_] ∧ (h'.length = 94 ∧ ∃ fs, h'[66]? = some (.inr (10, fs))) ∧ ik_F 180 [.ref 66, fI p, fI 2, fI what] h' (fun rv' h'' => (∃ v' : Int, rv' = [fI v']) ∧ st_S (K + 1) h'')) := by
  refine E _ ?_
  intro tn fp pl mi sd ka pa fa kb pb fb xa xb r n0 n1 ga0 gm0 gd_0 gs0 g00 g01 g02 g03 g04 g05 gx0 gy0 ga1 gm1 gd_1 gs1 g10 g11 g12 g13 g14 g15 gx1 gy1 s T cn go ch wg wc we rp rt lr ci0 ci1 cnr gor chr T2 im f_pl f_s f_st f_cb f_cr f_rw f_al f_wy f_k f_p f_x f_m f_sd f_r f_rr f_n f_l0 f_l1 f_tn f_t f_i0 f_i1 gA gT gB gC gS gV gW gM gR gL gI gJ hO hB hC hT hS hM hR hL hI hl
  obtain ⟨h0, h18, h57⟩ := gA
  obtain ⟨h7, h8, n8, h9, n9, h10, n10, h11, n11, h12, n12, h13, n13⟩ := gB
  obtain ⟨h14, h15, h16⟩ := gC
  obtain ⟨bo, la, lb, t0, t1, t2, t3, h17, h19, h20⟩ := gS
  obtain ⟨h21, h33⟩ := gV
  obtain ⟨h25, h29, h37, h41⟩ := gW
  obtain ⟨fe, bo_, sh, wh, wo, f_fe, h45, h46, n46, h47, n47, h48, n48, h49, n49, h50, n50⟩ := gM
  obtain ⟨sc0, sc1, sc2, sc3, sc4, sc5, w24, sb, wa, h66⟩ := hO
  obtain ⟨h67, n67, h68, n68, h69, n69⟩ := hB
  obtain ⟨h70, h71⟩ := hC
  obtain ⟨gt, gdd, xs, ys, r1, r2, h77, n77, h78, n78, h79, n79, h80, n80, h81, n81, h82, n82⟩ := hS
  obtain ⟨fr, so, sw, ro, cl, f_ro, f_cl, h83, n83, h84, n84, h85, n85, h86, n86, h87, n87⟩ := hM
  refine ik_F_mono (cp_mixed2 (pl := pl) (lo := ((mj_lost pl cn go : Nat) : Int)) (s := s) (ka := ka) (pa := pa) (fa := fa) (kb := kb) (pb := pb) (fb := fb) (bo := bo) (la := la) (lb := lb) (wg := wg) (wc := wc) (we := we) (W := (fun x => mx_w cnr gor chr s x)) (fe := fe) (bo_ := bo_) (sh := sh) (wh := wh) (wo := wo) (p := p) (what := what) f_pl (fun _ => ⟨f_k.1.1, f_k.1.2, f_k.2.1.1, f_k.2.1.2⟩) (fun x h0 h1 => by have e := mx_al_w f_rw f_al s x h0 h1; exact e.symm ▸ f_wy x h0 h1) (mx_rw_ok (mx_al_rw f_rw f_al) _) f_fe z_p z_what h0 h7 h11 n11 h12 n12 h13 n13 h15 h17 h18 h19 h21 h25 h29 h33 h37 h41 h46 n46 h45 h47 n47 h48 n48 h49 n49 h50 n50 hl) ?_
  rintro _ h_1155 ⟨l0_1155, l1_1155, l2_1155, fe'_1155, bo'_1155, sh'_1155, wh'_1155, wo'_1155, v_1155, rfl, e_1155_17, e_1155_19, e_1155_21, e_1155_25, e_1155_29, e_1155_33, e_1155_37, e_1155_41, e_1155_46, m_1155_46, e_1155_47, m_1155_47, e_1155_48, m_1155_48, e_1155_49, m_1155_49, e_1155_50, m_1155_50, p_1155_0, F_1155⟩
  have k_1155 := F_1155.1.trans hl
  have g_1155_0 := (F_1155.2 0 (by decide +kernel)).trans h0
  have g_1155_7 := (F_1155.2 7 (by decide +kernel)).trans h7
  have g_1155_8 := (F_1155.2 8 (by decide +kernel)).trans h8
  have g_1155_9 := (F_1155.2 9 (by decide +kernel)).trans h9
  have g_1155_10 := (F_1155.2 10 (by decide +kernel)).trans h10
  have g_1155_11 := (F_1155.2 11 (by decide +kernel)).trans h11
  have g_1155_12 := (F_1155.2 12 (by decide +kernel)).trans h12
  have g_1155_13 := (F_1155.2 13 (by decide +kernel)).trans h13
  have g_1155_14 := (F_1155.2 14 (by decide +kernel)).trans h14
  have g_1155_15 := (F_1155.2 15 (by decide +kernel)).trans h15
  have g_1155_16 := (F_1155.2 16 (by decide +kernel)).trans h16
  have g_1155_18 := (F_1155.2 18 (by decide +kernel)).trans h18
  have g_1155_20 := (F_1155.2 20 (by decide +kernel)).trans h20
  have g_1155_45 := (F_1155.2 45 (by decide +kernel)).trans h45
  have g_1155_57 := (F_1155.2 57 (by decide +kernel)).trans h57
  have g_1155_66 := (F_1155.2 66 (by decide +kernel)).trans h66
  have g_1155_67 := (F_1155.2 67 (by decide +kernel)).trans h67
  have g_1155_68 := (F_1155.2 68 (by decide +kernel)).trans h68
  have g_1155_69 := (F_1155.2 69 (by decide +kernel)).trans h69
  have g_1155_70 := (F_1155.2 70 (by decide +kernel)).trans h70
  have g_1155_71 := (F_1155.2 71 (by decide +kernel)).trans h71
  have g_1155_77 := (F_1155.2 77 (by decide +kernel)).trans h77
  have g_1155_78 := (F_1155.2 78 (by decide +kernel)).trans h78
  have g_1155_79 := (F_1155.2 79 (by decide +kernel)).trans h79
  have g_1155_80 := (F_1155.2 80 (by decide +kernel)).trans h80
  have g_1155_81 := (F_1155.2 81 (by decide +kernel)).trans h81
  have g_1155_82 := (F_1155.2 82 (by decide +kernel)).trans h82
  have g_1155_83 := (F_1155.2 83 (by decide +kernel)).trans h83
  have g_1155_84 := (F_1155.2 84 (by decide +kernel)).trans h84
  have g_1155_85 := (F_1155.2 85 (by decide +kernel)).trans h85
  have g_1155_86 := (F_1155.2 86 (by decide +kernel)).trans h86
  have g_1155_87 := (F_1155.2 87 (by decide +kernel)).trans h87
  have g_1155_17 : cE h_1155 17 (.inr (8, [.ref 7, .ref 15, .ref 18, .ref 19, fJ l2_1155, .ref 20])) := e_1155_17
  have g_1155_19 : cE h_1155 19 (.inl (.long, fL [l0_1155, l1_1155])) := e_1155_19
  have g_1155_21 : mf_cr h_1155 21  := e_1155_21
  have g_1155_25 : mf_cr h_1155 25  := e_1155_25
  have g_1155_29 : mf_cr h_1155 29  := e_1155_29
  have g_1155_33 : mf_cr h_1155 33  := e_1155_33
  have g_1155_37 : mf_cr h_1155 37  := e_1155_37
  have g_1155_41 : mf_cr h_1155 41  := e_1155_41
  have g_1155_46 : cE h_1155 46 (.inl (.int, fA fe'_1155)) := e_1155_46
  have g_1155_47 : cE h_1155 47 (.inl (.long, fL bo'_1155)) := e_1155_47
  have g_1155_48 : cE h_1155 48 (.inl (.long, fL sh'_1155)) := e_1155_48
  have g_1155_49 : cE h_1155 49 (.inl (.long, fL wh'_1155)) := e_1155_49
  have g_1155_50 : cE h_1155 50 (.inl (.long, fL wo'_1155)) := e_1155_50
  refine ⟨v_1155, rfl, ⟨k_1155, _, g_1155_66⟩, ?_⟩
  have gT_1155 := st_gT_t F_1155 (by decide +kernel) gT
  have gR_1155 := st_gR_t F_1155 (by decide +kernel) gR
  have gL_1155 := st_gL_t F_1155 (by decide +kernel) gL
  have gI_1155 := st_gI_t F_1155 (by decide +kernel) gI
  have gJ_1155 := st_gJ_t F_1155 (by decide +kernel) gJ
  have hT_1155 := st_hT_t F_1155 (by decide +kernel) hT
  have hR_1155 := st_hR_t F_1155 (by decide +kernel) hR
  have hL_1155 := st_hL_t F_1155 (by decide +kernel) hL
  have hI_1155 := st_hI_t F_1155 (by decide +kernel) hI
  refine ik_F_mono (rp_mixed2 (pl := pl) (f := fun j => ([0, 0, 0, 0, 0, 0, 0, mi, sd, 0, tn, fp, sc0, sc1, sc2, sc3, sc4, sc5, 0, 0, 0, 0, 0, 0, w24, 0, 0, 0, 0, 0, 0, 0, sb, wa, 0, 0, r, 0, 0, 0, 0, 0, 0] : List Int).getD j 0) (s := s) (cn := cnr) (go := gor) (ch := chr) (gt := gt) (gd := gdd) (xs := xs) (ys := ys) (ka := ka) (pa := pa) (fa := fa) (kb := kb) (pb := pb) (fb := fb) (r1 := r1) (r2 := r2) (p := p) (what := what) (fr := fr) (so := so) (sw := sw) (ro := ro) (cl := cl) f_pl f_s (fun x h0 h1 => by have := ((mx_al_rw f_rw f_al) x h0 h1).1; omega) (mx_rw_ch (mx_al_rw f_rw f_al)) (mx_rw_ok (mx_al_rw f_rw f_al) _) (fun _ => f_k.1) (fun _ => f_k.2.1) f_ro f_cl z_p z_what g_1155_66 g_1155_67 n67 g_1155_68 n68 g_1155_69 n69 g_1155_77 n77 g_1155_78 n78 g_1155_79 n79 g_1155_80 n80 g_1155_70 g_1155_81 n81 g_1155_82 n82 g_1155_83 n83 g_1155_84 n84 g_1155_85 n85 g_1155_86 n86 g_1155_87 n87 k_1155) ?_
  rintro _ h_1156 ⟨w'_1156, gt'_1156, gd'_1156, xs'_1156, ys'_1156, r1'_1156, r2'_1156, fr'_1156, sb'_1156, wa'_1156, so'_1156, sw'_1156, ro'_1156, cl'_1156, v_1156, rfl, e_1156_77, m_1156_77, e_1156_78, m_1156_78, e_1156_79, m_1156_79, e_1156_80, m_1156_80, e_1156_81, m_1156_81, e_1156_82, m_1156_82, e_1156_66, e_1156_70, e_1156_83, m_1156_83, e_1156_84, m_1156_84, e_1156_85, m_1156_85, e_1156_86, m_1156_86, e_1156_87, m_1156_87, p_1156_0, p_1156_1, F_1156⟩
  have k_1156 := F_1156.1.trans k_1155
  have g_1156_0 := (F_1156.2 0 (by decide +kernel)).trans g_1155_0
  have g_1156_7 := (F_1156.2 7 (by decide +kernel)).trans g_1155_7
  have g_1156_8 := (F_1156.2 8 (by decide +kernel)).trans g_1155_8
  have g_1156_9 := (F_1156.2 9 (by decide +kernel)).trans g_1155_9
  have g_1156_10 := (F_1156.2 10 (by decide +kernel)).trans g_1155_10
  have g_1156_11 := (F_1156.2 11 (by decide +kernel)).trans g_1155_11
  have g_1156_12 := (F_1156.2 12 (by decide +kernel)).trans g_1155_12
  have g_1156_13 := (F_1156.2 13 (by decide +kernel)).trans g_1155_13
  have g_1156_14 := (F_1156.2 14 (by decide +kernel)).trans g_1155_14
  have g_1156_15 := (F_1156.2 15 (by decide +kernel)).trans g_1155_15
  have g_1156_16 := (F_1156.2 16 (by decide +kernel)).trans g_1155_16
  have g_1156_17 := (F_1156.2 17 (by decide +kernel)).trans g_1155_17
  have g_1156_18 := (F_1156.2 18 (by decide +kernel)).trans g_1155_18
  have g_1156_19 := (F_1156.2 19 (by decide +kernel)).trans g_1155_19
  have g_1156_20 := (F_1156.2 20 (by decide +kernel)).trans g_1155_20
  have g_1156_21 := mf_cr_f g_1155_21 (F_1156.2 21 (by decide +kernel)) (F_1156.2 22 (by decide +kernel)) (F_1156.2 23 (by decide +kernel)) (F_1156.2 24 (by decide +kernel))
  have g_1156_25 := mf_cr_f g_1155_25 (F_1156.2 25 (by decide +kernel)) (F_1156.2 26 (by decide +kernel)) (F_1156.2 27 (by decide +kernel)) (F_1156.2 28 (by decide +kernel))
  have g_1156_29 := mf_cr_f g_1155_29 (F_1156.2 29 (by decide +kernel)) (F_1156.2 30 (by decide +kernel)) (F_1156.2 31 (by decide +kernel)) (F_1156.2 32 (by decide +kernel))
  have g_1156_33 := mf_cr_f g_1155_33 (F_1156.2 33 (by decide +kernel)) (F_1156.2 34 (by decide +kernel)) (F_1156.2 35 (by decide +kernel)) (F_1156.2 36 (by decide +kernel))
  have g_1156_37 := mf_cr_f g_1155_37 (F_1156.2 37 (by decide +kernel)) (F_1156.2 38 (by decide +kernel)) (F_1156.2 39 (by decide +kernel)) (F_1156.2 40 (by decide +kernel))
  have g_1156_41 := mf_cr_f g_1155_41 (F_1156.2 41 (by decide +kernel)) (F_1156.2 42 (by decide +kernel)) (F_1156.2 43 (by decide +kernel)) (F_1156.2 44 (by decide +kernel))
  have g_1156_45 := (F_1156.2 45 (by decide +kernel)).trans g_1155_45
  have g_1156_46 := (F_1156.2 46 (by decide +kernel)).trans g_1155_46
  have g_1156_47 := (F_1156.2 47 (by decide +kernel)).trans g_1155_47
  have g_1156_48 := (F_1156.2 48 (by decide +kernel)).trans g_1155_48
  have g_1156_49 := (F_1156.2 49 (by decide +kernel)).trans g_1155_49
  have g_1156_50 := (F_1156.2 50 (by decide +kernel)).trans g_1155_50
  have g_1156_57 := (F_1156.2 57 (by decide +kernel)).trans g_1155_57
  have g_1156_67 := (F_1156.2 67 (by decide +kernel)).trans g_1155_67
  have g_1156_68 := (F_1156.2 68 (by decide +kernel)).trans g_1155_68
  have g_1156_69 := (F_1156.2 69 (by decide +kernel)).trans g_1155_69
  have g_1156_71 := (F_1156.2 71 (by decide +kernel)).trans g_1155_71
  have g_1156_77 : cE h_1156 77 (.inl (.int, fA gt'_1156)) := e_1156_77
  have g_1156_78 : cE h_1156 78 (.inl (.int, fA gd'_1156)) := e_1156_78
  have g_1156_79 : cE h_1156 79 (.inl (.long, fL xs'_1156)) := e_1156_79
  have g_1156_80 : cE h_1156 80 (.inl (.long, fL ys'_1156)) := e_1156_80
  have g_1156_81 : cE h_1156 81 (.inl (.long, fL r1'_1156)) := e_1156_81
  have g_1156_82 : cE h_1156 82 (.inl (.long, fL r2'_1156)) := e_1156_82
  have g_1156_66 : cE h_1156 66 (.inr (10, [fI pl, .ref 67, .ref 68, .ref 69, fI ((s : Nat) : Int), .ref 70, .ref 71, fI mi, fI sd, .ref 72, fI tn, fI fp, fI sc0, fJ sc1, fI sc2, fI sc3, fI sc4, fI sc5, .ref 73, .ref 74, .ref 75, .ref 76, .ref 77, .ref 78, fI w'_1156, .ref 79, .ref 80, .ref 81, .ref 82, .ref 83, .ref 84, .ref 85, fJ sb'_1156, fJ wa'_1156, .ref 86, .ref 87, fI r, .ref 88, .ref 89, .ref 90, .ref 91, .ref 92, .ref 93])) := e_1156_66
  have g_1156_70 : cE h_1156 70 (.inl (.int, fA [ka, pa, fa, kb, pb, fb])) := e_1156_70
  have g_1156_83 : cE h_1156 83 (.inl (.long, fL fr'_1156)) := e_1156_83
  have g_1156_84 : cE h_1156 84 (.inl (.long, fL so'_1156)) := e_1156_84
  have g_1156_85 : cE h_1156 85 (.inl (.long, fL sw'_1156)) := e_1156_85
  have g_1156_86 : cE h_1156 86 (.inl (.int, fA ro'_1156)) := e_1156_86
  have g_1156_87 : cE h_1156 87 (.inl (.int, fA cl'_1156)) := e_1156_87
  refine ⟨⟨_, rfl⟩, ?_⟩
  have gT_1156 := st_gT_t F_1156 (by decide +kernel) gT_1155
  have gR_1156 := st_gR_t F_1156 (by decide +kernel) gR_1155
  have gL_1156 := st_gL_t F_1156 (by decide +kernel) gL_1155
  have gI_1156 := st_gI_t F_1156 (by decide +kernel) gI_1155
  have gJ_1156 := st_gJ_t F_1156 (by decide +kernel) gJ_1155
  have hT_1156 := st_hT_t F_1156 (by decide +kernel) hT_1155
  have hR_1156 := st_hR_t F_1156 (by decide +kernel) hR_1155
  have hL_1156 := st_hL_t F_1156 (by decide +kernel) hL_1155
  have hI_1156 := st_hI_t F_1156 (by decide +kernel) hI_1155
  intro C_ k_
  exact k_ tn fp pl mi sd ka pa fa kb pb fb xa xb r n0 n1 ga0 gm0 gd_0 gs0 g00 g01 g02 g03 g04 g05 gx0 gy0 ga1 gm1 gd_1 gs1 g10 g11 g12 g13 g14 g15 gx1 gy1 s T cn go ch wg wc we rp rt lr ci0 ci1 cnr gor chr T2 im f_pl f_s f_st f_cb f_cr f_rw f_al f_wy f_k f_p f_x (by omega) f_sd f_r f_rr f_n f_l0 f_l1 f_tn f_t (st_I_K f_i0) (st_I_K f_i1) ⟨g_1156_0, g_1156_18, g_1156_57⟩ gT_1156 ⟨g_1156_7, g_1156_8, n8, g_1156_9, n9, g_1156_10, n10, g_1156_11, n11, g_1156_12, n12, g_1156_13, n13⟩ ⟨g_1156_14, g_1156_15, g_1156_16⟩ ⟨l2_1155, l0_1155, l1_1155, t0, t1, t2, t3, g_1156_17, g_1156_19, g_1156_20⟩ ⟨g_1156_21, g_1156_33⟩ ⟨g_1156_25, g_1156_29, g_1156_37, g_1156_41⟩ ⟨fe'_1155, bo'_1155, sh'_1155, wh'_1155, wo'_1155, p_1155_0, g_1156_45, g_1156_46, m_1155_46, g_1156_47, m_1155_47, g_1156_48, m_1155_48, g_1156_49, m_1155_49, g_1156_50, m_1155_50⟩ gR_1156 gL_1156 gI_1156 gJ_1156 ⟨sc0, sc1, sc2, sc3, sc4, sc5, w'_1156, sb'_1156, wa'_1156, g_1156_66⟩ ⟨g_1156_67, n67, g_1156_68, n68, g_1156_69, n69⟩ ⟨g_1156_70, g_1156_71⟩ hT_1156 ⟨gt'_1156, gd'_1156, xs'_1156, ys'_1156, r1'_1156, r2'_1156, g_1156_77, m_1156_77, g_1156_78, m_1156_78, g_1156_79, m_1156_79, g_1156_80, m_1156_80, g_1156_81, m_1156_81, g_1156_82, m_1156_82⟩ ⟨fr'_1156, so'_1156, sw'_1156, ro'_1156, cl'_1156, p_1156_0, p_1156_1, g_1156_83, m_1156_83, g_1156_84, m_1156_84, g_1156_85, m_1156_85, g_1156_86, m_1156_86, g_1156_87, m_1156_87⟩ hR_1156 hL_1156 hI_1156 k_1156

set_option maxRecDepth 100000 in
theorem lk_mixed3 {K : Nat} {h : List ik_E} (E : st_S K h) (hK : K ≤ 600) {p : Int} {what : Int} (z_p : -2147483648 ≤ p ∧ p < 2147483648) (z_what : -2147483648 ≤ what ∧ what < 2147483648)  : ik_F 102 [.ref 0, fI p, fI 3, fI what] h (fun rv h' => ∃ o_ : Int, rv = [fI o_] ∧ (h'.length = 94 ∧ ∃ fs, h'[66]? = some (.inr (10, fs))) ∧ ik_F 180 [.ref 66, fI p, fI 3, fI what] h' (fun rv' h'' => (∃ v' : Int, rv' = [fI v']) ∧ st_S (K + 1) h'')) := by
  refine E _ ?_
  intro tn fp pl mi sd ka pa fa kb pb fb xa xb r n0 n1 ga0 gm0 gd_0 gs0 g00 g01 g02 g03 g04 g05 gx0 gy0 ga1 gm1 gd_1 gs1 g10 g11 g12 g13 g14 g15 gx1 gy1 s T cn go ch wg wc we rp rt lr ci0 ci1 cnr gor chr T2 im f_pl f_s f_st f_cb f_cr f_rw f_al f_wy f_k f_p f_x f_m f_sd f_r f_rr f_n f_l0 f_l1 f_tn f_t f_i0 f_i1 gA gT gB gC gS gV gW gM gR gL gI gJ hO hB hC hT hS hM hR hL hI hl
  obtain ⟨h0, h18, h57⟩ := gA
  obtain ⟨h7, h8, n8, h9, n9, h10, n10, h11, n11, h12, n12, h13, n13⟩ := gB
  obtain ⟨h14, h15, h16⟩ := gC
  obtain ⟨bo, la, lb, t0, t1, t2, t3, h17, h19, h20⟩ := gS
  obtain ⟨h21, h33⟩ := gV
  obtain ⟨h25, h29, h37, h41⟩ := gW
  obtain ⟨fe, bo_, sh, wh, wo, f_fe, h45, h46, n46, h47, n47, h48, n48, h49, n49, h50, n50⟩ := gM
  obtain ⟨sc0, sc1, sc2, sc3, sc4, sc5, w24, sb, wa, h66⟩ := hO
  obtain ⟨h67, n67, h68, n68, h69, n69⟩ := hB
  obtain ⟨h70, h71⟩ := hC
  obtain ⟨gt, gdd, xs, ys, r1, r2, h77, n77, h78, n78, h79, n79, h80, n80, h81, n81, h82, n82⟩ := hS
  obtain ⟨fr, so, sw, ro, cl, f_ro, f_cl, h83, n83, h84, n84, h85, n85, h86, n86, h87, n87⟩ := hM
  refine ik_F_mono (cp_mixed3 (pl := pl) (lo := ((mj_lost pl cn go : Nat) : Int)) (s := s) (ka := ka) (pa := pa) (fa := fa) (kb := kb) (pb := pb) (fb := fb) (bo := bo) (la := la) (lb := lb) (wg := wg) (wc := wc) (we := we) (W := (fun x => mx_w cnr gor chr s x)) (fe := fe) (bo_ := bo_) (sh := sh) (wh := wh) (wo := wo) (p := p) (what := what) f_pl (fun _ => ⟨f_k.1.1, f_k.1.2, f_k.2.1.1, f_k.2.1.2⟩) (fun x h0 h1 => by have e := mx_al_w f_rw f_al s x h0 h1; exact e.symm ▸ f_wy x h0 h1) (mx_rw_ok (mx_al_rw f_rw f_al) _) f_fe z_p z_what h0 h7 h11 n11 h12 n12 h13 n13 h15 h17 h18 h19 h21 h25 h29 h33 h37 h41 h46 n46 h45 h47 n47 h48 n48 h49 n49 h50 n50 hl) ?_
  rintro _ h_1157 ⟨l0_1157, l1_1157, l2_1157, fe'_1157, bo'_1157, sh'_1157, wh'_1157, wo'_1157, v_1157, rfl, e_1157_17, e_1157_19, e_1157_21, e_1157_25, e_1157_29, e_1157_33, e_1157_37, e_1157_41, e_1157_46, m_1157_46, e_1157_47, m_1157_47, e_1157_48, m_1157_48, e_1157_49, m_1157_49, e_1157_50, m_1157_50, p_1157_0, F_1157⟩
  have k_1157 := F_1157.1.trans hl
  have g_1157_0 := (F_1157.2 0 (by decide +kernel)).trans h0
  have g_1157_7 := (F_1157.2 7 (by decide +kernel)).trans h7
  have g_1157_8 := (F_1157.2 8 (by decide +kernel)).trans h8
  have g_1157_9 := (F_1157.2 9 (by decide +kernel)).trans h9
  have g_1157_10 := (F_1157.2 10 (by decide +kernel)).trans h10
  have g_1157_11 := (F_1157.2 11 (by decide +kernel)).trans h11
  have g_1157_12 := (F_1157.2 12 (by decide +kernel)).trans h12
  have g_1157_13 := (F_1157.2 13 (by decide +kernel)).trans h13
  have g_1157_14 := (F_1157.2 14 (by decide +kernel)).trans h14
  have g_1157_15 := (F_1157.2 15 (by decide +kernel)).trans h15
  have g_1157_16 := (F_1157.2 16 (by decide +kernel)).trans h16
  have g_1157_18 := (F_1157.2 18 (by decide +kernel)).trans h18
  have g_1157_20 := (F_1157.2 20 (by decide +kernel)).trans h20
  have g_1157_45 := (F_1157.2 45 (by decide +kernel)).trans h45
  have g_1157_57 := (F_1157.2 57 (by decide +kernel)).trans h57
  have g_1157_66 := (F_1157.2 66 (by decide +kernel)).trans h66
  have g_1157_67 := (F_1157.2 67 (by decide +kernel)).trans h67
  have g_1157_68 := (F_1157.2 68 (by decide +kernel)).trans h68
  have g_1157_69 := (F_1157.2 69 (by decide +kernel)).trans h69
  have g_1157_70 := (F_1157.2 70 (by decide +kernel)).trans h70
  have g_1157_71 := (F_1157.2 71 (by decide +kernel)).trans h71
  have g_1157_77 := (F_1157.2 77 (by decide +kernel)).trans h77
  have g_1157_78 := (F_1157.2 78 (by decide +kernel)).trans h78
  have g_1157_79 := (F_1157.2 79 (by decide +kernel)).trans h79
  have g_1157_80 := (F_1157.2 80 (by decide +kernel)).trans h80
  have g_1157_81 := (F_1157.2 81 (by decide +kernel)).trans h81
  have g_1157_82 := (F_1157.2 82 (by decide +kernel)).trans h82
  have g_1157_83 := (F_1157.2 83 (by decide +kernel)).trans h83
  have g_1157_84 := (F_1157.2 84 (by decide +kernel)).trans h84
  have g_1157_85 := (F_1157.2 85 (by decide +kernel)).trans h85
  have g_1157_86 := (F_1157.2 86 (by decide +kernel)).trans h86
  have g_1157_87 := (F_1157.2 87 (by decide +kernel)).trans h87
  have g_1157_17 : cE h_1157 17 (.inr (8, [.ref 7, .ref 15, .ref 18, .ref 19, fJ l2_1157, .ref 20])) := e_1157_17
  have g_1157_19 : cE h_1157 19 (.inl (.long, fL [l0_1157, l1_1157])) := e_1157_19
  have g_1157_21 : mf_cr h_1157 21  := e_1157_21
  have g_1157_25 : mf_cr h_1157 25  := e_1157_25
  have g_1157_29 : mf_cr h_1157 29  := e_1157_29
  have g_1157_33 : mf_cr h_1157 33  := e_1157_33
  have g_1157_37 : mf_cr h_1157 37  := e_1157_37
  have g_1157_41 : mf_cr h_1157 41  := e_1157_41
  have g_1157_46 : cE h_1157 46 (.inl (.int, fA fe'_1157)) := e_1157_46
  have g_1157_47 : cE h_1157 47 (.inl (.long, fL bo'_1157)) := e_1157_47
  have g_1157_48 : cE h_1157 48 (.inl (.long, fL sh'_1157)) := e_1157_48
  have g_1157_49 : cE h_1157 49 (.inl (.long, fL wh'_1157)) := e_1157_49
  have g_1157_50 : cE h_1157 50 (.inl (.long, fL wo'_1157)) := e_1157_50
  refine ⟨v_1157, rfl, ⟨k_1157, _, g_1157_66⟩, ?_⟩
  have gT_1157 := st_gT_t F_1157 (by decide +kernel) gT
  have gR_1157 := st_gR_t F_1157 (by decide +kernel) gR
  have gL_1157 := st_gL_t F_1157 (by decide +kernel) gL
  have gI_1157 := st_gI_t F_1157 (by decide +kernel) gI
  have gJ_1157 := st_gJ_t F_1157 (by decide +kernel) gJ
  have hT_1157 := st_hT_t F_1157 (by decide +kernel) hT
  have hR_1157 := st_hR_t F_1157 (by decide +kernel) hR
  have hL_1157 := st_hL_t F_1157 (by decide +kernel) hL
  have hI_1157 := st_hI_t F_1157 (by decide +kernel) hI
  refine ik_F_mono (rp_mixed3 (pl := pl) (f := fun j => ([0, 0, 0, 0, 0, 0, 0, mi, sd, 0, tn, fp, sc0, sc1, sc2, sc3, sc4, sc5, 0, 0, 0, 0, 0, 0, w24, 0, 0, 0, 0, 0, 0, 0, sb, wa, 0, 0, r, 0, 0, 0, 0, 0, 0] : List Int).getD j 0) (s := s) (cn := cnr) (go := gor) (ch := chr) (gt := gt) (gd := gdd) (xs := xs) (ys := ys) (ka := ka) (pa := pa) (fa := fa) (kb := kb) (pb := pb) (fb := fb) (r1 := r1) (r2 := r2) (p := p) (what := what) (fr := fr) (so := so) (sw := sw) (ro := ro) (cl := cl) f_pl f_s (fun x h0 h1 => by have := ((mx_al_rw f_rw f_al) x h0 h1).1; omega) (mx_rw_ch (mx_al_rw f_rw f_al)) (mx_rw_ok (mx_al_rw f_rw f_al) _) (fun _ => f_k.1) (fun _ => f_k.2.1) f_ro f_cl z_p z_what g_1157_66 g_1157_67 n67 g_1157_68 n68 g_1157_69 n69 g_1157_77 n77 g_1157_78 n78 g_1157_79 n79 g_1157_80 n80 g_1157_70 g_1157_81 n81 g_1157_82 n82 g_1157_83 n83 g_1157_84 n84 g_1157_85 n85 g_1157_86 n86 g_1157_87 n87 k_1157) ?_
  rintro _ h_1158 ⟨w'_1158, gt'_1158, gd'_1158, xs'_1158, ys'_1158, r1'_1158, r2'_1158, fr'_1158, sb'_1158, wa'_1158, so'_1158, sw'_1158, ro'_1158, cl'_1158, v_1158, rfl, e_1158_77, m_1158_77, e_1158_78, m_1158_78, e_1158_79, m_1158_79, e_1158_80, m_1158_80, e_1158_81, m_1158_81, e_1158_82, m_1158_82, e_1158_66, e_1158_70, e_1158_83, m_1158_83, e_1158_84, m_1158_84, e_1158_85, m_1158_85, e_1158_86, m_1158_86, e_1158_87, m_1158_87, p_1158_0, p_1158_1, F_1158⟩
  have k_1158 := F_1158.1.trans k_1157
  have g_1158_0 := (F_1158.2 0 (by decide +kernel)).trans g_1157_0
  have g_1158_7 := (F_1158.2 7 (by decide +kernel)).trans g_1157_7
  have g_1158_8 := (F_1158.2 8 (by decide +kernel)).trans g_1157_8
  have g_1158_9 := (F_1158.2 9 (by decide +kernel)).trans g_1157_9
  have g_1158_10 := (F_1158.2 10 (by decide +kernel)).trans g_1157_10
  have g_1158_11 := (F_1158.2 11 (by decide +kernel)).trans g_1157_11
  have g_1158_12 := (F_1158.2 12 (by decide +kernel)).trans g_1157_12
  have g_1158_13 := (F_1158.2 13 (by decide +kernel)).trans g_1157_13
  have g_1158_14 := (F_1158.2 14 (by decide +kernel)).trans g_1157_14
  have g_1158_15 := (F_1158.2 15 (by decide +kernel)).trans g_1157_15
  have g_1158_16 := (F_1158.2 16 (by decide +kernel)).trans g_1157_16
  have g_1158_17 := (F_1158.2 17 (by decide +kernel)).trans g_1157_17
  have g_1158_18 := (F_1158.2 18 (by decide +kernel)).trans g_1157_18
  have g_1158_19 := (F_1158.2 19 (by decide +kernel)).trans g_1157_19
  have g_1158_20 := (F_1158.2 20 (by decide +kernel)).trans g_1157_20
  have g_1158_21 := mf_cr_f g_1157_21 (F_1158.2 21 (by decide +kernel)) (F_1158.2 22 (by decide +kernel)) (F_1158.2 23 (by decide +kernel)) (F_1158.2 24 (by decide +kernel))
  have g_1158_25 := mf_cr_f g_1157_25 (F_1158.2 25 (by decide +kernel)) (F_1158.2 26 (by decide +kernel)) (F_1158.2 27 (by decide +kernel)) (F_1158.2 28 (by decide +kernel))
  have g_1158_29 := mf_cr_f g_1157_29 (F_1158.2 29 (by decide +kernel)) (F_1158.2 30 (by decide +kernel)) (F_1158.2 31 (by decide +kernel)) (F_1158.2 32 (by decide +kernel))
  have g_1158_33 := mf_cr_f g_1157_33 (F_1158.2 33 (by decide +kernel)) (F_1158.2 34 (by decide +kernel)) (F_1158.2 35 (by decide +kernel)) (F_1158.2 36 (by decide +kernel))
  have g_1158_37 := mf_cr_f g_1157_37 (F_1158.2 37 (by decide +kernel)) (F_1158.2 38 (by decide +kernel)) (F_1158.2 39 (by decide +kernel)) (F_1158.2 40 (by decide +kernel))
  have g_1158_41 := mf_cr_f g_1157_41 (F_1158.2 41 (by decide +kernel)) (F_1158.2 42 (by decide +kernel)) (F_1158.2 43 (by decide +kernel)) (F_1158.2 44 (by decide +kernel))
  have g_1158_45 := (F_1158.2 45 (by decide +kernel)).trans g_1157_45
  have g_1158_46 := (F_1158.2 46 (by decide +kernel)).trans g_1157_46
  have g_1158_47 := (F_1158.2 47 (by decide +kernel)).trans g_1157_47
  have g_1158_48 := (F_1158.2 48 (by decide +kernel)).trans g_1157_48
  have g_1158_49 := (F_1158.2 49 (by decide +kernel)).trans g_1157_49
  have g_1158_50 := (F_1158.2 50 (by decide +kernel)).trans g_1157_50
  have g_1158_57 := (F_1158.2 57 (by decide +kernel)).trans g_1157_57
  have g_1158_67 := (F_1158.2 67 (by decide +kernel)).trans g_1157_67
  have g_1158_68 := (F_1158.2 68 (by decide +kernel)).trans g_1157_68
  have g_1158_69 := (F_1158.2 69 (by decide +kernel)).trans g_1157_69
  have g_1158_71 := (F_1158.2 71 (by decide +kernel)).trans g_1157_71
  have g_1158_77 : cE h_1158 77 (.inl (.int, fA gt'_1158)) := e_1158_77
  have g_1158_78 : cE h_1158 78 (.inl (.int, fA gd'_1158)) := e_1158_78
  have g_1158_79 : cE h_1158 79 (.inl (.long, fL xs'_1158)) := e_1158_79
  have g_1158_80 : cE h_1158 80 (.inl (.long, fL ys'_1158)) := e_1158_80
  have g_1158_81 : cE h_1158 81 (.inl (.long, fL r1'_1158)) := e_1158_81
  have g_1158_82 : cE h_1158 82 (.inl (.long, fL r2'_1158)) := e_1158_82
  have g_1158_66 : cE h_1158 66 (.inr (10, [fI pl, .ref 67, .ref 68, .ref 69, fI ((s : Nat) : Int), .ref 70, .ref 71, fI mi, fI sd, .ref 72, fI tn, fI fp, fI sc0, fJ sc1, fI sc2, fI sc3, fI sc4, fI sc5, .ref 73, .ref 74, .ref 75, .ref 76, .ref 77, .ref 78, fI w'_1158, .ref 79, .ref 80, .ref 81, .ref 82, .ref 83, .ref 84, .ref 85, fJ sb'_1158, fJ wa'_1158, .ref 86, .ref 87, fI r, .ref 88, .ref 89, .ref 90, .ref 91, .ref 92, .ref 93])) := e_1158_66
  have g_1158_70 : cE h_1158 70 (.inl (.int, fA [ka, pa, fa, kb, pb, fb])) := e_1158_70
  have g_1158_83 : cE h_1158 83 (.inl (.long, fL fr'_1158)) := e_1158_83
  have g_1158_84 : cE h_1158 84 (.inl (.long, fL so'_1158)) := e_1158_84
  have g_1158_85 : cE h_1158 85 (.inl (.long, fL sw'_1158)) := e_1158_85
  have g_1158_86 : cE h_1158 86 (.inl (.int, fA ro'_1158)) := e_1158_86
  have g_1158_87 : cE h_1158 87 (.inl (.int, fA cl'_1158)) := e_1158_87
  refine ⟨⟨_, rfl⟩, ?_⟩
  have gT_1158 := st_gT_t F_1158 (by decide +kernel) gT_1157
  have gR_1158 := st_gR_t F_1158 (by decide +kernel) gR_1157
  have gL_1158 := st_gL_t F_1158 (by decide +kernel) gL_1157
  have gI_1158 := st_gI_t F_1158 (by decide +kernel) gI_1157
  have gJ_1158 := st_gJ_t F_1158 (by decide +kernel) gJ_1157
  have hT_1158 := st_hT_t F_1158 (by decide +kernel) hT_1157
  have hR_1158 := st_hR_t F_1158 (by decide +kernel) hR_1157
  have hL_1158 := st_hL_t F_1158 (by decide +kernel) hL_1157
  have hI_1158 := st_hI_t F_1158 (by decide +kernel) hI_1157
  intro C_ k_
  exact k_ tn fp pl mi sd ka pa fa kb pb fb xa xb r n0 n1 ga0 gm0 gd_0 gs0 g00 g01 g02 g03 g04 g05 gx0 gy0 ga1 gm1 gd_1 gs1 g10 g11 g12 g13 g14 g15 gx1 gy1 s T cn go ch wg wc we rp rt lr ci0 ci1 cnr gor chr T2 im f_pl f_s f_st f_cb f_cr f_rw f_al f_wy f_k f_p f_x (by omega) f_sd f_r f_rr f_n f_l0 f_l1 f_tn f_t (st_I_K f_i0) (st_I_K f_i1) ⟨g_1158_0, g_1158_18, g_1158_57⟩ gT_1158 ⟨g_1158_7, g_1158_8, n8, g_1158_9, n9, g_1158_10, n10, g_1158_11, n11, g_1158_12, n12, g_1158_13, n13⟩ ⟨g_1158_14, g_1158_15, g_1158_16⟩ ⟨l2_1157, l0_1157, l1_1157, t0, t1, t2, t3, g_1158_17, g_1158_19, g_1158_20⟩ ⟨g_1158_21, g_1158_33⟩ ⟨g_1158_25, g_1158_29, g_1158_37, g_1158_41⟩ ⟨fe'_1157, bo'_1157, sh'_1157, wh'_1157, wo'_1157, p_1157_0, g_1158_45, g_1158_46, m_1157_46, g_1158_47, m_1157_47, g_1158_48, m_1157_48, g_1158_49, m_1157_49, g_1158_50, m_1157_50⟩ gR_1158 gL_1158 gI_1158 gJ_1158 ⟨sc0, sc1, sc2, sc3, sc4, sc5, w'_1158, sb'_1158, wa'_1158, g_1158_66⟩ ⟨g_1158_67, n67, g_1158_68, n68, g_1158_69, n69⟩ ⟨g_1158_70, g_1158_71⟩ hT_1158 ⟨gt'_1158, gd'_1158, xs'_1158, ys'_1158, r1'_1158, r2'_1158, g_1158_77, m_1158_77, g_1158_78, m_1158_78, g_1158_79, m_1158_79, g_1158_80, m_1158_80, g_1158_81, m_1158_81, g_1158_82, m_1158_82⟩ ⟨fr'_1158, so'_1158, sw'_1158, ro'_1158, cl'_1158, p_1158_0, p_1158_1, g_1158_83, m_1158_83, g_1158_84, m_1158_84, g_1158_85, m_1158_85, g_1158_86, m_1158_86, g_1158_87, m_1158_87⟩ hR_1158 hL_1158 hI_1158 k_1158

set_option maxRecDepth 100000 in
theorem lk_mixedE {K : Nat} {h : List ik_E} (E : st_S K h) (hK : K ≤ 600) {p : Int} {n : Int} {what : Int} (z_p : -2147483648 ≤ p ∧ p < 2147483648) (z_n : -2147483648 ≤ n ∧ n < 2147483648) (z_what : -2147483648 ≤ what ∧ what < 2147483648) (q4 : n < 1 ∨ 3 < n) : ik_F 102 [.ref 0, fI p, fI n, fI what] h (fun rv h' => ∃ o_ : Int, rv = [fI o_] ∧ (h'.length = 94 ∧ ∃ fs, h'[66]? = some (.inr (10, fs))) ∧ ik_F 180 [.ref 66, fI p, fI n, fI what] h' (fun rv' h'' => (∃ v' : Int, rv' = [fI v']) ∧ st_S (K + 1) h'')) := by
  refine E _ ?_
  intro tn fp pl mi sd ka pa fa kb pb fb xa xb r n0 n1 ga0 gm0 gd_0 gs0 g00 g01 g02 g03 g04 g05 gx0 gy0 ga1 gm1 gd_1 gs1 g10 g11 g12 g13 g14 g15 gx1 gy1 s T cn go ch wg wc we rp rt lr ci0 ci1 cnr gor chr T2 im f_pl f_s f_st f_cb f_cr f_rw f_al f_wy f_k f_p f_x f_m f_sd f_r f_rr f_n f_l0 f_l1 f_tn f_t f_i0 f_i1 gA gT gB gC gS gV gW gM gR gL gI gJ hO hB hC hT hS hM hR hL hI hl
  obtain ⟨h0, h18, h57⟩ := gA
  obtain ⟨h7, h8, n8, h9, n9, h10, n10, h11, n11, h12, n12, h13, n13⟩ := gB
  obtain ⟨sc0, sc1, sc2, sc3, sc4, sc5, w24, sb, wa, h66⟩ := hO
  refine ik_F_mono (cp_mixedE (pl := pl) (st := ((s : Nat) : Int)) (lo := ((mj_lost pl cn go : Nat) : Int)) (p := p) (n := n) (what := what) f_pl z_p z_n z_what q4 h0 h7 hl) ?_
  rintro _ h_1159 ⟨v_1159, rfl, F_1159⟩
  have k_1159 := F_1159.1.trans hl
  have g_1159_0 := (F_1159.2 0 (by decide +kernel)).trans h0
  have g_1159_7 := (F_1159.2 7 (by decide +kernel)).trans h7
  have g_1159_8 := (F_1159.2 8 (by decide +kernel)).trans h8
  have g_1159_9 := (F_1159.2 9 (by decide +kernel)).trans h9
  have g_1159_10 := (F_1159.2 10 (by decide +kernel)).trans h10
  have g_1159_11 := (F_1159.2 11 (by decide +kernel)).trans h11
  have g_1159_12 := (F_1159.2 12 (by decide +kernel)).trans h12
  have g_1159_13 := (F_1159.2 13 (by decide +kernel)).trans h13
  have g_1159_18 := (F_1159.2 18 (by decide +kernel)).trans h18
  have g_1159_57 := (F_1159.2 57 (by decide +kernel)).trans h57
  have g_1159_66 := (F_1159.2 66 (by decide +kernel)).trans h66
  refine ⟨v_1159, rfl, ⟨k_1159, _, g_1159_66⟩, ?_⟩
  have gT_1159 := st_gT_t F_1159 (by decide +kernel) gT
  have gC_1159 := st_gC_t F_1159 (by decide +kernel) gC
  have gS_1159 := st_gS_t F_1159 (by decide +kernel) gS
  have gV_1159 := st_gV_t F_1159 (by decide +kernel) gV
  have gW_1159 := st_gW_t F_1159 (by decide +kernel) gW
  have gM_1159 := st_gM_t F_1159 (by decide +kernel) gM
  have gR_1159 := st_gR_t F_1159 (by decide +kernel) gR
  have gL_1159 := st_gL_t F_1159 (by decide +kernel) gL
  have gI_1159 := st_gI_t F_1159 (by decide +kernel) gI
  have gJ_1159 := st_gJ_t F_1159 (by decide +kernel) gJ
  have hB_1159 := st_hB_t F_1159 (by decide +kernel) hB
  have hC_1159 := st_hC_t F_1159 (by decide +kernel) hC
  have hT_1159 := st_hT_t F_1159 (by decide +kernel) hT
  have hS_1159 := st_hS_t F_1159 (by decide +kernel) hS
  have hM_1159 := st_hM_t F_1159 (by decide +kernel) hM
  have hR_1159 := st_hR_t F_1159 (by decide +kernel) hR
  have hL_1159 := st_hL_t F_1159 (by decide +kernel) hL
  have hI_1159 := st_hI_t F_1159 (by decide +kernel) hI
  refine ik_F_mono (rp_mixedE (pl := pl) (f := fun j => ([0, 0, 0, 0, ((s : Nat) : Int), 0, 0, mi, sd, 0, tn, fp, sc0, sc1, sc2, sc3, sc4, sc5, 0, 0, 0, 0, 0, 0, w24, 0, 0, 0, 0, 0, 0, 0, sb, wa, 0, 0, r, 0, 0, 0, 0, 0, 0] : List Int).getD j 0) (p := p) (n := n) (what := what) f_pl z_p z_n z_what q4 g_1159_66 k_1159) ?_
  rintro _ h_1160 ⟨v_1160, rfl, F_1160⟩
  have k_1160 := F_1160.1.trans k_1159
  have g_1160_0 := (F_1160.2 0 (by decide +kernel)).trans g_1159_0
  have g_1160_7 := (F_1160.2 7 (by decide +kernel)).trans g_1159_7
  have g_1160_8 := (F_1160.2 8 (by decide +kernel)).trans g_1159_8
  have g_1160_9 := (F_1160.2 9 (by decide +kernel)).trans g_1159_9
  have g_1160_10 := (F_1160.2 10 (by decide +kernel)).trans g_1159_10
  have g_1160_11 := (F_1160.2 11 (by decide +kernel)).trans g_1159_11
  have g_1160_12 := (F_1160.2 12 (by decide +kernel)).trans g_1159_12
  have g_1160_13 := (F_1160.2 13 (by decide +kernel)).trans g_1159_13
  have g_1160_18 := (F_1160.2 18 (by decide +kernel)).trans g_1159_18
  have g_1160_57 := (F_1160.2 57 (by decide +kernel)).trans g_1159_57
  have g_1160_66 := (F_1160.2 66 (by decide +kernel)).trans g_1159_66
  refine ⟨⟨_, rfl⟩, ?_⟩
  have gT_1160 := st_gT_t F_1160 (by decide +kernel) gT_1159
  have gC_1160 := st_gC_t F_1160 (by decide +kernel) gC_1159
  have gS_1160 := st_gS_t F_1160 (by decide +kernel) gS_1159
  have gV_1160 := st_gV_t F_1160 (by decide +kernel) gV_1159
  have gW_1160 := st_gW_t F_1160 (by decide +kernel) gW_1159
  have gM_1160 := st_gM_t F_1160 (by decide +kernel) gM_1159
  have gR_1160 := st_gR_t F_1160 (by decide +kernel) gR_1159
  have gL_1160 := st_gL_t F_1160 (by decide +kernel) gL_1159
  have gI_1160 := st_gI_t F_1160 (by decide +kernel) gI_1159
  have gJ_1160 := st_gJ_t F_1160 (by decide +kernel) gJ_1159
  have hB_1160 := st_hB_t F_1160 (by decide +kernel) hB_1159
  have hC_1160 := st_hC_t F_1160 (by decide +kernel) hC_1159
  have hT_1160 := st_hT_t F_1160 (by decide +kernel) hT_1159
  have hS_1160 := st_hS_t F_1160 (by decide +kernel) hS_1159
  have hM_1160 := st_hM_t F_1160 (by decide +kernel) hM_1159
  have hR_1160 := st_hR_t F_1160 (by decide +kernel) hR_1159
  have hL_1160 := st_hL_t F_1160 (by decide +kernel) hL_1159
  have hI_1160 := st_hI_t F_1160 (by decide +kernel) hI_1159
  intro C_ k_
  exact k_ tn fp pl mi sd ka pa fa kb pb fb xa xb r n0 n1 ga0 gm0 gd_0 gs0 g00 g01 g02 g03 g04 g05 gx0 gy0 ga1 gm1 gd_1 gs1 g10 g11 g12 g13 g14 g15 gx1 gy1 s T cn go ch wg wc we rp rt lr ci0 ci1 cnr gor chr T2 im f_pl f_s f_st f_cb f_cr f_rw f_al f_wy f_k f_p f_x (by omega) f_sd f_r f_rr f_n f_l0 f_l1 f_tn f_t (st_I_K f_i0) (st_I_K f_i1) ⟨g_1160_0, g_1160_18, g_1160_57⟩ gT_1160 ⟨g_1160_7, g_1160_8, n8, g_1160_9, n9, g_1160_10, n10, g_1160_11, n11, g_1160_12, n12, g_1160_13, n13⟩ gC_1160 gS_1160 gV_1160 gW_1160 gM_1160 gR_1160 gL_1160 gI_1160 gJ_1160 ⟨sc0, sc1, sc2, sc3, sc4, sc5, w24, sb, wa, g_1160_66⟩ hB_1160 hC_1160 hT_1160 hS_1160 hM_1160 hR_1160 hL_1160 hI_1160 k_1160

end