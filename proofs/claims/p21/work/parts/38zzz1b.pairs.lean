noncomputable section
set_option maxRecDepth 100000 in
theorem lk_fault {K : Nat} {h : List ik_E} (E : st_S K h) (hK : K ≤ 600)    : ik_F 92 [.ref 0] h (fun rv h' => ∃ o_ : Int, rv = [fI o_] ∧ (h'.length = 94 ∧ ∃ fs, h'[66]? = some (.inr (10, fs))) ∧ ik_F 148 [.ref 66] h' (fun rv' h'' => rv' = [fI o_] ∧ st_S (K + 1) h'')) := by
  refine E _ ?_
  intro tn fp pl mi sd ka pa fa kb pb fb xa xb r n0 n1 ga0 gm0 gd_0 gs0 g00 g01 g02 g03 g04 g05 gx0 gy0 ga1 gm1 gd_1 gs1 g10 g11 g12 g13 g14 g15 gx1 gy1 s T cn go ch wg wc we rp rt lr ci0 ci1 cnr gor chr T2 im f_pl f_s f_st f_cb f_cr f_rw f_al f_wy f_k f_p f_x f_m f_sd f_r f_rr f_n f_l0 f_l1 f_tn f_t f_i0 f_i1 gA gT gB gC gS gV gW gM gR gL gI gJ hO hB hC hT hS hM hR hL hI hl
  obtain ⟨h0, h18, h57⟩ := gA
  obtain ⟨cu, fl, rpl, C, G, P, B, h1, h2, n2, h3, n3, h4, n4, h5, n5, h6, n6⟩ := gT
  obtain ⟨sc0, sc1, sc2, sc3, sc4, sc5, w24, sb, wa, h66⟩ := hO
  refine ik_F_mono (cp_fault (tn := tn) (cu := cu) (fl := fl) (fp := fp) (rpl := rpl)  h0 h1 hl) ?_
  rintro _ h_1008 ⟨rfl, F_1008⟩
  have k_1008 := F_1008.1.trans hl
  have g_1008_0 := (F_1008.2 0 (by decide +kernel)).trans h0
  have g_1008_1 := (F_1008.2 1 (by decide +kernel)).trans h1
  have g_1008_2 := (F_1008.2 2 (by decide +kernel)).trans h2
  have g_1008_3 := (F_1008.2 3 (by decide +kernel)).trans h3
  have g_1008_4 := (F_1008.2 4 (by decide +kernel)).trans h4
  have g_1008_5 := (F_1008.2 5 (by decide +kernel)).trans h5
  have g_1008_6 := (F_1008.2 6 (by decide +kernel)).trans h6
  have g_1008_18 := (F_1008.2 18 (by decide +kernel)).trans h18
  have g_1008_57 := (F_1008.2 57 (by decide +kernel)).trans h57
  have g_1008_66 := (F_1008.2 66 (by decide +kernel)).trans h66
  refine ⟨fp, rfl, ⟨k_1008, _, g_1008_66⟩, ?_⟩
  have gB_1008 := st_gB_t F_1008 (by decide +kernel) gB
  have gC_1008 := st_gC_t F_1008 (by decide +kernel) gC
  have gS_1008 := st_gS_t F_1008 (by decide +kernel) gS
  have gV_1008 := st_gV_t F_1008 (by decide +kernel) gV
  have gW_1008 := st_gW_t F_1008 (by decide +kernel) gW
  have gM_1008 := st_gM_t F_1008 (by decide +kernel) gM
  have gR_1008 := st_gR_t F_1008 (by decide +kernel) gR
  have gL_1008 := st_gL_t F_1008 (by decide +kernel) gL
  have gI_1008 := st_gI_t F_1008 (by decide +kernel) gI
  have gJ_1008 := st_gJ_t F_1008 (by decide +kernel) gJ
  have hB_1008 := st_hB_t F_1008 (by decide +kernel) hB
  have hC_1008 := st_hC_t F_1008 (by decide +kernel) hC
  have hT_1008 := st_hT_t F_1008 (by decide +kernel) hT
  have hS_1008 := st_hS_t F_1008 (by decide +kernel) hS
  have hM_1008 := st_hM_t F_1008 (by decide +kernel) hM
  have hR_1008 := st_hR_t F_1008 (by decide +kernel) hR
  have hL_1008 := st_hL_t F_1008 (by decide +kernel) hL
  have hI_1008 := st_hI_t F_1008 (by decide +kernel) hI
  refine ik_F_mono (rp_fault (f := fun j => ([pl, 0, 0, 0, ((s : Nat) : Int), 0, 0, mi, sd, 0, tn, fp, sc0, sc1, sc2, sc3, sc4, sc5, 0, 0, 0, 0, 0, 0, w24, 0, 0, 0, 0, 0, 0, 0, sb, wa, 0, 0, r, 0, 0, 0, 0, 0, 0] : List Int).getD j 0)  g_1008_66 k_1008) ?_
  rintro _ h_1009 ⟨rfl, F_1009⟩
  have k_1009 := F_1009.1.trans k_1008
  have g_1009_0 := (F_1009.2 0 (by decide +kernel)).trans g_1008_0
  have g_1009_1 := (F_1009.2 1 (by decide +kernel)).trans g_1008_1
  have g_1009_2 := (F_1009.2 2 (by decide +kernel)).trans g_1008_2
  have g_1009_3 := (F_1009.2 3 (by decide +kernel)).trans g_1008_3
  have g_1009_4 := (F_1009.2 4 (by decide +kernel)).trans g_1008_4
  have g_1009_5 := (F_1009.2 5 (by decide +kernel)).trans g_1008_5
  have g_1009_6 := (F_1009.2 6 (by decide +kernel)).trans g_1008_6
  have g_1009_18 := (F_1009.2 18 (by decide +kernel)).trans g_1008_18
  have g_1009_57 := (F_1009.2 57 (by decide +kernel)).trans g_1008_57
  have g_1009_66 := (F_1009.2 66 (by decide +kernel)).trans g_1008_66
  refine ⟨rfl, ?_⟩
  have gB_1009 := st_gB_t F_1009 (by decide +kernel) gB_1008
  have gC_1009 := st_gC_t F_1009 (by decide +kernel) gC_1008
  have gS_1009 := st_gS_t F_1009 (by decide +kernel) gS_1008
  have gV_1009 := st_gV_t F_1009 (by decide +kernel) gV_1008
  have gW_1009 := st_gW_t F_1009 (by decide +kernel) gW_1008
  have gM_1009 := st_gM_t F_1009 (by decide +kernel) gM_1008
  have gR_1009 := st_gR_t F_1009 (by decide +kernel) gR_1008
  have gL_1009 := st_gL_t F_1009 (by decide +kernel) gL_1008
  have gI_1009 := st_gI_t F_1009 (by decide +kernel) gI_1008
  have gJ_1009 := st_gJ_t F_1009 (by decide +kernel) gJ_1008
  have hB_1009 := st_hB_t F_1009 (by decide +kernel) hB_1008
  have hC_1009 := st_hC_t F_1009 (by decide +kernel) hC_1008
  have hT_1009 := st_hT_t F_1009 (by decide +kernel) hT_1008
  have hS_1009 := st_hS_t F_1009 (by decide +kernel) hS_1008
  have hM_1009 := st_hM_t F_1009 (by decide +kernel) hM_1008
  have hR_1009 := st_hR_t F_1009 (by decide +kernel) hR_1008
  have hL_1009 := st_hL_t F_1009 (by decide +kernel) hL_1008
  have hI_1009 := st_hI_t F_1009 (by decide +kernel) hI_1008
  intro C_ k_
  exact k_ tn fp pl mi sd ka pa fa kb pb fb xa xb r n0 n1 ga0 gm0 gd_0 gs0 g00 g01 g02 g03 g04 g05 gx0 gy0 ga1 gm1 gd_1 gs1 g10 g11 g12 g13 g14 g15 gx1 gy1 s T cn go ch wg wc we rp rt lr ci0 ci1 cnr gor chr T2 im f_pl f_s f_st f_cb f_cr f_rw f_al f_wy f_k f_p f_x (by omega) f_sd f_r f_rr f_n f_l0 f_l1 f_tn f_t (st_I_K f_i0) (st_I_K f_i1) ⟨g_1009_0, g_1009_18, g_1009_57⟩ ⟨cu, fl, rpl, C, G, P, B, g_1009_1, g_1009_2, n2, g_1009_3, n3, g_1009_4, n4, g_1009_5, n5, g_1009_6, n6⟩ gB_1009 gC_1009 gS_1009 gV_1009 gW_1009 gM_1009 gR_1009 gL_1009 gI_1009 gJ_1009 ⟨sc0, sc1, sc2, sc3, sc4, sc5, w24, sb, wa, g_1009_66⟩ hB_1009 hC_1009 hT_1009 hS_1009 hM_1009 hR_1009 hL_1009 hI_1009 k_1009

set_option maxRecDepth 100000 in
theorem lk_told0 {K : Nat} {h : List ik_E} (E : st_S K h) (hK : K ≤ 600)    : ik_F 93 [.ref 0, fI 0] h (fun rv h' => ∃ o_ : Int, rv = [fI o_] ∧ (h'.length = 94 ∧ ∃ fs, h'[66]? = some (.inr (10, fs))) ∧ ik_F 150 [.ref 66, fI 0] h' (fun rv' h'' => rv' = [fI o_] ∧ st_S (K + 1) h'')) := by
  refine E _ ?_
  intro tn fp pl mi sd ka pa fa kb pb fb xa xb r n0 n1 ga0 gm0 gd_0 gs0 g00 g01 g02 g03 g04 g05 gx0 gy0 ga1 gm1 gd_1 gs1 g10 g11 g12 g13 g14 g15 gx1 gy1 s T cn go ch wg wc we rp rt lr ci0 ci1 cnr gor chr T2 im f_pl f_s f_st f_cb f_cr f_rw f_al f_wy f_k f_p f_x f_m f_sd f_r f_rr f_n f_l0 f_l1 f_tn f_t f_i0 f_i1 gA gT gB gC gS gV gW gM gR gL gI gJ hO hB hC hT hS hM hR hL hI hl
  obtain ⟨h0, h18, h57⟩ := gA
  obtain ⟨h7, h8, n8, h9, n9, h10, n10, h11, n11, h12, n12, h13, n13⟩ := gB
  obtain ⟨sc0, sc1, sc2, sc3, sc4, sc5, w24, sb, wa, h66⟩ := hO
  refine ik_F_mono (cp_told0 (pl := pl) (st := ((s : Nat) : Int)) (lo := ((mj_lost pl cn go : Nat) : Int))  h0 h7 hl) ?_
  rintro _ h_1010 ⟨rfl, F_1010⟩
  have k_1010 := F_1010.1.trans hl
  have g_1010_0 := (F_1010.2 0 (by decide +kernel)).trans h0
  have g_1010_7 := (F_1010.2 7 (by decide +kernel)).trans h7
  have g_1010_8 := (F_1010.2 8 (by decide +kernel)).trans h8
  have g_1010_9 := (F_1010.2 9 (by decide +kernel)).trans h9
  have g_1010_10 := (F_1010.2 10 (by decide +kernel)).trans h10
  have g_1010_11 := (F_1010.2 11 (by decide +kernel)).trans h11
  have g_1010_12 := (F_1010.2 12 (by decide +kernel)).trans h12
  have g_1010_13 := (F_1010.2 13 (by decide +kernel)).trans h13
  have g_1010_18 := (F_1010.2 18 (by decide +kernel)).trans h18
  have g_1010_57 := (F_1010.2 57 (by decide +kernel)).trans h57
  have g_1010_66 := (F_1010.2 66 (by decide +kernel)).trans h66
  refine ⟨pl, rfl, ⟨k_1010, _, g_1010_66⟩, ?_⟩
  have gT_1010 := st_gT_t F_1010 (by decide +kernel) gT
  have gC_1010 := st_gC_t F_1010 (by decide +kernel) gC
  have gS_1010 := st_gS_t F_1010 (by decide +kernel) gS
  have gV_1010 := st_gV_t F_1010 (by decide +kernel) gV
  have gW_1010 := st_gW_t F_1010 (by decide +kernel) gW
  have gM_1010 := st_gM_t F_1010 (by decide +kernel) gM
  have gR_1010 := st_gR_t F_1010 (by decide +kernel) gR
  have gL_1010 := st_gL_t F_1010 (by decide +kernel) gL
  have gI_1010 := st_gI_t F_1010 (by decide +kernel) gI
  have gJ_1010 := st_gJ_t F_1010 (by decide +kernel) gJ
  have hB_1010 := st_hB_t F_1010 (by decide +kernel) hB
  have hC_1010 := st_hC_t F_1010 (by decide +kernel) hC
  have hT_1010 := st_hT_t F_1010 (by decide +kernel) hT
  have hS_1010 := st_hS_t F_1010 (by decide +kernel) hS
  have hM_1010 := st_hM_t F_1010 (by decide +kernel) hM
  have hR_1010 := st_hR_t F_1010 (by decide +kernel) hR
  have hL_1010 := st_hL_t F_1010 (by decide +kernel) hL
  have hI_1010 := st_hI_t F_1010 (by decide +kernel) hI
  refine ik_F_mono (rp_told0 (f := fun j => ([pl, 0, 0, 0, ((s : Nat) : Int), 0, 0, mi, sd, 0, tn, fp, sc0, sc1, sc2, sc3, sc4, sc5, 0, 0, 0, 0, 0, 0, w24, 0, 0, 0, 0, 0, 0, 0, sb, wa, 0, 0, r, 0, 0, 0, 0, 0, 0] : List Int).getD j 0)  g_1010_66 k_1010) ?_
  rintro _ h_1011 ⟨rfl, F_1011⟩
  have k_1011 := F_1011.1.trans k_1010
  have g_1011_0 := (F_1011.2 0 (by decide +kernel)).trans g_1010_0
  have g_1011_7 := (F_1011.2 7 (by decide +kernel)).trans g_1010_7
  have g_1011_8 := (F_1011.2 8 (by decide +kernel)).trans g_1010_8
  have g_1011_9 := (F_1011.2 9 (by decide +kernel)).trans g_1010_9
  have g_1011_10 := (F_1011.2 10 (by decide +kernel)).trans g_1010_10
  have g_1011_11 := (F_1011.2 11 (by decide +kernel)).trans g_1010_11
  have g_1011_12 := (F_1011.2 12 (by decide +kernel)).trans g_1010_12
  have g_1011_13 := (F_1011.2 13 (by decide +kernel)).trans g_1010_13
  have g_1011_18 := (F_1011.2 18 (by decide +kernel)).trans g_1010_18
  have g_1011_57 := (F_1011.2 57 (by decide +kernel)).trans g_1010_57
  have g_1011_66 := (F_1011.2 66 (by decide +kernel)).trans g_1010_66
  refine ⟨rfl, ?_⟩
  have gT_1011 := st_gT_t F_1011 (by decide +kernel) gT_1010
  have gC_1011 := st_gC_t F_1011 (by decide +kernel) gC_1010
  have gS_1011 := st_gS_t F_1011 (by decide +kernel) gS_1010
  have gV_1011 := st_gV_t F_1011 (by decide +kernel) gV_1010
  have gW_1011 := st_gW_t F_1011 (by decide +kernel) gW_1010
  have gM_1011 := st_gM_t F_1011 (by decide +kernel) gM_1010
  have gR_1011 := st_gR_t F_1011 (by decide +kernel) gR_1010
  have gL_1011 := st_gL_t F_1011 (by decide +kernel) gL_1010
  have gI_1011 := st_gI_t F_1011 (by decide +kernel) gI_1010
  have gJ_1011 := st_gJ_t F_1011 (by decide +kernel) gJ_1010
  have hB_1011 := st_hB_t F_1011 (by decide +kernel) hB_1010
  have hC_1011 := st_hC_t F_1011 (by decide +kernel) hC_1010
  have hT_1011 := st_hT_t F_1011 (by decide +kernel) hT_1010
  have hS_1011 := st_hS_t F_1011 (by decide +kernel) hS_1010
  have hM_1011 := st_hM_t F_1011 (by decide +kernel) hM_1010
  have hR_1011 := st_hR_t F_1011 (by decide +kernel) hR_1010
  have hL_1011 := st_hL_t F_1011 (by decide +kernel) hL_1010
  have hI_1011 := st_hI_t F_1011 (by decide +kernel) hI_1010
  intro C_ k_
  exact k_ tn fp pl mi sd ka pa fa kb pb fb xa xb r n0 n1 ga0 gm0 gd_0 gs0 g00 g01 g02 g03 g04 g05 gx0 gy0 ga1 gm1 gd_1 gs1 g10 g11 g12 g13 g14 g15 gx1 gy1 s T cn go ch wg wc we rp rt lr ci0 ci1 cnr gor chr T2 im f_pl f_s f_st f_cb f_cr f_rw f_al f_wy f_k f_p f_x (by omega) f_sd f_r f_rr f_n f_l0 f_l1 f_tn f_t (st_I_K f_i0) (st_I_K f_i1) ⟨g_1011_0, g_1011_18, g_1011_57⟩ gT_1011 ⟨g_1011_7, g_1011_8, n8, g_1011_9, n9, g_1011_10, n10, g_1011_11, n11, g_1011_12, n12, g_1011_13, n13⟩ gC_1011 gS_1011 gV_1011 gW_1011 gM_1011 gR_1011 gL_1011 gI_1011 gJ_1011 ⟨sc0, sc1, sc2, sc3, sc4, sc5, w24, sb, wa, g_1011_66⟩ hB_1011 hC_1011 hT_1011 hS_1011 hM_1011 hR_1011 hL_1011 hI_1011 k_1011

set_option maxRecDepth 100000 in
theorem lk_told1 {K : Nat} {h : List ik_E} (E : st_S K h) (hK : K ≤ 600)    : ik_F 93 [.ref 0, fI 1] h (fun rv h' => ∃ o_ : Int, rv = [fI o_] ∧ (h'.length = 94 ∧ ∃ fs, h'[66]? = some (.inr (10, fs))) ∧ ik_F 150 [.ref 66, fI 1] h' (fun rv' h'' => rv' = [fI o_] ∧ st_S (K + 1) h'')) := by
  refine E _ ?_
  intro tn fp pl mi sd ka pa fa kb pb fb xa xb r n0 n1 ga0 gm0 gd_0 gs0 g00 g01 g02 g03 g04 g05 gx0 gy0 ga1 gm1 gd_1 gs1 g10 g11 g12 g13 g14 g15 gx1 gy1 s T cn go ch wg wc we rp rt lr ci0 ci1 cnr gor chr T2 im f_pl f_s f_st f_cb f_cr f_rw f_al f_wy f_k f_p f_x f_m f_sd f_r f_rr f_n f_l0 f_l1 f_tn f_t f_i0 f_i1 gA gT gB gC gS gV gW gM gR gL gI gJ hO hB hC hT hS hM hR hL hI hl
  obtain ⟨h0, h18, h57⟩ := gA
  obtain ⟨h51, h52, n52, h53, n53⟩ := gR
  obtain ⟨sc0, sc1, sc2, sc3, sc4, sc5, w24, sb, wa, h66⟩ := hO
  refine ik_F_mono (cp_told1 (r := r)  h0 h51 hl) ?_
  rintro _ h_1012 ⟨rfl, F_1012⟩
  have k_1012 := F_1012.1.trans hl
  have g_1012_0 := (F_1012.2 0 (by decide +kernel)).trans h0
  have g_1012_18 := (F_1012.2 18 (by decide +kernel)).trans h18
  have g_1012_51 := (F_1012.2 51 (by decide +kernel)).trans h51
  have g_1012_52 := (F_1012.2 52 (by decide +kernel)).trans h52
  have g_1012_53 := (F_1012.2 53 (by decide +kernel)).trans h53
  have g_1012_57 := (F_1012.2 57 (by decide +kernel)).trans h57
  have g_1012_66 := (F_1012.2 66 (by decide +kernel)).trans h66
  refine ⟨r, rfl, ⟨k_1012, _, g_1012_66⟩, ?_⟩
  have gT_1012 := st_gT_t F_1012 (by decide +kernel) gT
  have gB_1012 := st_gB_t F_1012 (by decide +kernel) gB
  have gC_1012 := st_gC_t F_1012 (by decide +kernel) gC
  have gS_1012 := st_gS_t F_1012 (by decide +kernel) gS
  have gV_1012 := st_gV_t F_1012 (by decide +kernel) gV
  have gW_1012 := st_gW_t F_1012 (by decide +kernel) gW
  have gM_1012 := st_gM_t F_1012 (by decide +kernel) gM
  have gL_1012 := st_gL_t F_1012 (by decide +kernel) gL
  have gI_1012 := st_gI_t F_1012 (by decide +kernel) gI
  have gJ_1012 := st_gJ_t F_1012 (by decide +kernel) gJ
  have hB_1012 := st_hB_t F_1012 (by decide +kernel) hB
  have hC_1012 := st_hC_t F_1012 (by decide +kernel) hC
  have hT_1012 := st_hT_t F_1012 (by decide +kernel) hT
  have hS_1012 := st_hS_t F_1012 (by decide +kernel) hS
  have hM_1012 := st_hM_t F_1012 (by decide +kernel) hM
  have hR_1012 := st_hR_t F_1012 (by decide +kernel) hR
  have hL_1012 := st_hL_t F_1012 (by decide +kernel) hL
  have hI_1012 := st_hI_t F_1012 (by decide +kernel) hI
  refine ik_F_mono (rp_told1 (f := fun j => ([pl, 0, 0, 0, ((s : Nat) : Int), 0, 0, mi, sd, 0, tn, fp, sc0, sc1, sc2, sc3, sc4, sc5, 0, 0, 0, 0, 0, 0, w24, 0, 0, 0, 0, 0, 0, 0, sb, wa, 0, 0, r, 0, 0, 0, 0, 0, 0] : List Int).getD j 0)  g_1012_66 k_1012) ?_
  rintro _ h_1013 ⟨rfl, F_1013⟩
  have k_1013 := F_1013.1.trans k_1012
  have g_1013_0 := (F_1013.2 0 (by decide +kernel)).trans g_1012_0
  have g_1013_18 := (F_1013.2 18 (by decide +kernel)).trans g_1012_18
  have g_1013_51 := (F_1013.2 51 (by decide +kernel)).trans g_1012_51
  have g_1013_52 := (F_1013.2 52 (by decide +kernel)).trans g_1012_52
  have g_1013_53 := (F_1013.2 53 (by decide +kernel)).trans g_1012_53
  have g_1013_57 := (F_1013.2 57 (by decide +kernel)).trans g_1012_57
  have g_1013_66 := (F_1013.2 66 (by decide +kernel)).trans g_1012_66
  refine ⟨rfl, ?_⟩
  have gT_1013 := st_gT_t F_1013 (by decide +kernel) gT_1012
  have gB_1013 := st_gB_t F_1013 (by decide +kernel) gB_1012
  have gC_1013 := st_gC_t F_1013 (by decide +kernel) gC_1012
  have gS_1013 := st_gS_t F_1013 (by decide +kernel) gS_1012
  have gV_1013 := st_gV_t F_1013 (by decide +kernel) gV_1012
  have gW_1013 := st_gW_t F_1013 (by decide +kernel) gW_1012
  have gM_1013 := st_gM_t F_1013 (by decide +kernel) gM_1012
  have gL_1013 := st_gL_t F_1013 (by decide +kernel) gL_1012
  have gI_1013 := st_gI_t F_1013 (by decide +kernel) gI_1012
  have gJ_1013 := st_gJ_t F_1013 (by decide +kernel) gJ_1012
  have hB_1013 := st_hB_t F_1013 (by decide +kernel) hB_1012
  have hC_1013 := st_hC_t F_1013 (by decide +kernel) hC_1012
  have hT_1013 := st_hT_t F_1013 (by decide +kernel) hT_1012
  have hS_1013 := st_hS_t F_1013 (by decide +kernel) hS_1012
  have hM_1013 := st_hM_t F_1013 (by decide +kernel) hM_1012
  have hR_1013 := st_hR_t F_1013 (by decide +kernel) hR_1012
  have hL_1013 := st_hL_t F_1013 (by decide +kernel) hL_1012
  have hI_1013 := st_hI_t F_1013 (by decide +kernel) hI_1012
  intro C_ k_
  exact k_ tn fp pl mi sd ka pa fa kb pb fb xa xb r n0 n1 ga0 gm0 gd_0 gs0 g00 g01 g02 g03 g04 g05 gx0 gy0 ga1 gm1 gd_1 gs1 g10 g11 g12 g13 g14 g15 gx1 gy1 s T cn go ch wg wc we rp rt lr ci0 ci1 cnr gor chr T2 im f_pl f_s f_st f_cb f_cr f_rw f_al f_wy f_k f_p f_x (by omega) f_sd f_r f_rr f_n f_l0 f_l1 f_tn f_t (st_I_K f_i0) (st_I_K f_i1) ⟨g_1013_0, g_1013_18, g_1013_57⟩ gT_1013 gB_1013 gC_1013 gS_1013 gV_1013 gW_1013 gM_1013 ⟨g_1013_51, g_1013_52, n52, g_1013_53, n53⟩ gL_1013 gI_1013 gJ_1013 ⟨sc0, sc1, sc2, sc3, sc4, sc5, w24, sb, wa, g_1013_66⟩ hB_1013 hC_1013 hT_1013 hS_1013 hM_1013 hR_1013 hL_1013 hI_1013 k_1013

set_option maxRecDepth 100000 in
theorem lk_told2 {K : Nat} {h : List ik_E} (E : st_S K h) (hK : K ≤ 600)    : ik_F 93 [.ref 0, fI 2] h (fun rv h' => ∃ o_ : Int, rv = [fI o_] ∧ (h'.length = 94 ∧ ∃ fs, h'[66]? = some (.inr (10, fs))) ∧ ik_F 150 [.ref 66, fI 2] h' (fun rv' h'' => rv' = [fI o_] ∧ st_S (K + 1) h'')) := by
  refine E _ ?_
  intro tn fp pl mi sd ka pa fa kb pb fb xa xb r n0 n1 ga0 gm0 gd_0 gs0 g00 g01 g02 g03 g04 g05 gx0 gy0 ga1 gm1 gd_1 gs1 g10 g11 g12 g13 g14 g15 gx1 gy1 s T cn go ch wg wc we rp rt lr ci0 ci1 cnr gor chr T2 im f_pl f_s f_st f_cb f_cr f_rw f_al f_wy f_k f_p f_x f_m f_sd f_r f_rr f_n f_l0 f_l1 f_tn f_t f_i0 f_i1 gA gT gB gC gS gV gW gM gR gL gI gJ hO hB hC hT hS hM hR hL hI hl
  obtain ⟨h0, h18, h57⟩ := gA
  obtain ⟨cu, fl, rpl, C, G, P, B, h1, h2, n2, h3, n3, h4, n4, h5, n5, h6, n6⟩ := gT
  obtain ⟨sc0, sc1, sc2, sc3, sc4, sc5, w24, sb, wa, h66⟩ := hO
  refine ik_F_mono (cp_told2 (tn := tn) (cu := cu) (fl := fl) (fp := fp) (rpl := rpl)  h0 h1 hl) ?_
  rintro _ h_1014 ⟨rfl, F_1014⟩
  have k_1014 := F_1014.1.trans hl
  have g_1014_0 := (F_1014.2 0 (by decide +kernel)).trans h0
  have g_1014_1 := (F_1014.2 1 (by decide +kernel)).trans h1
  have g_1014_2 := (F_1014.2 2 (by decide +kernel)).trans h2
  have g_1014_3 := (F_1014.2 3 (by decide +kernel)).trans h3
  have g_1014_4 := (F_1014.2 4 (by decide +kernel)).trans h4
  have g_1014_5 := (F_1014.2 5 (by decide +kernel)).trans h5
  have g_1014_6 := (F_1014.2 6 (by decide +kernel)).trans h6
  have g_1014_18 := (F_1014.2 18 (by decide +kernel)).trans h18
  have g_1014_57 := (F_1014.2 57 (by decide +kernel)).trans h57
  have g_1014_66 := (F_1014.2 66 (by decide +kernel)).trans h66
  refine ⟨tn, rfl, ⟨k_1014, _, g_1014_66⟩, ?_⟩
  have gB_1014 := st_gB_t F_1014 (by decide +kernel) gB
  have gC_1014 := st_gC_t F_1014 (by decide +kernel) gC
  have gS_1014 := st_gS_t F_1014 (by decide +kernel) gS
  have gV_1014 := st_gV_t F_1014 (by decide +kernel) gV
  have gW_1014 := st_gW_t F_1014 (by decide +kernel) gW
  have gM_1014 := st_gM_t F_1014 (by decide +kernel) gM
  have gR_1014 := st_gR_t F_1014 (by decide +kernel) gR
  have gL_1014 := st_gL_t F_1014 (by decide +kernel) gL
  have gI_1014 := st_gI_t F_1014 (by decide +kernel) gI
  have gJ_1014 := st_gJ_t F_1014 (by decide +kernel) gJ
  have hB_1014 := st_hB_t F_1014 (by decide +kernel) hB
  have hC_1014 := st_hC_t F_1014 (by decide +kernel) hC
  have hT_1014 := st_hT_t F_1014 (by decide +kernel) hT
  have hS_1014 := st_hS_t F_1014 (by decide +kernel) hS
  have hM_1014 := st_hM_t F_1014 (by decide +kernel) hM
  have hR_1014 := st_hR_t F_1014 (by decide +kernel) hR
  have hL_1014 := st_hL_t F_1014 (by decide +kernel) hL
  have hI_1014 := st_hI_t F_1014 (by decide +kernel) hI
  refine ik_F_mono (rp_told2 (f := fun j => ([pl, 0, 0, 0, ((s : Nat) : Int), 0, 0, mi, sd, 0, tn, fp, sc0, sc1, sc2, sc3, sc4, sc5, 0, 0, 0, 0, 0, 0, w24, 0, 0, 0, 0, 0, 0, 0, sb, wa, 0, 0, r, 0, 0, 0, 0, 0, 0] : List Int).getD j 0)  g_1014_66 k_1014) ?_
  rintro _ h_1015 ⟨rfl, F_1015⟩
  have k_1015 := F_1015.1.trans k_1014
  have g_1015_0 := (F_1015.2 0 (by decide +kernel)).trans g_1014_0
  have g_1015_1 := (F_1015.2 1 (by decide +kernel)).trans g_1014_1
  have g_1015_2 := (F_1015.2 2 (by decide +kernel)).trans g_1014_2
  have g_1015_3 := (F_1015.2 3 (by decide +kernel)).trans g_1014_3
  have g_1015_4 := (F_1015.2 4 (by decide +kernel)).trans g_1014_4
  have g_1015_5 := (F_1015.2 5 (by decide +kernel)).trans g_1014_5
  have g_1015_6 := (F_1015.2 6 (by decide +kernel)).trans g_1014_6
  have g_1015_18 := (F_1015.2 18 (by decide +kernel)).trans g_1014_18
  have g_1015_57 := (F_1015.2 57 (by decide +kernel)).trans g_1014_57
  have g_1015_66 := (F_1015.2 66 (by decide +kernel)).trans g_1014_66
  refine ⟨rfl, ?_⟩
  have gB_1015 := st_gB_t F_1015 (by decide +kernel) gB_1014
  have gC_1015 := st_gC_t F_1015 (by decide +kernel) gC_1014
  have gS_1015 := st_gS_t F_1015 (by decide +kernel) gS_1014
  have gV_1015 := st_gV_t F_1015 (by decide +kernel) gV_1014
  have gW_1015 := st_gW_t F_1015 (by decide +kernel) gW_1014
  have gM_1015 := st_gM_t F_1015 (by decide +kernel) gM_1014
  have gR_1015 := st_gR_t F_1015 (by decide +kernel) gR_1014
  have gL_1015 := st_gL_t F_1015 (by decide +kernel) gL_1014
  have gI_1015 := st_gI_t F_1015 (by decide +kernel) gI_1014
  have gJ_1015 := st_gJ_t F_1015 (by decide +kernel) gJ_1014
  have hB_1015 := st_hB_t F_1015 (by decide +kernel) hB_1014
  have hC_1015 := st_hC_t F_1015 (by decide +kernel) hC_1014
  have hT_1015 := st_hT_t F_1015 (by decide +kernel) hT_1014
  have hS_1015 := st_hS_t F_1015 (by decide +kernel) hS_1014
  have hM_1015 := st_hM_t F_1015 (by decide +kernel) hM_1014
  have hR_1015 := st_hR_t F_1015 (by decide +kernel) hR_1014
  have hL_1015 := st_hL_t F_1015 (by decide +kernel) hL_1014
  have hI_1015 := st_hI_t F_1015 (by decide +kernel) hI_1014
  intro C_ k_
  exact k_ tn fp pl mi sd ka pa fa kb pb fb xa xb r n0 n1 ga0 gm0 gd_0 gs0 g00 g01 g02 g03 g04 g05 gx0 gy0 ga1 gm1 gd_1 gs1 g10 g11 g12 g13 g14 g15 gx1 gy1 s T cn go ch wg wc we rp rt lr ci0 ci1 cnr gor chr T2 im f_pl f_s f_st f_cb f_cr f_rw f_al f_wy f_k f_p f_x (by omega) f_sd f_r f_rr f_n f_l0 f_l1 f_tn f_t (st_I_K f_i0) (st_I_K f_i1) ⟨g_1015_0, g_1015_18, g_1015_57⟩ ⟨cu, fl, rpl, C, G, P, B, g_1015_1, g_1015_2, n2, g_1015_3, n3, g_1015_4, n4, g_1015_5, n5, g_1015_6, n6⟩ gB_1015 gC_1015 gS_1015 gV_1015 gW_1015 gM_1015 gR_1015 gL_1015 gI_1015 gJ_1015 ⟨sc0, sc1, sc2, sc3, sc4, sc5, w24, sb, wa, g_1015_66⟩ hB_1015 hC_1015 hT_1015 hS_1015 hM_1015 hR_1015 hL_1015 hI_1015 k_1015

set_option maxRecDepth 100000 in
theorem lk_told3 {K : Nat} {h : List ik_E} (E : st_S K h) (hK : K ≤ 600)    : ik_F 93 [.ref 0, fI 3] h (fun rv h' => ∃ o_ : Int, rv = [fI o_] ∧ (h'.length = 94 ∧ ∃ fs, h'[66]? = some (.inr (10, fs))) ∧ ik_F 150 [.ref 66, fI 3] h' (fun rv' h'' => rv' = [fI o_] ∧ st_S (K + 1) h'')) := by
  refine E _ ?_
  intro tn fp pl mi sd ka pa fa kb pb fb xa xb r n0 n1 ga0 gm0 gd_0 gs0 g00 g01 g02 g03 g04 g05 gx0 gy0 ga1 gm1 gd_1 gs1 g10 g11 g12 g13 g14 g15 gx1 gy1 s T cn go ch wg wc we rp rt lr ci0 ci1 cnr gor chr T2 im f_pl f_s f_st f_cb f_cr f_rw f_al f_wy f_k f_p f_x f_m f_sd f_r f_rr f_n f_l0 f_l1 f_tn f_t f_i0 f_i1 gA gT gB gC gS gV gW gM gR gL gI gJ hO hB hC hT hS hM hR hL hI hl
  obtain ⟨h0, h18, h57⟩ := gA
  obtain ⟨h54, h55, n55, h56⟩ := gL
  obtain ⟨sc0, sc1, sc2, sc3, sc4, sc5, w24, sb, wa, h66⟩ := hO
  obtain ⟨h90, h91, n91⟩ := hL
  refine ik_F_mono (cp_told3 (n0 := n0) (n1 := n1)  h0 h54 h56 hl) ?_
  rintro _ h_1016 ⟨rfl, F_1016⟩
  have k_1016 := F_1016.1.trans hl
  have g_1016_0 := (F_1016.2 0 (by decide +kernel)).trans h0
  have g_1016_18 := (F_1016.2 18 (by decide +kernel)).trans h18
  have g_1016_54 := (F_1016.2 54 (by decide +kernel)).trans h54
  have g_1016_55 := (F_1016.2 55 (by decide +kernel)).trans h55
  have g_1016_56 := (F_1016.2 56 (by decide +kernel)).trans h56
  have g_1016_57 := (F_1016.2 57 (by decide +kernel)).trans h57
  have g_1016_66 := (F_1016.2 66 (by decide +kernel)).trans h66
  have g_1016_90 := (F_1016.2 90 (by decide +kernel)).trans h90
  have g_1016_91 := (F_1016.2 91 (by decide +kernel)).trans h91
  refine ⟨n0, rfl, ⟨k_1016, _, g_1016_66⟩, ?_⟩
  have gT_1016 := st_gT_t F_1016 (by decide +kernel) gT
  have gB_1016 := st_gB_t F_1016 (by decide +kernel) gB
  have gC_1016 := st_gC_t F_1016 (by decide +kernel) gC
  have gS_1016 := st_gS_t F_1016 (by decide +kernel) gS
  have gV_1016 := st_gV_t F_1016 (by decide +kernel) gV
  have gW_1016 := st_gW_t F_1016 (by decide +kernel) gW
  have gM_1016 := st_gM_t F_1016 (by decide +kernel) gM
  have gR_1016 := st_gR_t F_1016 (by decide +kernel) gR
  have gI_1016 := st_gI_t F_1016 (by decide +kernel) gI
  have gJ_1016 := st_gJ_t F_1016 (by decide +kernel) gJ
  have hB_1016 := st_hB_t F_1016 (by decide +kernel) hB
  have hC_1016 := st_hC_t F_1016 (by decide +kernel) hC
  have hT_1016 := st_hT_t F_1016 (by decide +kernel) hT
  have hS_1016 := st_hS_t F_1016 (by decide +kernel) hS
  have hM_1016 := st_hM_t F_1016 (by decide +kernel) hM
  have hR_1016 := st_hR_t F_1016 (by decide +kernel) hR
  have hI_1016 := st_hI_t F_1016 (by decide +kernel) hI
  refine ik_F_mono (rp_told3 (f := fun j => ([pl, 0, 0, 0, ((s : Nat) : Int), 0, 0, mi, sd, 0, tn, fp, sc0, sc1, sc2, sc3, sc4, sc5, 0, 0, 0, 0, 0, 0, w24, 0, 0, 0, 0, 0, 0, 0, sb, wa, 0, 0, r, 0, 0, 0, 0, 0, 0] : List Int).getD j 0) (n0 := n0) (n1 := n1)  g_1016_66 g_1016_90 k_1016) ?_
  rintro _ h_1017 ⟨rfl, F_1017⟩
  have k_1017 := F_1017.1.trans k_1016
  have g_1017_0 := (F_1017.2 0 (by decide +kernel)).trans g_1016_0
  have g_1017_18 := (F_1017.2 18 (by decide +kernel)).trans g_1016_18
  have g_1017_54 := (F_1017.2 54 (by decide +kernel)).trans g_1016_54
  have g_1017_55 := (F_1017.2 55 (by decide +kernel)).trans g_1016_55
  have g_1017_56 := (F_1017.2 56 (by decide +kernel)).trans g_1016_56
  have g_1017_57 := (F_1017.2 57 (by decide +kernel)).trans g_1016_57
  have g_1017_66 := (F_1017.2 66 (by decide +kernel)).trans g_1016_66
  have g_1017_90 := (F_1017.2 90 (by decide +kernel)).trans g_1016_90
  have g_1017_91 := (F_1017.2 91 (by decide +kernel)).trans g_1016_91
  refine ⟨rfl, ?_⟩
  have gT_1017 := st_gT_t F_1017 (by decide +kernel) gT_1016
  have gB_1017 := st_gB_t F_1017 (by decide +kernel) gB_1016
  have gC_1017 := st_gC_t F_1017 (by decide +kernel) gC_1016
  have gS_1017 := st_gS_t F_1017 (by decide +kernel) gS_1016
  have gV_1017 := st_gV_t F_1017 (by decide +kernel) gV_1016
  have gW_1017 := st_gW_t F_1017 (by decide +kernel) gW_1016
  have gM_1017 := st_gM_t F_1017 (by decide +kernel) gM_1016
  have gR_1017 := st_gR_t F_1017 (by decide +kernel) gR_1016
  have gI_1017 := st_gI_t F_1017 (by decide +kernel) gI_1016
  have gJ_1017 := st_gJ_t F_1017 (by decide +kernel) gJ_1016
  have hB_1017 := st_hB_t F_1017 (by decide +kernel) hB_1016
  have hC_1017 := st_hC_t F_1017 (by decide +kernel) hC_1016
  have hT_1017 := st_hT_t F_1017 (by decide +kernel) hT_1016
  have hS_1017 := st_hS_t F_1017 (by decide +kernel) hS_1016
  have hM_1017 := st_hM_t F_1017 (by decide +kernel) hM_1016
  have hR_1017 := st_hR_t F_1017 (by decide +kernel) hR_1016
  have hI_1017 := st_hI_t F_1017 (by decide +kernel) hI_1016
  intro C_ k_
  exact k_ tn fp pl mi sd ka pa fa kb pb fb xa xb r n0 n1 ga0 gm0 gd_0 gs0 g00 g01 g02 g03 g04 g05 gx0 gy0 ga1 gm1 gd_1 gs1 g10 g11 g12 g13 g14 g15 gx1 gy1 s T cn go ch wg wc we rp rt lr ci0 ci1 cnr gor chr T2 im f_pl f_s f_st f_cb f_cr f_rw f_al f_wy f_k f_p f_x (by omega) f_sd f_r f_rr f_n f_l0 f_l1 f_tn f_t (st_I_K f_i0) (st_I_K f_i1) ⟨g_1017_0, g_1017_18, g_1017_57⟩ gT_1017 gB_1017 gC_1017 gS_1017 gV_1017 gW_1017 gM_1017 gR_1017 ⟨g_1017_54, g_1017_55, n55, g_1017_56⟩ gI_1017 gJ_1017 ⟨sc0, sc1, sc2, sc3, sc4, sc5, w24, sb, wa, g_1017_66⟩ hB_1017 hC_1017 hT_1017 hS_1017 hM_1017 hR_1017 ⟨g_1017_90, g_1017_91, n91⟩ hI_1017 k_1017

set_option maxRecDepth 100000 in
theorem lk_told4 {K : Nat} {h : List ik_E} (E : st_S K h) (hK : K ≤ 600)    : ik_F 93 [.ref 0, fI 4] h (fun rv h' => ∃ o_ : Int, rv = [fI o_] ∧ (h'.length = 94 ∧ ∃ fs, h'[66]? = some (.inr (10, fs))) ∧ ik_F 150 [.ref 66, fI 4] h' (fun rv' h'' => rv' = [fI o_] ∧ st_S (K + 1) h'')) := by
  refine E _ ?_
  intro tn fp pl mi sd ka pa fa kb pb fb xa xb r n0 n1 ga0 gm0 gd_0 gs0 g00 g01 g02 g03 g04 g05 gx0 gy0 ga1 gm1 gd_1 gs1 g10 g11 g12 g13 g14 g15 gx1 gy1 s T cn go ch wg wc we rp rt lr ci0 ci1 cnr gor chr T2 im f_pl f_s f_st f_cb f_cr f_rw f_al f_wy f_k f_p f_x f_m f_sd f_r f_rr f_n f_l0 f_l1 f_tn f_t f_i0 f_i1 gA gT gB gC gS gV gW gM gR gL gI gJ hO hB hC hT hS hM hR hL hI hl
  obtain ⟨h0, h18, h57⟩ := gA
  obtain ⟨h54, h55, n55, h56⟩ := gL
  obtain ⟨sc0, sc1, sc2, sc3, sc4, sc5, w24, sb, wa, h66⟩ := hO
  obtain ⟨h90, h91, n91⟩ := hL
  refine ik_F_mono (cp_told4 (n0 := n0) (n1 := n1)  h0 h54 h56 hl) ?_
  rintro _ h_1018 ⟨rfl, F_1018⟩
  have k_1018 := F_1018.1.trans hl
  have g_1018_0 := (F_1018.2 0 (by decide +kernel)).trans h0
  have g_1018_18 := (F_1018.2 18 (by decide +kernel)).trans h18
  have g_1018_54 := (F_1018.2 54 (by decide +kernel)).trans h54
  have g_1018_55 := (F_1018.2 55 (by decide +kernel)).trans h55
  have g_1018_56 := (F_1018.2 56 (by decide +kernel)).trans h56
  have g_1018_57 := (F_1018.2 57 (by decide +kernel)).trans h57
  have g_1018_66 := (F_1018.2 66 (by decide +kernel)).trans h66
  have g_1018_90 := (F_1018.2 90 (by decide +kernel)).trans h90
  have g_1018_91 := (F_1018.2 91 (by decide +kernel)).trans h91
  refine ⟨n1, rfl, ⟨k_1018, _, g_1018_66⟩, ?_⟩
  have gT_1018 := st_gT_t F_1018 (by decide +kernel) gT
  have gB_1018 := st_gB_t F_1018 (by decide +kernel) gB
  have gC_1018 := st_gC_t F_1018 (by decide +kernel) gC
  have gS_1018 := st_gS_t F_1018 (by decide +kernel) gS
  have gV_1018 := st_gV_t F_1018 (by decide +kernel) gV
  have gW_1018 := st_gW_t F_1018 (by decide +kernel) gW
  have gM_1018 := st_gM_t F_1018 (by decide +kernel) gM
  have gR_1018 := st_gR_t F_1018 (by decide +kernel) gR
  have gI_1018 := st_gI_t F_1018 (by decide +kernel) gI
  have gJ_1018 := st_gJ_t F_1018 (by decide +kernel) gJ
  have hB_1018 := st_hB_t F_1018 (by decide +kernel) hB
  have hC_1018 := st_hC_t F_1018 (by decide +kernel) hC
  have hT_1018 := st_hT_t F_1018 (by decide +kernel) hT
  have hS_1018 := st_hS_t F_1018 (by decide +kernel) hS
  have hM_1018 := st_hM_t F_1018 (by decide +kernel) hM
  have hR_1018 := st_hR_t F_1018 (by decide +kernel) hR
  have hI_1018 := st_hI_t F_1018 (by decide +kernel) hI
  refine ik_F_mono (rp_told4 (f := fun j => ([pl, 0, 0, 0, ((s : Nat) : Int), 0, 0, mi, sd, 0, tn, fp, sc0, sc1, sc2, sc3, sc4, sc5, 0, 0, 0, 0, 0, 0, w24, 0, 0, 0, 0, 0, 0, 0, sb, wa, 0, 0, r, 0, 0, 0, 0, 0, 0] : List Int).getD j 0) (n0 := n0) (n1 := n1)  g_1018_66 g_1018_90 k_1018) ?_
  rintro _ h_1019 ⟨rfl, F_1019⟩
  have k_1019 := F_1019.1.trans k_1018
  have g_1019_0 := (F_1019.2 0 (by decide +kernel)).trans g_1018_0
  have g_1019_18 := (F_1019.2 18 (by decide +kernel)).trans g_1018_18
  have g_1019_54 := (F_1019.2 54 (by decide +kernel)).trans g_1018_54
  have g_1019_55 := (F_1019.2 55 (by decide +kernel)).trans g_1018_55
  have g_1019_56 := (F_1019.2 56 (by decide +kernel)).trans g_1018_56
  have g_1019_57 := (F_1019.2 57 (by decide +kernel)).trans g_1018_57
  have g_1019_66 := (F_1019.2 66 (by decide +kernel)).trans g_1018_66
  have g_1019_90 := (F_1019.2 90 (by decide +kernel)).trans g_1018_90
  have g_1019_91 := (F_1019.2 91 (by decide +kernel)).trans g_1018_91
  refine ⟨rfl, ?_⟩
  have gT_1019 := st_gT_t F_1019 (by decide +kernel) gT_1018
  have gB_1019 := st_gB_t F_1019 (by decide +kernel) gB_1018
  have gC_1019 := st_gC_t F_1019 (by decide +kernel) gC_1018
  have gS_1019 := st_gS_t F_1019 (by decide +kernel) gS_1018
  have gV_1019 := st_gV_t F_1019 (by decide +kernel) gV_1018
  have gW_1019 := st_gW_t F_1019 (by decide +kernel) gW_1018
  have gM_1019 := st_gM_t F_1019 (by decide +kernel) gM_1018
  have gR_1019 := st_gR_t F_1019 (by decide +kernel) gR_1018
  have gI_1019 := st_gI_t F_1019 (by decide +kernel) gI_1018
  have gJ_1019 := st_gJ_t F_1019 (by decide +kernel) gJ_1018
  have hB_1019 := st_hB_t F_1019 (by decide +kernel) hB_1018
  have hC_1019 := st_hC_t F_1019 (by decide +kernel) hC_1018
  have hT_1019 := st_hT_t F_1019 (by decide +kernel) hT_1018
  have hS_1019 := st_hS_t F_1019 (by decide +kernel) hS_1018
  have hM_1019 := st_hM_t F_1019 (by decide +kernel) hM_1018
  have hR_1019 := st_hR_t F_1019 (by decide +kernel) hR_1018
  have hI_1019 := st_hI_t F_1019 (by decide +kernel) hI_1018
  intro C_ k_
  exact k_ tn fp pl mi sd ka pa fa kb pb fb xa xb r n0 n1 ga0 gm0 gd_0 gs0 g00 g01 g02 g03 g04 g05 gx0 gy0 ga1 gm1 gd_1 gs1 g10 g11 g12 g13 g14 g15 gx1 gy1 s T cn go ch wg wc we rp rt lr ci0 ci1 cnr gor chr T2 im f_pl f_s f_st f_cb f_cr f_rw f_al f_wy f_k f_p f_x (by omega) f_sd f_r f_rr f_n f_l0 f_l1 f_tn f_t (st_I_K f_i0) (st_I_K f_i1) ⟨g_1019_0, g_1019_18, g_1019_57⟩ gT_1019 gB_1019 gC_1019 gS_1019 gV_1019 gW_1019 gM_1019 gR_1019 ⟨g_1019_54, g_1019_55, n55, g_1019_56⟩ gI_1019 gJ_1019 ⟨sc0, sc1, sc2, sc3, sc4, sc5, w24, sb, wa, g_1019_66⟩ hB_1019 hC_1019 hT_1019 hS_1019 hM_1019 hR_1019 ⟨g_1019_90, g_1019_91, n91⟩ hI_1019 k_1019

set_option maxRecDepth 100000 in
theorem lk_told5 {K : Nat} {h : List ik_E} (E : st_S K h) (hK : K ≤ 600)    : ik_F 93 [.ref 0, fI 5] h (fun rv h' => ∃ o_ : Int, rv = [fI o_] ∧ (h'.length = 94 ∧ ∃ fs, h'[66]? = some (.inr (10, fs))) ∧ ik_F 150 [.ref 66, fI 5] h' (fun rv' h'' => rv' = [fI o_] ∧ st_S (K + 1) h'')) := by
  refine E _ ?_
  intro tn fp pl mi sd ka pa fa kb pb fb xa xb r n0 n1 ga0 gm0 gd_0 gs0 g00 g01 g02 g03 g04 g05 gx0 gy0 ga1 gm1 gd_1 gs1 g10 g11 g12 g13 g14 g15 gx1 gy1 s T cn go ch wg wc we rp rt lr ci0 ci1 cnr gor chr T2 im f_pl f_s f_st f_cb f_cr f_rw f_al f_wy f_k f_p f_x f_m f_sd f_r f_rr f_n f_l0 f_l1 f_tn f_t f_i0 f_i1 gA gT gB gC gS gV gW gM gR gL gI gJ hO hB hC hT hS hM hR hL hI hl
  obtain ⟨h0, h18, h57⟩ := gA
  obtain ⟨h14, h15, h16⟩ := gC
  obtain ⟨sc0, sc1, sc2, sc3, sc4, sc5, w24, sb, wa, h66⟩ := hO
  refine ik_F_mono (cp_told5 (mi := mi) (dr := sd)  h0 h14 hl) ?_
  rintro _ h_1020 ⟨rfl, F_1020⟩
  have k_1020 := F_1020.1.trans hl
  have g_1020_0 := (F_1020.2 0 (by decide +kernel)).trans h0
  have g_1020_14 := (F_1020.2 14 (by decide +kernel)).trans h14
  have g_1020_15 := (F_1020.2 15 (by decide +kernel)).trans h15
  have g_1020_16 := (F_1020.2 16 (by decide +kernel)).trans h16
  have g_1020_18 := (F_1020.2 18 (by decide +kernel)).trans h18
  have g_1020_57 := (F_1020.2 57 (by decide +kernel)).trans h57
  have g_1020_66 := (F_1020.2 66 (by decide +kernel)).trans h66
  refine ⟨mi, rfl, ⟨k_1020, _, g_1020_66⟩, ?_⟩
  have gT_1020 := st_gT_t F_1020 (by decide +kernel) gT
  have gB_1020 := st_gB_t F_1020 (by decide +kernel) gB
  have gS_1020 := st_gS_t F_1020 (by decide +kernel) gS
  have gV_1020 := st_gV_t F_1020 (by decide +kernel) gV
  have gW_1020 := st_gW_t F_1020 (by decide +kernel) gW
  have gM_1020 := st_gM_t F_1020 (by decide +kernel) gM
  have gR_1020 := st_gR_t F_1020 (by decide +kernel) gR
  have gL_1020 := st_gL_t F_1020 (by decide +kernel) gL
  have gI_1020 := st_gI_t F_1020 (by decide +kernel) gI
  have gJ_1020 := st_gJ_t F_1020 (by decide +kernel) gJ
  have hB_1020 := st_hB_t F_1020 (by decide +kernel) hB
  have hC_1020 := st_hC_t F_1020 (by decide +kernel) hC
  have hT_1020 := st_hT_t F_1020 (by decide +kernel) hT
  have hS_1020 := st_hS_t F_1020 (by decide +kernel) hS
  have hM_1020 := st_hM_t F_1020 (by decide +kernel) hM
  have hR_1020 := st_hR_t F_1020 (by decide +kernel) hR
  have hL_1020 := st_hL_t F_1020 (by decide +kernel) hL
  have hI_1020 := st_hI_t F_1020 (by decide +kernel) hI
  refine ik_F_mono (rp_told5 (f := fun j => ([pl, 0, 0, 0, ((s : Nat) : Int), 0, 0, mi, sd, 0, tn, fp, sc0, sc1, sc2, sc3, sc4, sc5, 0, 0, 0, 0, 0, 0, w24, 0, 0, 0, 0, 0, 0, 0, sb, wa, 0, 0, r, 0, 0, 0, 0, 0, 0] : List Int).getD j 0)  g_1020_66 k_1020) ?_
  rintro _ h_1021 ⟨rfl, F_1021⟩
  have k_1021 := F_1021.1.trans k_1020
  have g_1021_0 := (F_1021.2 0 (by decide +kernel)).trans g_1020_0
  have g_1021_14 := (F_1021.2 14 (by decide +kernel)).trans g_1020_14
  have g_1021_15 := (F_1021.2 15 (by decide +kernel)).trans g_1020_15
  have g_1021_16 := (F_1021.2 16 (by decide +kernel)).trans g_1020_16
  have g_1021_18 := (F_1021.2 18 (by decide +kernel)).trans g_1020_18
  have g_1021_57 := (F_1021.2 57 (by decide +kernel)).trans g_1020_57
  have g_1021_66 := (F_1021.2 66 (by decide +kernel)).trans g_1020_66
  refine ⟨rfl, ?_⟩
  have gT_1021 := st_gT_t F_1021 (by decide +kernel) gT_1020
  have gB_1021 := st_gB_t F_1021 (by decide +kernel) gB_1020
  have gS_1021 := st_gS_t F_1021 (by decide +kernel) gS_1020
  have gV_1021 := st_gV_t F_1021 (by decide +kernel) gV_1020
  have gW_1021 := st_gW_t F_1021 (by decide +kernel) gW_1020
  have gM_1021 := st_gM_t F_1021 (by decide +kernel) gM_1020
  have gR_1021 := st_gR_t F_1021 (by decide +kernel) gR_1020
  have gL_1021 := st_gL_t F_1021 (by decide +kernel) gL_1020
  have gI_1021 := st_gI_t F_1021 (by decide +kernel) gI_1020
  have gJ_1021 := st_gJ_t F_1021 (by decide +kernel) gJ_1020
  have hB_1021 := st_hB_t F_1021 (by decide +kernel) hB_1020
  have hC_1021 := st_hC_t F_1021 (by decide +kernel) hC_1020
  have hT_1021 := st_hT_t F_1021 (by decide +kernel) hT_1020
  have hS_1021 := st_hS_t F_1021 (by decide +kernel) hS_1020
  have hM_1021 := st_hM_t F_1021 (by decide +kernel) hM_1020
  have hR_1021 := st_hR_t F_1021 (by decide +kernel) hR_1020
  have hL_1021 := st_hL_t F_1021 (by decide +kernel) hL_1020
  have hI_1021 := st_hI_t F_1021 (by decide +kernel) hI_1020
  intro C_ k_
  exact k_ tn fp pl mi sd ka pa fa kb pb fb xa xb r n0 n1 ga0 gm0 gd_0 gs0 g00 g01 g02 g03 g04 g05 gx0 gy0 ga1 gm1 gd_1 gs1 g10 g11 g12 g13 g14 g15 gx1 gy1 s T cn go ch wg wc we rp rt lr ci0 ci1 cnr gor chr T2 im f_pl f_s f_st f_cb f_cr f_rw f_al f_wy f_k f_p f_x (by omega) f_sd f_r f_rr f_n f_l0 f_l1 f_tn f_t (st_I_K f_i0) (st_I_K f_i1) ⟨g_1021_0, g_1021_18, g_1021_57⟩ gT_1021 gB_1021 ⟨g_1021_14, g_1021_15, g_1021_16⟩ gS_1021 gV_1021 gW_1021 gM_1021 gR_1021 gL_1021 gI_1021 gJ_1021 ⟨sc0, sc1, sc2, sc3, sc4, sc5, w24, sb, wa, g_1021_66⟩ hB_1021 hC_1021 hT_1021 hS_1021 hM_1021 hR_1021 hL_1021 hI_1021 k_1021

set_option maxRecDepth 100000 in
theorem lk_told6 {K : Nat} {h : List ik_E} (E : st_S K h) (hK : K ≤ 600)    : ik_F 93 [.ref 0, fI 6] h (fun rv h' => ∃ o_ : Int, rv = [fI o_] ∧ (h'.length = 94 ∧ ∃ fs, h'[66]? = some (.inr (10, fs))) ∧ ik_F 150 [.ref 66, fI 6] h' (fun rv' h'' => rv' = [fI o_] ∧ st_S (K + 1) h'')) := by
  refine E _ ?_
  intro tn fp pl mi sd ka pa fa kb pb fb xa xb r n0 n1 ga0 gm0 gd_0 gs0 g00 g01 g02 g03 g04 g05 gx0 gy0 ga1 gm1 gd_1 gs1 g10 g11 g12 g13 g14 g15 gx1 gy1 s T cn go ch wg wc we rp rt lr ci0 ci1 cnr gor chr T2 im f_pl f_s f_st f_cb f_cr f_rw f_al f_wy f_k f_p f_x f_m f_sd f_r f_rr f_n f_l0 f_l1 f_tn f_t f_i0 f_i1 gA gT gB gC gS gV gW gM gR gL gI gJ hO hB hC hT hS hM hR hL hI hl
  obtain ⟨h0, h18, h57⟩ := gA
  obtain ⟨h7, h8, n8, h9, n9, h10, n10, h11, n11, h12, n12, h13, n13⟩ := gB
  obtain ⟨sc0, sc1, sc2, sc3, sc4, sc5, w24, sb, wa, h66⟩ := hO
  obtain ⟨h67, n67, h68, n68, h69, n69⟩ := hB
  refine ik_F_mono (cp_told6 (pl := pl) (st := ((s : Nat) : Int)) (lo := ((mj_lost pl cn go : Nat) : Int))  h0 h7 hl) ?_
  rintro _ h_1022 ⟨rfl, F_1022⟩
  have k_1022 := F_1022.1.trans hl
  have g_1022_0 := (F_1022.2 0 (by decide +kernel)).trans h0
  have g_1022_7 := (F_1022.2 7 (by decide +kernel)).trans h7
  have g_1022_8 := (F_1022.2 8 (by decide +kernel)).trans h8
  have g_1022_9 := (F_1022.2 9 (by decide +kernel)).trans h9
  have g_1022_10 := (F_1022.2 10 (by decide +kernel)).trans h10
  have g_1022_11 := (F_1022.2 11 (by decide +kernel)).trans h11
  have g_1022_12 := (F_1022.2 12 (by decide +kernel)).trans h12
  have g_1022_13 := (F_1022.2 13 (by decide +kernel)).trans h13
  have g_1022_18 := (F_1022.2 18 (by decide +kernel)).trans h18
  have g_1022_57 := (F_1022.2 57 (by decide +kernel)).trans h57
  have g_1022_66 := (F_1022.2 66 (by decide +kernel)).trans h66
  have g_1022_67 := (F_1022.2 67 (by decide +kernel)).trans h67
  have g_1022_68 := (F_1022.2 68 (by decide +kernel)).trans h68
  have g_1022_69 := (F_1022.2 69 (by decide +kernel)).trans h69
  refine ⟨((mj_lost pl cn go : Nat) : Int), rfl, ⟨k_1022, _, g_1022_66⟩, ?_⟩
  have gT_1022 := st_gT_t F_1022 (by decide +kernel) gT
  have gC_1022 := st_gC_t F_1022 (by decide +kernel) gC
  have gS_1022 := st_gS_t F_1022 (by decide +kernel) gS
  have gV_1022 := st_gV_t F_1022 (by decide +kernel) gV
  have gW_1022 := st_gW_t F_1022 (by decide +kernel) gW
  have gM_1022 := st_gM_t F_1022 (by decide +kernel) gM
  have gR_1022 := st_gR_t F_1022 (by decide +kernel) gR
  have gL_1022 := st_gL_t F_1022 (by decide +kernel) gL
  have gI_1022 := st_gI_t F_1022 (by decide +kernel) gI
  have gJ_1022 := st_gJ_t F_1022 (by decide +kernel) gJ
  have hC_1022 := st_hC_t F_1022 (by decide +kernel) hC
  have hT_1022 := st_hT_t F_1022 (by decide +kernel) hT
  have hS_1022 := st_hS_t F_1022 (by decide +kernel) hS
  have hM_1022 := st_hM_t F_1022 (by decide +kernel) hM
  have hR_1022 := st_hR_t F_1022 (by decide +kernel) hR
  have hL_1022 := st_hL_t F_1022 (by decide +kernel) hL
  have hI_1022 := st_hI_t F_1022 (by decide +kernel) hI
  refine ik_F_mono (rp_told6 (pl := pl) (f := fun j => ([0, 0, 0, 0, ((s : Nat) : Int), 0, 0, mi, sd, 0, tn, fp, sc0, sc1, sc2, sc3, sc4, sc5, 0, 0, 0, 0, 0, 0, w24, 0, 0, 0, 0, 0, 0, 0, sb, wa, 0, 0, r, 0, 0, 0, 0, 0, 0] : List Int).getD j 0) (cn := cnr) (go := gor) f_pl (fun x h0 h1 => ⟨by have := ((mx_al_rw f_rw f_al) x h0 h1).1; omega, fun i i0 i1 => by have := ((mx_al_rw f_rw f_al) x h0 h1).2.1 i i0 i1; omega⟩) g_1022_66 g_1022_67 n67 g_1022_68 n68 k_1022) ?_
  rintro _ h_1023 ⟨rfl, F_1023⟩
  have k_1023 := F_1023.1.trans k_1022
  have g_1023_0 := (F_1023.2 0 (by decide +kernel)).trans g_1022_0
  have g_1023_7 := (F_1023.2 7 (by decide +kernel)).trans g_1022_7
  have g_1023_8 := (F_1023.2 8 (by decide +kernel)).trans g_1022_8
  have g_1023_9 := (F_1023.2 9 (by decide +kernel)).trans g_1022_9
  have g_1023_10 := (F_1023.2 10 (by decide +kernel)).trans g_1022_10
  have g_1023_11 := (F_1023.2 11 (by decide +kernel)).trans g_1022_11
  have g_1023_12 := (F_1023.2 12 (by decide +kernel)).trans g_1022_12
  have g_1023_13 := (F_1023.2 13 (by decide +kernel)).trans g_1022_13
  have g_1023_18 := (F_1023.2 18 (by decide +kernel)).trans g_1022_18
  have g_1023_57 := (F_1023.2 57 (by decide +kernel)).trans g_1022_57
  have g_1023_66 := (F_1023.2 66 (by decide +kernel)).trans g_1022_66
  have g_1023_67 := (F_1023.2 67 (by decide +kernel)).trans g_1022_67
  have g_1023_68 := (F_1023.2 68 (by decide +kernel)).trans g_1022_68
  have g_1023_69 := (F_1023.2 69 (by decide +kernel)).trans g_1022_69
  refine ⟨(congrArg (fun z => [fI z]) (congrArg (fun z : Nat => (z : Int)) (mj_lost_al f_rw f_al))), ?_⟩
  have gT_1023 := st_gT_t F_1023 (by decide +kernel) gT_1022
  have gC_1023 := st_gC_t F_1023 (by decide +kernel) gC_1022
  have gS_1023 := st_gS_t F_1023 (by decide +kernel) gS_1022
  have gV_1023 := st_gV_t F_1023 (by decide +kernel) gV_1022
  have gW_1023 := st_gW_t F_1023 (by decide +kernel) gW_1022
  have gM_1023 := st_gM_t F_1023 (by decide +kernel) gM_1022
  have gR_1023 := st_gR_t F_1023 (by decide +kernel) gR_1022
  have gL_1023 := st_gL_t F_1023 (by decide +kernel) gL_1022
  have gI_1023 := st_gI_t F_1023 (by decide +kernel) gI_1022
  have gJ_1023 := st_gJ_t F_1023 (by decide +kernel) gJ_1022
  have hC_1023 := st_hC_t F_1023 (by decide +kernel) hC_1022
  have hT_1023 := st_hT_t F_1023 (by decide +kernel) hT_1022
  have hS_1023 := st_hS_t F_1023 (by decide +kernel) hS_1022
  have hM_1023 := st_hM_t F_1023 (by decide +kernel) hM_1022
  have hR_1023 := st_hR_t F_1023 (by decide +kernel) hR_1022
  have hL_1023 := st_hL_t F_1023 (by decide +kernel) hL_1022
  have hI_1023 := st_hI_t F_1023 (by decide +kernel) hI_1022
  intro C_ k_
  exact k_ tn fp pl mi sd ka pa fa kb pb fb xa xb r n0 n1 ga0 gm0 gd_0 gs0 g00 g01 g02 g03 g04 g05 gx0 gy0 ga1 gm1 gd_1 gs1 g10 g11 g12 g13 g14 g15 gx1 gy1 s T cn go ch wg wc we rp rt lr ci0 ci1 cnr gor chr T2 im f_pl f_s f_st f_cb f_cr f_rw f_al f_wy f_k f_p f_x (by omega) f_sd f_r f_rr f_n f_l0 f_l1 f_tn f_t (st_I_K f_i0) (st_I_K f_i1) ⟨g_1023_0, g_1023_18, g_1023_57⟩ gT_1023 ⟨g_1023_7, g_1023_8, n8, g_1023_9, n9, g_1023_10, n10, g_1023_11, n11, g_1023_12, n12, g_1023_13, n13⟩ gC_1023 gS_1023 gV_1023 gW_1023 gM_1023 gR_1023 gL_1023 gI_1023 gJ_1023 ⟨sc0, sc1, sc2, sc3, sc4, sc5, w24, sb, wa, g_1023_66⟩ ⟨g_1023_67, n67, g_1023_68, n68, g_1023_69, n69⟩ hC_1023 hT_1023 hS_1023 hM_1023 hR_1023 hL_1023 hI_1023 k_1023

set_option maxRecDepth 100000 in
theorem lk_told7 {K : Nat} {h : List ik_E} (E : st_S K h) (hK : K ≤ 600)    : ik_F 93 [.ref 0, fI 7] h (fun rv h' => ∃ o_ : Int, rv = [fI o_] ∧ (h'.length = 94 ∧ ∃ fs, h'[66]? = some (.inr (10, fs))) ∧ ik_F 150 [.ref 66, fI 7] h' (fun rv' h'' => rv' = [fI o_] ∧ st_S (K + 1) h'')) := by
  refine E _ ?_
  intro tn fp pl mi sd ka pa fa kb pb fb xa xb r n0 n1 ga0 gm0 gd_0 gs0 g00 g01 g02 g03 g04 g05 gx0 gy0 ga1 gm1 gd_1 gs1 g10 g11 g12 g13 g14 g15 gx1 gy1 s T cn go ch wg wc we rp rt lr ci0 ci1 cnr gor chr T2 im f_pl f_s f_st f_cb f_cr f_rw f_al f_wy f_k f_p f_x f_m f_sd f_r f_rr f_n f_l0 f_l1 f_tn f_t f_i0 f_i1 gA gT gB gC gS gV gW gM gR gL gI gJ hO hB hC hT hS hM hR hL hI hl
  obtain ⟨h0, h18, h57⟩ := gA
  obtain ⟨h7, h8, n8, h9, n9, h10, n10, h11, n11, h12, n12, h13, n13⟩ := gB
  obtain ⟨sc0, sc1, sc2, sc3, sc4, sc5, w24, sb, wa, h66⟩ := hO
  refine ik_F_mono (cp_told7 (pl := pl) (st := ((s : Nat) : Int)) (lo := ((mj_lost pl cn go : Nat) : Int))  h0 h7 hl) ?_
  rintro _ h_1024 ⟨rfl, F_1024⟩
  have k_1024 := F_1024.1.trans hl
  have g_1024_0 := (F_1024.2 0 (by decide +kernel)).trans h0
  have g_1024_7 := (F_1024.2 7 (by decide +kernel)).trans h7
  have g_1024_8 := (F_1024.2 8 (by decide +kernel)).trans h8
  have g_1024_9 := (F_1024.2 9 (by decide +kernel)).trans h9
  have g_1024_10 := (F_1024.2 10 (by decide +kernel)).trans h10
  have g_1024_11 := (F_1024.2 11 (by decide +kernel)).trans h11
  have g_1024_12 := (F_1024.2 12 (by decide +kernel)).trans h12
  have g_1024_13 := (F_1024.2 13 (by decide +kernel)).trans h13
  have g_1024_18 := (F_1024.2 18 (by decide +kernel)).trans h18
  have g_1024_57 := (F_1024.2 57 (by decide +kernel)).trans h57
  have g_1024_66 := (F_1024.2 66 (by decide +kernel)).trans h66
  refine ⟨((s : Nat) : Int), rfl, ⟨k_1024, _, g_1024_66⟩, ?_⟩
  have gT_1024 := st_gT_t F_1024 (by decide +kernel) gT
  have gC_1024 := st_gC_t F_1024 (by decide +kernel) gC
  have gS_1024 := st_gS_t F_1024 (by decide +kernel) gS
  have gV_1024 := st_gV_t F_1024 (by decide +kernel) gV
  have gW_1024 := st_gW_t F_1024 (by decide +kernel) gW
  have gM_1024 := st_gM_t F_1024 (by decide +kernel) gM
  have gR_1024 := st_gR_t F_1024 (by decide +kernel) gR
  have gL_1024 := st_gL_t F_1024 (by decide +kernel) gL
  have gI_1024 := st_gI_t F_1024 (by decide +kernel) gI
  have gJ_1024 := st_gJ_t F_1024 (by decide +kernel) gJ
  have hB_1024 := st_hB_t F_1024 (by decide +kernel) hB
  have hC_1024 := st_hC_t F_1024 (by decide +kernel) hC
  have hT_1024 := st_hT_t F_1024 (by decide +kernel) hT
  have hS_1024 := st_hS_t F_1024 (by decide +kernel) hS
  have hM_1024 := st_hM_t F_1024 (by decide +kernel) hM
  have hR_1024 := st_hR_t F_1024 (by decide +kernel) hR
  have hL_1024 := st_hL_t F_1024 (by decide +kernel) hL
  have hI_1024 := st_hI_t F_1024 (by decide +kernel) hI
  refine ik_F_mono (rp_told7 (f := fun j => ([pl, 0, 0, 0, ((s : Nat) : Int), 0, 0, mi, sd, 0, tn, fp, sc0, sc1, sc2, sc3, sc4, sc5, 0, 0, 0, 0, 0, 0, w24, 0, 0, 0, 0, 0, 0, 0, sb, wa, 0, 0, r, 0, 0, 0, 0, 0, 0] : List Int).getD j 0)  g_1024_66 k_1024) ?_
  rintro _ h_1025 ⟨rfl, F_1025⟩
  have k_1025 := F_1025.1.trans k_1024
  have g_1025_0 := (F_1025.2 0 (by decide +kernel)).trans g_1024_0
  have g_1025_7 := (F_1025.2 7 (by decide +kernel)).trans g_1024_7
  have g_1025_8 := (F_1025.2 8 (by decide +kernel)).trans g_1024_8
  have g_1025_9 := (F_1025.2 9 (by decide +kernel)).trans g_1024_9
  have g_1025_10 := (F_1025.2 10 (by decide +kernel)).trans g_1024_10
  have g_1025_11 := (F_1025.2 11 (by decide +kernel)).trans g_1024_11
  have g_1025_12 := (F_1025.2 12 (by decide +kernel)).trans g_1024_12
  have g_1025_13 := (F_1025.2 13 (by decide +kernel)).trans g_1024_13
  have g_1025_18 := (F_1025.2 18 (by decide +kernel)).trans g_1024_18
  have g_1025_57 := (F_1025.2 57 (by decide +kernel)).trans g_1024_57
  have g_1025_66 := (F_1025.2 66 (by decide +kernel)).trans g_1024_66
  refine ⟨rfl, ?_⟩
  have gT_1025 := st_gT_t F_1025 (by decide +kernel) gT_1024
  have gC_1025 := st_gC_t F_1025 (by decide +kernel) gC_1024
  have gS_1025 := st_gS_t F_1025 (by decide +kernel) gS_1024
  have gV_1025 := st_gV_t F_1025 (by decide +kernel) gV_1024
  have gW_1025 := st_gW_t F_1025 (by decide +kernel) gW_1024
  have gM_1025 := st_gM_t F_1025 (by decide +kernel) gM_1024
  have gR_1025 := st_gR_t F_1025 (by decide +kernel) gR_1024
  have gL_1025 := st_gL_t F_1025 (by decide +kernel) gL_1024
  have gI_1025 := st_gI_t F_1025 (by decide +kernel) gI_1024
  have gJ_1025 := st_gJ_t F_1025 (by decide +kernel) gJ_1024
  have hB_1025 := st_hB_t F_1025 (by decide +kernel) hB_1024
  have hC_1025 := st_hC_t F_1025 (by decide +kernel) hC_1024
  have hT_1025 := st_hT_t F_1025 (by decide +kernel) hT_1024
  have hS_1025 := st_hS_t F_1025 (by decide +kernel) hS_1024
  have hM_1025 := st_hM_t F_1025 (by decide +kernel) hM_1024
  have hR_1025 := st_hR_t F_1025 (by decide +kernel) hR_1024
  have hL_1025 := st_hL_t F_1025 (by decide +kernel) hL_1024
  have hI_1025 := st_hI_t F_1025 (by decide +kernel) hI_1024
  intro C_ k_
  exact k_ tn fp pl mi sd ka pa fa kb pb fb xa xb r n0 n1 ga0 gm0 gd_0 gs0 g00 g01 g02 g03 g04 g05 gx0 gy0 ga1 gm1 gd_1 gs1 g10 g11 g12 g13 g14 g15 gx1 gy1 s T cn go ch wg wc we rp rt lr ci0 ci1 cnr gor chr T2 im f_pl f_s f_st f_cb f_cr f_rw f_al f_wy f_k f_p f_x (by omega) f_sd f_r f_rr f_n f_l0 f_l1 f_tn f_t (st_I_K f_i0) (st_I_K f_i1) ⟨g_1025_0, g_1025_18, g_1025_57⟩ gT_1025 ⟨g_1025_7, g_1025_8, n8, g_1025_9, n9, g_1025_10, n10, g_1025_11, n11, g_1025_12, n12, g_1025_13, n13⟩ gC_1025 gS_1025 gV_1025 gW_1025 gM_1025 gR_1025 gL_1025 gI_1025 gJ_1025 ⟨sc0, sc1, sc2, sc3, sc4, sc5, w24, sb, wa, g_1025_66⟩ hB_1025 hC_1025 hT_1025 hS_1025 hM_1025 hR_1025 hL_1025 hI_1025 k_1025

set_option maxRecDepth 100000 in
theorem lk_toldE {K : Nat} {h : List ik_E} (E : st_S K h) (hK : K ≤ 600) {what : Int} (z_what : -2147483648 ≤ what ∧ what < 2147483648) (q1 : what < 0 ∨ 7 < what) : ik_F 93 [.ref 0, fI what] h (fun rv h' => ∃ o_ : Int, rv = [fI o_] ∧ (h'.length = 94 ∧ ∃ fs, h'[66]? = some (.inr (10, fs))) ∧ ik_F 150 [.ref 66, fI what] h' (fun rv' h'' => rv' = [fI o_] ∧ st_S (K + 1) h'')) := by
  refine E _ ?_
  intro tn fp pl mi sd ka pa fa kb pb fb xa xb r n0 n1 ga0 gm0 gd_0 gs0 g00 g01 g02 g03 g04 g05 gx0 gy0 ga1 gm1 gd_1 gs1 g10 g11 g12 g13 g14 g15 gx1 gy1 s T cn go ch wg wc we rp rt lr ci0 ci1 cnr gor chr T2 im f_pl f_s f_st f_cb f_cr f_rw f_al f_wy f_k f_p f_x f_m f_sd f_r f_rr f_n f_l0 f_l1 f_tn f_t f_i0 f_i1 gA gT gB gC gS gV gW gM gR gL gI gJ hO hB hC hT hS hM hR hL hI hl
  obtain ⟨h0, h18, h57⟩ := gA
  obtain ⟨sc0, sc1, sc2, sc3, sc4, sc5, w24, sb, wa, h66⟩ := hO
  refine ik_F_mono (cp_toldE (what := what) z_what q1 h0 hl) ?_
  rintro _ h_1026 ⟨rfl, F_1026⟩
  have k_1026 := F_1026.1.trans hl
  have g_1026_0 := (F_1026.2 0 (by decide +kernel)).trans h0
  have g_1026_18 := (F_1026.2 18 (by decide +kernel)).trans h18
  have g_1026_57 := (F_1026.2 57 (by decide +kernel)).trans h57
  have g_1026_66 := (F_1026.2 66 (by decide +kernel)).trans h66
  refine ⟨-1000000002, rfl, ⟨k_1026, _, g_1026_66⟩, ?_⟩
  have gT_1026 := st_gT_t F_1026 (by decide +kernel) gT
  have gB_1026 := st_gB_t F_1026 (by decide +kernel) gB
  have gC_1026 := st_gC_t F_1026 (by decide +kernel) gC
  have gS_1026 := st_gS_t F_1026 (by decide +kernel) gS
  have gV_1026 := st_gV_t F_1026 (by decide +kernel) gV
  have gW_1026 := st_gW_t F_1026 (by decide +kernel) gW
  have gM_1026 := st_gM_t F_1026 (by decide +kernel) gM
  have gR_1026 := st_gR_t F_1026 (by decide +kernel) gR
  have gL_1026 := st_gL_t F_1026 (by decide +kernel) gL
  have gI_1026 := st_gI_t F_1026 (by decide +kernel) gI
  have gJ_1026 := st_gJ_t F_1026 (by decide +kernel) gJ
  have hB_1026 := st_hB_t F_1026 (by decide +kernel) hB
  have hC_1026 := st_hC_t F_1026 (by decide +kernel) hC
  have hT_1026 := st_hT_t F_1026 (by decide +kernel) hT
  have hS_1026 := st_hS_t F_1026 (by decide +kernel) hS
  have hM_1026 := st_hM_t F_1026 (by decide +kernel) hM
  have hR_1026 := st_hR_t F_1026 (by decide +kernel) hR
  have hL_1026 := st_hL_t F_1026 (by decide +kernel) hL
  have hI_1026 := st_hI_t F_1026 (by decide +kernel) hI
  refine ik_F_mono (rp_toldE (f := fun j => ([pl, 0, 0, 0, ((s : Nat) : Int), 0, 0, mi, sd, 0, tn, fp, sc0, sc1, sc2, sc3, sc4, sc5, 0, 0, 0, 0, 0, 0, w24, 0, 0, 0, 0, 0, 0, 0, sb, wa, 0, 0, r, 0, 0, 0, 0, 0, 0] : List Int).getD j 0) (what := what) z_what q1 g_1026_66 k_1026) ?_
  rintro _ h_1027 ⟨rfl, F_1027⟩
  have k_1027 := F_1027.1.trans k_1026
  have g_1027_0 := (F_1027.2 0 (by decide +kernel)).trans g_1026_0
  have g_1027_18 := (F_1027.2 18 (by decide +kernel)).trans g_1026_18
  have g_1027_57 := (F_1027.2 57 (by decide +kernel)).trans g_1026_57
  have g_1027_66 := (F_1027.2 66 (by decide +kernel)).trans g_1026_66
  refine ⟨rfl, ?_⟩
  have gT_1027 := st_gT_t F_1027 (by decide +kernel) gT_1026
  have gB_1027 := st_gB_t F_1027 (by decide +kernel) gB_1026
  have gC_1027 := st_gC_t F_1027 (by decide +kernel) gC_1026
  have gS_1027 := st_gS_t F_1027 (by decide +kernel) gS_1026
  have gV_1027 := st_gV_t F_1027 (by decide +kernel) gV_1026
  have gW_1027 := st_gW_t F_1027 (by decide +kernel) gW_1026
  have gM_1027 := st_gM_t F_1027 (by decide +kernel) gM_1026
  have gR_1027 := st_gR_t F_1027 (by decide +kernel) gR_1026
  have gL_1027 := st_gL_t F_1027 (by decide +kernel) gL_1026
  have gI_1027 := st_gI_t F_1027 (by decide +kernel) gI_1026
  have gJ_1027 := st_gJ_t F_1027 (by decide +kernel) gJ_1026
  have hB_1027 := st_hB_t F_1027 (by decide +kernel) hB_1026
  have hC_1027 := st_hC_t F_1027 (by decide +kernel) hC_1026
  have hT_1027 := st_hT_t F_1027 (by decide +kernel) hT_1026
  have hS_1027 := st_hS_t F_1027 (by decide +kernel) hS_1026
  have hM_1027 := st_hM_t F_1027 (by decide +kernel) hM_1026
  have hR_1027 := st_hR_t F_1027 (by decide +kernel) hR_1026
  have hL_1027 := st_hL_t F_1027 (by decide +kernel) hL_1026
  have hI_1027 := st_hI_t F_1027 (by decide +kernel) hI_1026
  intro C_ k_
  exact k_ tn fp pl mi sd ka pa fa kb pb fb xa xb r n0 n1 ga0 gm0 gd_0 gs0 g00 g01 g02 g03 g04 g05 gx0 gy0 ga1 gm1 gd_1 gs1 g10 g11 g12 g13 g14 g15 gx1 gy1 s T cn go ch wg wc we rp rt lr ci0 ci1 cnr gor chr T2 im f_pl f_s f_st f_cb f_cr f_rw f_al f_wy f_k f_p f_x (by omega) f_sd f_r f_rr f_n f_l0 f_l1 f_tn f_t (st_I_K f_i0) (st_I_K f_i1) ⟨g_1027_0, g_1027_18, g_1027_57⟩ gT_1027 gB_1027 gC_1027 gS_1027 gV_1027 gW_1027 gM_1027 gR_1027 gL_1027 gI_1027 gJ_1027 ⟨sc0, sc1, sc2, sc3, sc4, sc5, w24, sb, wa, g_1027_66⟩ hB_1027 hC_1027 hT_1027 hS_1027 hM_1027 hR_1027 hL_1027 hI_1027 k_1027

set_option maxRecDepth 100000 in
theorem lk_move {K : Nat} {h : List ik_E} (E : st_S K h) (hK : K ≤ 600) {p : Int} {i : Int} {what : Int} (z_p : -2147483648 ≤ p ∧ p < 2147483648) (z_i : -2147483648 ≤ i ∧ i < 2147483648) (z_what : -2147483648 ≤ what ∧ what < 2147483648)  : ik_F 94 [.ref 0, fI p, fI i, fI what] h (fun rv h' => ∃ o_ : Int, rv = [fI o_] ∧ (h'.length = 94 ∧ ∃ fs, h'[66]? = some (.inr (10, fs))) ∧ ik_F 151 [.ref 66, fI p, fI i, fI what] h' (fun rv' h'' => rv' = [fI o_] ∧ st_S (K + 1) h'')) := by
  refine E _ ?_
  intro tn fp pl mi sd ka pa fa kb pb fb xa xb r n0 n1 ga0 gm0 gd_0 gs0 g00 g01 g02 g03 g04 g05 gx0 gy0 ga1 gm1 gd_1 gs1 g10 g11 g12 g13 g14 g15 gx1 gy1 s T cn go ch wg wc we rp rt lr ci0 ci1 cnr gor chr T2 im f_pl f_s f_st f_cb f_cr f_rw f_al f_wy f_k f_p f_x f_m f_sd f_r f_rr f_n f_l0 f_l1 f_tn f_t f_i0 f_i1 gA gT gB gC gS gV gW gM gR gL gI gJ hO hB hC hT hS hM hR hL hI hl
  obtain ⟨h0, h18, h57⟩ := gA
  obtain ⟨h7, h8, n8, h9, n9, h10, n10, h11, n11, h12, n12, h13, n13⟩ := gB
  obtain ⟨sc0, sc1, sc2, sc3, sc4, sc5, w24, sb, wa, h66⟩ := hO
  obtain ⟨h67, n67, h68, n68, h69, n69⟩ := hB
  refine ik_F_mono (cp_move (pl := pl) (p := p) (i := i) (what := what) (cn := cn) (go := go) (ch := ch) (st := ((s : Nat) : Int)) (lo := ((mj_lost pl cn go : Nat) : Int)) f_pl (st_cn f_rw f_cb) z_p z_i z_what h0 h7 h8 n8 h9 n9 h10 n10 hl) ?_
  rintro _ h_1028 ⟨rfl, F_1028⟩
  have k_1028 := F_1028.1.trans hl
  have g_1028_0 := (F_1028.2 0 (by decide +kernel)).trans h0
  have g_1028_7 := (F_1028.2 7 (by decide +kernel)).trans h7
  have g_1028_8 := (F_1028.2 8 (by decide +kernel)).trans h8
  have g_1028_9 := (F_1028.2 9 (by decide +kernel)).trans h9
  have g_1028_10 := (F_1028.2 10 (by decide +kernel)).trans h10
  have g_1028_11 := (F_1028.2 11 (by decide +kernel)).trans h11
  have g_1028_12 := (F_1028.2 12 (by decide +kernel)).trans h12
  have g_1028_13 := (F_1028.2 13 (by decide +kernel)).trans h13
  have g_1028_18 := (F_1028.2 18 (by decide +kernel)).trans h18
  have g_1028_57 := (F_1028.2 57 (by decide +kernel)).trans h57
  have g_1028_66 := (F_1028.2 66 (by decide +kernel)).trans h66
  have g_1028_67 := (F_1028.2 67 (by decide +kernel)).trans h67
  have g_1028_68 := (F_1028.2 68 (by decide +kernel)).trans h68
  have g_1028_69 := (F_1028.2 69 (by decide +kernel)).trans h69
  refine ⟨an_mv pl (cn.getD p.toNat 0) (go.getD (4 * p + i).toNat 0) (ch.getD (4 * p + i).toNat 0) p i what, rfl, ⟨k_1028, _, g_1028_66⟩, ?_⟩
  have gT_1028 := st_gT_t F_1028 (by decide +kernel) gT
  have gC_1028 := st_gC_t F_1028 (by decide +kernel) gC
  have gS_1028 := st_gS_t F_1028 (by decide +kernel) gS
  have gV_1028 := st_gV_t F_1028 (by decide +kernel) gV
  have gW_1028 := st_gW_t F_1028 (by decide +kernel) gW
  have gM_1028 := st_gM_t F_1028 (by decide +kernel) gM
  have gR_1028 := st_gR_t F_1028 (by decide +kernel) gR
  have gL_1028 := st_gL_t F_1028 (by decide +kernel) gL
  have gI_1028 := st_gI_t F_1028 (by decide +kernel) gI
  have gJ_1028 := st_gJ_t F_1028 (by decide +kernel) gJ
  have hC_1028 := st_hC_t F_1028 (by decide +kernel) hC
  have hT_1028 := st_hT_t F_1028 (by decide +kernel) hT
  have hS_1028 := st_hS_t F_1028 (by decide +kernel) hS
  have hM_1028 := st_hM_t F_1028 (by decide +kernel) hM
  have hR_1028 := st_hR_t F_1028 (by decide +kernel) hR
  have hL_1028 := st_hL_t F_1028 (by decide +kernel) hL
  have hI_1028 := st_hI_t F_1028 (by decide +kernel) hI
  refine ik_F_mono (rp_move (pl := pl) (p := p) (i := i) (what := what) (cn := cnr) (go := gor) (ch := chr) (f := fun j => ([0, 0, 0, 0, ((s : Nat) : Int), 0, 0, mi, sd, 0, tn, fp, sc0, sc1, sc2, sc3, sc4, sc5, 0, 0, 0, 0, 0, 0, w24, 0, 0, 0, 0, 0, 0, 0, sb, wa, 0, 0, r, 0, 0, 0, 0, 0, 0] : List Int).getD j 0) f_pl (st_cn (mx_al_rw f_rw f_al) f_cr) z_p z_i z_what g_1028_66 g_1028_67 n67 g_1028_68 n68 g_1028_69 n69 k_1028) ?_
  rintro _ h_1029 ⟨rfl, F_1029⟩
  have k_1029 := F_1029.1.trans k_1028
  have g_1029_0 := (F_1029.2 0 (by decide +kernel)).trans g_1028_0
  have g_1029_7 := (F_1029.2 7 (by decide +kernel)).trans g_1028_7
  have g_1029_8 := (F_1029.2 8 (by decide +kernel)).trans g_1028_8
  have g_1029_9 := (F_1029.2 9 (by decide +kernel)).trans g_1028_9
  have g_1029_10 := (F_1029.2 10 (by decide +kernel)).trans g_1028_10
  have g_1029_11 := (F_1029.2 11 (by decide +kernel)).trans g_1028_11
  have g_1029_12 := (F_1029.2 12 (by decide +kernel)).trans g_1028_12
  have g_1029_13 := (F_1029.2 13 (by decide +kernel)).trans g_1028_13
  have g_1029_18 := (F_1029.2 18 (by decide +kernel)).trans g_1028_18
  have g_1029_57 := (F_1029.2 57 (by decide +kernel)).trans g_1028_57
  have g_1029_66 := (F_1029.2 66 (by decide +kernel)).trans g_1028_66
  have g_1029_67 := (F_1029.2 67 (by decide +kernel)).trans g_1028_67
  have g_1029_68 := (F_1029.2 68 (by decide +kernel)).trans g_1028_68
  have g_1029_69 := (F_1029.2 69 (by decide +kernel)).trans g_1028_69
  refine ⟨(congrArg (fun z => [fI z]) (mx_al_mv f_al f_cb f_cr)), ?_⟩
  have gT_1029 := st_gT_t F_1029 (by decide +kernel) gT_1028
  have gC_1029 := st_gC_t F_1029 (by decide +kernel) gC_1028
  have gS_1029 := st_gS_t F_1029 (by decide +kernel) gS_1028
  have gV_1029 := st_gV_t F_1029 (by decide +kernel) gV_1028
  have gW_1029 := st_gW_t F_1029 (by decide +kernel) gW_1028
  have gM_1029 := st_gM_t F_1029 (by decide +kernel) gM_1028
  have gR_1029 := st_gR_t F_1029 (by decide +kernel) gR_1028
  have gL_1029 := st_gL_t F_1029 (by decide +kernel) gL_1028
  have gI_1029 := st_gI_t F_1029 (by decide +kernel) gI_1028
  have gJ_1029 := st_gJ_t F_1029 (by decide +kernel) gJ_1028
  have hC_1029 := st_hC_t F_1029 (by decide +kernel) hC_1028
  have hT_1029 := st_hT_t F_1029 (by decide +kernel) hT_1028
  have hS_1029 := st_hS_t F_1029 (by decide +kernel) hS_1028
  have hM_1029 := st_hM_t F_1029 (by decide +kernel) hM_1028
  have hR_1029 := st_hR_t F_1029 (by decide +kernel) hR_1028
  have hL_1029 := st_hL_t F_1029 (by decide +kernel) hL_1028
  have hI_1029 := st_hI_t F_1029 (by decide +kernel) hI_1028
  intro C_ k_
  exact k_ tn fp pl mi sd ka pa fa kb pb fb xa xb r n0 n1 ga0 gm0 gd_0 gs0 g00 g01 g02 g03 g04 g05 gx0 gy0 ga1 gm1 gd_1 gs1 g10 g11 g12 g13 g14 g15 gx1 gy1 s T cn go ch wg wc we rp rt lr ci0 ci1 cnr gor chr T2 im f_pl f_s f_st f_cb f_cr f_rw f_al f_wy f_k f_p f_x (by omega) f_sd f_r f_rr f_n f_l0 f_l1 f_tn f_t (st_I_K f_i0) (st_I_K f_i1) ⟨g_1029_0, g_1029_18, g_1029_57⟩ gT_1029 ⟨g_1029_7, g_1029_8, n8, g_1029_9, n9, g_1029_10, n10, g_1029_11, n11, g_1029_12, n12, g_1029_13, n13⟩ gC_1029 gS_1029 gV_1029 gW_1029 gM_1029 gR_1029 gL_1029 gI_1029 gJ_1029 ⟨sc0, sc1, sc2, sc3, sc4, sc5, w24, sb, wa, g_1029_66⟩ ⟨g_1029_67, n67, g_1029_68, n68, g_1029_69, n69⟩ hC_1029 hT_1029 hS_1029 hM_1029 hR_1029 hL_1029 hI_1029 k_1029
end
