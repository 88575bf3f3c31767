noncomputable section
set_option maxRecDepth 100000 in
theorem lk_cork00 {K : Nat} {h : List ik_E} (E : st_S K h) (hK : K ≤ 600) {v : Int} (z_v : -2147483648 ≤ v ∧ v < 2147483648)  : ik_F 95 [.ref 0, fI 0, fI 0, fI v] h (fun rv h' => ∃ o_ : Int, rv = [fI o_] ∧ (h'.length = 94 ∧ ∃ fs, h'[66]? = some (.inr (10, fs))) ∧ ik_F 158 [.ref 66, fI 0, fI 0, fI v] h' (fun rv' h'' => rv' = [fI o_] ∧ st_S (K + 1) h'')) := by
  refine E _ ?_
  intro tn fp pl mi sd ka pa fa kb pb fb xa xb r n0 n1 ga0 gm0 gd_0 gs0 g00 g01 g02 g03 g04 g05 gx0 gy0 ga1 gm1 gd_1 gs1 g10 g11 g12 g13 g14 g15 gx1 gy1 s T cn go ch wg wc we rp rt lr ci0 ci1 cnr gor chr T2 im f_pl f_s f_st f_cb f_cr f_rw f_al f_wy f_k f_p f_x f_m f_sd f_r f_rr f_n f_l0 f_l1 f_tn f_t f_i0 f_i1 gA gT gB gC gS gV gW gM gR gL gI gJ hO hB hC hT hS hM hR hL hI hl
  obtain ⟨h0, h18, h57⟩ := gA
  obtain ⟨h7, h8, n8, h9, n9, h10, n10, h11, n11, h12, n12, h13, n13⟩ := gB
  obtain ⟨h14, h15, h16⟩ := gC
  obtain ⟨sc0, sc1, sc2, sc3, sc4, sc5, w24, sb, wa, h66⟩ := hO
  obtain ⟨h70, h71⟩ := hC
  refine ik_F_mono (cp_cork00 (ka := ka) (pa := pa) (fa := fa) (kb := kb) (pb := pb) (fb := fb) (xa := xa) (xb := xb) (mi := mi) (dr := sd) (v := v) (pl := pl) (st := ((s : Nat) : Int)) (lo := ((mj_lost pl cn go : Nat) : Int)) f_k.2.2.1 f_k.2.2.2.1 f_pl z_v h0 h7 h14 h15 h16 hl) ?_
  rintro _ h_1030 (⟨rfl, e_1030_14, e_1030_15, e_1030_16, p_1030_0, F_1030⟩ | ⟨rfl, e_1030_14, e_1030_15, e_1030_16, p_1030_0, F_1030⟩)
  · have k_1030 := F_1030.1.trans hl
    have g_1030_0 := (F_1030.2 0 (by decide +kernel)).trans h0
    have g_1030_7 := (F_1030.2 7 (by decide +kernel)).trans h7
    have g_1030_8 := (F_1030.2 8 (by decide +kernel)).trans h8
    have g_1030_9 := (F_1030.2 9 (by decide +kernel)).trans h9
    have g_1030_10 := (F_1030.2 10 (by decide +kernel)).trans h10
    have g_1030_11 := (F_1030.2 11 (by decide +kernel)).trans h11
    have g_1030_12 := (F_1030.2 12 (by decide +kernel)).trans h12
    have g_1030_13 := (F_1030.2 13 (by decide +kernel)).trans h13
    have g_1030_18 := (F_1030.2 18 (by decide +kernel)).trans h18
    have g_1030_57 := (F_1030.2 57 (by decide +kernel)).trans h57
    have g_1030_66 := (F_1030.2 66 (by decide +kernel)).trans h66
    have g_1030_70 := (F_1030.2 70 (by decide +kernel)).trans h70
    have g_1030_71 := (F_1030.2 71 (by decide +kernel)).trans h71
    have g_1030_14 : cE h_1030 14 (.inr (1, [.ref 7, .ref 15, .ref 16, fI 0, fJ sd])) := e_1030_14
    have g_1030_15 : cE h_1030 15 (.inl (.int, fA [v, pa, fa, kb, pb, fb])) := e_1030_15
    have g_1030_16 : cE h_1030 16 (.inl (.int, fA [mx_sp pa fa, mx_sp pb fb])) := e_1030_16
    refine ⟨ka, rfl, ⟨k_1030, _, g_1030_66⟩, ?_⟩
    have gT_1030 := st_gT_t F_1030 (by decide +kernel) gT
    have gS_1030 := st_gS_t F_1030 (by decide +kernel) gS
    have gV_1030 := st_gV_t F_1030 (by decide +kernel) gV
    have gW_1030 := st_gW_t F_1030 (by decide +kernel) gW
    have gM_1030 := st_gM_t F_1030 (by decide +kernel) gM
    have gR_1030 := st_gR_t F_1030 (by decide +kernel) gR
    have gL_1030 := st_gL_t F_1030 (by decide +kernel) gL
    have gI_1030 := st_gI_t F_1030 (by decide +kernel) gI
    have gJ_1030 := st_gJ_t F_1030 (by decide +kernel) gJ
    have hB_1030 := st_hB_t F_1030 (by decide +kernel) hB
    have hT_1030 := st_hT_t F_1030 (by decide +kernel) hT
    have hS_1030 := st_hS_t F_1030 (by decide +kernel) hS
    have hM_1030 := st_hM_t F_1030 (by decide +kernel) hM
    have hR_1030 := st_hR_t F_1030 (by decide +kernel) hR
    have hL_1030 := st_hL_t F_1030 (by decide +kernel) hL
    have hI_1030 := st_hI_t F_1030 (by decide +kernel) hI
    refine ik_F_mono (rp_cork00 (ka := ka) (pa := pa) (fa := fa) (kb := kb) (pb := pb) (fb := fb) (xa := xa) (xb := xb) (mi := mi) (v := v) (pl := pl) (f := fun j => ([0, 0, 0, 0, ((s : Nat) : Int), 0, 0, 0, sd, 0, tn, fp, sc0, sc1, sc2, sc3, sc4, sc5, 0, 0, 0, 0, 0, 0, w24, 0, 0, 0, 0, 0, 0, 0, sb, wa, 0, 0, r, 0, 0, 0, 0, 0, 0] : List Int).getD j 0) f_k.2.2.1 f_k.2.2.2.1 f_pl z_v g_1030_66 g_1030_70 g_1030_71 k_1030) ?_
    rintro _ h_1031 (⟨rfl, e_1031_66, e_1031_70, e_1031_71, p_1031_0, F_1031⟩ | ⟨rfl, e_1031_66, e_1031_70, e_1031_71, p_1031_0, F_1031⟩)
    · have k_1031 := F_1031.1.trans k_1030
      have g_1031_0 := (F_1031.2 0 (by decide +kernel)).trans g_1030_0
      have g_1031_7 := (F_1031.2 7 (by decide +kernel)).trans g_1030_7
      have g_1031_8 := (F_1031.2 8 (by decide +kernel)).trans g_1030_8
      have g_1031_9 := (F_1031.2 9 (by decide +kernel)).trans g_1030_9
      have g_1031_10 := (F_1031.2 10 (by decide +kernel)).trans g_1030_10
      have g_1031_11 := (F_1031.2 11 (by decide +kernel)).trans g_1030_11
      have g_1031_12 := (F_1031.2 12 (by decide +kernel)).trans g_1030_12
      have g_1031_13 := (F_1031.2 13 (by decide +kernel)).trans g_1030_13
      have g_1031_14 := (F_1031.2 14 (by decide +kernel)).trans g_1030_14
      have g_1031_15 := (F_1031.2 15 (by decide +kernel)).trans g_1030_15
      have g_1031_16 := (F_1031.2 16 (by decide +kernel)).trans g_1030_16
      have g_1031_18 := (F_1031.2 18 (by decide +kernel)).trans g_1030_18
      have g_1031_57 := (F_1031.2 57 (by decide +kernel)).trans g_1030_57
      have g_1031_66 : cE h_1031 66 (.inr (10, [fI pl, .ref 67, .ref 68, .ref 69, fI ((s : Nat) : Int), .ref 70, .ref 71, fI 0, fI sd, .ref 72, fI tn, fI fp, fI sc0, fJ sc1, fI sc2, fI sc3, fI sc4, fI sc5, .ref 73, .ref 74, .ref 75, .ref 76, .ref 77, .ref 78, fI w24, .ref 79, .ref 80, .ref 81, .ref 82, .ref 83, .ref 84, .ref 85, fJ sb, fJ wa, .ref 86, .ref 87, fI r, .ref 88, .ref 89, .ref 90, .ref 91, .ref 92, .ref 93])) := e_1031_66
      have g_1031_70 : cE h_1031 70 (.inl (.int, fA [v, pa, fa, kb, pb, fb])) := e_1031_70
      have g_1031_71 : cE h_1031 71 (.inl (.int, fA [mx_sp pa fa, mx_sp pb fb])) := e_1031_71
      refine ⟨rfl, ?_⟩
      have gT_1031 := st_gT_t F_1031 (by decide +kernel) gT_1030
      have gS_1031 := st_gS_t F_1031 (by decide +kernel) gS_1030
      have gV_1031 := st_gV_t F_1031 (by decide +kernel) gV_1030
      have gW_1031 := st_gW_t F_1031 (by decide +kernel) gW_1030
      have gM_1031 := st_gM_t F_1031 (by decide +kernel) gM_1030
      have gR_1031 := st_gR_t F_1031 (by decide +kernel) gR_1030
      have gL_1031 := st_gL_t F_1031 (by decide +kernel) gL_1030
      have gI_1031 := st_gI_t F_1031 (by decide +kernel) gI_1030
      have gJ_1031 := st_gJ_t F_1031 (by decide +kernel) gJ_1030
      have hB_1031 := st_hB_t F_1031 (by decide +kernel) hB_1030
      have hT_1031 := st_hT_t F_1031 (by decide +kernel) hT_1030
      have hS_1031 := st_hS_t F_1031 (by decide +kernel) hS_1030
      have hM_1031 := st_hM_t F_1031 (by decide +kernel) hM_1030
      have hR_1031 := st_hR_t F_1031 (by decide +kernel) hR_1030
      have hL_1031 := st_hL_t F_1031 (by decide +kernel) hL_1030
      have hI_1031 := st_hI_t F_1031 (by decide +kernel) hI_1030
      intro C_ k_
      exact k_ tn fp pl 0 sd v pa fa kb pb fb (mx_sp pa fa) (mx_sp pb fb) r n0 n1 ga0 gm0 gd_0 gs0 g00 g01 g02 g03 g04 g05 gx0 gy0 ga1 gm1 gd_1 gs1 g10 g11 g12 g13 g14 g15 gx1 gy1 s T cn go ch wg wc we rp rt lr ci0 ci1 cnr gor chr T2 im f_pl f_s f_st f_cb f_cr f_rw f_al f_wy (by omega) f_p (fun w => by have z := f_p w; have a := mx_sp_b (fr := fa) (show 0 ≤ pa ∧ pa < pl by omega) (by omega); have b := mx_sp_b (fr := fb) (show 0 ≤ pb ∧ pb < pl by omega) (by omega); omega) (by omega) f_sd f_r f_rr f_n f_l0 f_l1 f_tn f_t (st_I_K f_i0) (st_I_K f_i1) ⟨g_1031_0, g_1031_18, g_1031_57⟩ gT_1031 ⟨g_1031_7, g_1031_8, n8, g_1031_9, n9, g_1031_10, n10, g_1031_11, n11, g_1031_12, n12, g_1031_13, n13⟩ ⟨g_1031_14, g_1031_15, g_1031_16⟩ gS_1031 gV_1031 gW_1031 gM_1031 gR_1031 gL_1031 gI_1031 gJ_1031 ⟨sc0, sc1, sc2, sc3, sc4, sc5, w24, sb, wa, g_1031_66⟩ hB_1031 ⟨g_1031_70, g_1031_71⟩ hT_1031 hS_1031 hM_1031 hR_1031 hL_1031 hI_1031 k_1031
    · have k_1031 := F_1031.1.trans k_1030
      have g_1031_0 := (F_1031.2 0 (by decide +kernel)).trans g_1030_0
      have g_1031_7 := (F_1031.2 7 (by decide +kernel)).trans g_1030_7
      have g_1031_8 := (F_1031.2 8 (by decide +kernel)).trans g_1030_8
      have g_1031_9 := (F_1031.2 9 (by decide +kernel)).trans g_1030_9
      have g_1031_10 := (F_1031.2 10 (by decide +kernel)).trans g_1030_10
      have g_1031_11 := (F_1031.2 11 (by decide +kernel)).trans g_1030_11
      have g_1031_12 := (F_1031.2 12 (by decide +kernel)).trans g_1030_12
      have g_1031_13 := (F_1031.2 13 (by decide +kernel)).trans g_1030_13
      have g_1031_14 := (F_1031.2 14 (by decide +kernel)).trans g_1030_14
      have g_1031_15 := (F_1031.2 15 (by decide +kernel)).trans g_1030_15
      have g_1031_16 := (F_1031.2 16 (by decide +kernel)).trans g_1030_16
      have g_1031_18 := (F_1031.2 18 (by decide +kernel)).trans g_1030_18
      have g_1031_57 := (F_1031.2 57 (by decide +kernel)).trans g_1030_57
      have g_1031_66 : cE h_1031 66 (.inr (10, [fI pl, .ref 67, .ref 68, .ref 69, fI ((s : Nat) : Int), .ref 70, .ref 71, fI mi, fI sd, .ref 72, fI tn, fI fp, fI sc0, fJ sc1, fI sc2, fI sc3, fI sc4, fI sc5, .ref 73, .ref 74, .ref 75, .ref 76, .ref 77, .ref 78, fI w24, .ref 79, .ref 80, .ref 81, .ref 82, .ref 83, .ref 84, .ref 85, fJ sb, fJ wa, .ref 86, .ref 87, fI r, .ref 88, .ref 89, .ref 90, .ref 91, .ref 92, .ref 93])) := e_1031_66
      have g_1031_70 : cE h_1031 70 (.inl (.int, fA [ka, pa, fa, kb, pb, fb])) := e_1031_70
      have g_1031_71 : cE h_1031 71 (.inl (.int, fA [xa, xb])) := e_1031_71
      exact absurd p_1030_0 p_1031_0
  · have k_1030 := F_1030.1.trans hl
    have g_1030_0 := (F_1030.2 0 (by decide +kernel)).trans h0
    have g_1030_7 := (F_1030.2 7 (by decide +kernel)).trans h7
    have g_1030_8 := (F_1030.2 8 (by decide +kernel)).trans h8
    have g_1030_9 := (F_1030.2 9 (by decide +kernel)).trans h9
    have g_1030_10 := (F_1030.2 10 (by decide +kernel)).trans h10
    have g_1030_11 := (F_1030.2 11 (by decide +kernel)).trans h11
    have g_1030_12 := (F_1030.2 12 (by decide +kernel)).trans h12
    have g_1030_13 := (F_1030.2 13 (by decide +kernel)).trans h13
    have g_1030_18 := (F_1030.2 18 (by decide +kernel)).trans h18
    have g_1030_57 := (F_1030.2 57 (by decide +kernel)).trans h57
    have g_1030_66 := (F_1030.2 66 (by decide +kernel)).trans h66
    have g_1030_70 := (F_1030.2 70 (by decide +kernel)).trans h70
    have g_1030_71 := (F_1030.2 71 (by decide +kernel)).trans h71
    have g_1030_14 : cE h_1030 14 (.inr (1, [.ref 7, .ref 15, .ref 16, fI mi, fJ sd])) := e_1030_14
    have g_1030_15 : cE h_1030 15 (.inl (.int, fA [ka, pa, fa, kb, pb, fb])) := e_1030_15
    have g_1030_16 : cE h_1030 16 (.inl (.int, fA [xa, xb])) := e_1030_16
    refine ⟨if 0 ≤ v ∧ v ≤ 2 then -1000000003 else -1000000001, rfl, ⟨k_1030, _, g_1030_66⟩, ?_⟩
    have gT_1030 := st_gT_t F_1030 (by decide +kernel) gT
    have gS_1030 := st_gS_t F_1030 (by decide +kernel) gS
    have gV_1030 := st_gV_t F_1030 (by decide +kernel) gV
    have gW_1030 := st_gW_t F_1030 (by decide +kernel) gW
    have gM_1030 := st_gM_t F_1030 (by decide +kernel) gM
    have gR_1030 := st_gR_t F_1030 (by decide +kernel) gR
    have gL_1030 := st_gL_t F_1030 (by decide +kernel) gL
    have gI_1030 := st_gI_t F_1030 (by decide +kernel) gI
    have gJ_1030 := st_gJ_t F_1030 (by decide +kernel) gJ
    have hB_1030 := st_hB_t F_1030 (by decide +kernel) hB
    have hT_1030 := st_hT_t F_1030 (by decide +kernel) hT
    have hS_1030 := st_hS_t F_1030 (by decide +kernel) hS
    have hM_1030 := st_hM_t F_1030 (by decide +kernel) hM
    have hR_1030 := st_hR_t F_1030 (by decide +kernel) hR
    have hL_1030 := st_hL_t F_1030 (by decide +kernel) hL
    have hI_1030 := st_hI_t F_1030 (by decide +kernel) hI
    refine ik_F_mono (rp_cork00 (ka := ka) (pa := pa) (fa := fa) (kb := kb) (pb := pb) (fb := fb) (xa := xa) (xb := xb) (mi := mi) (v := v) (pl := pl) (f := fun j => ([0, 0, 0, 0, ((s : Nat) : Int), 0, 0, 0, sd, 0, tn, fp, sc0, sc1, sc2, sc3, sc4, sc5, 0, 0, 0, 0, 0, 0, w24, 0, 0, 0, 0, 0, 0, 0, sb, wa, 0, 0, r, 0, 0, 0, 0, 0, 0] : List Int).getD j 0) f_k.2.2.1 f_k.2.2.2.1 f_pl z_v g_1030_66 g_1030_70 g_1030_71 k_1030) ?_
    rintro _ h_1032 (⟨rfl, e_1032_66, e_1032_70, e_1032_71, p_1032_0, F_1032⟩ | ⟨rfl, e_1032_66, e_1032_70, e_1032_71, p_1032_0, F_1032⟩)
    · have k_1032 := F_1032.1.trans k_1030
      have g_1032_0 := (F_1032.2 0 (by decide +kernel)).trans g_1030_0
      have g_1032_7 := (F_1032.2 7 (by decide +kernel)).trans g_1030_7
      have g_1032_8 := (F_1032.2 8 (by decide +kernel)).trans g_1030_8
      have g_1032_9 := (F_1032.2 9 (by decide +kernel)).trans g_1030_9
      have g_1032_10 := (F_1032.2 10 (by decide +kernel)).trans g_1030_10
      have g_1032_11 := (F_1032.2 11 (by decide +kernel)).trans g_1030_11
      have g_1032_12 := (F_1032.2 12 (by decide +kernel)).trans g_1030_12
      have g_1032_13 := (F_1032.2 13 (by decide +kernel)).trans g_1030_13
      have g_1032_14 := (F_1032.2 14 (by decide +kernel)).trans g_1030_14
      have g_1032_15 := (F_1032.2 15 (by decide +kernel)).trans g_1030_15
      have g_1032_16 := (F_1032.2 16 (by decide +kernel)).trans g_1030_16
      have g_1032_18 := (F_1032.2 18 (by decide +kernel)).trans g_1030_18
      have g_1032_57 := (F_1032.2 57 (by decide +kernel)).trans g_1030_57
      have g_1032_66 : cE h_1032 66 (.inr (10, [fI pl, .ref 67, .ref 68, .ref 69, fI ((s : Nat) : Int), .ref 70, .ref 71, fI 0, fI sd, .ref 72, fI tn, fI fp, fI sc0, fJ sc1, fI sc2, fI sc3, fI sc4, fI sc5, .ref 73, .ref 74, .ref 75, .ref 76, .ref 77, .ref 78, fI w24, .ref 79, .ref 80, .ref 81, .ref 82, .ref 83, .ref 84, .ref 85, fJ sb, fJ wa, .ref 86, .ref 87, fI r, .ref 88, .ref 89, .ref 90, .ref 91, .ref 92, .ref 93])) := e_1032_66
      have g_1032_70 : cE h_1032 70 (.inl (.int, fA [v, pa, fa, kb, pb, fb])) := e_1032_70
      have g_1032_71 : cE h_1032 71 (.inl (.int, fA [mx_sp pa fa, mx_sp pb fb])) := e_1032_71
      exact absurd p_1032_0 p_1030_0
    · have k_1032 := F_1032.1.trans k_1030
      have g_1032_0 := (F_1032.2 0 (by decide +kernel)).trans g_1030_0
      have g_1032_7 := (F_1032.2 7 (by decide +kernel)).trans g_1030_7
      have g_1032_8 := (F_1032.2 8 (by decide +kernel)).trans g_1030_8
      have g_1032_9 := (F_1032.2 9 (by decide +kernel)).trans g_1030_9
      have g_1032_10 := (F_1032.2 10 (by decide +kernel)).trans g_1030_10
      have g_1032_11 := (F_1032.2 11 (by decide +kernel)).trans g_1030_11
      have g_1032_12 := (F_1032.2 12 (by decide +kernel)).trans g_1030_12
      have g_1032_13 := (F_1032.2 13 (by decide +kernel)).trans g_1030_13
      have g_1032_14 := (F_1032.2 14 (by decide +kernel)).trans g_1030_14
      have g_1032_15 := (F_1032.2 15 (by decide +kernel)).trans g_1030_15
      have g_1032_16 := (F_1032.2 16 (by decide +kernel)).trans g_1030_16
      have g_1032_18 := (F_1032.2 18 (by decide +kernel)).trans g_1030_18
      have g_1032_57 := (F_1032.2 57 (by decide +kernel)).trans g_1030_57
      have g_1032_66 : cE h_1032 66 (.inr (10, [fI pl, .ref 67, .ref 68, .ref 69, fI ((s : Nat) : Int), .ref 70, .ref 71, fI mi, fI sd, .ref 72, fI tn, fI fp, fI sc0, fJ sc1, fI sc2, fI sc3, fI sc4, fI sc5, .ref 73, .ref 74, .ref 75, .ref 76, .ref 77, .ref 78, fI w24, .ref 79, .ref 80, .ref 81, .ref 82, .ref 83, .ref 84, .ref 85, fJ sb, fJ wa, .ref 86, .ref 87, fI r, .ref 88, .ref 89, .ref 90, .ref 91, .ref 92, .ref 93])) := e_1032_66
      have g_1032_70 : cE h_1032 70 (.inl (.int, fA [ka, pa, fa, kb, pb, fb])) := e_1032_70
      have g_1032_71 : cE h_1032 71 (.inl (.int, fA [xa, xb])) := e_1032_71
      refine ⟨rfl, ?_⟩
      have gT_1032 := st_gT_t F_1032 (by decide +kernel) gT_1030
      have gS_1032 := st_gS_t F_1032 (by decide +kernel) gS_1030
      have gV_1032 := st_gV_t F_1032 (by decide +kernel) gV_1030
      have gW_1032 := st_gW_t F_1032 (by decide +kernel) gW_1030
      have gM_1032 := st_gM_t F_1032 (by decide +kernel) gM_1030
      have gR_1032 := st_gR_t F_1032 (by decide +kernel) gR_1030
      have gL_1032 := st_gL_t F_1032 (by decide +kernel) gL_1030
      have gI_1032 := st_gI_t F_1032 (by decide +kernel) gI_1030
      have gJ_1032 := st_gJ_t F_1032 (by decide +kernel) gJ_1030
      have hB_1032 := st_hB_t F_1032 (by decide +kernel) hB_1030
      have hT_1032 := st_hT_t F_1032 (by decide +kernel) hT_1030
      have hS_1032 := st_hS_t F_1032 (by decide +kernel) hS_1030
      have hM_1032 := st_hM_t F_1032 (by decide +kernel) hM_1030
      have hR_1032 := st_hR_t F_1032 (by decide +kernel) hR_1030
      have hL_1032 := st_hL_t F_1032 (by decide +kernel) hL_1030
      have hI_1032 := st_hI_t F_1032 (by decide +kernel) hI_1030
      intro C_ k_
      exact k_ tn fp pl mi sd ka pa fa kb pb fb xa xb r n0 n1 ga0 gm0 gd_0 gs0 g00 g01 g02 g03 g04 g05 gx0 gy0 ga1 gm1 gd_1 gs1 g10 g11 g12 g13 g14 g15 gx1 gy1 s T cn go ch wg wc we rp rt lr ci0 ci1 cnr gor chr T2 im f_pl f_s f_st f_cb f_cr f_rw f_al f_wy f_k f_p f_x (by omega) f_sd f_r f_rr f_n f_l0 f_l1 f_tn f_t (st_I_K f_i0) (st_I_K f_i1) ⟨g_1032_0, g_1032_18, g_1032_57⟩ gT_1032 ⟨g_1032_7, g_1032_8, n8, g_1032_9, n9, g_1032_10, n10, g_1032_11, n11, g_1032_12, n12, g_1032_13, n13⟩ ⟨g_1032_14, g_1032_15, g_1032_16⟩ gS_1032 gV_1032 gW_1032 gM_1032 gR_1032 gL_1032 gI_1032 gJ_1032 ⟨sc0, sc1, sc2, sc3, sc4, sc5, w24, sb, wa, g_1032_66⟩ hB_1032 ⟨g_1032_70, g_1032_71⟩ hT_1032 hS_1032 hM_1032 hR_1032 hL_1032 hI_1032 k_1032

set_option maxRecDepth 100000 in
theorem lk_cork01 {K : Nat} {h : List ik_E} (E : st_S K h) (hK : K ≤ 600) {v : Int} (z_v : -2147483648 ≤ v ∧ v < 2147483648)  : ik_F 95 [.ref 0, fI 0, fI 1, fI v] h (fun rv h' => ∃ o_ : Int, rv = [fI o_] ∧ (h'.length = 94 ∧ ∃ fs, h'[66]? = some (.inr (10, fs))) ∧ ik_F 158 [.ref 66, fI 0, fI 1, fI v] h' (fun rv' h'' => rv' = [fI o_] ∧ st_S (K + 1) h'')) := by
  refine E _ ?_
  intro tn fp pl mi sd ka pa fa kb pb fb xa xb r n0 n1 ga0 gm0 gd_0 gs0 g00 g01 g02 g03 g04 g05 gx0 gy0 ga1 gm1 gd_1 gs1 g10 g11 g12 g13 g14 g15 gx1 gy1 s T cn go ch wg wc we rp rt lr ci0 ci1 cnr gor chr T2 im f_pl f_s f_st f_cb f_cr f_rw f_al f_wy f_k f_p f_x f_m f_sd f_r f_rr f_n f_l0 f_l1 f_tn f_t f_i0 f_i1 gA gT gB gC gS gV gW gM gR gL gI gJ hO hB hC hT hS hM hR hL hI hl
  obtain ⟨h0, h18, h57⟩ := gA
  obtain ⟨h7, h8, n8, h9, n9, h10, n10, h11, n11, h12, n12, h13, n13⟩ := gB
  obtain ⟨h14, h15, h16⟩ := gC
  obtain ⟨sc0, sc1, sc2, sc3, sc4, sc5, w24, sb, wa, h66⟩ := hO
  obtain ⟨h70, h71⟩ := hC
  refine ik_F_mono (cp_cork01 (ka := ka) (pa := pa) (fa := fa) (kb := kb) (pb := pb) (fb := fb) (xa := xa) (xb := xb) (mi := mi) (dr := sd) (v := v) (pl := pl) (st := ((s : Nat) : Int)) (lo := ((mj_lost pl cn go : Nat) : Int)) f_k.2.2.1 f_k.2.2.2.1 f_pl z_v h0 h7 h14 h15 h16 hl) ?_
  rintro _ h_1033 (⟨rfl, e_1033_14, e_1033_15, e_1033_16, p_1033_0, F_1033⟩ | ⟨rfl, e_1033_14, e_1033_15, e_1033_16, p_1033_0, F_1033⟩)
  · have k_1033 := F_1033.1.trans hl
    have g_1033_0 := (F_1033.2 0 (by decide +kernel)).trans h0
    have g_1033_7 := (F_1033.2 7 (by decide +kernel)).trans h7
    have g_1033_8 := (F_1033.2 8 (by decide +kernel)).trans h8
    have g_1033_9 := (F_1033.2 9 (by decide +kernel)).trans h9
    have g_1033_10 := (F_1033.2 10 (by decide +kernel)).trans h10
    have g_1033_11 := (F_1033.2 11 (by decide +kernel)).trans h11
    have g_1033_12 := (F_1033.2 12 (by decide +kernel)).trans h12
    have g_1033_13 := (F_1033.2 13 (by decide +kernel)).trans h13
    have g_1033_18 := (F_1033.2 18 (by decide +kernel)).trans h18
    have g_1033_57 := (F_1033.2 57 (by decide +kernel)).trans h57
    have g_1033_66 := (F_1033.2 66 (by decide +kernel)).trans h66
    have g_1033_70 := (F_1033.2 70 (by decide +kernel)).trans h70
    have g_1033_71 := (F_1033.2 71 (by decide +kernel)).trans h71
    have g_1033_14 : cE h_1033 14 (.inr (1, [.ref 7, .ref 15, .ref 16, fI 0, fJ sd])) := e_1033_14
    have g_1033_15 : cE h_1033 15 (.inl (.int, fA [ka, v, fa, kb, pb, fb])) := e_1033_15
    have g_1033_16 : cE h_1033 16 (.inl (.int, fA [mx_sp v fa, mx_sp pb fb])) := e_1033_16
    refine ⟨pa, rfl, ⟨k_1033, _, g_1033_66⟩, ?_⟩
    have gT_1033 := st_gT_t F_1033 (by decide +kernel) gT
    have gS_1033 := st_gS_t F_1033 (by decide +kernel) gS
    have gV_1033 := st_gV_t F_1033 (by decide +kernel) gV
    have gW_1033 := st_gW_t F_1033 (by decide +kernel) gW
    have gM_1033 := st_gM_t F_1033 (by decide +kernel) gM
    have gR_1033 := st_gR_t F_1033 (by decide +kernel) gR
    have gL_1033 := st_gL_t F_1033 (by decide +kernel) gL
    have gI_1033 := st_gI_t F_1033 (by decide +kernel) gI
    have gJ_1033 := st_gJ_t F_1033 (by decide +kernel) gJ
    have hB_1033 := st_hB_t F_1033 (by decide +kernel) hB
    have hT_1033 := st_hT_t F_1033 (by decide +kernel) hT
    have hS_1033 := st_hS_t F_1033 (by decide +kernel) hS
    have hM_1033 := st_hM_t F_1033 (by decide +kernel) hM
    have hR_1033 := st_hR_t F_1033 (by decide +kernel) hR
    have hL_1033 := st_hL_t F_1033 (by decide +kernel) hL
    have hI_1033 := st_hI_t F_1033 (by decide +kernel) hI
    refine ik_F_mono (rp_cork01 (ka := ka) (pa := pa) (fa := fa) (kb := kb) (pb := pb) (fb := fb) (xa := xa) (xb := xb) (mi := mi) (v := v) (pl := pl) (f := fun j => ([0, 0, 0, 0, ((s : Nat) : Int), 0, 0, 0, sd, 0, tn, fp, sc0, sc1, sc2, sc3, sc4, sc5, 0, 0, 0, 0, 0, 0, w24, 0, 0, 0, 0, 0, 0, 0, sb, wa, 0, 0, r, 0, 0, 0, 0, 0, 0] : List Int).getD j 0) f_k.2.2.1 f_k.2.2.2.1 f_pl z_v g_1033_66 g_1033_70 g_1033_71 k_1033) ?_
    rintro _ h_1034 (⟨rfl, e_1034_66, e_1034_70, e_1034_71, p_1034_0, F_1034⟩ | ⟨rfl, e_1034_66, e_1034_70, e_1034_71, p_1034_0, F_1034⟩)
    · have k_1034 := F_1034.1.trans k_1033
      have g_1034_0 := (F_1034.2 0 (by decide +kernel)).trans g_1033_0
      have g_1034_7 := (F_1034.2 7 (by decide +kernel)).trans g_1033_7
      have g_1034_8 := (F_1034.2 8 (by decide +kernel)).trans g_1033_8
      have g_1034_9 := (F_1034.2 9 (by decide +kernel)).trans g_1033_9
      have g_1034_10 := (F_1034.2 10 (by decide +kernel)).trans g_1033_10
      have g_1034_11 := (F_1034.2 11 (by decide +kernel)).trans g_1033_11
      have g_1034_12 := (F_1034.2 12 (by decide +kernel)).trans g_1033_12
      have g_1034_13 := (F_1034.2 13 (by decide +kernel)).trans g_1033_13
      have g_1034_14 := (F_1034.2 14 (by decide +kernel)).trans g_1033_14
      have g_1034_15 := (F_1034.2 15 (by decide +kernel)).trans g_1033_15
      have g_1034_16 := (F_1034.2 16 (by decide +kernel)).trans g_1033_16
      have g_1034_18 := (F_1034.2 18 (by decide +kernel)).trans g_1033_18
      have g_1034_57 := (F_1034.2 57 (by decide +kernel)).trans g_1033_57
      have g_1034_66 : cE h_1034 66 (.inr (10, [fI pl, .ref 67, .ref 68, .ref 69, fI ((s : Nat) : Int), .ref 70, .ref 71, fI 0, fI sd, .ref 72, fI tn, fI fp, fI sc0, fJ sc1, fI sc2, fI sc3, fI sc4, fI sc5, .ref 73, .ref 74, .ref 75, .ref 76, .ref 77, .ref 78, fI w24, .ref 79, .ref 80, .ref 81, .ref 82, .ref 83, .ref 84, .ref 85, fJ sb, fJ wa, .ref 86, .ref 87, fI r, .ref 88, .ref 89, .ref 90, .ref 91, .ref 92, .ref 93])) := e_1034_66
      have g_1034_70 : cE h_1034 70 (.inl (.int, fA [ka, v, fa, kb, pb, fb])) := e_1034_70
      have g_1034_71 : cE h_1034 71 (.inl (.int, fA [mx_sp v fa, mx_sp pb fb])) := e_1034_71
      refine ⟨rfl, ?_⟩
      have gT_1034 := st_gT_t F_1034 (by decide +kernel) gT_1033
      have gS_1034 := st_gS_t F_1034 (by decide +kernel) gS_1033
      have gV_1034 := st_gV_t F_1034 (by decide +kernel) gV_1033
      have gW_1034 := st_gW_t F_1034 (by decide +kernel) gW_1033
      have gM_1034 := st_gM_t F_1034 (by decide +kernel) gM_1033
      have gR_1034 := st_gR_t F_1034 (by decide +kernel) gR_1033
      have gL_1034 := st_gL_t F_1034 (by decide +kernel) gL_1033
      have gI_1034 := st_gI_t F_1034 (by decide +kernel) gI_1033
      have gJ_1034 := st_gJ_t F_1034 (by decide +kernel) gJ_1033
      have hB_1034 := st_hB_t F_1034 (by decide +kernel) hB_1033
      have hT_1034 := st_hT_t F_1034 (by decide +kernel) hT_1033
      have hS_1034 := st_hS_t F_1034 (by decide +kernel) hS_1033
      have hM_1034 := st_hM_t F_1034 (by decide +kernel) hM_1033
      have hR_1034 := st_hR_t F_1034 (by decide +kernel) hR_1033
      have hL_1034 := st_hL_t F_1034 (by decide +kernel) hL_1033
      have hI_1034 := st_hI_t F_1034 (by decide +kernel) hI_1033
      intro C_ k_
      exact k_ tn fp pl 0 sd ka v fa kb pb fb (mx_sp v fa) (mx_sp pb fb) r n0 n1 ga0 gm0 gd_0 gs0 g00 g01 g02 g03 g04 g05 gx0 gy0 ga1 gm1 gd_1 gs1 g10 g11 g12 g13 g14 g15 gx1 gy1 s T cn go ch wg wc we rp rt lr ci0 ci1 cnr gor chr T2 im f_pl f_s f_st f_cb f_cr f_rw f_al f_wy (by omega) (fun w => by have := f_p w; omega) (fun w => by have z := f_p w; have a := mx_sp_b (fr := fa) (show 0 ≤ v ∧ v < pl by omega) (by omega); have b := mx_sp_b (fr := fb) (show 0 ≤ pb ∧ pb < pl by omega) (by omega); omega) (by omega) f_sd f_r f_rr f_n f_l0 f_l1 f_tn f_t (st_I_K f_i0) (st_I_K f_i1) ⟨g_1034_0, g_1034_18, g_1034_57⟩ gT_1034 ⟨g_1034_7, g_1034_8, n8, g_1034_9, n9, g_1034_10, n10, g_1034_11, n11, g_1034_12, n12, g_1034_13, n13⟩ ⟨g_1034_14, g_1034_15, g_1034_16⟩ gS_1034 gV_1034 gW_1034 gM_1034 gR_1034 gL_1034 gI_1034 gJ_1034 ⟨sc0, sc1, sc2, sc3, sc4, sc5, w24, sb, wa, g_1034_66⟩ hB_1034 ⟨g_1034_70, g_1034_71⟩ hT_1034 hS_1034 hM_1034 hR_1034 hL_1034 hI_1034 k_1034
    · have k_1034 := F_1034.1.trans k_1033
      have g_1034_0 := (F_1034.2 0 (by decide +kernel)).trans g_1033_0
      have g_1034_7 := (F_1034.2 7 (by decide +kernel)).trans g_1033_7
      have g_1034_8 := (F_1034.2 8 (by decide +kernel)).trans g_1033_8
      have g_1034_9 := (F_1034.2 9 (by decide +kernel)).trans g_1033_9
      have g_1034_10 := (F_1034.2 10 (by decide +kernel)).trans g_1033_10
      have g_1034_11 := (F_1034.2 11 (by decide +kernel)).trans g_1033_11
      have g_1034_12 := (F_1034.2 12 (by decide +kernel)).trans g_1033_12
      have g_1034_13 := (F_1034.2 13 (by decide +kernel)).trans g_1033_13
      have g_1034_14 := (F_1034.2 14 (by decide +kernel)).trans g_1033_14
      have g_1034_15 := (F_1034.2 15 (by decide +kernel)).trans g_1033_15
      have g_1034_16 := (F_1034.2 16 (by decide +kernel)).trans g_1033_16
      have g_1034_18 := (F_1034.2 18 (by decide +kernel)).trans g_1033_18
      have g_1034_57 := (F_1034.2 57 (by decide +kernel)).trans g_1033_57
      have g_1034_66 : cE h_1034 66 (.inr (10, [fI pl, .ref 67, .ref 68, .ref 69, fI ((s : Nat) : Int), .ref 70, .ref 71, fI mi, fI sd, .ref 72, fI tn, fI fp, fI sc0, fJ sc1, fI sc2, fI sc3, fI sc4, fI sc5, .ref 73, .ref 74, .ref 75, .ref 76, .ref 77, .ref 78, fI w24, .ref 79, .ref 80, .ref 81, .ref 82, .ref 83, .ref 84, .ref 85, fJ sb, fJ wa, .ref 86, .ref 87, fI r, .ref 88, .ref 89, .ref 90, .ref 91, .ref 92, .ref 93])) := e_1034_66
      have g_1034_70 : cE h_1034 70 (.inl (.int, fA [ka, pa, fa, kb, pb, fb])) := e_1034_70
      have g_1034_71 : cE h_1034 71 (.inl (.int, fA [xa, xb])) := e_1034_71
      exact absurd p_1033_0 p_1034_0
  · have k_1033 := F_1033.1.trans hl
    have g_1033_0 := (F_1033.2 0 (by decide +kernel)).trans h0
    have g_1033_7 := (F_1033.2 7 (by decide +kernel)).trans h7
    have g_1033_8 := (F_1033.2 8 (by decide +kernel)).trans h8
    have g_1033_9 := (F_1033.2 9 (by decide +kernel)).trans h9
    have g_1033_10 := (F_1033.2 10 (by decide +kernel)).trans h10
    have g_1033_11 := (F_1033.2 11 (by decide +kernel)).trans h11
    have g_1033_12 := (F_1033.2 12 (by decide +kernel)).trans h12
    have g_1033_13 := (F_1033.2 13 (by decide +kernel)).trans h13
    have g_1033_18 := (F_1033.2 18 (by decide +kernel)).trans h18
    have g_1033_57 := (F_1033.2 57 (by decide +kernel)).trans h57
    have g_1033_66 := (F_1033.2 66 (by decide +kernel)).trans h66
    have g_1033_70 := (F_1033.2 70 (by decide +kernel)).trans h70
    have g_1033_71 := (F_1033.2 71 (by decide +kernel)).trans h71
    have g_1033_14 : cE h_1033 14 (.inr (1, [.ref 7, .ref 15, .ref 16, fI mi, fJ sd])) := e_1033_14
    have g_1033_15 : cE h_1033 15 (.inl (.int, fA [ka, pa, fa, kb, pb, fb])) := e_1033_15
    have g_1033_16 : cE h_1033 16 (.inl (.int, fA [xa, xb])) := e_1033_16
    refine ⟨-1000000001, rfl, ⟨k_1033, _, g_1033_66⟩, ?_⟩
    have gT_1033 := st_gT_t F_1033 (by decide +kernel) gT
    have gS_1033 := st_gS_t F_1033 (by decide +kernel) gS
    have gV_1033 := st_gV_t F_1033 (by decide +kernel) gV
    have gW_1033 := st_gW_t F_1033 (by decide +kernel) gW
    have gM_1033 := st_gM_t F_1033 (by decide +kernel) gM
    have gR_1033 := st_gR_t F_1033 (by decide +kernel) gR
    have gL_1033 := st_gL_t F_1033 (by decide +kernel) gL
    have gI_1033 := st_gI_t F_1033 (by decide +kernel) gI
    have gJ_1033 := st_gJ_t F_1033 (by decide +kernel) gJ
    have hB_1033 := st_hB_t F_1033 (by decide +kernel) hB
    have hT_1033 := st_hT_t F_1033 (by decide +kernel) hT
    have hS_1033 := st_hS_t F_1033 (by decide +kernel) hS
    have hM_1033 := st_hM_t F_1033 (by decide +kernel) hM
    have hR_1033 := st_hR_t F_1033 (by decide +kernel) hR
    have hL_1033 := st_hL_t F_1033 (by decide +kernel) hL
    have hI_1033 := st_hI_t F_1033 (by decide +kernel) hI
    refine ik_F_mono (rp_cork01 (ka := ka) (pa := pa) (fa := fa) (kb := kb) (pb := pb) (fb := fb) (xa := xa) (xb := xb) (mi := mi) (v := v) (pl := pl) (f := fun j => ([0, 0, 0, 0, ((s : Nat) : Int), 0, 0, 0, sd, 0, tn, fp, sc0, sc1, sc2, sc3, sc4, sc5, 0, 0, 0, 0, 0, 0, w24, 0, 0, 0, 0, 0, 0, 0, sb, wa, 0, 0, r, 0, 0, 0, 0, 0, 0] : List Int).getD j 0) f_k.2.2.1 f_k.2.2.2.1 f_pl z_v g_1033_66 g_1033_70 g_1033_71 k_1033) ?_
    rintro _ h_1035 (⟨rfl, e_1035_66, e_1035_70, e_1035_71, p_1035_0, F_1035⟩ | ⟨rfl, e_1035_66, e_1035_70, e_1035_71, p_1035_0, F_1035⟩)
    · have k_1035 := F_1035.1.trans k_1033
      have g_1035_0 := (F_1035.2 0 (by decide +kernel)).trans g_1033_0
      have g_1035_7 := (F_1035.2 7 (by decide +kernel)).trans g_1033_7
      have g_1035_8 := (F_1035.2 8 (by decide +kernel)).trans g_1033_8
      have g_1035_9 := (F_1035.2 9 (by decide +kernel)).trans g_1033_9
      have g_1035_10 := (F_1035.2 10 (by decide +kernel)).trans g_1033_10
      have g_1035_11 := (F_1035.2 11 (by decide +kernel)).trans g_1033_11
      have g_1035_12 := (F_1035.2 12 (by decide +kernel)).trans g_1033_12
      have g_1035_13 := (F_1035.2 13 (by decide +kernel)).trans g_1033_13
      have g_1035_14 := (F_1035.2 14 (by decide +kernel)).trans g_1033_14
      have g_1035_15 := (F_1035.2 15 (by decide +kernel)).trans g_1033_15
      have g_1035_16 := (F_1035.2 16 (by decide +kernel)).trans g_1033_16
      have g_1035_18 := (F_1035.2 18 (by decide +kernel)).trans g_1033_18
      have g_1035_57 := (F_1035.2 57 (by decide +kernel)).trans g_1033_57
      have g_1035_66 : cE h_1035 66 (.inr (10, [fI pl, .ref 67, .ref 68, .ref 69, fI ((s : Nat) : Int), .ref 70, .ref 71, fI 0, fI sd, .ref 72, fI tn, fI fp, fI sc0, fJ sc1, fI sc2, fI sc3, fI sc4, fI sc5, .ref 73, .ref 74, .ref 75, .ref 76, .ref 77, .ref 78, fI w24, .ref 79, .ref 80, .ref 81, .ref 82, .ref 83, .ref 84, .ref 85, fJ sb, fJ wa, .ref 86, .ref 87, fI r, .ref 88, .ref 89, .ref 90, .ref 91, .ref 92, .ref 93])) := e_1035_66
      have g_1035_70 : cE h_1035 70 (.inl (.int, fA [ka, v, fa, kb, pb, fb])) := e_1035_70
      have g_1035_71 : cE h_1035 71 (.inl (.int, fA [mx_sp v fa, mx_sp pb fb])) := e_1035_71
      exact absurd p_1035_0 p_1033_0
    · have k_1035 := F_1035.1.trans k_1033
      have g_1035_0 := (F_1035.2 0 (by decide +kernel)).trans g_1033_0
      have g_1035_7 := (F_1035.2 7 (by decide +kernel)).trans g_1033_7
      have g_1035_8 := (F_1035.2 8 (by decide +kernel)).trans g_1033_8
      have g_1035_9 := (F_1035.2 9 (by decide +kernel)).trans g_1033_9
      have g_1035_10 := (F_1035.2 10 (by decide +kernel)).trans g_1033_10
      have g_1035_11 := (F_1035.2 11 (by decide +kernel)).trans g_1033_11
      have g_1035_12 := (F_1035.2 12 (by decide +kernel)).trans g_1033_12
      have g_1035_13 := (F_1035.2 13 (by decide +kernel)).trans g_1033_13
      have g_1035_14 := (F_1035.2 14 (by decide +kernel)).trans g_1033_14
      have g_1035_15 := (F_1035.2 15 (by decide +kernel)).trans g_1033_15
      have g_1035_16 := (F_1035.2 16 (by decide +kernel)).trans g_1033_16
      have g_1035_18 := (F_1035.2 18 (by decide +kernel)).trans g_1033_18
      have g_1035_57 := (F_1035.2 57 (by decide +kernel)).trans g_1033_57
      have g_1035_66 : cE h_1035 66 (.inr (10, [fI pl, .ref 67, .ref 68, .ref 69, fI ((s : Nat) : Int), .ref 70, .ref 71, fI mi, fI sd, .ref 72, fI tn, fI fp, fI sc0, fJ sc1, fI sc2, fI sc3, fI sc4, fI sc5, .ref 73, .ref 74, .ref 75, .ref 76, .ref 77, .ref 78, fI w24, .ref 79, .ref 80, .ref 81, .ref 82, .ref 83, .ref 84, .ref 85, fJ sb, fJ wa, .ref 86, .ref 87, fI r, .ref 88, .ref 89, .ref 90, .ref 91, .ref 92, .ref 93])) := e_1035_66
      have g_1035_70 : cE h_1035 70 (.inl (.int, fA [ka, pa, fa, kb, pb, fb])) := e_1035_70
      have g_1035_71 : cE h_1035 71 (.inl (.int, fA [xa, xb])) := e_1035_71
      refine ⟨rfl, ?_⟩
      have gT_1035 := st_gT_t F_1035 (by decide +kernel) gT_1033
      have gS_1035 := st_gS_t F_1035 (by decide +kernel) gS_1033
      have gV_1035 := st_gV_t F_1035 (by decide +kernel) gV_1033
      have gW_1035 := st_gW_t F_1035 (by decide +kernel) gW_1033
      have gM_1035 := st_gM_t F_1035 (by decide +kernel) gM_1033
      have gR_1035 := st_gR_t F_1035 (by decide +kernel) gR_1033
      have gL_1035 := st_gL_t F_1035 (by decide +kernel) gL_1033
      have gI_1035 := st_gI_t F_1035 (by decide +kernel) gI_1033
      have gJ_1035 := st_gJ_t F_1035 (by decide +kernel) gJ_1033
      have hB_1035 := st_hB_t F_1035 (by decide +kernel) hB_1033
      have hT_1035 := st_hT_t F_1035 (by decide +kernel) hT_1033
      have hS_1035 := st_hS_t F_1035 (by decide +kernel) hS_1033
      have hM_1035 := st_hM_t F_1035 (by decide +kernel) hM_1033
      have hR_1035 := st_hR_t F_1035 (by decide +kernel) hR_1033
      have hL_1035 := st_hL_t F_1035 (by decide +kernel) hL_1033
      have hI_1035 := st_hI_t F_1035 (by decide +kernel) hI_1033
      intro C_ k_
      exact k_ tn fp pl mi sd ka pa fa kb pb fb xa xb r n0 n1 ga0 gm0 gd_0 gs0 g00 g01 g02 g03 g04 g05 gx0 gy0 ga1 gm1 gd_1 gs1 g10 g11 g12 g13 g14 g15 gx1 gy1 s T cn go ch wg wc we rp rt lr ci0 ci1 cnr gor chr T2 im f_pl f_s f_st f_cb f_cr f_rw f_al f_wy f_k f_p f_x (by omega) f_sd f_r f_rr f_n f_l0 f_l1 f_tn f_t (st_I_K f_i0) (st_I_K f_i1) ⟨g_1035_0, g_1035_18, g_1035_57⟩ gT_1035 ⟨g_1035_7, g_1035_8, n8, g_1035_9, n9, g_1035_10, n10, g_1035_11, n11, g_1035_12, n12, g_1035_13, n13⟩ ⟨g_1035_14, g_1035_15, g_1035_16⟩ gS_1035 gV_1035 gW_1035 gM_1035 gR_1035 gL_1035 gI_1035 gJ_1035 ⟨sc0, sc1, sc2, sc3, sc4, sc5, w24, sb, wa, g_1035_66⟩ hB_1035 ⟨g_1035_70, g_1035_71⟩ hT_1035 hS_1035 hM_1035 hR_1035 hL_1035 hI_1035 k_1035

set_option maxRecDepth 100000 in
theorem lk_cork02 {K : Nat} {h : List ik_E} (E : st_S K h) (hK : K ≤ 600) {v : Int} (z_v : -2147483648 ≤ v ∧ v < 2147483648)  : ik_F 95 [.ref 0, fI 0, fI 2, fI v] h (fun rv h' => ∃ o_ : Int, rv = [fI o_] ∧ (h'.length = 94 ∧ ∃ fs, h'[66]? = some (.inr (10, fs))) ∧ ik_F 158 [.ref 66, fI 0, fI 2, fI v] h' (fun rv' h'' => rv' = [fI o_] ∧ st_S (K + 1) h'')) := by
  refine E _ ?_
  intro tn fp pl mi sd ka pa fa kb pb fb xa xb r n0 n1 ga0 gm0 gd_0 gs0 g00 g01 g02 g03 g04 g05 gx0 gy0 ga1 gm1 gd_1 gs1 g10 g11 g12 g13 g14 g15 gx1 gy1 s T cn go ch wg wc we rp rt lr ci0 ci1 cnr gor chr T2 im f_pl f_s f_st f_cb f_cr f_rw f_al f_wy f_k f_p f_x f_m f_sd f_r f_rr f_n f_l0 f_l1 f_tn f_t f_i0 f_i1 gA gT gB gC gS gV gW gM gR gL gI gJ hO hB hC hT hS hM hR hL hI hl
  obtain ⟨h0, h18, h57⟩ := gA
  obtain ⟨h7, h8, n8, h9, n9, h10, n10, h11, n11, h12, n12, h13, n13⟩ := gB
  obtain ⟨h14, h15, h16⟩ := gC
  obtain ⟨sc0, sc1, sc2, sc3, sc4, sc5, w24, sb, wa, h66⟩ := hO
  obtain ⟨h70, h71⟩ := hC
  refine ik_F_mono (cp_cork02 (ka := ka) (pa := pa) (fa := fa) (kb := kb) (pb := pb) (fb := fb) (xa := xa) (xb := xb) (mi := mi) (dr := sd) (v := v) (pl := pl) (st := ((s : Nat) : Int)) (lo := ((mj_lost pl cn go : Nat) : Int)) f_k.2.2.1 f_k.2.2.2.1 f_pl z_v h0 h7 h14 h15 h16 hl) ?_
  rintro _ h_1036 (⟨rfl, e_1036_14, e_1036_15, e_1036_16, p_1036_0, F_1036⟩ | ⟨rfl, e_1036_14, e_1036_15, e_1036_16, p_1036_0, F_1036⟩)
  · have k_1036 := F_1036.1.trans hl
    have g_1036_0 := (F_1036.2 0 (by decide +kernel)).trans h0
    have g_1036_7 := (F_1036.2 7 (by decide +kernel)).trans h7
    have g_1036_8 := (F_1036.2 8 (by decide +kernel)).trans h8
    have g_1036_9 := (F_1036.2 9 (by decide +kernel)).trans h9
    have g_1036_10 := (F_1036.2 10 (by decide +kernel)).trans h10
    have g_1036_11 := (F_1036.2 11 (by decide +kernel)).trans h11
    have g_1036_12 := (F_1036.2 12 (by decide +kernel)).trans h12
    have g_1036_13 := (F_1036.2 13 (by decide +kernel)).trans h13
    have g_1036_18 := (F_1036.2 18 (by decide +kernel)).trans h18
    have g_1036_57 := (F_1036.2 57 (by decide +kernel)).trans h57
    have g_1036_66 := (F_1036.2 66 (by decide +kernel)).trans h66
    have g_1036_70 := (F_1036.2 70 (by decide +kernel)).trans h70
    have g_1036_71 := (F_1036.2 71 (by decide +kernel)).trans h71
    have g_1036_14 : cE h_1036 14 (.inr (1, [.ref 7, .ref 15, .ref 16, fI 0, fJ sd])) := e_1036_14
    have g_1036_15 : cE h_1036 15 (.inl (.int, fA [ka, pa, v, kb, pb, fb])) := e_1036_15
    have g_1036_16 : cE h_1036 16 (.inl (.int, fA [mx_sp pa v, mx_sp pb fb])) := e_1036_16
    refine ⟨fa, rfl, ⟨k_1036, _, g_1036_66⟩, ?_⟩
    have gT_1036 := st_gT_t F_1036 (by decide +kernel) gT
    have gS_1036 := st_gS_t F_1036 (by decide +kernel) gS
    have gV_1036 := st_gV_t F_1036 (by decide +kernel) gV
    have gW_1036 := st_gW_t F_1036 (by decide +kernel) gW
    have gM_1036 := st_gM_t F_1036 (by decide +kernel) gM
    have gR_1036 := st_gR_t F_1036 (by decide +kernel) gR
    have gL_1036 := st_gL_t F_1036 (by decide +kernel) gL
    have gI_1036 := st_gI_t F_1036 (by decide +kernel) gI
    have gJ_1036 := st_gJ_t F_1036 (by decide +kernel) gJ
    have hB_1036 := st_hB_t F_1036 (by decide +kernel) hB
    have hT_1036 := st_hT_t F_1036 (by decide +kernel) hT
    have hS_1036 := st_hS_t F_1036 (by decide +kernel) hS
    have hM_1036 := st_hM_t F_1036 (by decide +kernel) hM
    have hR_1036 := st_hR_t F_1036 (by decide +kernel) hR
    have hL_1036 := st_hL_t F_1036 (by decide +kernel) hL
    have hI_1036 := st_hI_t F_1036 (by decide +kernel) hI
    refine ik_F_mono (rp_cork02 (ka := ka) (pa := pa) (fa := fa) (kb := kb) (pb := pb) (fb := fb) (xa := xa) (xb := xb) (mi := mi) (v := v) (pl := pl) (f := fun j => ([0, 0, 0, 0, ((s : Nat) : Int), 0, 0, 0, sd, 0, tn, fp, sc0, sc1, sc2, sc3, sc4, sc5, 0, 0, 0, 0, 0, 0, w24, 0, 0, 0, 0, 0, 0, 0, sb, wa, 0, 0, r, 0, 0, 0, 0, 0, 0] : List Int).getD j 0) f_k.2.2.1 f_k.2.2.2.1 f_pl z_v g_1036_66 g_1036_70 g_1036_71 k_1036) ?_
    rintro _ h_1037 (⟨rfl, e_1037_66, e_1037_70, e_1037_71, p_1037_0, F_1037⟩ | ⟨rfl, e_1037_66, e_1037_70, e_1037_71, p_1037_0, F_1037⟩)
    · have k_1037 := F_1037.1.trans k_1036
      have g_1037_0 := (F_1037.2 0 (by decide +kernel)).trans g_1036_0
      have g_1037_7 := (F_1037.2 7 (by decide +kernel)).trans g_1036_7
      have g_1037_8 := (F_1037.2 8 (by decide +kernel)).trans g_1036_8
      have g_1037_9 := (F_1037.2 9 (by decide +kernel)).trans g_1036_9
      have g_1037_10 := (F_1037.2 10 (by decide +kernel)).trans g_1036_10
      have g_1037_11 := (F_1037.2 11 (by decide +kernel)).trans g_1036_11
      have g_1037_12 := (F_1037.2 12 (by decide +kernel)).trans g_1036_12
      have g_1037_13 := (F_1037.2 13 (by decide +kernel)).trans g_1036_13
      have g_1037_14 := (F_1037.2 14 (by decide +kernel)).trans g_1036_14
      have g_1037_15 := (F_1037.2 15 (by decide +kernel)).trans g_1036_15
      have g_1037_16 := (F_1037.2 16 (by decide +kernel)).trans g_1036_16
      have g_1037_18 := (F_1037.2 18 (by decide +kernel)).trans g_1036_18
      have g_1037_57 := (F_1037.2 57 (by decide +kernel)).trans g_1036_57
      have g_1037_66 : cE h_1037 66 (.inr (10, [fI pl, .ref 67, .ref 68, .ref 69, fI ((s : Nat) : Int), .ref 70, .ref 71, fI 0, fI sd, .ref 72, fI tn, fI fp, fI sc0, fJ sc1, fI sc2, fI sc3, fI sc4, fI sc5, .ref 73, .ref 74, .ref 75, .ref 76, .ref 77, .ref 78, fI w24, .ref 79, .ref 80, .ref 81, .ref 82, .ref 83, .ref 84, .ref 85, fJ sb, fJ wa, .ref 86, .ref 87, fI r, .ref 88, .ref 89, .ref 90, .ref 91, .ref 92, .ref 93])) := e_1037_66
      have g_1037_70 : cE h_1037 70 (.inl (.int, fA [ka, pa, v, kb, pb, fb])) := e_1037_70
      have g_1037_71 : cE h_1037 71 (.inl (.int, fA [mx_sp pa v, mx_sp pb fb])) := e_1037_71
      refine ⟨rfl, ?_⟩
      have gT_1037 := st_gT_t F_1037 (by decide +kernel) gT_1036
      have gS_1037 := st_gS_t F_1037 (by decide +kernel) gS_1036
      have gV_1037 := st_gV_t F_1037 (by decide +kernel) gV_1036
      have gW_1037 := st_gW_t F_1037 (by decide +kernel) gW_1036
      have gM_1037 := st_gM_t F_1037 (by decide +kernel) gM_1036
      have gR_1037 := st_gR_t F_1037 (by decide +kernel) gR_1036
      have gL_1037 := st_gL_t F_1037 (by decide +kernel) gL_1036
      have gI_1037 := st_gI_t F_1037 (by decide +kernel) gI_1036
      have gJ_1037 := st_gJ_t F_1037 (by decide +kernel) gJ_1036
      have hB_1037 := st_hB_t F_1037 (by decide +kernel) hB_1036
      have hT_1037 := st_hT_t F_1037 (by decide +kernel) hT_1036
      have hS_1037 := st_hS_t F_1037 (by decide +kernel) hS_1036
      have hM_1037 := st_hM_t F_1037 (by decide +kernel) hM_1036
      have hR_1037 := st_hR_t F_1037 (by decide +kernel) hR_1036
      have hL_1037 := st_hL_t F_1037 (by decide +kernel) hL_1036
      have hI_1037 := st_hI_t F_1037 (by decide +kernel) hI_1036
      intro C_ k_
      exact k_ tn fp pl 0 sd ka pa v kb pb fb (mx_sp pa v) (mx_sp pb fb) r n0 n1 ga0 gm0 gd_0 gs0 g00 g01 g02 g03 g04 g05 gx0 gy0 ga1 gm1 gd_1 gs1 g10 g11 g12 g13 g14 g15 gx1 gy1 s T cn go ch wg wc we rp rt lr ci0 ci1 cnr gor chr T2 im f_pl f_s f_st f_cb f_cr f_rw f_al f_wy (by omega) f_p (fun w => by have z := f_p w; have a := mx_sp_b (fr := v) (show 0 ≤ pa ∧ pa < pl by omega) (by omega); have b := mx_sp_b (fr := fb) (show 0 ≤ pb ∧ pb < pl by omega) (by omega); omega) (by omega) f_sd f_r f_rr f_n f_l0 f_l1 f_tn f_t (st_I_K f_i0) (st_I_K f_i1) ⟨g_1037_0, g_1037_18, g_1037_57⟩ gT_1037 ⟨g_1037_7, g_1037_8, n8, g_1037_9, n9, g_1037_10, n10, g_1037_11, n11, g_1037_12, n12, g_1037_13, n13⟩ ⟨g_1037_14, g_1037_15, g_1037_16⟩ gS_1037 gV_1037 gW_1037 gM_1037 gR_1037 gL_1037 gI_1037 gJ_1037 ⟨sc0, sc1, sc2, sc3, sc4, sc5, w24, sb, wa, g_1037_66⟩ hB_1037 ⟨g_1037_70, g_1037_71⟩ hT_1037 hS_1037 hM_1037 hR_1037 hL_1037 hI_1037 k_1037
    · have k_1037 := F_1037.1.trans k_1036
      have g_1037_0 := (F_1037.2 0 (by decide +kernel)).trans g_1036_0
      have g_1037_7 := (F_1037.2 7 (by decide +kernel)).trans g_1036_7
      have g_1037_8 := (F_1037.2 8 (by decide +kernel)).trans g_1036_8
      have g_1037_9 := (F_1037.2 9 (by decide +kernel)).trans g_1036_9
      have g_1037_10 := (F_1037.2 10 (by decide +kernel)).trans g_1036_10
      have g_1037_11 := (F_1037.2 11 (by decide +kernel)).trans g_1036_11
      have g_1037_12 := (F_1037.2 12 (by decide +kernel)).trans g_1036_12
      have g_1037_13 := (F_1037.2 13 (by decide +kernel)).trans g_1036_13
      have g_1037_14 := (F_1037.2 14 (by decide +kernel)).trans g_1036_14
      have g_1037_15 := (F_1037.2 15 (by decide +kernel)).trans g_1036_15
      have g_1037_16 := (F_1037.2 16 (by decide +kernel)).trans g_1036_16
      have g_1037_18 := (F_1037.2 18 (by decide +kernel)).trans g_1036_18
      have g_1037_57 := (F_1037.2 57 (by decide +kernel)).trans g_1036_57
      have g_1037_66 : cE h_1037 66 (.inr (10, [fI pl, .ref 67, .ref 68, .ref 69, fI ((s : Nat) : Int), .ref 70, .ref 71, fI mi, fI sd, .ref 72, fI tn, fI fp, fI sc0, fJ sc1, fI sc2, fI sc3, fI sc4, fI sc5, .ref 73, .ref 74, .ref 75, .ref 76, .ref 77, .ref 78, fI w24, .ref 79, .ref 80, .ref 81, .ref 82, .ref 83, .ref 84, .ref 85, fJ sb, fJ wa, .ref 86, .ref 87, fI r, .ref 88, .ref 89, .ref 90, .ref 91, .ref 92, .ref 93])) := e_1037_66
      have g_1037_70 : cE h_1037 70 (.inl (.int, fA [ka, pa, fa, kb, pb, fb])) := e_1037_70
      have g_1037_71 : cE h_1037 71 (.inl (.int, fA [xa, xb])) := e_1037_71
      exact absurd p_1036_0 p_1037_0
  · have k_1036 := F_1036.1.trans hl
    have g_1036_0 := (F_1036.2 0 (by decide +kernel)).trans h0
    have g_1036_7 := (F_1036.2 7 (by decide +kernel)).trans h7
    have g_1036_8 := (F_1036.2 8 (by decide +kernel)).trans h8
    have g_1036_9 := (F_1036.2 9 (by decide +kernel)).trans h9
    have g_1036_10 := (F_1036.2 10 (by decide +kernel)).trans h10
    have g_1036_11 := (F_1036.2 11 (by decide +kernel)).trans h11
    have g_1036_12 := (F_1036.2 12 (by decide +kernel)).trans h12
    have g_1036_13 := (F_1036.2 13 (by decide +kernel)).trans h13
    have g_1036_18 := (F_1036.2 18 (by decide +kernel)).trans h18
    have g_1036_57 := (F_1036.2 57 (by decide +kernel)).trans h57
    have g_1036_66 := (F_1036.2 66 (by decide +kernel)).trans h66
    have g_1036_70 := (F_1036.2 70 (by decide +kernel)).trans h70
    have g_1036_71 := (F_1036.2 71 (by decide +kernel)).trans h71
    have g_1036_14 : cE h_1036 14 (.inr (1, [.ref 7, .ref 15, .ref 16, fI mi, fJ sd])) := e_1036_14
    have g_1036_15 : cE h_1036 15 (.inl (.int, fA [ka, pa, fa, kb, pb, fb])) := e_1036_15
    have g_1036_16 : cE h_1036 16 (.inl (.int, fA [xa, xb])) := e_1036_16
    refine ⟨if 0 ≤ v ∧ v ≤ 30 then -1000000003 else -1000000002, rfl, ⟨k_1036, _, g_1036_66⟩, ?_⟩
    have gT_1036 := st_gT_t F_1036 (by decide +kernel) gT
    have gS_1036 := st_gS_t F_1036 (by decide +kernel) gS
    have gV_1036 := st_gV_t F_1036 (by decide +kernel) gV
    have gW_1036 := st_gW_t F_1036 (by decide +kernel) gW
    have gM_1036 := st_gM_t F_1036 (by decide +kernel) gM
    have gR_1036 := st_gR_t F_1036 (by decide +kernel) gR
    have gL_1036 := st_gL_t F_1036 (by decide +kernel) gL
    have gI_1036 := st_gI_t F_1036 (by decide +kernel) gI
    have gJ_1036 := st_gJ_t F_1036 (by decide +kernel) gJ
    have hB_1036 := st_hB_t F_1036 (by decide +kernel) hB
    have hT_1036 := st_hT_t F_1036 (by decide +kernel) hT
    have hS_1036 := st_hS_t F_1036 (by decide +kernel) hS
    have hM_1036 := st_hM_t F_1036 (by decide +kernel) hM
    have hR_1036 := st_hR_t F_1036 (by decide +kernel) hR
    have hL_1036 := st_hL_t F_1036 (by decide +kernel) hL
    have hI_1036 := st_hI_t F_1036 (by decide +kernel) hI
    refine ik_F_mono (rp_cork02 (ka := ka) (pa := pa) (fa := fa) (kb := kb) (pb := pb) (fb := fb) (xa := xa) (xb := xb) (mi := mi) (v := v) (pl := pl) (f := fun j => ([0, 0, 0, 0, ((s : Nat) : Int), 0, 0, 0, sd, 0, tn, fp, sc0, sc1, sc2, sc3, sc4, sc5, 0, 0, 0, 0, 0, 0, w24, 0, 0, 0, 0, 0, 0, 0, sb, wa, 0, 0, r, 0, 0, 0, 0, 0, 0] : List Int).getD j 0) f_k.2.2.1 f_k.2.2.2.1 f_pl z_v g_1036_66 g_1036_70 g_1036_71 k_1036) ?_
    rintro _ h_1038 (⟨rfl, e_1038_66, e_1038_70, e_1038_71, p_1038_0, F_1038⟩ | ⟨rfl, e_1038_66, e_1038_70, e_1038_71, p_1038_0, F_1038⟩)
    · have k_1038 := F_1038.1.trans k_1036
      have g_1038_0 := (F_1038.2 0 (by decide +kernel)).trans g_1036_0
      have g_1038_7 := (F_1038.2 7 (by decide +kernel)).trans g_1036_7
      have g_1038_8 := (F_1038.2 8 (by decide +kernel)).trans g_1036_8
      have g_1038_9 := (F_1038.2 9 (by decide +kernel)).trans g_1036_9
      have g_1038_10 := (F_1038.2 10 (by decide +kernel)).trans g_1036_10
      have g_1038_11 := (F_1038.2 11 (by decide +kernel)).trans g_1036_11
      have g_1038_12 := (F_1038.2 12 (by decide +kernel)).trans g_1036_12
      have g_1038_13 := (F_1038.2 13 (by decide +kernel)).trans g_1036_13
      have g_1038_14 := (F_1038.2 14 (by decide +kernel)).trans g_1036_14
      have g_1038_15 := (F_1038.2 15 (by decide +kernel)).trans g_1036_15
      have g_1038_16 := (F_1038.2 16 (by decide +kernel)).trans g_1036_16
      have g_1038_18 := (F_1038.2 18 (by decide +kernel)).trans g_1036_18
      have g_1038_57 := (F_1038.2 57 (by decide +kernel)).trans g_1036_57
      have g_1038_66 : cE h_1038 66 (.inr (10, [fI pl, .ref 67, .ref 68, .ref 69, fI ((s : Nat) : Int), .ref 70, .ref 71, fI 0, fI sd, .ref 72, fI tn, fI fp, fI sc0, fJ sc1, fI sc2, fI sc3, fI sc4, fI sc5, .ref 73, .ref 74, .ref 75, .ref 76, .ref 77, .ref 78, fI w24, .ref 79, .ref 80, .ref 81, .ref 82, .ref 83, .ref 84, .ref 85, fJ sb, fJ wa, .ref 86, .ref 87, fI r, .ref 88, .ref 89, .ref 90, .ref 91, .ref 92, .ref 93])) := e_1038_66
      have g_1038_70 : cE h_1038 70 (.inl (.int, fA [ka, pa, v, kb, pb, fb])) := e_1038_70
      have g_1038_71 : cE h_1038 71 (.inl (.int, fA [mx_sp pa v, mx_sp pb fb])) := e_1038_71
      exact absurd p_1038_0 p_1036_0
    · have k_1038 := F_1038.1.trans k_1036
      have g_1038_0 := (F_1038.2 0 (by decide +kernel)).trans g_1036_0
      have g_1038_7 := (F_1038.2 7 (by decide +kernel)).trans g_1036_7
      have g_1038_8 := (F_1038.2 8 (by decide +kernel)).trans g_1036_8
      have g_1038_9 := (F_1038.2 9 (by decide +kernel)).trans g_1036_9
      have g_1038_10 := (F_1038.2 10 (by decide +kernel)).trans g_1036_10
      have g_1038_11 := (F_1038.2 11 (by decide +kernel)).trans g_1036_11
      have g_1038_12 := (F_1038.2 12 (by decide +kernel)).trans g_1036_12
      have g_1038_13 := (F_1038.2 13 (by decide +kernel)).trans g_1036_13
      have g_1038_14 := (F_1038.2 14 (by decide +kernel)).trans g_1036_14
      have g_1038_15 := (F_1038.2 15 (by decide +kernel)).trans g_1036_15
      have g_1038_16 := (F_1038.2 16 (by decide +kernel)).trans g_1036_16
      have g_1038_18 := (F_1038.2 18 (by decide +kernel)).trans g_1036_18
      have g_1038_57 := (F_1038.2 57 (by decide +kernel)).trans g_1036_57
      have g_1038_66 : cE h_1038 66 (.inr (10, [fI pl, .ref 67, .ref 68, .ref 69, fI ((s : Nat) : Int), .ref 70, .ref 71, fI mi, fI sd, .ref 72, fI tn, fI fp, fI sc0, fJ sc1, fI sc2, fI sc3, fI sc4, fI sc5, .ref 73, .ref 74, .ref 75, .ref 76, .ref 77, .ref 78, fI w24, .ref 79, .ref 80, .ref 81, .ref 82, .ref 83, .ref 84, .ref 85, fJ sb, fJ wa, .ref 86, .ref 87, fI r, .ref 88, .ref 89, .ref 90, .ref 91, .ref 92, .ref 93])) := e_1038_66
      have g_1038_70 : cE h_1038 70 (.inl (.int, fA [ka, pa, fa, kb, pb, fb])) := e_1038_70
      have g_1038_71 : cE h_1038 71 (.inl (.int, fA [xa, xb])) := e_1038_71
      refine ⟨rfl, ?_⟩
      have gT_1038 := st_gT_t F_1038 (by decide +kernel) gT_1036
      have gS_1038 := st_gS_t F_1038 (by decide +kernel) gS_1036
      have gV_1038 := st_gV_t F_1038 (by decide +kernel) gV_1036
      have gW_1038 := st_gW_t F_1038 (by decide +kernel) gW_1036
      have gM_1038 := st_gM_t F_1038 (by decide +kernel) gM_1036
      have gR_1038 := st_gR_t F_1038 (by decide +kernel) gR_1036
      have gL_1038 := st_gL_t F_1038 (by decide +kernel) gL_1036
      have gI_1038 := st_gI_t F_1038 (by decide +kernel) gI_1036
      have gJ_1038 := st_gJ_t F_1038 (by decide +kernel) gJ_1036
      have hB_1038 := st_hB_t F_1038 (by decide +kernel) hB_1036
      have hT_1038 := st_hT_t F_1038 (by decide +kernel) hT_1036
      have hS_1038 := st_hS_t F_1038 (by decide +kernel) hS_1036
      have hM_1038 := st_hM_t F_1038 (by decide +kernel) hM_1036
      have hR_1038 := st_hR_t F_1038 (by decide +kernel) hR_1036
      have hL_1038 := st_hL_t F_1038 (by decide +kernel) hL_1036
      have hI_1038 := st_hI_t F_1038 (by decide +kernel) hI_1036
      intro C_ k_
      exact k_ tn fp pl mi sd ka pa fa kb pb fb xa xb r n0 n1 ga0 gm0 gd_0 gs0 g00 g01 g02 g03 g04 g05 gx0 gy0 ga1 gm1 gd_1 gs1 g10 g11 g12 g13 g14 g15 gx1 gy1 s T cn go ch wg wc we rp rt lr ci0 ci1 cnr gor chr T2 im f_pl f_s f_st f_cb f_cr f_rw f_al f_wy f_k f_p f_x (by omega) f_sd f_r f_rr f_n f_l0 f_l1 f_tn f_t (st_I_K f_i0) (st_I_K f_i1) ⟨g_1038_0, g_1038_18, g_1038_57⟩ gT_1038 ⟨g_1038_7, g_1038_8, n8, g_1038_9, n9, g_1038_10, n10, g_1038_11, n11, g_1038_12, n12, g_1038_13, n13⟩ ⟨g_1038_14, g_1038_15, g_1038_16⟩ gS_1038 gV_1038 gW_1038 gM_1038 gR_1038 gL_1038 gI_1038 gJ_1038 ⟨sc0, sc1, sc2, sc3, sc4, sc5, w24, sb, wa, g_1038_66⟩ hB_1038 ⟨g_1038_70, g_1038_71⟩ hT_1038 hS_1038 hM_1038 hR_1038 hL_1038 hI_1038 k_1038

set_option maxRecDepth 100000 in
theorem lk_cork0E {K : Nat} {h : List ik_E} (E : st_S K h) (hK : K ≤ 600) {what : Int} {v : Int} (z_what : -2147483648 ≤ what ∧ what < 2147483648) (z_v : -2147483648 ≤ v ∧ v < 2147483648) (q2 : what < 0 ∨ 2 < what) : ik_F 95 [.ref 0, fI 0, fI what, fI v] h (fun rv h' => ∃ o_ : Int, rv = [fI o_] ∧ (h'.length = 94 ∧ ∃ fs, h'[66]? = some (.inr (10, fs))) ∧ ik_F 158 [.ref 66, fI 0, fI what, fI v] h' (fun rv' h'' => rv' = [fI o_] ∧ st_S (K + 1) h'')) := by
  refine E _ ?_
  intro tn fp pl mi sd ka pa fa kb pb fb xa xb r n0 n1 ga0 gm0 gd_0 gs0 g00 g01 g02 g03 g04 g05 gx0 gy0 ga1 gm1 gd_1 gs1 g10 g11 g12 g13 g14 g15 gx1 gy1 s T cn go ch wg wc we rp rt lr ci0 ci1 cnr gor chr T2 im f_pl f_s f_st f_cb f_cr f_rw f_al f_wy f_k f_p f_x f_m f_sd f_r f_rr f_n f_l0 f_l1 f_tn f_t f_i0 f_i1 gA gT gB gC gS gV gW gM gR gL gI gJ hO hB hC hT hS hM hR hL hI hl
  obtain ⟨h0, h18, h57⟩ := gA
  obtain ⟨sc0, sc1, sc2, sc3, sc4, sc5, w24, sb, wa, h66⟩ := hO
  refine ik_F_mono (cp_cork0E (what := what) (v := v) z_what z_v q2 h0 hl) ?_
  rintro _ h_1039 ⟨rfl, F_1039⟩
  have k_1039 := F_1039.1.trans hl
  have g_1039_0 := (F_1039.2 0 (by decide +kernel)).trans h0
  have g_1039_18 := (F_1039.2 18 (by decide +kernel)).trans h18
  have g_1039_57 := (F_1039.2 57 (by decide +kernel)).trans h57
  have g_1039_66 := (F_1039.2 66 (by decide +kernel)).trans h66
  refine ⟨-1000000002, rfl, ⟨k_1039, _, g_1039_66⟩, ?_⟩
  have gT_1039 := st_gT_t F_1039 (by decide +kernel) gT
  have gB_1039 := st_gB_t F_1039 (by decide +kernel) gB
  have gC_1039 := st_gC_t F_1039 (by decide +kernel) gC
  have gS_1039 := st_gS_t F_1039 (by decide +kernel) gS
  have gV_1039 := st_gV_t F_1039 (by decide +kernel) gV
  have gW_1039 := st_gW_t F_1039 (by decide +kernel) gW
  have gM_1039 := st_gM_t F_1039 (by decide +kernel) gM
  have gR_1039 := st_gR_t F_1039 (by decide +kernel) gR
  have gL_1039 := st_gL_t F_1039 (by decide +kernel) gL
  have gI_1039 := st_gI_t F_1039 (by decide +kernel) gI
  have gJ_1039 := st_gJ_t F_1039 (by decide +kernel) gJ
  have hB_1039 := st_hB_t F_1039 (by decide +kernel) hB
  have hC_1039 := st_hC_t F_1039 (by decide +kernel) hC
  have hT_1039 := st_hT_t F_1039 (by decide +kernel) hT
  have hS_1039 := st_hS_t F_1039 (by decide +kernel) hS
  have hM_1039 := st_hM_t F_1039 (by decide +kernel) hM
  have hR_1039 := st_hR_t F_1039 (by decide +kernel) hR
  have hL_1039 := st_hL_t F_1039 (by decide +kernel) hL
  have hI_1039 := st_hI_t F_1039 (by decide +kernel) hI
  refine ik_F_mono (rp_cork0E (f := fun j => ([pl, 0, 0, 0, ((s : Nat) : Int), 0, 0, mi, sd, 0, tn, fp, sc0, sc1, sc2, sc3, sc4, sc5, 0, 0, 0, 0, 0, 0, w24, 0, 0, 0, 0, 0, 0, 0, sb, wa, 0, 0, r, 0, 0, 0, 0, 0, 0] : List Int).getD j 0) (what := what) (v := v) z_what z_v q2 g_1039_66 k_1039) ?_
  rintro _ h_1040 ⟨rfl, F_1040⟩
  have k_1040 := F_1040.1.trans k_1039
  have g_1040_0 := (F_1040.2 0 (by decide +kernel)).trans g_1039_0
  have g_1040_18 := (F_1040.2 18 (by decide +kernel)).trans g_1039_18
  have g_1040_57 := (F_1040.2 57 (by decide +kernel)).trans g_1039_57
  have g_1040_66 := (F_1040.2 66 (by decide +kernel)).trans g_1039_66
  refine ⟨rfl, ?_⟩
  have gT_1040 := st_gT_t F_1040 (by decide +kernel) gT_1039
  have gB_1040 := st_gB_t F_1040 (by decide +kernel) gB_1039
  have gC_1040 := st_gC_t F_1040 (by decide +kernel) gC_1039
  have gS_1040 := st_gS_t F_1040 (by decide +kernel) gS_1039
  have gV_1040 := st_gV_t F_1040 (by decide +kernel) gV_1039
  have gW_1040 := st_gW_t F_1040 (by decide +kernel) gW_1039
  have gM_1040 := st_gM_t F_1040 (by decide +kernel) gM_1039
  have gR_1040 := st_gR_t F_1040 (by decide +kernel) gR_1039
  have gL_1040 := st_gL_t F_1040 (by decide +kernel) gL_1039
  have gI_1040 := st_gI_t F_1040 (by decide +kernel) gI_1039
  have gJ_1040 := st_gJ_t F_1040 (by decide +kernel) gJ_1039
  have hB_1040 := st_hB_t F_1040 (by decide +kernel) hB_1039
  have hC_1040 := st_hC_t F_1040 (by decide +kernel) hC_1039
  have hT_1040 := st_hT_t F_1040 (by decide +kernel) hT_1039
  have hS_1040 := st_hS_t F_1040 (by decide +kernel) hS_1039
  have hM_1040 := st_hM_t F_1040 (by decide +kernel) hM_1039
  have hR_1040 := st_hR_t F_1040 (by decide +kernel) hR_1039
  have hL_1040 := st_hL_t F_1040 (by decide +kernel) hL_1039
  have hI_1040 := st_hI_t F_1040 (by decide +kernel) hI_1039
  intro C_ k_
  exact k_ tn fp pl mi sd ka pa fa kb pb fb xa xb r n0 n1 ga0 gm0 gd_0 gs0 g00 g01 g02 g03 g04 g05 gx0 gy0 ga1 gm1 gd_1 gs1 g10 g11 g12 g13 g14 g15 gx1 gy1 s T cn go ch wg wc we rp rt lr ci0 ci1 cnr gor chr T2 im f_pl f_s f_st f_cb f_cr f_rw f_al f_wy f_k f_p f_x (by omega) f_sd f_r f_rr f_n f_l0 f_l1 f_tn f_t (st_I_K f_i0) (st_I_K f_i1) ⟨g_1040_0, g_1040_18, g_1040_57⟩ gT_1040 gB_1040 gC_1040 gS_1040 gV_1040 gW_1040 gM_1040 gR_1040 gL_1040 gI_1040 gJ_1040 ⟨sc0, sc1, sc2, sc3, sc4, sc5, w24, sb, wa, g_1040_66⟩ hB_1040 hC_1040 hT_1040 hS_1040 hM_1040 hR_1040 hL_1040 hI_1040 k_1040

set_option maxRecDepth 100000 in
theorem lk_cork10 {K : Nat} {h : List ik_E} (E : st_S K h) (hK : K ≤ 600) {v : Int} (z_v : -2147483648 ≤ v ∧ v < 2147483648)  : ik_F 95 [.ref 0, fI 1, fI 0, fI v] h (fun rv h' => ∃ o_ : Int, rv = [fI o_] ∧ (h'.length = 94 ∧ ∃ fs, h'[66]? = some (.inr (10, fs))) ∧ ik_F 158 [.ref 66, fI 1, fI 0, fI v] h' (fun rv' h'' => rv' = [fI o_] ∧ st_S (K + 1) h'')) := by
  refine E _ ?_
  intro tn fp pl mi sd ka pa fa kb pb fb xa xb r n0 n1 ga0 gm0 gd_0 gs0 g00 g01 g02 g03 g04 g05 gx0 gy0 ga1 gm1 gd_1 gs1 g10 g11 g12 g13 g14 g15 gx1 gy1 s T cn go ch wg wc we rp rt lr ci0 ci1 cnr gor chr T2 im f_pl f_s f_st f_cb f_cr f_rw f_al f_wy f_k f_p f_x f_m f_sd f_r f_rr f_n f_l0 f_l1 f_tn f_t f_i0 f_i1 gA gT gB gC gS gV gW gM gR gL gI gJ hO hB hC hT hS hM hR hL hI hl
  obtain ⟨h0, h18, h57⟩ := gA
  obtain ⟨h7, h8, n8, h9, n9, h10, n10, h11, n11, h12, n12, h13, n13⟩ := gB
  obtain ⟨h14, h15, h16⟩ := gC
  obtain ⟨sc0, sc1, sc2, sc3, sc4, sc5, w24, sb, wa, h66⟩ := hO
  obtain ⟨h70, h71⟩ := hC
  refine ik_F_mono (cp_cork10 (ka := ka) (pa := pa) (fa := fa) (kb := kb) (pb := pb) (fb := fb) (xa := xa) (xb := xb) (mi := mi) (dr := sd) (v := v) (pl := pl) (st := ((s : Nat) : Int)) (lo := ((mj_lost pl cn go : Nat) : Int)) f_k.2.2.1 f_k.2.2.2.1 f_pl z_v h0 h7 h14 h15 h16 hl) ?_
  rintro _ h_1041 (⟨rfl, e_1041_14, e_1041_15, e_1041_16, p_1041_0, F_1041⟩ | ⟨rfl, e_1041_14, e_1041_15, e_1041_16, p_1041_0, F_1041⟩)
  · have k_1041 := F_1041.1.trans hl
    have g_1041_0 := (F_1041.2 0 (by decide +kernel)).trans h0
    have g_1041_7 := (F_1041.2 7 (by decide +kernel)).trans h7
    have g_1041_8 := (F_1041.2 8 (by decide +kernel)).trans h8
    have g_1041_9 := (F_1041.2 9 (by decide +kernel)).trans h9
    have g_1041_10 := (F_1041.2 10 (by decide +kernel)).trans h10
    have g_1041_11 := (F_1041.2 11 (by decide +kernel)).trans h11
    have g_1041_12 := (F_1041.2 12 (by decide +kernel)).trans h12
    have g_1041_13 := (F_1041.2 13 (by decide +kernel)).trans h13
    have g_1041_18 := (F_1041.2 18 (by decide +kernel)).trans h18
    have g_1041_57 := (F_1041.2 57 (by decide +kernel)).trans h57
    have g_1041_66 := (F_1041.2 66 (by decide +kernel)).trans h66
    have g_1041_70 := (F_1041.2 70 (by decide +kernel)).trans h70
    have g_1041_71 := (F_1041.2 71 (by decide +kernel)).trans h71
    have g_1041_14 : cE h_1041 14 (.inr (1, [.ref 7, .ref 15, .ref 16, fI 0, fJ sd])) := e_1041_14
    have g_1041_15 : cE h_1041 15 (.inl (.int, fA [ka, pa, fa, v, pb, fb])) := e_1041_15
    have g_1041_16 : cE h_1041 16 (.inl (.int, fA [mx_sp pa fa, mx_sp pb fb])) := e_1041_16
    refine ⟨kb, rfl, ⟨k_1041, _, g_1041_66⟩, ?_⟩
    have gT_1041 := st_gT_t F_1041 (by decide +kernel) gT
    have gS_1041 := st_gS_t F_1041 (by decide +kernel) gS
    have gV_1041 := st_gV_t F_1041 (by decide +kernel) gV
    have gW_1041 := st_gW_t F_1041 (by decide +kernel) gW
    have gM_1041 := st_gM_t F_1041 (by decide +kernel) gM
    have gR_1041 := st_gR_t F_1041 (by decide +kernel) gR
    have gL_1041 := st_gL_t F_1041 (by decide +kernel) gL
    have gI_1041 := st_gI_t F_1041 (by decide +kernel) gI
    have gJ_1041 := st_gJ_t F_1041 (by decide +kernel) gJ
    have hB_1041 := st_hB_t F_1041 (by decide +kernel) hB
    have hT_1041 := st_hT_t F_1041 (by decide +kernel) hT
    have hS_1041 := st_hS_t F_1041 (by decide +kernel) hS
    have hM_1041 := st_hM_t F_1041 (by decide +kernel) hM
    have hR_1041 := st_hR_t F_1041 (by decide +kernel) hR
    have hL_1041 := st_hL_t F_1041 (by decide +kernel) hL
    have hI_1041 := st_hI_t F_1041 (by decide +kernel) hI
    refine ik_F_mono (rp_cork10 (ka := ka) (pa := pa) (fa := fa) (kb := kb) (pb := pb) (fb := fb) (xa := xa) (xb := xb) (mi := mi) (v := v) (pl := pl) (f := fun j => ([0, 0, 0, 0, ((s : Nat) : Int), 0, 0, 0, sd, 0, tn, fp, sc0, sc1, sc2, sc3, sc4, sc5, 0, 0, 0, 0, 0, 0, w24, 0, 0, 0, 0, 0, 0, 0, sb, wa, 0, 0, r, 0, 0, 0, 0, 0, 0] : List Int).getD j 0) f_k.2.2.1 f_k.2.2.2.1 f_pl z_v g_1041_66 g_1041_70 g_1041_71 k_1041) ?_
    rintro _ h_1042 (⟨rfl, e_1042_66, e_1042_70, e_1042_71, p_1042_0, F_1042⟩ | ⟨rfl, e_1042_66, e_1042_70, e_1042_71, p_1042_0, F_1042⟩)
    · have k_1042 := F_1042.1.trans k_1041
      have g_1042_0 := (F_1042.2 0 (by decide +kernel)).trans g_1041_0
      have g_1042_7 := (F_1042.2 7 (by decide +kernel)).trans g_1041_7
      have g_1042_8 := (F_1042.2 8 (by decide +kernel)).trans g_1041_8
      have g_1042_9 := (F_1042.2 9 (by decide +kernel)).trans g_1041_9
      have g_1042_10 := (F_1042.2 10 (by decide +kernel)).trans g_1041_10
      have g_1042_11 := (F_1042.2 11 (by decide +kernel)).trans g_1041_11
      have g_1042_12 := (F_1042.2 12 (by decide +kernel)).trans g_1041_12
      have g_1042_13 := (F_1042.2 13 (by decide +kernel)).trans g_1041_13
      have g_1042_14 := (F_1042.2 14 (by decide +kernel)).trans g_1041_14
      have g_1042_15 := (F_1042.2 15 (by decide +kernel)).trans g_1041_15
      have g_1042_16 := (F_1042.2 16 (by decide +kernel)).trans g_1041_16
      have g_1042_18 := (F_1042.2 18 (by decide +kernel)).trans g_1041_18
      have g_1042_57 := (F_1042.2 57 (by decide +kernel)).trans g_1041_57
      have g_1042_66 : cE h_1042 66 (.inr (10, [fI pl, .ref 67, .ref 68, .ref 69, fI ((s : Nat) : Int), .ref 70, .ref 71, fI 0, fI sd, .ref 72, fI tn, fI fp, fI sc0, fJ sc1, fI sc2, fI sc3, fI sc4, fI sc5, .ref 73, .ref 74, .ref 75, .ref 76, .ref 77, .ref 78, fI w24, .ref 79, .ref 80, .ref 81, .ref 82, .ref 83, .ref 84, .ref 85, fJ sb, fJ wa, .ref 86, .ref 87, fI r, .ref 88, .ref 89, .ref 90, .ref 91, .ref 92, .ref 93])) := e_1042_66
      have g_1042_70 : cE h_1042 70 (.inl (.int, fA [ka, pa, fa, v, pb, fb])) := e_1042_70
      have g_1042_71 : cE h_1042 71 (.inl (.int, fA [mx_sp pa fa, mx_sp pb fb])) := e_1042_71
      refine ⟨rfl, ?_⟩
      have gT_1042 := st_gT_t F_1042 (by decide +kernel) gT_1041
      have gS_1042 := st_gS_t F_1042 (by decide +kernel) gS_1041
      have gV_1042 := st_gV_t F_1042 (by decide +kernel) gV_1041
      have gW_1042 := st_gW_t F_1042 (by decide +kernel) gW_1041
      have gM_1042 := st_gM_t F_1042 (by decide +kernel) gM_1041
      have gR_1042 := st_gR_t F_1042 (by decide +kernel) gR_1041
      have gL_1042 := st_gL_t F_1042 (by decide +kernel) gL_1041
      have gI_1042 := st_gI_t F_1042 (by decide +kernel) gI_1041
      have gJ_1042 := st_gJ_t F_1042 (by decide +kernel) gJ_1041
      have hB_1042 := st_hB_t F_1042 (by decide +kernel) hB_1041
      have hT_1042 := st_hT_t F_1042 (by decide +kernel) hT_1041
      have hS_1042 := st_hS_t F_1042 (by decide +kernel) hS_1041
      have hM_1042 := st_hM_t F_1042 (by decide +kernel) hM_1041
      have hR_1042 := st_hR_t F_1042 (by decide +kernel) hR_1041
      have hL_1042 := st_hL_t F_1042 (by decide +kernel) hL_1041
      have hI_1042 := st_hI_t F_1042 (by decide +kernel) hI_1041
      intro C_ k_
      exact k_ tn fp pl 0 sd ka pa fa v pb fb (mx_sp pa fa) (mx_sp pb fb) r n0 n1 ga0 gm0 gd_0 gs0 g00 g01 g02 g03 g04 g05 gx0 gy0 ga1 gm1 gd_1 gs1 g10 g11 g12 g13 g14 g15 gx1 gy1 s T cn go ch wg wc we rp rt lr ci0 ci1 cnr gor chr T2 im f_pl f_s f_st f_cb f_cr f_rw f_al f_wy (by omega) f_p (fun w => by have z := f_p w; have a := mx_sp_b (fr := fa) (show 0 ≤ pa ∧ pa < pl by omega) (by omega); have b := mx_sp_b (fr := fb) (show 0 ≤ pb ∧ pb < pl by omega) (by omega); omega) (by omega) f_sd f_r f_rr f_n f_l0 f_l1 f_tn f_t (st_I_K f_i0) (st_I_K f_i1) ⟨g_1042_0, g_1042_18, g_1042_57⟩ gT_1042 ⟨g_1042_7, g_1042_8, n8, g_1042_9, n9, g_1042_10, n10, g_1042_11, n11, g_1042_12, n12, g_1042_13, n13⟩ ⟨g_1042_14, g_1042_15, g_1042_16⟩ gS_1042 gV_1042 gW_1042 gM_1042 gR_1042 gL_1042 gI_1042 gJ_1042 ⟨sc0, sc1, sc2, sc3, sc4, sc5, w24, sb, wa, g_1042_66⟩ hB_1042 ⟨g_1042_70, g_1042_71⟩ hT_1042 hS_1042 hM_1042 hR_1042 hL_1042 hI_1042 k_1042
    · have k_1042 := F_1042.1.trans k_1041
      have g_1042_0 := (F_1042.2 0 (by decide +kernel)).trans g_1041_0
      have g_1042_7 := (F_1042.2 7 (by decide +kernel)).trans g_1041_7
      have g_1042_8 := (F_1042.2 8 (by decide +kernel)).trans g_1041_8
      have g_1042_9 := (F_1042.2 9 (by decide +kernel)).trans g_1041_9
      have g_1042_10 := (F_1042.2 10 (by decide +kernel)).trans g_1041_10
      have g_1042_11 := (F_1042.2 11 (by decide +kernel)).trans g_1041_11
      have g_1042_12 := (F_1042.2 12 (by decide +kernel)).trans g_1041_12
      have g_1042_13 := (F_1042.2 13 (by decide +kernel)).trans g_1041_13
      have g_1042_14 := (F_1042.2 14 (by decide +kernel)).trans g_1041_14
      have g_1042_15 := (F_1042.2 15 (by decide +kernel)).trans g_1041_15
      have g_1042_16 := (F_1042.2 16 (by decide +kernel)).trans g_1041_16
      have g_1042_18 := (F_1042.2 18 (by decide +kernel)).trans g_1041_18
      have g_1042_57 := (F_1042.2 57 (by decide +kernel)).trans g_1041_57
      have g_1042_66 : cE h_1042 66 (.inr (10, [fI pl, .ref 67, .ref 68, .ref 69, fI ((s : Nat) : Int), .ref 70, .ref 71, fI mi, fI sd, .ref 72, fI tn, fI fp, fI sc0, fJ sc1, fI sc2, fI sc3, fI sc4, fI sc5, .ref 73, .ref 74, .ref 75, .ref 76, .ref 77, .ref 78, fI w24, .ref 79, .ref 80, .ref 81, .ref 82, .ref 83, .ref 84, .ref 85, fJ sb, fJ wa, .ref 86, .ref 87, fI r, .ref 88, .ref 89, .ref 90, .ref 91, .ref 92, .ref 93])) := e_1042_66
      have g_1042_70 : cE h_1042 70 (.inl (.int, fA [ka, pa, fa, kb, pb, fb])) := e_1042_70
      have g_1042_71 : cE h_1042 71 (.inl (.int, fA [xa, xb])) := e_1042_71
      exact absurd p_1041_0 p_1042_0
  · have k_1041 := F_1041.1.trans hl
    have g_1041_0 := (F_1041.2 0 (by decide +kernel)).trans h0
    have g_1041_7 := (F_1041.2 7 (by decide +kernel)).trans h7
    have g_1041_8 := (F_1041.2 8 (by decide +kernel)).trans h8
    have g_1041_9 := (F_1041.2 9 (by decide +kernel)).trans h9
    have g_1041_10 := (F_1041.2 10 (by decide +kernel)).trans h10
    have g_1041_11 := (F_1041.2 11 (by decide +kernel)).trans h11
    have g_1041_12 := (F_1041.2 12 (by decide +kernel)).trans h12
    have g_1041_13 := (F_1041.2 13 (by decide +kernel)).trans h13
    have g_1041_18 := (F_1041.2 18 (by decide +kernel)).trans h18
    have g_1041_57 := (F_1041.2 57 (by decide +kernel)).trans h57
    have g_1041_66 := (F_1041.2 66 (by decide +kernel)).trans h66
    have g_1041_70 := (F_1041.2 70 (by decide +kernel)).trans h70
    have g_1041_71 := (F_1041.2 71 (by decide +kernel)).trans h71
    have g_1041_14 : cE h_1041 14 (.inr (1, [.ref 7, .ref 15, .ref 16, fI mi, fJ sd])) := e_1041_14
    have g_1041_15 : cE h_1041 15 (.inl (.int, fA [ka, pa, fa, kb, pb, fb])) := e_1041_15
    have g_1041_16 : cE h_1041 16 (.inl (.int, fA [xa, xb])) := e_1041_16
    refine ⟨if 0 ≤ v ∧ v ≤ 2 then -1000000003 else -1000000001, rfl, ⟨k_1041, _, g_1041_66⟩, ?_⟩
    have gT_1041 := st_gT_t F_1041 (by decide +kernel) gT
    have gS_1041 := st_gS_t F_1041 (by decide +kernel) gS
    have gV_1041 := st_gV_t F_1041 (by decide +kernel) gV
    have gW_1041 := st_gW_t F_1041 (by decide +kernel) gW
    have gM_1041 := st_gM_t F_1041 (by decide +kernel) gM
    have gR_1041 := st_gR_t F_1041 (by decide +kernel) gR
    have gL_1041 := st_gL_t F_1041 (by decide +kernel) gL
    have gI_1041 := st_gI_t F_1041 (by decide +kernel) gI
    have gJ_1041 := st_gJ_t F_1041 (by decide +kernel) gJ
    have hB_1041 := st_hB_t F_1041 (by decide +kernel) hB
    have hT_1041 := st_hT_t F_1041 (by decide +kernel) hT
    have hS_1041 := st_hS_t F_1041 (by decide +kernel) hS
    have hM_1041 := st_hM_t F_1041 (by decide +kernel) hM
    have hR_1041 := st_hR_t F_1041 (by decide +kernel) hR
    have hL_1041 := st_hL_t F_1041 (by decide +kernel) hL
    have hI_1041 := st_hI_t F_1041 (by decide +kernel) hI
    refine ik_F_mono (rp_cork10 (ka := ka) (pa := pa) (fa := fa) (kb := kb) (pb := pb) (fb := fb) (xa := xa) (xb := xb) (mi := mi) (v := v) (pl := pl) (f := fun j => ([0, 0, 0, 0, ((s : Nat) : Int), 0, 0, 0, sd, 0, tn, fp, sc0, sc1, sc2, sc3, sc4, sc5, 0, 0, 0, 0, 0, 0, w24, 0, 0, 0, 0, 0, 0, 0, sb, wa, 0, 0, r, 0, 0, 0, 0, 0, 0] : List Int).getD j 0) f_k.2.2.1 f_k.2.2.2.1 f_pl z_v g_1041_66 g_1041_70 g_1041_71 k_1041) ?_
    rintro _ h_1043 (⟨rfl, e_1043_66, e_1043_70, e_1043_71, p_1043_0, F_1043⟩ | ⟨rfl, e_1043_66, e_1043_70, e_1043_71, p_1043_0, F_1043⟩)
    · have k_1043 := F_1043.1.trans k_1041
      have g_1043_0 := (F_1043.2 0 (by decide +kernel)).trans g_1041_0
      have g_1043_7 := (F_1043.2 7 (by decide +kernel)).trans g_1041_7
      have g_1043_8 := (F_1043.2 8 (by decide +kernel)).trans g_1041_8
      have g_1043_9 := (F_1043.2 9 (by decide +kernel)).trans g_1041_9
      have g_1043_10 := (F_1043.2 10 (by decide +kernel)).trans g_1041_10
      have g_1043_11 := (F_1043.2 11 (by decide +kernel)).trans g_1041_11
      have g_1043_12 := (F_1043.2 12 (by decide +kernel)).trans g_1041_12
      have g_1043_13 := (F_1043.2 13 (by decide +kernel)).trans g_1041_13
      have g_1043_14 := (F_1043.2 14 (by decide +kernel)).trans g_1041_14
      have g_1043_15 := (F_1043.2 15 (by decide +kernel)).trans g_1041_15
      have g_1043_16 := (F_1043.2 16 (by decide +kernel)).trans g_1041_16
      have g_1043_18 := (F_1043.2 18 (by decide +kernel)).trans g_1041_18
      have g_1043_57 := (F_1043.2 57 (by decide +kernel)).trans g_1041_57
      have g_1043_66 : cE h_1043 66 (.inr (10, [fI pl, .ref 67, .ref 68, .ref 69, fI ((s : Nat) : Int), .ref 70, .ref 71, fI 0, fI sd, .ref 72, fI tn, fI fp, fI sc0, fJ sc1, fI sc2, fI sc3, fI sc4, fI sc5, .ref 73, .ref 74, .ref 75, .ref 76, .ref 77, .ref 78, fI w24, .ref 79, .ref 80, .ref 81, .ref 82, .ref 83, .ref 84, .ref 85, fJ sb, fJ wa, .ref 86, .ref 87, fI r, .ref 88, .ref 89, .ref 90, .ref 91, .ref 92, .ref 93])) := e_1043_66
      have g_1043_70 : cE h_1043 70 (.inl (.int, fA [ka, pa, fa, v, pb, fb])) := e_1043_70
      have g_1043_71 : cE h_1043 71 (.inl (.int, fA [mx_sp pa fa, mx_sp pb fb])) := e_1043_71
      exact absurd p_1043_0 p_1041_0
    · have k_1043 := F_1043.1.trans k_1041
      have g_1043_0 := (F_1043.2 0 (by decide +kernel)).trans g_1041_0
      have g_1043_7 := (F_1043.2 7 (by decide +kernel)).trans g_1041_7
      have g_1043_8 := (F_1043.2 8 (by decide +kernel)).trans g_1041_8
      have g_1043_9 := (F_1043.2 9 (by decide +kernel)).trans g_1041_9
      have g_1043_10 := (F_1043.2 10 (by decide +kernel)).trans g_1041_10
      have g_1043_11 := (F_1043.2 11 (by decide +kernel)).trans g_1041_11
      have g_1043_12 := (F_1043.2 12 (by decide +kernel)).trans g_1041_12
      have g_1043_13 := (F_1043.2 13 (by decide +kernel)).trans g_1041_13
      have g_1043_14 := (F_1043.2 14 (by decide +kernel)).trans g_1041_14
      have g_1043_15 := (F_1043.2 15 (by decide +kernel)).trans g_1041_15
      have g_1043_16 := (F_1043.2 16 (by decide +kernel)).trans g_1041_16
      have g_1043_18 := (F_1043.2 18 (by decide +kernel)).trans g_1041_18
      have g_1043_57 := (F_1043.2 57 (by decide +kernel)).trans g_1041_57
      have g_1043_66 : cE h_1043 66 (.inr (10, [fI pl, .ref 67, .ref 68, .ref 69, fI ((s : Nat) : Int), .ref 70, .ref 71, fI mi, fI sd, .ref 72, fI tn, fI fp, fI sc0, fJ sc1, fI sc2, fI sc3, fI sc4, fI sc5, .ref 73, .ref 74, .ref 75, .ref 76, .ref 77, .ref 78, fI w24, .ref 79, .ref 80, .ref 81, .ref 82, .ref 83, .ref 84, .ref 85, fJ sb, fJ wa, .ref 86, .ref 87, fI r, .ref 88, .ref 89, .ref 90, .ref 91, .ref 92, .ref 93])) := e_1043_66
      have g_1043_70 : cE h_1043 70 (.inl (.int, fA [ka, pa, fa, kb, pb, fb])) := e_1043_70
      have g_1043_71 : cE h_1043 71 (.inl (.int, fA [xa, xb])) := e_1043_71
      refine ⟨rfl, ?_⟩
      have gT_1043 := st_gT_t F_1043 (by decide +kernel) gT_1041
      have gS_1043 := st_gS_t F_1043 (by decide +kernel) gS_1041
      have gV_1043 := st_gV_t F_1043 (by decide +kernel) gV_1041
      have gW_1043 := st_gW_t F_1043 (by decide +kernel) gW_1041
      have gM_1043 := st_gM_t F_1043 (by decide +kernel) gM_1041
      have gR_1043 := st_gR_t F_1043 (by decide +kernel) gR_1041
      have gL_1043 := st_gL_t F_1043 (by decide +kernel) gL_1041
      have gI_1043 := st_gI_t F_1043 (by decide +kernel) gI_1041
      have gJ_1043 := st_gJ_t F_1043 (by decide +kernel) gJ_1041
      have hB_1043 := st_hB_t F_1043 (by decide +kernel) hB_1041
      have hT_1043 := st_hT_t F_1043 (by decide +kernel) hT_1041
      have hS_1043 := st_hS_t F_1043 (by decide +kernel) hS_1041
      have hM_1043 := st_hM_t F_1043 (by decide +kernel) hM_1041
      have hR_1043 := st_hR_t F_1043 (by decide +kernel) hR_1041
      have hL_1043 := st_hL_t F_1043 (by decide +kernel) hL_1041
      have hI_1043 := st_hI_t F_1043 (by decide +kernel) hI_1041
      intro C_ k_
      exact k_ tn fp pl mi sd ka pa fa kb pb fb xa xb r n0 n1 ga0 gm0 gd_0 gs0 g00 g01 g02 g03 g04 g05 gx0 gy0 ga1 gm1 gd_1 gs1 g10 g11 g12 g13 g14 g15 gx1 gy1 s T cn go ch wg wc we rp rt lr ci0 ci1 cnr gor chr T2 im f_pl f_s f_st f_cb f_cr f_rw f_al f_wy f_k f_p f_x (by omega) f_sd f_r f_rr f_n f_l0 f_l1 f_tn f_t (st_I_K f_i0) (st_I_K f_i1) ⟨g_1043_0, g_1043_18, g_1043_57⟩ gT_1043 ⟨g_1043_7, g_1043_8, n8, g_1043_9, n9, g_1043_10, n10, g_1043_11, n11, g_1043_12, n12, g_1043_13, n13⟩ ⟨g_1043_14, g_1043_15, g_1043_16⟩ gS_1043 gV_1043 gW_1043 gM_1043 gR_1043 gL_1043 gI_1043 gJ_1043 ⟨sc0, sc1, sc2, sc3, sc4, sc5, w24, sb, wa, g_1043_66⟩ hB_1043 ⟨g_1043_70, g_1043_71⟩ hT_1043 hS_1043 hM_1043 hR_1043 hL_1043 hI_1043 k_1043

set_option maxRecDepth 100000 in
theorem lk_cork11 {K : Nat} {h : List ik_E} (E : st_S K h) (hK : K ≤ 600) {v : Int} (z_v : -2147483648 ≤ v ∧ v < 2147483648)  : ik_F 95 [.ref 0, fI 1, fI 1, fI v] h (fun rv h' => ∃ o_ : Int, rv = [fI o_] ∧ (h'.length = 94 ∧ ∃ fs, h'[66]? = some (.inr (10, fs))) ∧ ik_F 158 [.ref 66, fI 1, fI 1, fI v] h' (fun rv' h'' => rv' = [fI o_] ∧ st_S (K + 1) h'')) := by
  refine E _ ?_
  intro tn fp pl mi sd ka pa fa kb pb fb xa xb r n0 n1 ga0 gm0 gd_0 gs0 g00 g01 g02 g03 g04 g05 gx0 gy0 ga1 gm1 gd_1 gs1 g10 g11 g12 g13 g14 g15 gx1 gy1 s T cn go ch wg wc we rp rt lr ci0 ci1 cnr gor chr T2 im f_pl f_s f_st f_cb f_cr f_rw f_al f_wy f_k f_p f_x f_m f_sd f_r f_rr f_n f_l0 f_l1 f_tn f_t f_i0 f_i1 gA gT gB gC gS gV gW gM gR gL gI gJ hO hB hC hT hS hM hR hL hI hl
  obtain ⟨h0, h18, h57⟩ := gA
  obtain ⟨h7, h8, n8, h9, n9, h10, n10, h11, n11, h12, n12, h13, n13⟩ := gB
  obtain ⟨h14, h15, h16⟩ := gC
  obtain ⟨sc0, sc1, sc2, sc3, sc4, sc5, w24, sb, wa, h66⟩ := hO
  obtain ⟨h70, h71⟩ := hC
  refine ik_F_mono (cp_cork11 (ka := ka) (pa := pa) (fa := fa) (kb := kb) (pb := pb) (fb := fb) (xa := xa) (xb := xb) (mi := mi) (dr := sd) (v := v) (pl := pl) (st := ((s : Nat) : Int)) (lo := ((mj_lost pl cn go : Nat) : Int)) f_k.2.2.1 f_k.2.2.2.1 f_pl z_v h0 h7 h14 h15 h16 hl) ?_
  rintro _ h_1044 (⟨rfl, e_1044_14, e_1044_15, e_1044_16, p_1044_0, F_1044⟩ | ⟨rfl, e_1044_14, e_1044_15, e_1044_16, p_1044_0, F_1044⟩)
  · have k_1044 := F_1044.1.trans hl
    have g_1044_0 := (F_1044.2 0 (by decide +kernel)).trans h0
    have g_1044_7 := (F_1044.2 7 (by decide +kernel)).trans h7
    have g_1044_8 := (F_1044.2 8 (by decide +kernel)).trans h8
    have g_1044_9 := (F_1044.2 9 (by decide +kernel)).trans h9
    have g_1044_10 := (F_1044.2 10 (by decide +kernel)).trans h10
    have g_1044_11 := (F_1044.2 11 (by decide +kernel)).trans h11
    have g_1044_12 := (F_1044.2 12 (by decide +kernel)).trans h12
    have g_1044_13 := (F_1044.2 13 (by decide +kernel)).trans h13
    have g_1044_18 := (F_1044.2 18 (by decide +kernel)).trans h18
    have g_1044_57 := (F_1044.2 57 (by decide +kernel)).trans h57
    have g_1044_66 := (F_1044.2 66 (by decide +kernel)).trans h66
    have g_1044_70 := (F_1044.2 70 (by decide +kernel)).trans h70
    have g_1044_71 := (F_1044.2 71 (by decide +kernel)).trans h71
    have g_1044_14 : cE h_1044 14 (.inr (1, [.ref 7, .ref 15, .ref 16, fI 0, fJ sd])) := e_1044_14
    have g_1044_15 : cE h_1044 15 (.inl (.int, fA [ka, pa, fa, kb, v, fb])) := e_1044_15
    have g_1044_16 : cE h_1044 16 (.inl (.int, fA [mx_sp pa fa, mx_sp v fb])) := e_1044_16
    refine ⟨pb, rfl, ⟨k_1044, _, g_1044_66⟩, ?_⟩
    have gT_1044 := st_gT_t F_1044 (by decide +kernel) gT
    have gS_1044 := st_gS_t F_1044 (by decide +kernel) gS
    have gV_1044 := st_gV_t F_1044 (by decide +kernel) gV
    have gW_1044 := st_gW_t F_1044 (by decide +kernel) gW
    have gM_1044 := st_gM_t F_1044 (by decide +kernel) gM
    have gR_1044 := st_gR_t F_1044 (by decide +kernel) gR
    have gL_1044 := st_gL_t F_1044 (by decide +kernel) gL
    have gI_1044 := st_gI_t F_1044 (by decide +kernel) gI
    have gJ_1044 := st_gJ_t F_1044 (by decide +kernel) gJ
    have hB_1044 := st_hB_t F_1044 (by decide +kernel) hB
    have hT_1044 := st_hT_t F_1044 (by decide +kernel) hT
    have hS_1044 := st_hS_t F_1044 (by decide +kernel) hS
    have hM_1044 := st_hM_t F_1044 (by decide +kernel) hM
    have hR_1044 := st_hR_t F_1044 (by decide +kernel) hR
    have hL_1044 := st_hL_t F_1044 (by decide +kernel) hL
    have hI_1044 := st_hI_t F_1044 (by decide +kernel) hI
    refine ik_F_mono (rp_cork11 (ka := ka) (pa := pa) (fa := fa) (kb := kb) (pb := pb) (fb := fb) (xa := xa) (xb := xb) (mi := mi) (v := v) (pl := pl) (f := fun j => ([0, 0, 0, 0, ((s : Nat) : Int), 0, 0, 0, sd, 0, tn, fp, sc0, sc1, sc2, sc3, sc4, sc5, 0, 0, 0, 0, 0, 0, w24, 0, 0, 0, 0, 0, 0, 0, sb, wa, 0, 0, r, 0, 0, 0, 0, 0, 0] : List Int).getD j 0) f_k.2.2.1 f_k.2.2.2.1 f_pl z_v g_1044_66 g_1044_70 g_1044_71 k_1044) ?_
    rintro _ h_1045 (⟨rfl, e_1045_66, e_1045_70, e_1045_71, p_1045_0, F_1045⟩ | ⟨rfl, e_1045_66, e_1045_70, e_1045_71, p_1045_0, F_1045⟩)
    · have k_1045 := F_1045.1.trans k_1044
      have g_1045_0 := (F_1045.2 0 (by decide +kernel)).trans g_1044_0
      have g_1045_7 := (F_1045.2 7 (by decide +kernel)).trans g_1044_7
      have g_1045_8 := (F_1045.2 8 (by decide +kernel)).trans g_1044_8
      have g_1045_9 := (F_1045.2 9 (by decide +kernel)).trans g_1044_9
      have g_1045_10 := (F_1045.2 10 (by decide +kernel)).trans g_1044_10
      have g_1045_11 := (F_1045.2 11 (by decide +kernel)).trans g_1044_11
      have g_1045_12 := (F_1045.2 12 (by decide +kernel)).trans g_1044_12
      have g_1045_13 := (F_1045.2 13 (by decide +kernel)).trans g_1044_13
      have g_1045_14 := (F_1045.2 14 (by decide +kernel)).trans g_1044_14
      have g_1045_15 := (F_1045.2 15 (by decide +kernel)).trans g_1044_15
      have g_1045_16 := (F_1045.2 16 (by decide +kernel)).trans g_1044_16
      have g_1045_18 := (F_1045.2 18 (by decide +kernel)).trans g_1044_18
      have g_1045_57 := (F_1045.2 57 (by decide +kernel)).trans g_1044_57
      have g_1045_66 : cE h_1045 66 (.inr (10, [fI pl, .ref 67, .ref 68, .ref 69, fI ((s : Nat) : Int), .ref 70, .ref 71, fI 0, fI sd, .ref 72, fI tn, fI fp, fI sc0, fJ sc1, fI sc2, fI sc3, fI sc4, fI sc5, .ref 73, .ref 74, .ref 75, .ref 76, .ref 77, .ref 78, fI w24, .ref 79, .ref 80, .ref 81, .ref 82, .ref 83, .ref 84, .ref 85, fJ sb, fJ wa, .ref 86, .ref 87, fI r, .ref 88, .ref 89, .ref 90, .ref 91, .ref 92, .ref 93])) := e_1045_66
      have g_1045_70 : cE h_1045 70 (.inl (.int, fA [ka, pa, fa, kb, v, fb])) := e_1045_70
      have g_1045_71 : cE h_1045 71 (.inl (.int, fA [mx_sp pa fa, mx_sp v fb])) := e_1045_71
      refine ⟨rfl, ?_⟩
      have gT_1045 := st_gT_t F_1045 (by decide +kernel) gT_1044
      have gS_1045 := st_gS_t F_1045 (by decide +kernel) gS_1044
      have gV_1045 := st_gV_t F_1045 (by decide +kernel) gV_1044
      have gW_1045 := st_gW_t F_1045 (by decide +kernel) gW_1044
      have gM_1045 := st_gM_t F_1045 (by decide +kernel) gM_1044
      have gR_1045 := st_gR_t F_1045 (by decide +kernel) gR_1044
      have gL_1045 := st_gL_t F_1045 (by decide +kernel) gL_1044
      have gI_1045 := st_gI_t F_1045 (by decide +kernel) gI_1044
      have gJ_1045 := st_gJ_t F_1045 (by decide +kernel) gJ_1044
      have hB_1045 := st_hB_t F_1045 (by decide +kernel) hB_1044
      have hT_1045 := st_hT_t F_1045 (by decide +kernel) hT_1044
      have hS_1045 := st_hS_t F_1045 (by decide +kernel) hS_1044
      have hM_1045 := st_hM_t F_1045 (by decide +kernel) hM_1044
      have hR_1045 := st_hR_t F_1045 (by decide +kernel) hR_1044
      have hL_1045 := st_hL_t F_1045 (by decide +kernel) hL_1044
      have hI_1045 := st_hI_t F_1045 (by decide +kernel) hI_1044
      intro C_ k_
      exact k_ tn fp pl 0 sd ka pa fa kb v fb (mx_sp pa fa) (mx_sp v fb) r n0 n1 ga0 gm0 gd_0 gs0 g00 g01 g02 g03 g04 g05 gx0 gy0 ga1 gm1 gd_1 gs1 g10 g11 g12 g13 g14 g15 gx1 gy1 s T cn go ch wg wc we rp rt lr ci0 ci1 cnr gor chr T2 im f_pl f_s f_st f_cb f_cr f_rw f_al f_wy (by omega) (fun w => by have := f_p w; omega) (fun w => by have z := f_p w; have a := mx_sp_b (fr := fa) (show 0 ≤ pa ∧ pa < pl by omega) (by omega); have b := mx_sp_b (fr := fb) (show 0 ≤ v ∧ v < pl by omega) (by omega); omega) (by omega) f_sd f_r f_rr f_n f_l0 f_l1 f_tn f_t (st_I_K f_i0) (st_I_K f_i1) ⟨g_1045_0, g_1045_18, g_1045_57⟩ gT_1045 ⟨g_1045_7, g_1045_8, n8, g_1045_9, n9, g_1045_10, n10, g_1045_11, n11, g_1045_12, n12, g_1045_13, n13⟩ ⟨g_1045_14, g_1045_15, g_1045_16⟩ gS_1045 gV_1045 gW_1045 gM_1045 gR_1045 gL_1045 gI_1045 gJ_1045 ⟨sc0, sc1, sc2, sc3, sc4, sc5, w24, sb, wa, g_1045_66⟩ hB_1045 ⟨g_1045_70, g_1045_71⟩ hT_1045 hS_1045 hM_1045 hR_1045 hL_1045 hI_1045 k_1045
    · have k_1045 := F_1045.1.trans k_1044
      have g_1045_0 := (F_1045.2 0 (by decide +kernel)).trans g_1044_0
      have g_1045_7 := (F_1045.2 7 (by decide +kernel)).trans g_1044_7
      have g_1045_8 := (F_1045.2 8 (by decide +kernel)).trans g_1044_8
      have g_1045_9 := (F_1045.2 9 (by decide +kernel)).trans g_1044_9
      have g_1045_10 := (F_1045.2 10 (by decide +kernel)).trans g_1044_10
      have g_1045_11 := (F_1045.2 11 (by decide +kernel)).trans g_1044_11
      have g_1045_12 := (F_1045.2 12 (by decide +kernel)).trans g_1044_12
      have g_1045_13 := (F_1045.2 13 (by decide +kernel)).trans g_1044_13
      have g_1045_14 := (F_1045.2 14 (by decide +kernel)).trans g_1044_14
      have g_1045_15 := (F_1045.2 15 (by decide +kernel)).trans g_1044_15
      have g_1045_16 := (F_1045.2 16 (by decide +kernel)).trans g_1044_16
      have g_1045_18 := (F_1045.2 18 (by decide +kernel)).trans g_1044_18
      have g_1045_57 := (F_1045.2 57 (by decide +kernel)).trans g_1044_57
      have g_1045_66 : cE h_1045 66 (.inr (10, [fI pl, .ref 67, .ref 68, .ref 69, fI ((s : Nat) : Int), .ref 70, .ref 71, fI mi, fI sd, .ref 72, fI tn, fI fp, fI sc0, fJ sc1, fI sc2, fI sc3, fI sc4, fI sc5, .ref 73, .ref 74, .ref 75, .ref 76, .ref 77, .ref 78, fI w24, .ref 79, .ref 80, .ref 81, .ref 82, .ref 83, .ref 84, .ref 85, fJ sb, fJ wa, .ref 86, .ref 87, fI r, .ref 88, .ref 89, .ref 90, .ref 91, .ref 92, .ref 93])) := e_1045_66
      have g_1045_70 : cE h_1045 70 (.inl (.int, fA [ka, pa, fa, kb, pb, fb])) := e_1045_70
      have g_1045_71 : cE h_1045 71 (.inl (.int, fA [xa, xb])) := e_1045_71
      exact absurd p_1044_0 p_1045_0
  · have k_1044 := F_1044.1.trans hl
    have g_1044_0 := (F_1044.2 0 (by decide +kernel)).trans h0
    have g_1044_7 := (F_1044.2 7 (by decide +kernel)).trans h7
    have g_1044_8 := (F_1044.2 8 (by decide +kernel)).trans h8
    have g_1044_9 := (F_1044.2 9 (by decide +kernel)).trans h9
    have g_1044_10 := (F_1044.2 10 (by decide +kernel)).trans h10
    have g_1044_11 := (F_1044.2 11 (by decide +kernel)).trans h11
    have g_1044_12 := (F_1044.2 12 (by decide +kernel)).trans h12
    have g_1044_13 := (F_1044.2 13 (by decide +kernel)).trans h13
    have g_1044_18 := (F_1044.2 18 (by decide +kernel)).trans h18
    have g_1044_57 := (F_1044.2 57 (by decide +kernel)).trans h57
    have g_1044_66 := (F_1044.2 66 (by decide +kernel)).trans h66
    have g_1044_70 := (F_1044.2 70 (by decide +kernel)).trans h70
    have g_1044_71 := (F_1044.2 71 (by decide +kernel)).trans h71
    have g_1044_14 : cE h_1044 14 (.inr (1, [.ref 7, .ref 15, .ref 16, fI mi, fJ sd])) := e_1044_14
    have g_1044_15 : cE h_1044 15 (.inl (.int, fA [ka, pa, fa, kb, pb, fb])) := e_1044_15
    have g_1044_16 : cE h_1044 16 (.inl (.int, fA [xa, xb])) := e_1044_16
    refine ⟨-1000000001, rfl, ⟨k_1044, _, g_1044_66⟩, ?_⟩
    have gT_1044 := st_gT_t F_1044 (by decide +kernel) gT
    have gS_1044 := st_gS_t F_1044 (by decide +kernel) gS
    have gV_1044 := st_gV_t F_1044 (by decide +kernel) gV
    have gW_1044 := st_gW_t F_1044 (by decide +kernel) gW
    have gM_1044 := st_gM_t F_1044 (by decide +kernel) gM
    have gR_1044 := st_gR_t F_1044 (by decide +kernel) gR
    have gL_1044 := st_gL_t F_1044 (by decide +kernel) gL
    have gI_1044 := st_gI_t F_1044 (by decide +kernel) gI
    have gJ_1044 := st_gJ_t F_1044 (by decide +kernel) gJ
    have hB_1044 := st_hB_t F_1044 (by decide +kernel) hB
    have hT_1044 := st_hT_t F_1044 (by decide +kernel) hT
    have hS_1044 := st_hS_t F_1044 (by decide +kernel) hS
    have hM_1044 := st_hM_t F_1044 (by decide +kernel) hM
    have hR_1044 := st_hR_t F_1044 (by decide +kernel) hR
    have hL_1044 := st_hL_t F_1044 (by decide +kernel) hL
    have hI_1044 := st_hI_t F_1044 (by decide +kernel) hI
    refine ik_F_mono (rp_cork11 (ka := ka) (pa := pa) (fa := fa) (kb := kb) (pb := pb) (fb := fb) (xa := xa) (xb := xb) (mi := mi) (v := v) (pl := pl) (f := fun j => ([0, 0, 0, 0, ((s : Nat) : Int), 0, 0, 0, sd, 0, tn, fp, sc0, sc1, sc2, sc3, sc4, sc5, 0, 0, 0, 0, 0, 0, w24, 0, 0, 0, 0, 0, 0, 0, sb, wa, 0, 0, r, 0, 0, 0, 0, 0, 0] : List Int).getD j 0) f_k.2.2.1 f_k.2.2.2.1 f_pl z_v g_1044_66 g_1044_70 g_1044_71 k_1044) ?_
    rintro _ h_1046 (⟨rfl, e_1046_66, e_1046_70, e_1046_71, p_1046_0, F_1046⟩ | ⟨rfl, e_1046_66, e_1046_70, e_1046_71, p_1046_0, F_1046⟩)
    · have k_1046 := F_1046.1.trans k_1044
      have g_1046_0 := (F_1046.2 0 (by decide +kernel)).trans g_1044_0
      have g_1046_7 := (F_1046.2 7 (by decide +kernel)).trans g_1044_7
      have g_1046_8 := (F_1046.2 8 (by decide +kernel)).trans g_1044_8
      have g_1046_9 := (F_1046.2 9 (by decide +kernel)).trans g_1044_9
      have g_1046_10 := (F_1046.2 10 (by decide +kernel)).trans g_1044_10
      have g_1046_11 := (F_1046.2 11 (by decide +kernel)).trans g_1044_11
      have g_1046_12 := (F_1046.2 12 (by decide +kernel)).trans g_1044_12
      have g_1046_13 := (F_1046.2 13 (by decide +kernel)).trans g_1044_13
      have g_1046_14 := (F_1046.2 14 (by decide +kernel)).trans g_1044_14
      have g_1046_15 := (F_1046.2 15 (by decide +kernel)).trans g_1044_15
      have g_1046_16 := (F_1046.2 16 (by decide +kernel)).trans g_1044_16
      have g_1046_18 := (F_1046.2 18 (by decide +kernel)).trans g_1044_18
      have g_1046_57 := (F_1046.2 57 (by decide +kernel)).trans g_1044_57
      have g_1046_66 : cE h_1046 66 (.inr (10, [fI pl, .ref 67, .ref 68, .ref 69, fI ((s : Nat) : Int), .ref 70, .ref 71, fI 0, fI sd, .ref 72, fI tn, fI fp, fI sc0, fJ sc1, fI sc2, fI sc3, fI sc4, fI sc5, .ref 73, .ref 74, .ref 75, .ref 76, .ref 77, .ref 78, fI w24, .ref 79, .ref 80, .ref 81, .ref 82, .ref 83, .ref 84, .ref 85, fJ sb, fJ wa, .ref 86, .ref 87, fI r, .ref 88, .ref 89, .ref 90, .ref 91, .ref 92, .ref 93])) := e_1046_66
      have g_1046_70 : cE h_1046 70 (.inl (.int, fA [ka, pa, fa, kb, v, fb])) := e_1046_70
      have g_1046_71 : cE h_1046 71 (.inl (.int, fA [mx_sp pa fa, mx_sp v fb])) := e_1046_71
      exact absurd p_1046_0 p_1044_0
    · have k_1046 := F_1046.1.trans k_1044
      have g_1046_0 := (F_1046.2 0 (by decide +kernel)).trans g_1044_0
      have g_1046_7 := (F_1046.2 7 (by decide +kernel)).trans g_1044_7
      have g_1046_8 := (F_1046.2 8 (by decide +kernel)).trans g_1044_8
      have g_1046_9 := (F_1046.2 9 (by decide +kernel)).trans g_1044_9
      have g_1046_10 := (F_1046.2 10 (by decide +kernel)).trans g_1044_10
      have g_1046_11 := (F_1046.2 11 (by decide +kernel)).trans g_1044_11
      have g_1046_12 := (F_1046.2 12 (by decide +kernel)).trans g_1044_12
      have g_1046_13 := (F_1046.2 13 (by decide +kernel)).trans g_1044_13
      have g_1046_14 := (F_1046.2 14 (by decide +kernel)).trans g_1044_14
      have g_1046_15 := (F_1046.2 15 (by decide +kernel)).trans g_1044_15
      have g_1046_16 := (F_1046.2 16 (by decide +kernel)).trans g_1044_16
      have g_1046_18 := (F_1046.2 18 (by decide +kernel)).trans g_1044_18
      have g_1046_57 := (F_1046.2 57 (by decide +kernel)).trans g_1044_57
      have g_1046_66 : cE h_1046 66 (.inr (10, [fI pl, .ref 67, .ref 68, .ref 69, fI ((s : Nat) : Int), .ref 70, .ref 71, fI mi, fI sd, .ref 72, fI tn, fI fp, fI sc0, fJ sc1, fI sc2, fI sc3, fI sc4, fI sc5, .ref 73, .ref 74, .ref 75, .ref 76, .ref 77, .ref 78, fI w24, .ref 79, .ref 80, .ref 81, .ref 82, .ref 83, .ref 84, .ref 85, fJ sb, fJ wa, .ref 86, .ref 87, fI r, .ref 88, .ref 89, .ref 90, .ref 91, .ref 92, .ref 93])) := e_1046_66
      have g_1046_70 : cE h_1046 70 (.inl (.int, fA [ka, pa, fa, kb, pb, fb])) := e_1046_70
      have g_1046_71 : cE h_1046 71 (.inl (.int, fA [xa, xb])) := e_1046_71
      refine ⟨rfl, ?_⟩
      have gT_1046 := st_gT_t F_1046 (by decide +kernel) gT_1044
      have gS_1046 := st_gS_t F_1046 (by decide +kernel) gS_1044
      have gV_1046 := st_gV_t F_1046 (by decide +kernel) gV_1044
      have gW_1046 := st_gW_t F_1046 (by decide +kernel) gW_1044
      have gM_1046 := st_gM_t F_1046 (by decide +kernel) gM_1044
      have gR_1046 := st_gR_t F_1046 (by decide +kernel) gR_1044
      have gL_1046 := st_gL_t F_1046 (by decide +kernel) gL_1044
      have gI_1046 := st_gI_t F_1046 (by decide +kernel) gI_1044
      have gJ_1046 := st_gJ_t F_1046 (by decide +kernel) gJ_1044
      have hB_1046 := st_hB_t F_1046 (by decide +kernel) hB_1044
      have hT_1046 := st_hT_t F_1046 (by decide +kernel) hT_1044
      have hS_1046 := st_hS_t F_1046 (by decide +kernel) hS_1044
      have hM_1046 := st_hM_t F_1046 (by decide +kernel) hM_1044
      have hR_1046 := st_hR_t F_1046 (by decide +kernel) hR_1044
      have hL_1046 := st_hL_t F_1046 (by decide +kernel) hL_1044
      have hI_1046 := st_hI_t F_1046 (by decide +kernel) hI_1044
      intro C_ k_
      exact k_ tn fp pl mi sd ka pa fa kb pb fb xa xb r n0 n1 ga0 gm0 gd_0 gs0 g00 g01 g02 g03 g04 g05 gx0 gy0 ga1 gm1 gd_1 gs1 g10 g11 g12 g13 g14 g15 gx1 gy1 s T cn go ch wg wc we rp rt lr ci0 ci1 cnr gor chr T2 im f_pl f_s f_st f_cb f_cr f_rw f_al f_wy f_k f_p f_x (by omega) f_sd f_r f_rr f_n f_l0 f_l1 f_tn f_t (st_I_K f_i0) (st_I_K f_i1) ⟨g_1046_0, g_1046_18, g_1046_57⟩ gT_1046 ⟨g_1046_7, g_1046_8, n8, g_1046_9, n9, g_1046_10, n10, g_1046_11, n11, g_1046_12, n12, g_1046_13, n13⟩ ⟨g_1046_14, g_1046_15, g_1046_16⟩ gS_1046 gV_1046 gW_1046 gM_1046 gR_1046 gL_1046 gI_1046 gJ_1046 ⟨sc0, sc1, sc2, sc3, sc4, sc5, w24, sb, wa, g_1046_66⟩ hB_1046 ⟨g_1046_70, g_1046_71⟩ hT_1046 hS_1046 hM_1046 hR_1046 hL_1046 hI_1046 k_1046

set_option maxRecDepth 100000 in
theorem lk_cork12 {K : Nat} {h : List ik_E} (E : st_S K h) (hK : K ≤ 600) {v : Int} (z_v : -2147483648 ≤ v ∧ v < 2147483648)  : ik_F 95 [.ref 0, fI 1, fI 2, fI v] h (fun rv h' => ∃ o_ : Int, rv = [fI o_] ∧ (h'.length = 94 ∧ ∃ fs, h'[66]? = some (.inr (10, fs))) ∧ ik_F 158 [.ref 66, fI 1, fI 2, fI v] h' (fun rv' h'' => rv' = [fI o_] ∧ st_S (K + 1) h'')) := by
  refine E _ ?_
  intro tn fp pl mi sd ka pa fa kb pb fb xa xb r n0 n1 ga0 gm0 gd_0 gs0 g00 g01 g02 g03 g04 g05 gx0 gy0 ga1 gm1 gd_1 gs1 g10 g11 g12 g13 g14 g15 gx1 gy1 s T cn go ch wg wc we rp rt lr ci0 ci1 cnr gor chr T2 im f_pl f_s f_st f_cb f_cr f_rw f_al f_wy f_k f_p f_x f_m f_sd f_r f_rr f_n f_l0 f_l1 f_tn f_t f_i0 f_i1 gA gT gB gC gS gV gW gM gR gL gI gJ hO hB hC hT hS hM hR hL hI hl
  obtain ⟨h0, h18, h57⟩ := gA
  obtain ⟨h7, h8, n8, h9, n9, h10, n10, h11, n11, h12, n12, h13, n13⟩ := gB
  obtain ⟨h14, h15, h16⟩ := gC
  obtain ⟨sc0, sc1, sc2, sc3, sc4, sc5, w24, sb, wa, h66⟩ := hO
  obtain ⟨h70, h71⟩ := hC
  refine ik_F_mono (cp_cork12 (ka := ka) (pa := pa) (fa := fa) (kb := kb) (pb := pb) (fb := fb) (xa := xa) (xb := xb) (mi := mi) (dr := sd) (v := v) (pl := pl) (st := ((s : Nat) : Int)) (lo := ((mj_lost pl cn go : Nat) : Int)) f_k.2.2.1 f_k.2.2.2.1 f_pl z_v h0 h7 h14 h15 h16 hl) ?_
  rintro _ h_1047 (⟨rfl, e_1047_14, e_1047_15, e_1047_16, p_1047_0, F_1047⟩ | ⟨rfl, e_1047_14, e_1047_15, e_1047_16, p_1047_0, F_1047⟩)
  · have k_1047 := F_1047.1.trans hl
    have g_1047_0 := (F_1047.2 0 (by decide +kernel)).trans h0
    have g_1047_7 := (F_1047.2 7 (by decide +kernel)).trans h7
    have g_1047_8 := (F_1047.2 8 (by decide +kernel)).trans h8
    have g_1047_9 := (F_1047.2 9 (by decide +kernel)).trans h9
    have g_1047_10 := (F_1047.2 10 (by decide +kernel)).trans h10
    have g_1047_11 := (F_1047.2 11 (by decide +kernel)).trans h11
    have g_1047_12 := (F_1047.2 12 (by decide +kernel)).trans h12
    have g_1047_13 := (F_1047.2 13 (by decide +kernel)).trans h13
    have g_1047_18 := (F_1047.2 18 (by decide +kernel)).trans h18
    have g_1047_57 := (F_1047.2 57 (by decide +kernel)).trans h57
    have g_1047_66 := (F_1047.2 66 (by decide +kernel)).trans h66
    have g_1047_70 := (F_1047.2 70 (by decide +kernel)).trans h70
    have g_1047_71 := (F_1047.2 71 (by decide +kernel)).trans h71
    have g_1047_14 : cE h_1047 14 (.inr (1, [.ref 7, .ref 15, .ref 16, fI 0, fJ sd])) := e_1047_14
    have g_1047_15 : cE h_1047 15 (.inl (.int, fA [ka, pa, fa, kb, pb, v])) := e_1047_15
    have g_1047_16 : cE h_1047 16 (.inl (.int, fA [mx_sp pa fa, mx_sp pb v])) := e_1047_16
    refine ⟨fb, rfl, ⟨k_1047, _, g_1047_66⟩, ?_⟩
    have gT_1047 := st_gT_t F_1047 (by decide +kernel) gT
    have gS_1047 := st_gS_t F_1047 (by decide +kernel) gS
    have gV_1047 := st_gV_t F_1047 (by decide +kernel) gV
    have gW_1047 := st_gW_t F_1047 (by decide +kernel) gW
    have gM_1047 := st_gM_t F_1047 (by decide +kernel) gM
    have gR_1047 := st_gR_t F_1047 (by decide +kernel) gR
    have gL_1047 := st_gL_t F_1047 (by decide +kernel) gL
    have gI_1047 := st_gI_t F_1047 (by decide +kernel) gI
    have gJ_1047 := st_gJ_t F_1047 (by decide +kernel) gJ
    have hB_1047 := st_hB_t F_1047 (by decide +kernel) hB
    have hT_1047 := st_hT_t F_1047 (by decide +kernel) hT
    have hS_1047 := st_hS_t F_1047 (by decide +kernel) hS
    have hM_1047 := st_hM_t F_1047 (by decide +kernel) hM
    have hR_1047 := st_hR_t F_1047 (by decide +kernel) hR
    have hL_1047 := st_hL_t F_1047 (by decide +kernel) hL
    have hI_1047 := st_hI_t F_1047 (by decide +kernel) hI
    refine ik_F_mono (rp_cork12 (ka := ka) (pa := pa) (fa := fa) (kb := kb) (pb := pb) (fb := fb) (xa := xa) (xb := xb) (mi := mi) (v := v) (pl := pl) (f := fun j => ([0, 0, 0, 0, ((s : Nat) : Int), 0, 0, 0, sd, 0, tn, fp, sc0, sc1, sc2, sc3, sc4, sc5, 0, 0, 0, 0, 0, 0, w24, 0, 0, 0, 0, 0, 0, 0, sb, wa, 0, 0, r, 0, 0, 0, 0, 0, 0] : List Int).getD j 0) f_k.2.2.1 f_k.2.2.2.1 f_pl z_v g_1047_66 g_1047_70 g_1047_71 k_1047) ?_
    rintro _ h_1048 (⟨rfl, e_1048_66, e_1048_70, e_1048_71, p_1048_0, F_1048⟩ | ⟨rfl, e_1048_66, e_1048_70, e_1048_71, p_1048_0, F_1048⟩)
    · have k_1048 := F_1048.1.trans k_1047
      have g_1048_0 := (F_1048.2 0 (by decide +kernel)).trans g_1047_0
      have g_1048_7 := (F_1048.2 7 (by decide +kernel)).trans g_1047_7
      have g_1048_8 := (F_1048.2 8 (by decide +kernel)).trans g_1047_8
      have g_1048_9 := (F_1048.2 9 (by decide +kernel)).trans g_1047_9
      have g_1048_10 := (F_1048.2 10 (by decide +kernel)).trans g_1047_10
      have g_1048_11 := (F_1048.2 11 (by decide +kernel)).trans g_1047_11
      have g_1048_12 := (F_1048.2 12 (by decide +kernel)).trans g_1047_12
      have g_1048_13 := (F_1048.2 13 (by decide +kernel)).trans g_1047_13
      have g_1048_14 := (F_1048.2 14 (by decide +kernel)).trans g_1047_14
      have g_1048_15 := (F_1048.2 15 (by decide +kernel)).trans g_1047_15
      have g_1048_16 := (F_1048.2 16 (by decide +kernel)).trans g_1047_16
      have g_1048_18 := (F_1048.2 18 (by decide +kernel)).trans g_1047_18
      have g_1048_57 := (F_1048.2 57 (by decide +kernel)).trans g_1047_57
      have g_1048_66 : cE h_1048 66 (.inr (10, [fI pl, .ref 67, .ref 68, .ref 69, fI ((s : Nat) : Int), .ref 70, .ref 71, fI 0, fI sd, .ref 72, fI tn, fI fp, fI sc0, fJ sc1, fI sc2, fI sc3, fI sc4, fI sc5, .ref 73, .ref 74, .ref 75, .ref 76, .ref 77, .ref 78, fI w24, .ref 79, .ref 80, .ref 81, .ref 82, .ref 83, .ref 84, .ref 85, fJ sb, fJ wa, .ref 86, .ref 87, fI r, .ref 88, .ref 89, .ref 90, .ref 91, .ref 92, .ref 93])) := e_1048_66
      have g_1048_70 : cE h_1048 70 (.inl (.int, fA [ka, pa, fa, kb, pb, v])) := e_1048_70
      have g_1048_71 : cE h_1048 71 (.inl (.int, fA [mx_sp pa fa, mx_sp pb v])) := e_1048_71
      refine ⟨rfl, ?_⟩
      have gT_1048 := st_gT_t F_1048 (by decide +kernel) gT_1047
      have gS_1048 := st_gS_t F_1048 (by decide +kernel) gS_1047
      have gV_1048 := st_gV_t F_1048 (by decide +kernel) gV_1047
      have gW_1048 := st_gW_t F_1048 (by decide +kernel) gW_1047
      have gM_1048 := st_gM_t F_1048 (by decide +kernel) gM_1047
      have gR_1048 := st_gR_t F_1048 (by decide +kernel) gR_1047
      have gL_1048 := st_gL_t F_1048 (by decide +kernel) gL_1047
      have gI_1048 := st_gI_t F_1048 (by decide +kernel) gI_1047
      have gJ_1048 := st_gJ_t F_1048 (by decide +kernel) gJ_1047
      have hB_1048 := st_hB_t F_1048 (by decide +kernel) hB_1047
      have hT_1048 := st_hT_t F_1048 (by decide +kernel) hT_1047
      have hS_1048 := st_hS_t F_1048 (by decide +kernel) hS_1047
      have hM_1048 := st_hM_t F_1048 (by decide +kernel) hM_1047
      have hR_1048 := st_hR_t F_1048 (by decide +kernel) hR_1047
      have hL_1048 := st_hL_t F_1048 (by decide +kernel) hL_1047
      have hI_1048 := st_hI_t F_1048 (by decide +kernel) hI_1047
      intro C_ k_
      exact k_ tn fp pl 0 sd ka pa fa kb pb v (mx_sp pa fa) (mx_sp pb v) r n0 n1 ga0 gm0 gd_0 gs0 g00 g01 g02 g03 g04 g05 gx0 gy0 ga1 gm1 gd_1 gs1 g10 g11 g12 g13 g14 g15 gx1 gy1 s T cn go ch wg wc we rp rt lr ci0 ci1 cnr gor chr T2 im f_pl f_s f_st f_cb f_cr f_rw f_al f_wy (by omega) f_p (fun w => by have z := f_p w; have a := mx_sp_b (fr := fa) (show 0 ≤ pa ∧ pa < pl by omega) (by omega); have b := mx_sp_b (fr := v) (show 0 ≤ pb ∧ pb < pl by omega) (by omega); omega) (by omega) f_sd f_r f_rr f_n f_l0 f_l1 f_tn f_t (st_I_K f_i0) (st_I_K f_i1) ⟨g_1048_0, g_1048_18, g_1048_57⟩ gT_1048 ⟨g_1048_7, g_1048_8, n8, g_1048_9, n9, g_1048_10, n10, g_1048_11, n11, g_1048_12, n12, g_1048_13, n13⟩ ⟨g_1048_14, g_1048_15, g_1048_16⟩ gS_1048 gV_1048 gW_1048 gM_1048 gR_1048 gL_1048 gI_1048 gJ_1048 ⟨sc0, sc1, sc2, sc3, sc4, sc5, w24, sb, wa, g_1048_66⟩ hB_1048 ⟨g_1048_70, g_1048_71⟩ hT_1048 hS_1048 hM_1048 hR_1048 hL_1048 hI_1048 k_1048
    · have k_1048 := F_1048.1.trans k_1047
      have g_1048_0 := (F_1048.2 0 (by decide +kernel)).trans g_1047_0
      have g_1048_7 := (F_1048.2 7 (by decide +kernel)).trans g_1047_7
      have g_1048_8 := (F_1048.2 8 (by decide +kernel)).trans g_1047_8
      have g_1048_9 := (F_1048.2 9 (by decide +kernel)).trans g_1047_9
      have g_1048_10 := (F_1048.2 10 (by decide +kernel)).trans g_1047_10
      have g_1048_11 := (F_1048.2 11 (by decide +kernel)).trans g_1047_11
      have g_1048_12 := (F_1048.2 12 (by decide +kernel)).trans g_1047_12
      have g_1048_13 := (F_1048.2 13 (by decide +kernel)).trans g_1047_13
      have g_1048_14 := (F_1048.2 14 (by decide +kernel)).trans g_1047_14
      have g_1048_15 := (F_1048.2 15 (by decide +kernel)).trans g_1047_15
      have g_1048_16 := (F_1048.2 16 (by decide +kernel)).trans g_1047_16
      have g_1048_18 := (F_1048.2 18 (by decide +kernel)).trans g_1047_18
      have g_1048_57 := (F_1048.2 57 (by decide +kernel)).trans g_1047_57
      have g_1048_66 : cE h_1048 66 (.inr (10, [fI pl, .ref 67, .ref 68, .ref 69, fI ((s : Nat) : Int), .ref 70, .ref 71, fI mi, fI sd, .ref 72, fI tn, fI fp, fI sc0, fJ sc1, fI sc2, fI sc3, fI sc4, fI sc5, .ref 73, .ref 74, .ref 75, .ref 76, .ref 77, .ref 78, fI w24, .ref 79, .ref 80, .ref 81, .ref 82, .ref 83, .ref 84, .ref 85, fJ sb, fJ wa, .ref 86, .ref 87, fI r, .ref 88, .ref 89, .ref 90, .ref 91, .ref 92, .ref 93])) := e_1048_66
      have g_1048_70 : cE h_1048 70 (.inl (.int, fA [ka, pa, fa, kb, pb, fb])) := e_1048_70
      have g_1048_71 : cE h_1048 71 (.inl (.int, fA [xa, xb])) := e_1048_71
      exact absurd p_1047_0 p_1048_0
  · have k_1047 := F_1047.1.trans hl
    have g_1047_0 := (F_1047.2 0 (by decide +kernel)).trans h0
    have g_1047_7 := (F_1047.2 7 (by decide +kernel)).trans h7
    have g_1047_8 := (F_1047.2 8 (by decide +kernel)).trans h8
    have g_1047_9 := (F_1047.2 9 (by decide +kernel)).trans h9
    have g_1047_10 := (F_1047.2 10 (by decide +kernel)).trans h10
    have g_1047_11 := (F_1047.2 11 (by decide +kernel)).trans h11
    have g_1047_12 := (F_1047.2 12 (by decide +kernel)).trans h12
    have g_1047_13 := (F_1047.2 13 (by decide +kernel)).trans h13
    have g_1047_18 := (F_1047.2 18 (by decide +kernel)).trans h18
    have g_1047_57 := (F_1047.2 57 (by decide +kernel)).trans h57
    have g_1047_66 := (F_1047.2 66 (by decide +kernel)).trans h66
    have g_1047_70 := (F_1047.2 70 (by decide +kernel)).trans h70
    have g_1047_71 := (F_1047.2 71 (by decide +kernel)).trans h71
    have g_1047_14 : cE h_1047 14 (.inr (1, [.ref 7, .ref 15, .ref 16, fI mi, fJ sd])) := e_1047_14
    have g_1047_15 : cE h_1047 15 (.inl (.int, fA [ka, pa, fa, kb, pb, fb])) := e_1047_15
    have g_1047_16 : cE h_1047 16 (.inl (.int, fA [xa, xb])) := e_1047_16
    refine ⟨if 0 ≤ v ∧ v ≤ 30 then -1000000003 else -1000000002, rfl, ⟨k_1047, _, g_1047_66⟩, ?_⟩
    have gT_1047 := st_gT_t F_1047 (by decide +kernel) gT
    have gS_1047 := st_gS_t F_1047 (by decide +kernel) gS
    have gV_1047 := st_gV_t F_1047 (by decide +kernel) gV
    have gW_1047 := st_gW_t F_1047 (by decide +kernel) gW
    have gM_1047 := st_gM_t F_1047 (by decide +kernel) gM
    have gR_1047 := st_gR_t F_1047 (by decide +kernel) gR
    have gL_1047 := st_gL_t F_1047 (by decide +kernel) gL
    have gI_1047 := st_gI_t F_1047 (by decide +kernel) gI
    have gJ_1047 := st_gJ_t F_1047 (by decide +kernel) gJ
    have hB_1047 := st_hB_t F_1047 (by decide +kernel) hB
    have hT_1047 := st_hT_t F_1047 (by decide +kernel) hT
    have hS_1047 := st_hS_t F_1047 (by decide +kernel) hS
    have hM_1047 := st_hM_t F_1047 (by decide +kernel) hM
    have hR_1047 := st_hR_t F_1047 (by decide +kernel) hR
    have hL_1047 := st_hL_t F_1047 (by decide +kernel) hL
    have hI_1047 := st_hI_t F_1047 (by decide +kernel) hI
    refine ik_F_mono (rp_cork12 (ka := ka) (pa := pa) (fa := fa) (kb := kb) (pb := pb) (fb := fb) (xa := xa) (xb := xb) (mi := mi) (v := v) (pl := pl) (f := fun j => ([0, 0, 0, 0, ((s : Nat) : Int), 0, 0, 0, sd, 0, tn, fp, sc0, sc1, sc2, sc3, sc4, sc5, 0, 0, 0, 0, 0, 0, w24, 0, 0, 0, 0, 0, 0, 0, sb, wa, 0, 0, r, 0, 0, 0, 0, 0, 0] : List Int).getD j 0) f_k.2.2.1 f_k.2.2.2.1 f_pl z_v g_1047_66 g_1047_70 g_1047_71 k_1047) ?_
    rintro _ h_1049 (⟨rfl, e_1049_66, e_1049_70, e_1049_71, p_1049_0, F_1049⟩ | ⟨rfl, e_1049_66, e_1049_70, e_1049_71, p_1049_0, F_1049⟩)
    · have k_1049 := F_1049.1.trans k_1047
      have g_1049_0 := (F_1049.2 0 (by decide +kernel)).trans g_1047_0
      have g_1049_7 := (F_1049.2 7 (by decide +kernel)).trans g_1047_7
      have g_1049_8 := (F_1049.2 8 (by decide +kernel)).trans g_1047_8
      have g_1049_9 := (F_1049.2 9 (by decide +kernel)).trans g_1047_9
      have g_1049_10 := (F_1049.2 10 (by decide +kernel)).trans g_1047_10
      have g_1049_11 := (F_1049.2 11 (by decide +kernel)).trans g_1047_11
      have g_1049_12 := (F_1049.2 12 (by decide +kernel)).trans g_1047_12
      have g_1049_13 := (F_1049.2 13 (by decide +kernel)).trans g_1047_13
      have g_1049_14 := (F_1049.2 14 (by decide +kernel)).trans g_1047_14
      have g_1049_15 := (F_1049.2 15 (by decide +kernel)).trans g_1047_15
      have g_1049_16 := (F_1049.2 16 (by decide +kernel)).trans g_1047_16
      have g_1049_18 := (F_1049.2 18 (by decide +kernel)).trans g_1047_18
      have g_1049_57 := (F_1049.2 57 (by decide +kernel)).trans g_1047_57
      have g_1049_66 : cE h_1049 66 (.inr (10, [fI pl, .ref 67, .ref 68, .ref 69, fI ((s : Nat) : Int), .ref 70, .ref 71, fI 0, fI sd, .ref 72, fI tn, fI fp, fI sc0, fJ sc1, fI sc2, fI sc3, fI sc4, fI sc5, .ref 73, .ref 74, .ref 75, .ref 76, .ref 77, .ref 78, fI w24, .ref 79, .ref 80, .ref 81, .ref 82, .ref 83, .ref 84, .ref 85, fJ sb, fJ wa, .ref 86, .ref 87, fI r, .ref 88, .ref 89, .ref 90, .ref 91, .ref 92, .ref 93])) := e_1049_66
      have g_1049_70 : cE h_1049 70 (.inl (.int, fA [ka, pa, fa, kb, pb, v])) := e_1049_70
      have g_1049_71 : cE h_1049 71 (.inl (.int, fA [mx_sp pa fa, mx_sp pb v])) := e_1049_71
      exact absurd p_1049_0 p_1047_0
    · have k_1049 := F_1049.1.trans k_1047
      have g_1049_0 := (F_1049.2 0 (by decide +kernel)).trans g_1047_0
      have g_1049_7 := (F_1049.2 7 (by decide +kernel)).trans g_1047_7
      have g_1049_8 := (F_1049.2 8 (by decide +kernel)).trans g_1047_8
      have g_1049_9 := (F_1049.2 9 (by decide +kernel)).trans g_1047_9
      have g_1049_10 := (F_1049.2 10 (by decide +kernel)).trans g_1047_10
      have g_1049_11 := (F_1049.2 11 (by decide +kernel)).trans g_1047_11
      have g_1049_12 := (F_1049.2 12 (by decide +kernel)).trans g_1047_12
      have g_1049_13 := (F_1049.2 13 (by decide +kernel)).trans g_1047_13
      have g_1049_14 := (F_1049.2 14 (by decide +kernel)).trans g_1047_14
      have g_1049_15 := (F_1049.2 15 (by decide +kernel)).trans g_1047_15
      have g_1049_16 := (F_1049.2 16 (by decide +kernel)).trans g_1047_16
      have g_1049_18 := (F_1049.2 18 (by decide +kernel)).trans g_1047_18
      have g_1049_57 := (F_1049.2 57 (by decide +kernel)).trans g_1047_57
      have g_1049_66 : cE h_1049 66 (.inr (10, [fI pl, .ref 67, .ref 68, .ref 69, fI ((s : Nat) : Int), .ref 70, .ref 71, fI mi, fI sd, .ref 72, fI tn, fI fp, fI sc0, fJ sc1, fI sc2, fI sc3, fI sc4, fI sc5, .ref 73, .ref 74, .ref 75, .ref 76, .ref 77, .ref 78, fI w24, .ref 79, .ref 80, .ref 81, .ref 82, .ref 83, .ref 84, .ref 85, fJ sb, fJ wa, .ref 86, .ref 87, fI r, .ref 88, .ref 89, .ref 90, .ref 91, .ref 92, .ref 93])) := e_1049_66
      have g_1049_70 : cE h_1049 70 (.inl (.int, fA [ka, pa, fa, kb, pb, fb])) := e_1049_70
      have g_1049_71 : cE h_1049 71 (.inl (.int, fA [xa, xb])) := e_1049_71
      refine ⟨rfl, ?_⟩
      have gT_1049 := st_gT_t F_1049 (by decide +kernel) gT_1047
      have gS_1049 := st_gS_t F_1049 (by decide +kernel) gS_1047
      have gV_1049 := st_gV_t F_1049 (by decide +kernel) gV_1047
      have gW_1049 := st_gW_t F_1049 (by decide +kernel) gW_1047
      have gM_1049 := st_gM_t F_1049 (by decide +kernel) gM_1047
      have gR_1049 := st_gR_t F_1049 (by decide +kernel) gR_1047
      have gL_1049 := st_gL_t F_1049 (by decide +kernel) gL_1047
      have gI_1049 := st_gI_t F_1049 (by decide +kernel) gI_1047
      have gJ_1049 := st_gJ_t F_1049 (by decide +kernel) gJ_1047
      have hB_1049 := st_hB_t F_1049 (by decide +kernel) hB_1047
      have hT_1049 := st_hT_t F_1049 (by decide +kernel) hT_1047
      have hS_1049 := st_hS_t F_1049 (by decide +kernel) hS_1047
      have hM_1049 := st_hM_t F_1049 (by decide +kernel) hM_1047
      have hR_1049 := st_hR_t F_1049 (by decide +kernel) hR_1047
      have hL_1049 := st_hL_t F_1049 (by decide +kernel) hL_1047
      have hI_1049 := st_hI_t F_1049 (by decide +kernel) hI_1047
      intro C_ k_
      exact k_ tn fp pl mi sd ka pa fa kb pb fb xa xb r n0 n1 ga0 gm0 gd_0 gs0 g00 g01 g02 g03 g04 g05 gx0 gy0 ga1 gm1 gd_1 gs1 g10 g11 g12 g13 g14 g15 gx1 gy1 s T cn go ch wg wc we rp rt lr ci0 ci1 cnr gor chr T2 im f_pl f_s f_st f_cb f_cr f_rw f_al f_wy f_k f_p f_x (by omega) f_sd f_r f_rr f_n f_l0 f_l1 f_tn f_t (st_I_K f_i0) (st_I_K f_i1) ⟨g_1049_0, g_1049_18, g_1049_57⟩ gT_1049 ⟨g_1049_7, g_1049_8, n8, g_1049_9, n9, g_1049_10, n10, g_1049_11, n11, g_1049_12, n12, g_1049_13, n13⟩ ⟨g_1049_14, g_1049_15, g_1049_16⟩ gS_1049 gV_1049 gW_1049 gM_1049 gR_1049 gL_1049 gI_1049 gJ_1049 ⟨sc0, sc1, sc2, sc3, sc4, sc5, w24, sb, wa, g_1049_66⟩ hB_1049 ⟨g_1049_70, g_1049_71⟩ hT_1049 hS_1049 hM_1049 hR_1049 hL_1049 hI_1049 k_1049

set_option maxRecDepth 100000 in
theorem lk_cork1E {K : Nat} {h : List ik_E} (E : st_S K h) (hK : K ≤ 600) {what : Int} {v : Int} (z_what : -2147483648 ≤ what ∧ what < 2147483648) (z_v : -2147483648 ≤ v ∧ v < 2147483648) (q2 : what < 0 ∨ 2 < what) : ik_F 95 [.ref 0, fI 1, fI what, fI v] h (fun rv h' => ∃ o_ : Int, rv = [fI o_] ∧ (h'.length = 94 ∧ ∃ fs, h'[66]? = some (.inr (10, fs))) ∧ ik_F 158 [.ref 66, fI 1, fI what, fI v] h' (fun rv' h'' => rv' = [fI o_] ∧ st_S (K + 1) h'')) := by
  refine E _ ?_
  intro tn fp pl mi sd ka pa fa kb pb fb xa xb r n0 n1 ga0 gm0 gd_0 gs0 g00 g01 g02 g03 g04 g05 gx0 gy0 ga1 gm1 gd_1 gs1 g10 g11 g12 g13 g14 g15 gx1 gy1 s T cn go ch wg wc we rp rt lr ci0 ci1 cnr gor chr T2 im f_pl f_s f_st f_cb f_cr f_rw f_al f_wy f_k f_p f_x f_m f_sd f_r f_rr f_n f_l0 f_l1 f_tn f_t f_i0 f_i1 gA gT gB gC gS gV gW gM gR gL gI gJ hO hB hC hT hS hM hR hL hI hl
  obtain ⟨h0, h18, h57⟩ := gA
  obtain ⟨sc0, sc1, sc2, sc3, sc4, sc5, w24, sb, wa, h66⟩ := hO
  refine ik_F_mono (cp_cork1E (what := what) (v := v) z_what z_v q2 h0 hl) ?_
  rintro _ h_1050 ⟨rfl, F_1050⟩
  have k_1050 := F_1050.1.trans hl
  have g_1050_0 := (F_1050.2 0 (by decide +kernel)).trans h0
  have g_1050_18 := (F_1050.2 18 (by decide +kernel)).trans h18
  have g_1050_57 := (F_1050.2 57 (by decide +kernel)).trans h57
  have g_1050_66 := (F_1050.2 66 (by decide +kernel)).trans h66
  refine ⟨-1000000002, rfl, ⟨k_1050, _, g_1050_66⟩, ?_⟩
  have gT_1050 := st_gT_t F_1050 (by decide +kernel) gT
  have gB_1050 := st_gB_t F_1050 (by decide +kernel) gB
  have gC_1050 := st_gC_t F_1050 (by decide +kernel) gC
  have gS_1050 := st_gS_t F_1050 (by decide +kernel) gS
  have gV_1050 := st_gV_t F_1050 (by decide +kernel) gV
  have gW_1050 := st_gW_t F_1050 (by decide +kernel) gW
  have gM_1050 := st_gM_t F_1050 (by decide +kernel) gM
  have gR_1050 := st_gR_t F_1050 (by decide +kernel) gR
  have gL_1050 := st_gL_t F_1050 (by decide +kernel) gL
  have gI_1050 := st_gI_t F_1050 (by decide +kernel) gI
  have gJ_1050 := st_gJ_t F_1050 (by decide +kernel) gJ
  have hB_1050 := st_hB_t F_1050 (by decide +kernel) hB
  have hC_1050 := st_hC_t F_1050 (by decide +kernel) hC
  have hT_1050 := st_hT_t F_1050 (by decide +kernel) hT
  have hS_1050 := st_hS_t F_1050 (by decide +kernel) hS
  have hM_1050 := st_hM_t F_1050 (by decide +kernel) hM
  have hR_1050 := st_hR_t F_1050 (by decide +kernel) hR
  have hL_1050 := st_hL_t F_1050 (by decide +kernel) hL
  have hI_1050 := st_hI_t F_1050 (by decide +kernel) hI
  refine ik_F_mono (rp_cork1E (f := fun j => ([pl, 0, 0, 0, ((s : Nat) : Int), 0, 0, mi, sd, 0, tn, fp, sc0, sc1, sc2, sc3, sc4, sc5, 0, 0, 0, 0, 0, 0, w24, 0, 0, 0, 0, 0, 0, 0, sb, wa, 0, 0, r, 0, 0, 0, 0, 0, 0] : List Int).getD j 0) (what := what) (v := v) z_what z_v q2 g_1050_66 k_1050) ?_
  rintro _ h_1051 ⟨rfl, F_1051⟩
  have k_1051 := F_1051.1.trans k_1050
  have g_1051_0 := (F_1051.2 0 (by decide +kernel)).trans g_1050_0
  have g_1051_18 := (F_1051.2 18 (by decide +kernel)).trans g_1050_18
  have g_1051_57 := (F_1051.2 57 (by decide +kernel)).trans g_1050_57
  have g_1051_66 := (F_1051.2 66 (by decide +kernel)).trans g_1050_66
  refine ⟨rfl, ?_⟩
  have gT_1051 := st_gT_t F_1051 (by decide +kernel) gT_1050
  have gB_1051 := st_gB_t F_1051 (by decide +kernel) gB_1050
  have gC_1051 := st_gC_t F_1051 (by decide +kernel) gC_1050
  have gS_1051 := st_gS_t F_1051 (by decide +kernel) gS_1050
  have gV_1051 := st_gV_t F_1051 (by decide +kernel) gV_1050
  have gW_1051 := st_gW_t F_1051 (by decide +kernel) gW_1050
  have gM_1051 := st_gM_t F_1051 (by decide +kernel) gM_1050
  have gR_1051 := st_gR_t F_1051 (by decide +kernel) gR_1050
  have gL_1051 := st_gL_t F_1051 (by decide +kernel) gL_1050
  have gI_1051 := st_gI_t F_1051 (by decide +kernel) gI_1050
  have gJ_1051 := st_gJ_t F_1051 (by decide +kernel) gJ_1050
  have hB_1051 := st_hB_t F_1051 (by decide +kernel) hB_1050
  have hC_1051 := st_hC_t F_1051 (by decide +kernel) hC_1050
  have hT_1051 := st_hT_t F_1051 (by decide +kernel) hT_1050
  have hS_1051 := st_hS_t F_1051 (by decide +kernel) hS_1050
  have hM_1051 := st_hM_t F_1051 (by decide +kernel) hM_1050
  have hR_1051 := st_hR_t F_1051 (by decide +kernel) hR_1050
  have hL_1051 := st_hL_t F_1051 (by decide +kernel) hL_1050
  have hI_1051 := st_hI_t F_1051 (by decide +kernel) hI_1050
  intro C_ k_
  exact k_ tn fp pl mi sd ka pa fa kb pb fb xa xb r n0 n1 ga0 gm0 gd_0 gs0 g00 g01 g02 g03 g04 g05 gx0 gy0 ga1 gm1 gd_1 gs1 g10 g11 g12 g13 g14 g15 gx1 gy1 s T cn go ch wg wc we rp rt lr ci0 ci1 cnr gor chr T2 im f_pl f_s f_st f_cb f_cr f_rw f_al f_wy f_k f_p f_x (by omega) f_sd f_r f_rr f_n f_l0 f_l1 f_tn f_t (st_I_K f_i0) (st_I_K f_i1) ⟨g_1051_0, g_1051_18, g_1051_57⟩ gT_1051 gB_1051 gC_1051 gS_1051 gV_1051 gW_1051 gM_1051 gR_1051 gL_1051 gI_1051 gJ_1051 ⟨sc0, sc1, sc2, sc3, sc4, sc5, w24, sb, wa, g_1051_66⟩ hB_1051 hC_1051 hT_1051 hS_1051 hM_1051 hR_1051 hL_1051 hI_1051 k_1051

set_option maxRecDepth 100000 in
theorem lk_corkE {K : Nat} {h : List ik_E} (E : st_S K h) (hK : K ≤ 600) {side : Int} {what : Int} {v : Int} (z_side : -2147483648 ≤ side ∧ side < 2147483648) (z_what : -2147483648 ≤ what ∧ what < 2147483648) (z_v : -2147483648 ≤ v ∧ v < 2147483648) (n0_ : ¬ side = 0) (n1_ : ¬ side = 1) : ik_F 95 [.ref 0, fI side, fI what, fI v] h (fun rv h' => ∃ o_ : Int, rv = [fI o_] ∧ (h'.length = 94 ∧ ∃ fs, h'[66]? = some (.inr (10, fs))) ∧ ik_F 158 [.ref 66, fI side, fI what, fI v] h' (fun rv' h'' => rv' = [fI o_] ∧ st_S (K + 1) h'')) := by
  refine E _ ?_
  intro tn fp pl mi sd ka pa fa kb pb fb xa xb r n0 n1 ga0 gm0 gd_0 gs0 g00 g01 g02 g03 g04 g05 gx0 gy0 ga1 gm1 gd_1 gs1 g10 g11 g12 g13 g14 g15 gx1 gy1 s T cn go ch wg wc we rp rt lr ci0 ci1 cnr gor chr T2 im f_pl f_s f_st f_cb f_cr f_rw f_al f_wy f_k f_p f_x f_m f_sd f_r f_rr f_n f_l0 f_l1 f_tn f_t f_i0 f_i1 gA gT gB gC gS gV gW gM gR gL gI gJ hO hB hC hT hS hM hR hL hI hl
  obtain ⟨h0, h18, h57⟩ := gA
  obtain ⟨sc0, sc1, sc2, sc3, sc4, sc5, w24, sb, wa, h66⟩ := hO
  refine ik_F_mono (cp_corkE (side := side) (what := what) (v := v) z_side n0_ n1_ h0 hl) ?_
  rintro _ h_1052 ⟨rfl, F_1052⟩
  have k_1052 := F_1052.1.trans hl
  have g_1052_0 := (F_1052.2 0 (by decide +kernel)).trans h0
  have g_1052_18 := (F_1052.2 18 (by decide +kernel)).trans h18
  have g_1052_57 := (F_1052.2 57 (by decide +kernel)).trans h57
  have g_1052_66 := (F_1052.2 66 (by decide +kernel)).trans h66
  refine ⟨-1000000001, rfl, ⟨k_1052, _, g_1052_66⟩, ?_⟩
  have gT_1052 := st_gT_t F_1052 (by decide +kernel) gT
  have gB_1052 := st_gB_t F_1052 (by decide +kernel) gB
  have gC_1052 := st_gC_t F_1052 (by decide +kernel) gC
  have gS_1052 := st_gS_t F_1052 (by decide +kernel) gS
  have gV_1052 := st_gV_t F_1052 (by decide +kernel) gV
  have gW_1052 := st_gW_t F_1052 (by decide +kernel) gW
  have gM_1052 := st_gM_t F_1052 (by decide +kernel) gM
  have gR_1052 := st_gR_t F_1052 (by decide +kernel) gR
  have gL_1052 := st_gL_t F_1052 (by decide +kernel) gL
  have gI_1052 := st_gI_t F_1052 (by decide +kernel) gI
  have gJ_1052 := st_gJ_t F_1052 (by decide +kernel) gJ
  have hB_1052 := st_hB_t F_1052 (by decide +kernel) hB
  have hC_1052 := st_hC_t F_1052 (by decide +kernel) hC
  have hT_1052 := st_hT_t F_1052 (by decide +kernel) hT
  have hS_1052 := st_hS_t F_1052 (by decide +kernel) hS
  have hM_1052 := st_hM_t F_1052 (by decide +kernel) hM
  have hR_1052 := st_hR_t F_1052 (by decide +kernel) hR
  have hL_1052 := st_hL_t F_1052 (by decide +kernel) hL
  have hI_1052 := st_hI_t F_1052 (by decide +kernel) hI
  refine ik_F_mono (rp_corkE (side := side) (what := what) (v := v) (f := fun j => ([pl, 0, 0, 0, ((s : Nat) : Int), 0, 0, mi, sd, 0, tn, fp, sc0, sc1, sc2, sc3, sc4, sc5, 0, 0, 0, 0, 0, 0, w24, 0, 0, 0, 0, 0, 0, 0, sb, wa, 0, 0, r, 0, 0, 0, 0, 0, 0] : List Int).getD j 0) z_side n0_ n1_ g_1052_66 k_1052) ?_
  rintro _ h_1053 ⟨rfl, F_1053⟩
  have k_1053 := F_1053.1.trans k_1052
  have g_1053_0 := (F_1053.2 0 (by decide +kernel)).trans g_1052_0
  have g_1053_18 := (F_1053.2 18 (by decide +kernel)).trans g_1052_18
  have g_1053_57 := (F_1053.2 57 (by decide +kernel)).trans g_1052_57
  have g_1053_66 := (F_1053.2 66 (by decide +kernel)).trans g_1052_66
  refine ⟨rfl, ?_⟩
  have gT_1053 := st_gT_t F_1053 (by decide +kernel) gT_1052
  have gB_1053 := st_gB_t F_1053 (by decide +kernel) gB_1052
  have gC_1053 := st_gC_t F_1053 (by decide +kernel) gC_1052
  have gS_1053 := st_gS_t F_1053 (by decide +kernel) gS_1052
  have gV_1053 := st_gV_t F_1053 (by decide +kernel) gV_1052
  have gW_1053 := st_gW_t F_1053 (by decide +kernel) gW_1052
  have gM_1053 := st_gM_t F_1053 (by decide +kernel) gM_1052
  have gR_1053 := st_gR_t F_1053 (by decide +kernel) gR_1052
  have gL_1053 := st_gL_t F_1053 (by decide +kernel) gL_1052
  have gI_1053 := st_gI_t F_1053 (by decide +kernel) gI_1052
  have gJ_1053 := st_gJ_t F_1053 (by decide +kernel) gJ_1052
  have hB_1053 := st_hB_t F_1053 (by decide +kernel) hB_1052
  have hC_1053 := st_hC_t F_1053 (by decide +kernel) hC_1052
  have hT_1053 := st_hT_t F_1053 (by decide +kernel) hT_1052
  have hS_1053 := st_hS_t F_1053 (by decide +kernel) hS_1052
  have hM_1053 := st_hM_t F_1053 (by decide +kernel) hM_1052
  have hR_1053 := st_hR_t F_1053 (by decide +kernel) hR_1052
  have hL_1053 := st_hL_t F_1053 (by decide +kernel) hL_1052
  have hI_1053 := st_hI_t F_1053 (by decide +kernel) hI_1052
  intro C_ k_
  exact k_ tn fp pl mi sd ka pa fa kb pb fb xa xb r n0 n1 ga0 gm0 gd_0 gs0 g00 g01 g02 g03 g04 g05 gx0 gy0 ga1 gm1 gd_1 gs1 g10 g11 g12 g13 g14 g15 gx1 gy1 s T cn go ch wg wc we rp rt lr ci0 ci1 cnr gor chr T2 im f_pl f_s f_st f_cb f_cr f_rw f_al f_wy f_k f_p f_x (by omega) f_sd f_r f_rr f_n f_l0 f_l1 f_tn f_t (st_I_K f_i0) (st_I_K f_i1) ⟨g_1053_0, g_1053_18, g_1053_57⟩ gT_1053 gB_1053 gC_1053 gS_1053 gV_1053 gW_1053 gM_1053 gR_1053 gL_1053 gI_1053 gJ_1053 ⟨sc0, sc1, sc2, sc3, sc4, sc5, w24, sb, wa, g_1053_66⟩ hB_1053 hC_1053 hT_1053 hS_1053 hM_1053 hR_1053 hL_1053 hI_1053 k_1053
end
