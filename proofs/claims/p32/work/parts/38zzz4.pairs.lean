noncomputable section
set_option maxRecDepth 100000 in
theorem lk_stone0 {K : Nat} {h : List ik_E} (E : st_S K h) (hK : K ≤ 600) {p : Int} (z_p : -2147483648 ≤ p ∧ p < 2147483648)  : ik_F 103 [.ref 0, fI p, fI 0] h (fun rv h' => ∃ o_ : Int, rv = [fI o_] ∧ (h'.length = 94 ∧ ∃ fs, h'[66]? = some (.inr (10, fs))) ∧ ik_F 181 [.ref 66, fI p, fI 0] h' (fun rv' h'' => rv' = [fI o_] ∧ st_S (K + 1) h'')) := by
  refine E _ ?_
  intro tn fp pl mi sd ka pa fa kb pb fb xa xb r n0 n1 ga0 gm0 gd_0 gs0 g00 g01 g02 g03 g04 g05 gx0 gy0 ga1 gm1 gd_1 gs1 g10 g11 g12 g13 g14 g15 gx1 gy1 s T cn go ch wg wc we rp rt lr ci0 ci1 cnr gor chr T2 im f_pl f_s f_st f_cb f_cr f_rw f_al f_wy f_k f_p f_x f_m f_sd f_r f_rr f_n f_l0 f_l1 f_tn f_t f_i0 f_i1 gA gT gB gC gS gV gW gM gR gL gI gJ hO hB hC hT hS hM hR hL hI hl
  obtain ⟨h0, h18, h57⟩ := gA
  obtain ⟨h7, h8, n8, h9, n9, h10, n10, h11, n11, h12, n12, h13, n13⟩ := gB
  obtain ⟨sc0, sc1, sc2, sc3, sc4, sc5, w24, sb, wa, h66⟩ := hO
  refine ik_F_mono (cp_stone0 (pl := pl) (lo := ((mj_lost pl cn go : Nat) : Int)) (s := s) (p := p) (cn := cn) (go := go) (ch := ch) (wg := wg) (wc := wc) (we := we) f_pl f_wy f_rw f_s z_p h0 h7 h8 n8 h9 n9 h10 n10 h11 n11 h12 n12 h13 n13 hl) ?_
  rintro _ h_1115 (⟨rfl, e_1115_7, e_1115_11, m_1115_11, e_1115_12, m_1115_12, e_1115_13, m_1115_13, p_1115_0, p_1115_1, F_1115⟩ | ⟨wg'_1115, wc'_1115, we'_1115, rfl, e_1115_7, e_1115_11, m_1115_11, e_1115_12, m_1115_12, e_1115_13, m_1115_13, p_1115_0, p_1115_1, p_1115_2, F_1115⟩ | ⟨rfl, e_1115_7, e_1115_11, m_1115_11, e_1115_12, m_1115_12, e_1115_13, m_1115_13, p_1115_0, F_1115⟩)
  · have k_1115 := F_1115.1.trans hl
    have g_1115_0 := (F_1115.2 0 (by decide +kernel)).trans h0
    have g_1115_8 := (F_1115.2 8 (by decide +kernel)).trans h8
    have g_1115_9 := (F_1115.2 9 (by decide +kernel)).trans h9
    have g_1115_10 := (F_1115.2 10 (by decide +kernel)).trans h10
    have g_1115_18 := (F_1115.2 18 (by decide +kernel)).trans h18
    have g_1115_57 := (F_1115.2 57 (by decide +kernel)).trans h57
    have g_1115_66 := (F_1115.2 66 (by decide +kernel)).trans h66
    have g_1115_7 : cE h_1115 7 (.inr (0, [fI pl, fI ((s : Nat) : Int), fI ((mj_lost pl cn go : Nat) : Int), .ref 8, .ref 9, .ref 10, .ref 11, .ref 12, .ref 13])) := e_1115_7
    have g_1115_11 : cE h_1115 11 (.inl (.int, fA wg)) := e_1115_11
    have g_1115_12 : cE h_1115 12 (.inl (.int, fA wc)) := e_1115_12
    have g_1115_13 : cE h_1115 13 (.inl (.int, fA we)) := e_1115_13
    refine ⟨0, rfl, ⟨k_1115, _, g_1115_66⟩, ?_⟩
    have gT_1115 := st_gT_t F_1115 (by decide +kernel) gT
    have gC_1115 := st_gC_t F_1115 (by decide +kernel) gC
    have gS_1115 := st_gS_t F_1115 (by decide +kernel) gS
    have gV_1115 := st_gV_t F_1115 (by decide +kernel) gV
    have gW_1115 := st_gW_t F_1115 (by decide +kernel) gW
    have gM_1115 := st_gM_t F_1115 (by decide +kernel) gM
    have gR_1115 := st_gR_t F_1115 (by decide +kernel) gR
    have gL_1115 := st_gL_t F_1115 (by decide +kernel) gL
    have gI_1115 := st_gI_t F_1115 (by decide +kernel) gI
    have gJ_1115 := st_gJ_t F_1115 (by decide +kernel) gJ
    have hB_1115 := st_hB_t F_1115 (by decide +kernel) hB
    have hC_1115 := st_hC_t F_1115 (by decide +kernel) hC
    have hT_1115 := st_hT_t F_1115 (by decide +kernel) hT
    have hS_1115 := st_hS_t F_1115 (by decide +kernel) hS
    have hM_1115 := st_hM_t F_1115 (by decide +kernel) hM
    have hR_1115 := st_hR_t F_1115 (by decide +kernel) hR
    have hL_1115 := st_hL_t F_1115 (by decide +kernel) hL
    have hI_1115 := st_hI_t F_1115 (by decide +kernel) hI
    refine ik_F_mono (rp_stone0 (pl := pl) (s := s) (p := p) (f := fun j => ([0, 0, 0, 0, 0, 0, 0, mi, sd, 0, tn, fp, sc0, sc1, sc2, sc3, sc4, sc5, 0, 0, 0, 0, 0, 0, w24, 0, 0, 0, 0, 0, 0, 0, sb, wa, 0, 0, r, 0, 0, 0, 0, 0, 0] : List Int).getD j 0) f_pl f_s z_p g_1115_66 k_1115) ?_
    rintro _ h_1116 (⟨rfl, e_1116_66, p_1116_0, p_1116_1, F_1116⟩ | ⟨rfl, e_1116_66, p_1116_0, p_1116_1, F_1116⟩ | ⟨rfl, e_1116_66, p_1116_0, F_1116⟩)
    · have k_1116 := F_1116.1.trans k_1115
      have g_1116_0 := (F_1116.2 0 (by decide +kernel)).trans g_1115_0
      have g_1116_7 := (F_1116.2 7 (by decide +kernel)).trans g_1115_7
      have g_1116_8 := (F_1116.2 8 (by decide +kernel)).trans g_1115_8
      have g_1116_9 := (F_1116.2 9 (by decide +kernel)).trans g_1115_9
      have g_1116_10 := (F_1116.2 10 (by decide +kernel)).trans g_1115_10
      have g_1116_11 := (F_1116.2 11 (by decide +kernel)).trans g_1115_11
      have g_1116_12 := (F_1116.2 12 (by decide +kernel)).trans g_1115_12
      have g_1116_13 := (F_1116.2 13 (by decide +kernel)).trans g_1115_13
      have g_1116_18 := (F_1116.2 18 (by decide +kernel)).trans g_1115_18
      have g_1116_57 := (F_1116.2 57 (by decide +kernel)).trans g_1115_57
      have g_1116_66 : cE h_1116 66 (.inr (10, [fI pl, .ref 67, .ref 68, .ref 69, fI ((s : Nat) : Int), .ref 70, .ref 71, fI mi, fI sd, .ref 72, fI tn, fI fp, fI sc0, fJ sc1, fI sc2, fI sc3, fI sc4, fI sc5, .ref 73, .ref 74, .ref 75, .ref 76, .ref 77, .ref 78, fI w24, .ref 79, .ref 80, .ref 81, .ref 82, .ref 83, .ref 84, .ref 85, fJ sb, fJ wa, .ref 86, .ref 87, fI r, .ref 88, .ref 89, .ref 90, .ref 91, .ref 92, .ref 93])) := e_1116_66
      refine ⟨rfl, ?_⟩
      have gT_1116 := st_gT_t F_1116 (by decide +kernel) gT_1115
      have gC_1116 := st_gC_t F_1116 (by decide +kernel) gC_1115
      have gS_1116 := st_gS_t F_1116 (by decide +kernel) gS_1115
      have gV_1116 := st_gV_t F_1116 (by decide +kernel) gV_1115
      have gW_1116 := st_gW_t F_1116 (by decide +kernel) gW_1115
      have gM_1116 := st_gM_t F_1116 (by decide +kernel) gM_1115
      have gR_1116 := st_gR_t F_1116 (by decide +kernel) gR_1115
      have gL_1116 := st_gL_t F_1116 (by decide +kernel) gL_1115
      have gI_1116 := st_gI_t F_1116 (by decide +kernel) gI_1115
      have gJ_1116 := st_gJ_t F_1116 (by decide +kernel) gJ_1115
      have hB_1116 := st_hB_t F_1116 (by decide +kernel) hB_1115
      have hC_1116 := st_hC_t F_1116 (by decide +kernel) hC_1115
      have hT_1116 := st_hT_t F_1116 (by decide +kernel) hT_1115
      have hS_1116 := st_hS_t F_1116 (by decide +kernel) hS_1115
      have hM_1116 := st_hM_t F_1116 (by decide +kernel) hM_1115
      have hR_1116 := st_hR_t F_1116 (by decide +kernel) hR_1115
      have hL_1116 := st_hL_t F_1116 (by decide +kernel) hL_1115
      have hI_1116 := st_hI_t F_1116 (by decide +kernel) hI_1115
      intro C_ k_
      exact k_ tn fp pl mi sd ka pa fa kb pb fb xa xb r n0 n1 ga0 gm0 gd_0 gs0 g00 g01 g02 g03 g04 g05 gx0 gy0 ga1 gm1 gd_1 gs1 g10 g11 g12 g13 g14 g15 gx1 gy1 s T cn go ch wg wc we rp rt lr ci0 ci1 cnr gor chr T2 im f_pl f_s f_st f_cb f_cr f_rw f_al f_wy f_k f_p f_x (by omega) f_sd f_r f_rr f_n f_l0 f_l1 f_tn f_t (st_I_K f_i0) (st_I_K f_i1) ⟨g_1116_0, g_1116_18, g_1116_57⟩ gT_1116 ⟨g_1116_7, g_1116_8, n8, g_1116_9, n9, g_1116_10, n10, g_1116_11, m_1115_11, g_1116_12, m_1115_12, g_1116_13, m_1115_13⟩ gC_1116 gS_1116 gV_1116 gW_1116 gM_1116 gR_1116 gL_1116 gI_1116 gJ_1116 ⟨sc0, sc1, sc2, sc3, sc4, sc5, w24, sb, wa, g_1116_66⟩ hB_1116 hC_1116 hT_1116 hS_1116 hM_1116 hR_1116 hL_1116 hI_1116 k_1116
    · have k_1116 := F_1116.1.trans k_1115
      have g_1116_0 := (F_1116.2 0 (by decide +kernel)).trans g_1115_0
      have g_1116_7 := (F_1116.2 7 (by decide +kernel)).trans g_1115_7
      have g_1116_8 := (F_1116.2 8 (by decide +kernel)).trans g_1115_8
      have g_1116_9 := (F_1116.2 9 (by decide +kernel)).trans g_1115_9
      have g_1116_10 := (F_1116.2 10 (by decide +kernel)).trans g_1115_10
      have g_1116_11 := (F_1116.2 11 (by decide +kernel)).trans g_1115_11
      have g_1116_12 := (F_1116.2 12 (by decide +kernel)).trans g_1115_12
      have g_1116_13 := (F_1116.2 13 (by decide +kernel)).trans g_1115_13
      have g_1116_18 := (F_1116.2 18 (by decide +kernel)).trans g_1115_18
      have g_1116_57 := (F_1116.2 57 (by decide +kernel)).trans g_1115_57
      have g_1116_66 : cE h_1116 66 (.inr (10, [fI pl, .ref 67, .ref 68, .ref 69, fI ((s ^^^ 1 <<< p.toNat : Nat) : Int), .ref 70, .ref 71, fI mi, fI sd, .ref 72, fI tn, fI fp, fI sc0, fJ sc1, fI sc2, fI sc3, fI sc4, fI sc5, .ref 73, .ref 74, .ref 75, .ref 76, .ref 77, .ref 78, fI w24, .ref 79, .ref 80, .ref 81, .ref 82, .ref 83, .ref 84, .ref 85, fJ sb, fJ wa, .ref 86, .ref 87, fI r, .ref 88, .ref 89, .ref 90, .ref 91, .ref 92, .ref 93])) := e_1116_66
      exact absurd (p_1115_0.symm.trans p_1116_0) (by decide +kernel)
    · have k_1116 := F_1116.1.trans k_1115
      have g_1116_0 := (F_1116.2 0 (by decide +kernel)).trans g_1115_0
      have g_1116_7 := (F_1116.2 7 (by decide +kernel)).trans g_1115_7
      have g_1116_8 := (F_1116.2 8 (by decide +kernel)).trans g_1115_8
      have g_1116_9 := (F_1116.2 9 (by decide +kernel)).trans g_1115_9
      have g_1116_10 := (F_1116.2 10 (by decide +kernel)).trans g_1115_10
      have g_1116_11 := (F_1116.2 11 (by decide +kernel)).trans g_1115_11
      have g_1116_12 := (F_1116.2 12 (by decide +kernel)).trans g_1115_12
      have g_1116_13 := (F_1116.2 13 (by decide +kernel)).trans g_1115_13
      have g_1116_18 := (F_1116.2 18 (by decide +kernel)).trans g_1115_18
      have g_1116_57 := (F_1116.2 57 (by decide +kernel)).trans g_1115_57
      have g_1116_66 : cE h_1116 66 (.inr (10, [fI pl, .ref 67, .ref 68, .ref 69, fI ((s : Nat) : Int), .ref 70, .ref 71, fI mi, fI sd, .ref 72, fI tn, fI fp, fI sc0, fJ sc1, fI sc2, fI sc3, fI sc4, fI sc5, .ref 73, .ref 74, .ref 75, .ref 76, .ref 77, .ref 78, fI w24, .ref 79, .ref 80, .ref 81, .ref 82, .ref 83, .ref 84, .ref 85, fJ sb, fJ wa, .ref 86, .ref 87, fI r, .ref 88, .ref 89, .ref 90, .ref 91, .ref 92, .ref 93])) := e_1116_66
      exact absurd p_1115_1 p_1116_0
  · have k_1115 := F_1115.1.trans hl
    have g_1115_0 := (F_1115.2 0 (by decide +kernel)).trans h0
    have g_1115_8 := (F_1115.2 8 (by decide +kernel)).trans h8
    have g_1115_9 := (F_1115.2 9 (by decide +kernel)).trans h9
    have g_1115_10 := (F_1115.2 10 (by decide +kernel)).trans h10
    have g_1115_18 := (F_1115.2 18 (by decide +kernel)).trans h18
    have g_1115_57 := (F_1115.2 57 (by decide +kernel)).trans h57
    have g_1115_66 := (F_1115.2 66 (by decide +kernel)).trans h66
    have g_1115_7 : cE h_1115 7 (.inr (0, [fI pl, fI ((s ^^^ 1 <<< p.toNat : Nat) : Int), fI ((mj_lost pl cn go : Nat) : Int), .ref 8, .ref 9, .ref 10, .ref 11, .ref 12, .ref 13])) := e_1115_7
    have g_1115_11 : cE h_1115 11 (.inl (.int, fA wg'_1115)) := e_1115_11
    have g_1115_12 : cE h_1115 12 (.inl (.int, fA wc'_1115)) := e_1115_12
    have g_1115_13 : cE h_1115 13 (.inl (.int, fA we'_1115)) := e_1115_13
    refine ⟨1, rfl, ⟨k_1115, _, g_1115_66⟩, ?_⟩
    have gT_1115 := st_gT_t F_1115 (by decide +kernel) gT
    have gC_1115 := st_gC_t F_1115 (by decide +kernel) gC
    have gS_1115 := st_gS_t F_1115 (by decide +kernel) gS
    have gV_1115 := st_gV_t F_1115 (by decide +kernel) gV
    have gW_1115 := st_gW_t F_1115 (by decide +kernel) gW
    have gM_1115 := st_gM_t F_1115 (by decide +kernel) gM
    have gR_1115 := st_gR_t F_1115 (by decide +kernel) gR
    have gL_1115 := st_gL_t F_1115 (by decide +kernel) gL
    have gI_1115 := st_gI_t F_1115 (by decide +kernel) gI
    have gJ_1115 := st_gJ_t F_1115 (by decide +kernel) gJ
    have hB_1115 := st_hB_t F_1115 (by decide +kernel) hB
    have hC_1115 := st_hC_t F_1115 (by decide +kernel) hC
    have hT_1115 := st_hT_t F_1115 (by decide +kernel) hT
    have hS_1115 := st_hS_t F_1115 (by decide +kernel) hS
    have hM_1115 := st_hM_t F_1115 (by decide +kernel) hM
    have hR_1115 := st_hR_t F_1115 (by decide +kernel) hR
    have hL_1115 := st_hL_t F_1115 (by decide +kernel) hL
    have hI_1115 := st_hI_t F_1115 (by decide +kernel) hI
    refine ik_F_mono (rp_stone0 (pl := pl) (s := s) (p := p) (f := fun j => ([0, 0, 0, 0, 0, 0, 0, mi, sd, 0, tn, fp, sc0, sc1, sc2, sc3, sc4, sc5, 0, 0, 0, 0, 0, 0, w24, 0, 0, 0, 0, 0, 0, 0, sb, wa, 0, 0, r, 0, 0, 0, 0, 0, 0] : List Int).getD j 0) f_pl f_s z_p g_1115_66 k_1115) ?_
    rintro _ h_1117 (⟨rfl, e_1117_66, p_1117_0, p_1117_1, F_1117⟩ | ⟨rfl, e_1117_66, p_1117_0, p_1117_1, F_1117⟩ | ⟨rfl, e_1117_66, p_1117_0, F_1117⟩)
    · have k_1117 := F_1117.1.trans k_1115
      have g_1117_0 := (F_1117.2 0 (by decide +kernel)).trans g_1115_0
      have g_1117_7 := (F_1117.2 7 (by decide +kernel)).trans g_1115_7
      have g_1117_8 := (F_1117.2 8 (by decide +kernel)).trans g_1115_8
      have g_1117_9 := (F_1117.2 9 (by decide +kernel)).trans g_1115_9
      have g_1117_10 := (F_1117.2 10 (by decide +kernel)).trans g_1115_10
      have g_1117_11 := (F_1117.2 11 (by decide +kernel)).trans g_1115_11
      have g_1117_12 := (F_1117.2 12 (by decide +kernel)).trans g_1115_12
      have g_1117_13 := (F_1117.2 13 (by decide +kernel)).trans g_1115_13
      have g_1117_18 := (F_1117.2 18 (by decide +kernel)).trans g_1115_18
      have g_1117_57 := (F_1117.2 57 (by decide +kernel)).trans g_1115_57
      have g_1117_66 : cE h_1117 66 (.inr (10, [fI pl, .ref 67, .ref 68, .ref 69, fI ((s : Nat) : Int), .ref 70, .ref 71, fI mi, fI sd, .ref 72, fI tn, fI fp, fI sc0, fJ sc1, fI sc2, fI sc3, fI sc4, fI sc5, .ref 73, .ref 74, .ref 75, .ref 76, .ref 77, .ref 78, fI w24, .ref 79, .ref 80, .ref 81, .ref 82, .ref 83, .ref 84, .ref 85, fJ sb, fJ wa, .ref 86, .ref 87, fI r, .ref 88, .ref 89, .ref 90, .ref 91, .ref 92, .ref 93])) := e_1117_66
      exact absurd (p_1115_0.symm.trans p_1117_0) (by decide +kernel)
    · have k_1117 := F_1117.1.trans k_1115
      have g_1117_0 := (F_1117.2 0 (by decide +kernel)).trans g_1115_0
      have g_1117_7 := (F_1117.2 7 (by decide +kernel)).trans g_1115_7
      have g_1117_8 := (F_1117.2 8 (by decide +kernel)).trans g_1115_8
      have g_1117_9 := (F_1117.2 9 (by decide +kernel)).trans g_1115_9
      have g_1117_10 := (F_1117.2 10 (by decide +kernel)).trans g_1115_10
      have g_1117_11 := (F_1117.2 11 (by decide +kernel)).trans g_1115_11
      have g_1117_12 := (F_1117.2 12 (by decide +kernel)).trans g_1115_12
      have g_1117_13 := (F_1117.2 13 (by decide +kernel)).trans g_1115_13
      have g_1117_18 := (F_1117.2 18 (by decide +kernel)).trans g_1115_18
      have g_1117_57 := (F_1117.2 57 (by decide +kernel)).trans g_1115_57
      have g_1117_66 : cE h_1117 66 (.inr (10, [fI pl, .ref 67, .ref 68, .ref 69, fI ((s ^^^ 1 <<< p.toNat : Nat) : Int), .ref 70, .ref 71, fI mi, fI sd, .ref 72, fI tn, fI fp, fI sc0, fJ sc1, fI sc2, fI sc3, fI sc4, fI sc5, .ref 73, .ref 74, .ref 75, .ref 76, .ref 77, .ref 78, fI w24, .ref 79, .ref 80, .ref 81, .ref 82, .ref 83, .ref 84, .ref 85, fJ sb, fJ wa, .ref 86, .ref 87, fI r, .ref 88, .ref 89, .ref 90, .ref 91, .ref 92, .ref 93])) := e_1117_66
      refine ⟨rfl, ?_⟩
      have gT_1117 := st_gT_t F_1117 (by decide +kernel) gT_1115
      have gC_1117 := st_gC_t F_1117 (by decide +kernel) gC_1115
      have gS_1117 := st_gS_t F_1117 (by decide +kernel) gS_1115
      have gV_1117 := st_gV_t F_1117 (by decide +kernel) gV_1115
      have gW_1117 := st_gW_t F_1117 (by decide +kernel) gW_1115
      have gM_1117 := st_gM_t F_1117 (by decide +kernel) gM_1115
      have gR_1117 := st_gR_t F_1117 (by decide +kernel) gR_1115
      have gL_1117 := st_gL_t F_1117 (by decide +kernel) gL_1115
      have gI_1117 := st_gI_t F_1117 (by decide +kernel) gI_1115
      have gJ_1117 := st_gJ_t F_1117 (by decide +kernel) gJ_1115
      have hB_1117 := st_hB_t F_1117 (by decide +kernel) hB_1115
      have hC_1117 := st_hC_t F_1117 (by decide +kernel) hC_1115
      have hT_1117 := st_hT_t F_1117 (by decide +kernel) hT_1115
      have hS_1117 := st_hS_t F_1117 (by decide +kernel) hS_1115
      have hM_1117 := st_hM_t F_1117 (by decide +kernel) hM_1115
      have hR_1117 := st_hR_t F_1117 (by decide +kernel) hR_1115
      have hL_1117 := st_hL_t F_1117 (by decide +kernel) hL_1115
      have hI_1117 := st_hI_t F_1117 (by decide +kernel) hI_1115
      intro C_ k_
      exact k_ tn fp pl mi sd ka pa fa kb pb fb xa xb r n0 n1 ga0 gm0 gd_0 gs0 g00 g01 g02 g03 g04 g05 gx0 gy0 ga1 gm1 gd_1 gs1 g10 g11 g12 g13 g14 g15 gx1 gy1 (s ^^^ 1 <<< p.toNat) T cn go ch wg'_1115 wc'_1115 we'_1115 rp rt lr ci0 ci1 cnr gor chr T2 im f_pl (mx_xor_lt f_s (by omega)) (fun w => by rw [Nat.testBit_xor, f_st w, mf_tb0 (by omega)]; rfl) f_cb f_cr f_rw f_al p_1115_2 f_k f_p f_x (by omega) f_sd f_r f_rr f_n f_l0 f_l1 f_tn f_t (st_I_K f_i0) (st_I_K f_i1) ⟨g_1117_0, g_1117_18, g_1117_57⟩ gT_1117 ⟨g_1117_7, g_1117_8, n8, g_1117_9, n9, g_1117_10, n10, g_1117_11, m_1115_11, g_1117_12, m_1115_12, g_1117_13, m_1115_13⟩ gC_1117 gS_1117 gV_1117 gW_1117 gM_1117 gR_1117 gL_1117 gI_1117 gJ_1117 ⟨sc0, sc1, sc2, sc3, sc4, sc5, w24, sb, wa, g_1117_66⟩ hB_1117 hC_1117 hT_1117 hS_1117 hM_1117 hR_1117 hL_1117 hI_1117 k_1117
    · have k_1117 := F_1117.1.trans k_1115
      have g_1117_0 := (F_1117.2 0 (by decide +kernel)).trans g_1115_0
      have g_1117_7 := (F_1117.2 7 (by decide +kernel)).trans g_1115_7
      have g_1117_8 := (F_1117.2 8 (by decide +kernel)).trans g_1115_8
      have g_1117_9 := (F_1117.2 9 (by decide +kernel)).trans g_1115_9
      have g_1117_10 := (F_1117.2 10 (by decide +kernel)).trans g_1115_10
      have g_1117_11 := (F_1117.2 11 (by decide +kernel)).trans g_1115_11
      have g_1117_12 := (F_1117.2 12 (by decide +kernel)).trans g_1115_12
      have g_1117_13 := (F_1117.2 13 (by decide +kernel)).trans g_1115_13
      have g_1117_18 := (F_1117.2 18 (by decide +kernel)).trans g_1115_18
      have g_1117_57 := (F_1117.2 57 (by decide +kernel)).trans g_1115_57
      have g_1117_66 : cE h_1117 66 (.inr (10, [fI pl, .ref 67, .ref 68, .ref 69, fI ((s : Nat) : Int), .ref 70, .ref 71, fI mi, fI sd, .ref 72, fI tn, fI fp, fI sc0, fJ sc1, fI sc2, fI sc3, fI sc4, fI sc5, .ref 73, .ref 74, .ref 75, .ref 76, .ref 77, .ref 78, fI w24, .ref 79, .ref 80, .ref 81, .ref 82, .ref 83, .ref 84, .ref 85, fJ sb, fJ wa, .ref 86, .ref 87, fI r, .ref 88, .ref 89, .ref 90, .ref 91, .ref 92, .ref 93])) := e_1117_66
      exact absurd p_1115_1 p_1117_0
  · have k_1115 := F_1115.1.trans hl
    have g_1115_0 := (F_1115.2 0 (by decide +kernel)).trans h0
    have g_1115_8 := (F_1115.2 8 (by decide +kernel)).trans h8
    have g_1115_9 := (F_1115.2 9 (by decide +kernel)).trans h9
    have g_1115_10 := (F_1115.2 10 (by decide +kernel)).trans h10
    have g_1115_18 := (F_1115.2 18 (by decide +kernel)).trans h18
    have g_1115_57 := (F_1115.2 57 (by decide +kernel)).trans h57
    have g_1115_66 := (F_1115.2 66 (by decide +kernel)).trans h66
    have g_1115_7 : cE h_1115 7 (.inr (0, [fI pl, fI ((s : Nat) : Int), fI ((mj_lost pl cn go : Nat) : Int), .ref 8, .ref 9, .ref 10, .ref 11, .ref 12, .ref 13])) := e_1115_7
    have g_1115_11 : cE h_1115 11 (.inl (.int, fA wg)) := e_1115_11
    have g_1115_12 : cE h_1115 12 (.inl (.int, fA wc)) := e_1115_12
    have g_1115_13 : cE h_1115 13 (.inl (.int, fA we)) := e_1115_13
    refine ⟨-1000000001, rfl, ⟨k_1115, _, g_1115_66⟩, ?_⟩
    have gT_1115 := st_gT_t F_1115 (by decide +kernel) gT
    have gC_1115 := st_gC_t F_1115 (by decide +kernel) gC
    have gS_1115 := st_gS_t F_1115 (by decide +kernel) gS
    have gV_1115 := st_gV_t F_1115 (by decide +kernel) gV
    have gW_1115 := st_gW_t F_1115 (by decide +kernel) gW
    have gM_1115 := st_gM_t F_1115 (by decide +kernel) gM
    have gR_1115 := st_gR_t F_1115 (by decide +kernel) gR
    have gL_1115 := st_gL_t F_1115 (by decide +kernel) gL
    have gI_1115 := st_gI_t F_1115 (by decide +kernel) gI
    have gJ_1115 := st_gJ_t F_1115 (by decide +kernel) gJ
    have hB_1115 := st_hB_t F_1115 (by decide +kernel) hB
    have hC_1115 := st_hC_t F_1115 (by decide +kernel) hC
    have hT_1115 := st_hT_t F_1115 (by decide +kernel) hT
    have hS_1115 := st_hS_t F_1115 (by decide +kernel) hS
    have hM_1115 := st_hM_t F_1115 (by decide +kernel) hM
    have hR_1115 := st_hR_t F_1115 (by decide +kernel) hR
    have hL_1115 := st_hL_t F_1115 (by decide +kernel) hL
    have hI_1115 := st_hI_t F_1115 (by decide +kernel) hI
    refine ik_F_mono (rp_stone0 (pl := pl) (s := s) (p := p) (f := fun j => ([0, 0, 0, 0, 0, 0, 0, mi, sd, 0, tn, fp, sc0, sc1, sc2, sc3, sc4, sc5, 0, 0, 0, 0, 0, 0, w24, 0, 0, 0, 0, 0, 0, 0, sb, wa, 0, 0, r, 0, 0, 0, 0, 0, 0] : List Int).getD j 0) f_pl f_s z_p g_1115_66 k_1115) ?_
    rintro _ h_1118 (⟨rfl, e_1118_66, p_1118_0, p_1118_1, F_1118⟩ | ⟨rfl, e_1118_66, p_1118_0, p_1118_1, F_1118⟩ | ⟨rfl, e_1118_66, p_1118_0, F_1118⟩)
    · have k_1118 := F_1118.1.trans k_1115
      have g_1118_0 := (F_1118.2 0 (by decide +kernel)).trans g_1115_0
      have g_1118_7 := (F_1118.2 7 (by decide +kernel)).trans g_1115_7
      have g_1118_8 := (F_1118.2 8 (by decide +kernel)).trans g_1115_8
      have g_1118_9 := (F_1118.2 9 (by decide +kernel)).trans g_1115_9
      have g_1118_10 := (F_1118.2 10 (by decide +kernel)).trans g_1115_10
      have g_1118_11 := (F_1118.2 11 (by decide +kernel)).trans g_1115_11
      have g_1118_12 := (F_1118.2 12 (by decide +kernel)).trans g_1115_12
      have g_1118_13 := (F_1118.2 13 (by decide +kernel)).trans g_1115_13
      have g_1118_18 := (F_1118.2 18 (by decide +kernel)).trans g_1115_18
      have g_1118_57 := (F_1118.2 57 (by decide +kernel)).trans g_1115_57
      have g_1118_66 : cE h_1118 66 (.inr (10, [fI pl, .ref 67, .ref 68, .ref 69, fI ((s : Nat) : Int), .ref 70, .ref 71, fI mi, fI sd, .ref 72, fI tn, fI fp, fI sc0, fJ sc1, fI sc2, fI sc3, fI sc4, fI sc5, .ref 73, .ref 74, .ref 75, .ref 76, .ref 77, .ref 78, fI w24, .ref 79, .ref 80, .ref 81, .ref 82, .ref 83, .ref 84, .ref 85, fJ sb, fJ wa, .ref 86, .ref 87, fI r, .ref 88, .ref 89, .ref 90, .ref 91, .ref 92, .ref 93])) := e_1118_66
      exact absurd p_1118_1 p_1115_0
    · have k_1118 := F_1118.1.trans k_1115
      have g_1118_0 := (F_1118.2 0 (by decide +kernel)).trans g_1115_0
      have g_1118_7 := (F_1118.2 7 (by decide +kernel)).trans g_1115_7
      have g_1118_8 := (F_1118.2 8 (by decide +kernel)).trans g_1115_8
      have g_1118_9 := (F_1118.2 9 (by decide +kernel)).trans g_1115_9
      have g_1118_10 := (F_1118.2 10 (by decide +kernel)).trans g_1115_10
      have g_1118_11 := (F_1118.2 11 (by decide +kernel)).trans g_1115_11
      have g_1118_12 := (F_1118.2 12 (by decide +kernel)).trans g_1115_12
      have g_1118_13 := (F_1118.2 13 (by decide +kernel)).trans g_1115_13
      have g_1118_18 := (F_1118.2 18 (by decide +kernel)).trans g_1115_18
      have g_1118_57 := (F_1118.2 57 (by decide +kernel)).trans g_1115_57
      have g_1118_66 : cE h_1118 66 (.inr (10, [fI pl, .ref 67, .ref 68, .ref 69, fI ((s ^^^ 1 <<< p.toNat : Nat) : Int), .ref 70, .ref 71, fI mi, fI sd, .ref 72, fI tn, fI fp, fI sc0, fJ sc1, fI sc2, fI sc3, fI sc4, fI sc5, .ref 73, .ref 74, .ref 75, .ref 76, .ref 77, .ref 78, fI w24, .ref 79, .ref 80, .ref 81, .ref 82, .ref 83, .ref 84, .ref 85, fJ sb, fJ wa, .ref 86, .ref 87, fI r, .ref 88, .ref 89, .ref 90, .ref 91, .ref 92, .ref 93])) := e_1118_66
      exact absurd p_1118_1 p_1115_0
    · have k_1118 := F_1118.1.trans k_1115
      have g_1118_0 := (F_1118.2 0 (by decide +kernel)).trans g_1115_0
      have g_1118_7 := (F_1118.2 7 (by decide +kernel)).trans g_1115_7
      have g_1118_8 := (F_1118.2 8 (by decide +kernel)).trans g_1115_8
      have g_1118_9 := (F_1118.2 9 (by decide +kernel)).trans g_1115_9
      have g_1118_10 := (F_1118.2 10 (by decide +kernel)).trans g_1115_10
      have g_1118_11 := (F_1118.2 11 (by decide +kernel)).trans g_1115_11
      have g_1118_12 := (F_1118.2 12 (by decide +kernel)).trans g_1115_12
      have g_1118_13 := (F_1118.2 13 (by decide +kernel)).trans g_1115_13
      have g_1118_18 := (F_1118.2 18 (by decide +kernel)).trans g_1115_18
      have g_1118_57 := (F_1118.2 57 (by decide +kernel)).trans g_1115_57
      have g_1118_66 : cE h_1118 66 (.inr (10, [fI pl, .ref 67, .ref 68, .ref 69, fI ((s : Nat) : Int), .ref 70, .ref 71, fI mi, fI sd, .ref 72, fI tn, fI fp, fI sc0, fJ sc1, fI sc2, fI sc3, fI sc4, fI sc5, .ref 73, .ref 74, .ref 75, .ref 76, .ref 77, .ref 78, fI w24, .ref 79, .ref 80, .ref 81, .ref 82, .ref 83, .ref 84, .ref 85, fJ sb, fJ wa, .ref 86, .ref 87, fI r, .ref 88, .ref 89, .ref 90, .ref 91, .ref 92, .ref 93])) := e_1118_66
      refine ⟨rfl, ?_⟩
      have gT_1118 := st_gT_t F_1118 (by decide +kernel) gT_1115
      have gC_1118 := st_gC_t F_1118 (by decide +kernel) gC_1115
      have gS_1118 := st_gS_t F_1118 (by decide +kernel) gS_1115
      have gV_1118 := st_gV_t F_1118 (by decide +kernel) gV_1115
      have gW_1118 := st_gW_t F_1118 (by decide +kernel) gW_1115
      have gM_1118 := st_gM_t F_1118 (by decide +kernel) gM_1115
      have gR_1118 := st_gR_t F_1118 (by decide +kernel) gR_1115
      have gL_1118 := st_gL_t F_1118 (by decide +kernel) gL_1115
      have gI_1118 := st_gI_t F_1118 (by decide +kernel) gI_1115
      have gJ_1118 := st_gJ_t F_1118 (by decide +kernel) gJ_1115
      have hB_1118 := st_hB_t F_1118 (by decide +kernel) hB_1115
      have hC_1118 := st_hC_t F_1118 (by decide +kernel) hC_1115
      have hT_1118 := st_hT_t F_1118 (by decide +kernel) hT_1115
      have hS_1118 := st_hS_t F_1118 (by decide +kernel) hS_1115
      have hM_1118 := st_hM_t F_1118 (by decide +kernel) hM_1115
      have hR_1118 := st_hR_t F_1118 (by decide +kernel) hR_1115
      have hL_1118 := st_hL_t F_1118 (by decide +kernel) hL_1115
      have hI_1118 := st_hI_t F_1118 (by decide +kernel) hI_1115
      intro C_ k_
      exact k_ tn fp pl mi sd ka pa fa kb pb fb xa xb r n0 n1 ga0 gm0 gd_0 gs0 g00 g01 g02 g03 g04 g05 gx0 gy0 ga1 gm1 gd_1 gs1 g10 g11 g12 g13 g14 g15 gx1 gy1 s T cn go ch wg wc we rp rt lr ci0 ci1 cnr gor chr T2 im f_pl f_s f_st f_cb f_cr f_rw f_al f_wy f_k f_p f_x (by omega) f_sd f_r f_rr f_n f_l0 f_l1 f_tn f_t (st_I_K f_i0) (st_I_K f_i1) ⟨g_1118_0, g_1118_18, g_1118_57⟩ gT_1118 ⟨g_1118_7, g_1118_8, n8, g_1118_9, n9, g_1118_10, n10, g_1118_11, m_1115_11, g_1118_12, m_1115_12, g_1118_13, m_1115_13⟩ gC_1118 gS_1118 gV_1118 gW_1118 gM_1118 gR_1118 gL_1118 gI_1118 gJ_1118 ⟨sc0, sc1, sc2, sc3, sc4, sc5, w24, sb, wa, g_1118_66⟩ hB_1118 hC_1118 hT_1118 hS_1118 hM_1118 hR_1118 hL_1118 hI_1118 k_1118

set_option maxRecDepth 100000 in
theorem lk_stone1 {K : Nat} {h : List ik_E} (E : st_S K h) (hK : K ≤ 600) {p : Int} (z_p : -2147483648 ≤ p ∧ p < 2147483648)  : ik_F 103 [.ref 0, fI p, fI 1] h (fun rv h' => ∃ o_ : Int, rv = [fI o_] ∧ (h'.length = 94 ∧ ∃ fs, h'[66]? = some (.inr (10, fs))) ∧ ik_F 181 [.ref 66, fI p, fI 1] h' (fun rv' h'' => rv' = [fI o_] ∧ st_S (K + 1) h'')) := by
  refine E _ ?_
  intro tn fp pl mi sd ka pa fa kb pb fb xa xb r n0 n1 ga0 gm0 gd_0 gs0 g00 g01 g02 g03 g04 g05 gx0 gy0 ga1 gm1 gd_1 gs1 g10 g11 g12 g13 g14 g15 gx1 gy1 s T cn go ch wg wc we rp rt lr ci0 ci1 cnr gor chr T2 im f_pl f_s f_st f_cb f_cr f_rw f_al f_wy f_k f_p f_x f_m f_sd f_r f_rr f_n f_l0 f_l1 f_tn f_t f_i0 f_i1 gA gT gB gC gS gV gW gM gR gL gI gJ hO hB hC hT hS hM hR hL hI hl
  obtain ⟨h0, h18, h57⟩ := gA
  obtain ⟨h7, h8, n8, h9, n9, h10, n10, h11, n11, h12, n12, h13, n13⟩ := gB
  obtain ⟨sc0, sc1, sc2, sc3, sc4, sc5, w24, sb, wa, h66⟩ := hO
  refine ik_F_mono (cp_stone1 (pl := pl) (lo := ((mj_lost pl cn go : Nat) : Int)) (s := s) (p := p) (cn := cn) (go := go) (ch := ch) (wg := wg) (wc := wc) (we := we) f_pl f_wy f_rw f_s z_p h0 h7 h8 n8 h9 n9 h10 n10 h11 n11 h12 n12 h13 n13 hl) ?_
  rintro _ h_1119 (⟨rfl, e_1119_7, e_1119_11, m_1119_11, e_1119_12, m_1119_12, e_1119_13, m_1119_13, p_1119_0, p_1119_1, F_1119⟩ | ⟨wg'_1119, wc'_1119, we'_1119, rfl, e_1119_7, e_1119_11, m_1119_11, e_1119_12, m_1119_12, e_1119_13, m_1119_13, p_1119_0, p_1119_1, p_1119_2, F_1119⟩ | ⟨rfl, e_1119_7, e_1119_11, m_1119_11, e_1119_12, m_1119_12, e_1119_13, m_1119_13, p_1119_0, F_1119⟩)
  · have k_1119 := F_1119.1.trans hl
    have g_1119_0 := (F_1119.2 0 (by decide +kernel)).trans h0
    have g_1119_8 := (F_1119.2 8 (by decide +kernel)).trans h8
    have g_1119_9 := (F_1119.2 9 (by decide +kernel)).trans h9
    have g_1119_10 := (F_1119.2 10 (by decide +kernel)).trans h10
    have g_1119_18 := (F_1119.2 18 (by decide +kernel)).trans h18
    have g_1119_57 := (F_1119.2 57 (by decide +kernel)).trans h57
    have g_1119_66 := (F_1119.2 66 (by decide +kernel)).trans h66
    have g_1119_7 : cE h_1119 7 (.inr (0, [fI pl, fI ((s : Nat) : Int), fI ((mj_lost pl cn go : Nat) : Int), .ref 8, .ref 9, .ref 10, .ref 11, .ref 12, .ref 13])) := e_1119_7
    have g_1119_11 : cE h_1119 11 (.inl (.int, fA wg)) := e_1119_11
    have g_1119_12 : cE h_1119 12 (.inl (.int, fA wc)) := e_1119_12
    have g_1119_13 : cE h_1119 13 (.inl (.int, fA we)) := e_1119_13
    refine ⟨1, rfl, ⟨k_1119, _, g_1119_66⟩, ?_⟩
    have gT_1119 := st_gT_t F_1119 (by decide +kernel) gT
    have gC_1119 := st_gC_t F_1119 (by decide +kernel) gC
    have gS_1119 := st_gS_t F_1119 (by decide +kernel) gS
    have gV_1119 := st_gV_t F_1119 (by decide +kernel) gV
    have gW_1119 := st_gW_t F_1119 (by decide +kernel) gW
    have gM_1119 := st_gM_t F_1119 (by decide +kernel) gM
    have gR_1119 := st_gR_t F_1119 (by decide +kernel) gR
    have gL_1119 := st_gL_t F_1119 (by decide +kernel) gL
    have gI_1119 := st_gI_t F_1119 (by decide +kernel) gI
    have gJ_1119 := st_gJ_t F_1119 (by decide +kernel) gJ
    have hB_1119 := st_hB_t F_1119 (by decide +kernel) hB
    have hC_1119 := st_hC_t F_1119 (by decide +kernel) hC
    have hT_1119 := st_hT_t F_1119 (by decide +kernel) hT
    have hS_1119 := st_hS_t F_1119 (by decide +kernel) hS
    have hM_1119 := st_hM_t F_1119 (by decide +kernel) hM
    have hR_1119 := st_hR_t F_1119 (by decide +kernel) hR
    have hL_1119 := st_hL_t F_1119 (by decide +kernel) hL
    have hI_1119 := st_hI_t F_1119 (by decide +kernel) hI
    refine ik_F_mono (rp_stone1 (pl := pl) (s := s) (p := p) (f := fun j => ([0, 0, 0, 0, 0, 0, 0, mi, sd, 0, tn, fp, sc0, sc1, sc2, sc3, sc4, sc5, 0, 0, 0, 0, 0, 0, w24, 0, 0, 0, 0, 0, 0, 0, sb, wa, 0, 0, r, 0, 0, 0, 0, 0, 0] : List Int).getD j 0) f_pl f_s z_p g_1119_66 k_1119) ?_
    rintro _ h_1120 (⟨rfl, e_1120_66, p_1120_0, p_1120_1, F_1120⟩ | ⟨rfl, e_1120_66, p_1120_0, p_1120_1, F_1120⟩ | ⟨rfl, e_1120_66, p_1120_0, F_1120⟩)
    · have k_1120 := F_1120.1.trans k_1119
      have g_1120_0 := (F_1120.2 0 (by decide +kernel)).trans g_1119_0
      have g_1120_7 := (F_1120.2 7 (by decide +kernel)).trans g_1119_7
      have g_1120_8 := (F_1120.2 8 (by decide +kernel)).trans g_1119_8
      have g_1120_9 := (F_1120.2 9 (by decide +kernel)).trans g_1119_9
      have g_1120_10 := (F_1120.2 10 (by decide +kernel)).trans g_1119_10
      have g_1120_11 := (F_1120.2 11 (by decide +kernel)).trans g_1119_11
      have g_1120_12 := (F_1120.2 12 (by decide +kernel)).trans g_1119_12
      have g_1120_13 := (F_1120.2 13 (by decide +kernel)).trans g_1119_13
      have g_1120_18 := (F_1120.2 18 (by decide +kernel)).trans g_1119_18
      have g_1120_57 := (F_1120.2 57 (by decide +kernel)).trans g_1119_57
      have g_1120_66 : cE h_1120 66 (.inr (10, [fI pl, .ref 67, .ref 68, .ref 69, fI ((s : Nat) : Int), .ref 70, .ref 71, fI mi, fI sd, .ref 72, fI tn, fI fp, fI sc0, fJ sc1, fI sc2, fI sc3, fI sc4, fI sc5, .ref 73, .ref 74, .ref 75, .ref 76, .ref 77, .ref 78, fI w24, .ref 79, .ref 80, .ref 81, .ref 82, .ref 83, .ref 84, .ref 85, fJ sb, fJ wa, .ref 86, .ref 87, fI r, .ref 88, .ref 89, .ref 90, .ref 91, .ref 92, .ref 93])) := e_1120_66
      refine ⟨rfl, ?_⟩
      have gT_1120 := st_gT_t F_1120 (by decide +kernel) gT_1119
      have gC_1120 := st_gC_t F_1120 (by decide +kernel) gC_1119
      have gS_1120 := st_gS_t F_1120 (by decide +kernel) gS_1119
      have gV_1120 := st_gV_t F_1120 (by decide +kernel) gV_1119
      have gW_1120 := st_gW_t F_1120 (by decide +kernel) gW_1119
      have gM_1120 := st_gM_t F_1120 (by decide +kernel) gM_1119
      have gR_1120 := st_gR_t F_1120 (by decide +kernel) gR_1119
      have gL_1120 := st_gL_t F_1120 (by decide +kernel) gL_1119
      have gI_1120 := st_gI_t F_1120 (by decide +kernel) gI_1119
      have gJ_1120 := st_gJ_t F_1120 (by decide +kernel) gJ_1119
      have hB_1120 := st_hB_t F_1120 (by decide +kernel) hB_1119
      have hC_1120 := st_hC_t F_1120 (by decide +kernel) hC_1119
      have hT_1120 := st_hT_t F_1120 (by decide +kernel) hT_1119
      have hS_1120 := st_hS_t F_1120 (by decide +kernel) hS_1119
      have hM_1120 := st_hM_t F_1120 (by decide +kernel) hM_1119
      have hR_1120 := st_hR_t F_1120 (by decide +kernel) hR_1119
      have hL_1120 := st_hL_t F_1120 (by decide +kernel) hL_1119
      have hI_1120 := st_hI_t F_1120 (by decide +kernel) hI_1119
      intro C_ k_
      exact k_ tn fp pl mi sd ka pa fa kb pb fb xa xb r n0 n1 ga0 gm0 gd_0 gs0 g00 g01 g02 g03 g04 g05 gx0 gy0 ga1 gm1 gd_1 gs1 g10 g11 g12 g13 g14 g15 gx1 gy1 s T cn go ch wg wc we rp rt lr ci0 ci1 cnr gor chr T2 im f_pl f_s f_st f_cb f_cr f_rw f_al f_wy f_k f_p f_x (by omega) f_sd f_r f_rr f_n f_l0 f_l1 f_tn f_t (st_I_K f_i0) (st_I_K f_i1) ⟨g_1120_0, g_1120_18, g_1120_57⟩ gT_1120 ⟨g_1120_7, g_1120_8, n8, g_1120_9, n9, g_1120_10, n10, g_1120_11, m_1119_11, g_1120_12, m_1119_12, g_1120_13, m_1119_13⟩ gC_1120 gS_1120 gV_1120 gW_1120 gM_1120 gR_1120 gL_1120 gI_1120 gJ_1120 ⟨sc0, sc1, sc2, sc3, sc4, sc5, w24, sb, wa, g_1120_66⟩ hB_1120 hC_1120 hT_1120 hS_1120 hM_1120 hR_1120 hL_1120 hI_1120 k_1120
    · have k_1120 := F_1120.1.trans k_1119
      have g_1120_0 := (F_1120.2 0 (by decide +kernel)).trans g_1119_0
      have g_1120_7 := (F_1120.2 7 (by decide +kernel)).trans g_1119_7
      have g_1120_8 := (F_1120.2 8 (by decide +kernel)).trans g_1119_8
      have g_1120_9 := (F_1120.2 9 (by decide +kernel)).trans g_1119_9
      have g_1120_10 := (F_1120.2 10 (by decide +kernel)).trans g_1119_10
      have g_1120_11 := (F_1120.2 11 (by decide +kernel)).trans g_1119_11
      have g_1120_12 := (F_1120.2 12 (by decide +kernel)).trans g_1119_12
      have g_1120_13 := (F_1120.2 13 (by decide +kernel)).trans g_1119_13
      have g_1120_18 := (F_1120.2 18 (by decide +kernel)).trans g_1119_18
      have g_1120_57 := (F_1120.2 57 (by decide +kernel)).trans g_1119_57
      have g_1120_66 : cE h_1120 66 (.inr (10, [fI pl, .ref 67, .ref 68, .ref 69, fI ((s ^^^ 1 <<< p.toNat : Nat) : Int), .ref 70, .ref 71, fI mi, fI sd, .ref 72, fI tn, fI fp, fI sc0, fJ sc1, fI sc2, fI sc3, fI sc4, fI sc5, .ref 73, .ref 74, .ref 75, .ref 76, .ref 77, .ref 78, fI w24, .ref 79, .ref 80, .ref 81, .ref 82, .ref 83, .ref 84, .ref 85, fJ sb, fJ wa, .ref 86, .ref 87, fI r, .ref 88, .ref 89, .ref 90, .ref 91, .ref 92, .ref 93])) := e_1120_66
      exact absurd (p_1119_0.symm.trans p_1120_0) (by decide +kernel)
    · have k_1120 := F_1120.1.trans k_1119
      have g_1120_0 := (F_1120.2 0 (by decide +kernel)).trans g_1119_0
      have g_1120_7 := (F_1120.2 7 (by decide +kernel)).trans g_1119_7
      have g_1120_8 := (F_1120.2 8 (by decide +kernel)).trans g_1119_8
      have g_1120_9 := (F_1120.2 9 (by decide +kernel)).trans g_1119_9
      have g_1120_10 := (F_1120.2 10 (by decide +kernel)).trans g_1119_10
      have g_1120_11 := (F_1120.2 11 (by decide +kernel)).trans g_1119_11
      have g_1120_12 := (F_1120.2 12 (by decide +kernel)).trans g_1119_12
      have g_1120_13 := (F_1120.2 13 (by decide +kernel)).trans g_1119_13
      have g_1120_18 := (F_1120.2 18 (by decide +kernel)).trans g_1119_18
      have g_1120_57 := (F_1120.2 57 (by decide +kernel)).trans g_1119_57
      have g_1120_66 : cE h_1120 66 (.inr (10, [fI pl, .ref 67, .ref 68, .ref 69, fI ((s : Nat) : Int), .ref 70, .ref 71, fI mi, fI sd, .ref 72, fI tn, fI fp, fI sc0, fJ sc1, fI sc2, fI sc3, fI sc4, fI sc5, .ref 73, .ref 74, .ref 75, .ref 76, .ref 77, .ref 78, fI w24, .ref 79, .ref 80, .ref 81, .ref 82, .ref 83, .ref 84, .ref 85, fJ sb, fJ wa, .ref 86, .ref 87, fI r, .ref 88, .ref 89, .ref 90, .ref 91, .ref 92, .ref 93])) := e_1120_66
      exact absurd p_1119_1 p_1120_0
  · have k_1119 := F_1119.1.trans hl
    have g_1119_0 := (F_1119.2 0 (by decide +kernel)).trans h0
    have g_1119_8 := (F_1119.2 8 (by decide +kernel)).trans h8
    have g_1119_9 := (F_1119.2 9 (by decide +kernel)).trans h9
    have g_1119_10 := (F_1119.2 10 (by decide +kernel)).trans h10
    have g_1119_18 := (F_1119.2 18 (by decide +kernel)).trans h18
    have g_1119_57 := (F_1119.2 57 (by decide +kernel)).trans h57
    have g_1119_66 := (F_1119.2 66 (by decide +kernel)).trans h66
    have g_1119_7 : cE h_1119 7 (.inr (0, [fI pl, fI ((s ^^^ 1 <<< p.toNat : Nat) : Int), fI ((mj_lost pl cn go : Nat) : Int), .ref 8, .ref 9, .ref 10, .ref 11, .ref 12, .ref 13])) := e_1119_7
    have g_1119_11 : cE h_1119 11 (.inl (.int, fA wg'_1119)) := e_1119_11
    have g_1119_12 : cE h_1119 12 (.inl (.int, fA wc'_1119)) := e_1119_12
    have g_1119_13 : cE h_1119 13 (.inl (.int, fA we'_1119)) := e_1119_13
    refine ⟨0, rfl, ⟨k_1119, _, g_1119_66⟩, ?_⟩
    have gT_1119 := st_gT_t F_1119 (by decide +kernel) gT
    have gC_1119 := st_gC_t F_1119 (by decide +kernel) gC
    have gS_1119 := st_gS_t F_1119 (by decide +kernel) gS
    have gV_1119 := st_gV_t F_1119 (by decide +kernel) gV
    have gW_1119 := st_gW_t F_1119 (by decide +kernel) gW
    have gM_1119 := st_gM_t F_1119 (by decide +kernel) gM
    have gR_1119 := st_gR_t F_1119 (by decide +kernel) gR
    have gL_1119 := st_gL_t F_1119 (by decide +kernel) gL
    have gI_1119 := st_gI_t F_1119 (by decide +kernel) gI
    have gJ_1119 := st_gJ_t F_1119 (by decide +kernel) gJ
    have hB_1119 := st_hB_t F_1119 (by decide +kernel) hB
    have hC_1119 := st_hC_t F_1119 (by decide +kernel) hC
    have hT_1119 := st_hT_t F_1119 (by decide +kernel) hT
    have hS_1119 := st_hS_t F_1119 (by decide +kernel) hS
    have hM_1119 := st_hM_t F_1119 (by decide +kernel) hM
    have hR_1119 := st_hR_t F_1119 (by decide +kernel) hR
    have hL_1119 := st_hL_t F_1119 (by decide +kernel) hL
    have hI_1119 := st_hI_t F_1119 (by decide +kernel) hI
    refine ik_F_mono (rp_stone1 (pl := pl) (s := s) (p := p) (f := fun j => ([0, 0, 0, 0, 0, 0, 0, mi, sd, 0, tn, fp, sc0, sc1, sc2, sc3, sc4, sc5, 0, 0, 0, 0, 0, 0, w24, 0, 0, 0, 0, 0, 0, 0, sb, wa, 0, 0, r, 0, 0, 0, 0, 0, 0] : List Int).getD j 0) f_pl f_s z_p g_1119_66 k_1119) ?_
    rintro _ h_1121 (⟨rfl, e_1121_66, p_1121_0, p_1121_1, F_1121⟩ | ⟨rfl, e_1121_66, p_1121_0, p_1121_1, F_1121⟩ | ⟨rfl, e_1121_66, p_1121_0, F_1121⟩)
    · have k_1121 := F_1121.1.trans k_1119
      have g_1121_0 := (F_1121.2 0 (by decide +kernel)).trans g_1119_0
      have g_1121_7 := (F_1121.2 7 (by decide +kernel)).trans g_1119_7
      have g_1121_8 := (F_1121.2 8 (by decide +kernel)).trans g_1119_8
      have g_1121_9 := (F_1121.2 9 (by decide +kernel)).trans g_1119_9
      have g_1121_10 := (F_1121.2 10 (by decide +kernel)).trans g_1119_10
      have g_1121_11 := (F_1121.2 11 (by decide +kernel)).trans g_1119_11
      have g_1121_12 := (F_1121.2 12 (by decide +kernel)).trans g_1119_12
      have g_1121_13 := (F_1121.2 13 (by decide +kernel)).trans g_1119_13
      have g_1121_18 := (F_1121.2 18 (by decide +kernel)).trans g_1119_18
      have g_1121_57 := (F_1121.2 57 (by decide +kernel)).trans g_1119_57
      have g_1121_66 : cE h_1121 66 (.inr (10, [fI pl, .ref 67, .ref 68, .ref 69, fI ((s : Nat) : Int), .ref 70, .ref 71, fI mi, fI sd, .ref 72, fI tn, fI fp, fI sc0, fJ sc1, fI sc2, fI sc3, fI sc4, fI sc5, .ref 73, .ref 74, .ref 75, .ref 76, .ref 77, .ref 78, fI w24, .ref 79, .ref 80, .ref 81, .ref 82, .ref 83, .ref 84, .ref 85, fJ sb, fJ wa, .ref 86, .ref 87, fI r, .ref 88, .ref 89, .ref 90, .ref 91, .ref 92, .ref 93])) := e_1121_66
      exact absurd (p_1119_0.symm.trans p_1121_0) (by decide +kernel)
    · have k_1121 := F_1121.1.trans k_1119
      have g_1121_0 := (F_1121.2 0 (by decide +kernel)).trans g_1119_0
      have g_1121_7 := (F_1121.2 7 (by decide +kernel)).trans g_1119_7
      have g_1121_8 := (F_1121.2 8 (by decide +kernel)).trans g_1119_8
      have g_1121_9 := (F_1121.2 9 (by decide +kernel)).trans g_1119_9
      have g_1121_10 := (F_1121.2 10 (by decide +kernel)).trans g_1119_10
      have g_1121_11 := (F_1121.2 11 (by decide +kernel)).trans g_1119_11
      have g_1121_12 := (F_1121.2 12 (by decide +kernel)).trans g_1119_12
      have g_1121_13 := (F_1121.2 13 (by decide +kernel)).trans g_1119_13
      have g_1121_18 := (F_1121.2 18 (by decide +kernel)).trans g_1119_18
      have g_1121_57 := (F_1121.2 57 (by decide +kernel)).trans g_1119_57
      have g_1121_66 : cE h_1121 66 (.inr (10, [fI pl, .ref 67, .ref 68, .ref 69, fI ((s ^^^ 1 <<< p.toNat : Nat) : Int), .ref 70, .ref 71, fI mi, fI sd, .ref 72, fI tn, fI fp, fI sc0, fJ sc1, fI sc2, fI sc3, fI sc4, fI sc5, .ref 73, .ref 74, .ref 75, .ref 76, .ref 77, .ref 78, fI w24, .ref 79, .ref 80, .ref 81, .ref 82, .ref 83, .ref 84, .ref 85, fJ sb, fJ wa, .ref 86, .ref 87, fI r, .ref 88, .ref 89, .ref 90, .ref 91, .ref 92, .ref 93])) := e_1121_66
      refine ⟨rfl, ?_⟩
      have gT_1121 := st_gT_t F_1121 (by decide +kernel) gT_1119
      have gC_1121 := st_gC_t F_1121 (by decide +kernel) gC_1119
      have gS_1121 := st_gS_t F_1121 (by decide +kernel) gS_1119
      have gV_1121 := st_gV_t F_1121 (by decide +kernel) gV_1119
      have gW_1121 := st_gW_t F_1121 (by decide +kernel) gW_1119
      have gM_1121 := st_gM_t F_1121 (by decide +kernel) gM_1119
      have gR_1121 := st_gR_t F_1121 (by decide +kernel) gR_1119
      have gL_1121 := st_gL_t F_1121 (by decide +kernel) gL_1119
      have gI_1121 := st_gI_t F_1121 (by decide +kernel) gI_1119
      have gJ_1121 := st_gJ_t F_1121 (by decide +kernel) gJ_1119
      have hB_1121 := st_hB_t F_1121 (by decide +kernel) hB_1119
      have hC_1121 := st_hC_t F_1121 (by decide +kernel) hC_1119
      have hT_1121 := st_hT_t F_1121 (by decide +kernel) hT_1119
      have hS_1121 := st_hS_t F_1121 (by decide +kernel) hS_1119
      have hM_1121 := st_hM_t F_1121 (by decide +kernel) hM_1119
      have hR_1121 := st_hR_t F_1121 (by decide +kernel) hR_1119
      have hL_1121 := st_hL_t F_1121 (by decide +kernel) hL_1119
      have hI_1121 := st_hI_t F_1121 (by decide +kernel) hI_1119
      intro C_ k_
      exact k_ tn fp pl mi sd ka pa fa kb pb fb xa xb r n0 n1 ga0 gm0 gd_0 gs0 g00 g01 g02 g03 g04 g05 gx0 gy0 ga1 gm1 gd_1 gs1 g10 g11 g12 g13 g14 g15 gx1 gy1 (s ^^^ 1 <<< p.toNat) T cn go ch wg'_1119 wc'_1119 we'_1119 rp rt lr ci0 ci1 cnr gor chr T2 im f_pl (mx_xor_lt f_s (by omega)) (fun w => by rw [Nat.testBit_xor, f_st w, mf_tb0 (by omega)]; rfl) f_cb f_cr f_rw f_al p_1119_2 f_k f_p f_x (by omega) f_sd f_r f_rr f_n f_l0 f_l1 f_tn f_t (st_I_K f_i0) (st_I_K f_i1) ⟨g_1121_0, g_1121_18, g_1121_57⟩ gT_1121 ⟨g_1121_7, g_1121_8, n8, g_1121_9, n9, g_1121_10, n10, g_1121_11, m_1119_11, g_1121_12, m_1119_12, g_1121_13, m_1119_13⟩ gC_1121 gS_1121 gV_1121 gW_1121 gM_1121 gR_1121 gL_1121 gI_1121 gJ_1121 ⟨sc0, sc1, sc2, sc3, sc4, sc5, w24, sb, wa, g_1121_66⟩ hB_1121 hC_1121 hT_1121 hS_1121 hM_1121 hR_1121 hL_1121 hI_1121 k_1121
    · have k_1121 := F_1121.1.trans k_1119
      have g_1121_0 := (F_1121.2 0 (by decide +kernel)).trans g_1119_0
      have g_1121_7 := (F_1121.2 7 (by decide +kernel)).trans g_1119_7
      have g_1121_8 := (F_1121.2 8 (by decide +kernel)).trans g_1119_8
      have g_1121_9 := (F_1121.2 9 (by decide +kernel)).trans g_1119_9
      have g_1121_10 := (F_1121.2 10 (by decide +kernel)).trans g_1119_10
      have g_1121_11 := (F_1121.2 11 (by decide +kernel)).trans g_1119_11
      have g_1121_12 := (F_1121.2 12 (by decide +kernel)).trans g_1119_12
      have g_1121_13 := (F_1121.2 13 (by decide +kernel)).trans g_1119_13
      have g_1121_18 := (F_1121.2 18 (by decide +kernel)).trans g_1119_18
      have g_1121_57 := (F_1121.2 57 (by decide +kernel)).trans g_1119_57
      have g_1121_66 : cE h_1121 66 (.inr (10, [fI pl, .ref 67, .ref 68, .ref 69, fI ((s : Nat) : Int), .ref 70, .ref 71, fI mi, fI sd, .ref 72, fI tn, fI fp, fI sc0, fJ sc1, fI sc2, fI sc3, fI sc4, fI sc5, .ref 73, .ref 74, .ref 75, .ref 76, .ref 77, .ref 78, fI w24, .ref 79, .ref 80, .ref 81, .ref 82, .ref 83, .ref 84, .ref 85, fJ sb, fJ wa, .ref 86, .ref 87, fI r, .ref 88, .ref 89, .ref 90, .ref 91, .ref 92, .ref 93])) := e_1121_66
      exact absurd p_1119_1 p_1121_0
  · have k_1119 := F_1119.1.trans hl
    have g_1119_0 := (F_1119.2 0 (by decide +kernel)).trans h0
    have g_1119_8 := (F_1119.2 8 (by decide +kernel)).trans h8
    have g_1119_9 := (F_1119.2 9 (by decide +kernel)).trans h9
    have g_1119_10 := (F_1119.2 10 (by decide +kernel)).trans h10
    have g_1119_18 := (F_1119.2 18 (by decide +kernel)).trans h18
    have g_1119_57 := (F_1119.2 57 (by decide +kernel)).trans h57
    have g_1119_66 := (F_1119.2 66 (by decide +kernel)).trans h66
    have g_1119_7 : cE h_1119 7 (.inr (0, [fI pl, fI ((s : Nat) : Int), fI ((mj_lost pl cn go : Nat) : Int), .ref 8, .ref 9, .ref 10, .ref 11, .ref 12, .ref 13])) := e_1119_7
    have g_1119_11 : cE h_1119 11 (.inl (.int, fA wg)) := e_1119_11
    have g_1119_12 : cE h_1119 12 (.inl (.int, fA wc)) := e_1119_12
    have g_1119_13 : cE h_1119 13 (.inl (.int, fA we)) := e_1119_13
    refine ⟨-1000000001, rfl, ⟨k_1119, _, g_1119_66⟩, ?_⟩
    have gT_1119 := st_gT_t F_1119 (by decide +kernel) gT
    have gC_1119 := st_gC_t F_1119 (by decide +kernel) gC
    have gS_1119 := st_gS_t F_1119 (by decide +kernel) gS
    have gV_1119 := st_gV_t F_1119 (by decide +kernel) gV
    have gW_1119 := st_gW_t F_1119 (by decide +kernel) gW
    have gM_1119 := st_gM_t F_1119 (by decide +kernel) gM
    have gR_1119 := st_gR_t F_1119 (by decide +kernel) gR
    have gL_1119 := st_gL_t F_1119 (by decide +kernel) gL
    have gI_1119 := st_gI_t F_1119 (by decide +kernel) gI
    have gJ_1119 := st_gJ_t F_1119 (by decide +kernel) gJ
    have hB_1119 := st_hB_t F_1119 (by decide +kernel) hB
    have hC_1119 := st_hC_t F_1119 (by decide +kernel) hC
    have hT_1119 := st_hT_t F_1119 (by decide +kernel) hT
    have hS_1119 := st_hS_t F_1119 (by decide +kernel) hS
    have hM_1119 := st_hM_t F_1119 (by decide +kernel) hM
    have hR_1119 := st_hR_t F_1119 (by decide +kernel) hR
    have hL_1119 := st_hL_t F_1119 (by decide +kernel) hL
    have hI_1119 := st_hI_t F_1119 (by decide +kernel) hI
    refine ik_F_mono (rp_stone1 (pl := pl) (s := s) (p := p) (f := fun j => ([0, 0, 0, 0, 0, 0, 0, mi, sd, 0, tn, fp, sc0, sc1, sc2, sc3, sc4, sc5, 0, 0, 0, 0, 0, 0, w24, 0, 0, 0, 0, 0, 0, 0, sb, wa, 0, 0, r, 0, 0, 0, 0, 0, 0] : List Int).getD j 0) f_pl f_s z_p g_1119_66 k_1119) ?_
    rintro _ h_1122 (⟨rfl, e_1122_66, p_1122_0, p_1122_1, F_1122⟩ | ⟨rfl, e_1122_66, p_1122_0, p_1122_1, F_1122⟩ | ⟨rfl, e_1122_66, p_1122_0, F_1122⟩)
    · have k_1122 := F_1122.1.trans k_1119
      have g_1122_0 := (F_1122.2 0 (by decide +kernel)).trans g_1119_0
      have g_1122_7 := (F_1122.2 7 (by decide +kernel)).trans g_1119_7
      have g_1122_8 := (F_1122.2 8 (by decide +kernel)).trans g_1119_8
      have g_1122_9 := (F_1122.2 9 (by decide +kernel)).trans g_1119_9
      have g_1122_10 := (F_1122.2 10 (by decide +kernel)).trans g_1119_10
      have g_1122_11 := (F_1122.2 11 (by decide +kernel)).trans g_1119_11
      have g_1122_12 := (F_1122.2 12 (by decide +kernel)).trans g_1119_12
      have g_1122_13 := (F_1122.2 13 (by decide +kernel)).trans g_1119_13
      have g_1122_18 := (F_1122.2 18 (by decide +kernel)).trans g_1119_18
      have g_1122_57 := (F_1122.2 57 (by decide +kernel)).trans g_1119_57
      have g_1122_66 : cE h_1122 66 (.inr (10, [fI pl, .ref 67, .ref 68, .ref 69, fI ((s : Nat) : Int), .ref 70, .ref 71, fI mi, fI sd, .ref 72, fI tn, fI fp, fI sc0, fJ sc1, fI sc2, fI sc3, fI sc4, fI sc5, .ref 73, .ref 74, .ref 75, .ref 76, .ref 77, .ref 78, fI w24, .ref 79, .ref 80, .ref 81, .ref 82, .ref 83, .ref 84, .ref 85, fJ sb, fJ wa, .ref 86, .ref 87, fI r, .ref 88, .ref 89, .ref 90, .ref 91, .ref 92, .ref 93])) := e_1122_66
      exact absurd p_1122_1 p_1119_0
    · have k_1122 := F_1122.1.trans k_1119
      have g_1122_0 := (F_1122.2 0 (by decide +kernel)).trans g_1119_0
      have g_1122_7 := (F_1122.2 7 (by decide +kernel)).trans g_1119_7
      have g_1122_8 := (F_1122.2 8 (by decide +kernel)).trans g_1119_8
      have g_1122_9 := (F_1122.2 9 (by decide +kernel)).trans g_1119_9
      have g_1122_10 := (F_1122.2 10 (by decide +kernel)).trans g_1119_10
      have g_1122_11 := (F_1122.2 11 (by decide +kernel)).trans g_1119_11
      have g_1122_12 := (F_1122.2 12 (by decide +kernel)).trans g_1119_12
      have g_1122_13 := (F_1122.2 13 (by decide +kernel)).trans g_1119_13
      have g_1122_18 := (F_1122.2 18 (by decide +kernel)).trans g_1119_18
      have g_1122_57 := (F_1122.2 57 (by decide +kernel)).trans g_1119_57
      have g_1122_66 : cE h_1122 66 (.inr (10, [fI pl, .ref 67, .ref 68, .ref 69, fI ((s ^^^ 1 <<< p.toNat : Nat) : Int), .ref 70, .ref 71, fI mi, fI sd, .ref 72, fI tn, fI fp, fI sc0, fJ sc1, fI sc2, fI sc3, fI sc4, fI sc5, .ref 73, .ref 74, .ref 75, .ref 76, .ref 77, .ref 78, fI w24, .ref 79, .ref 80, .ref 81, .ref 82, .ref 83, .ref 84, .ref 85, fJ sb, fJ wa, .ref 86, .ref 87, fI r, .ref 88, .ref 89, .ref 90, .ref 91, .ref 92, .ref 93])) := e_1122_66
      exact absurd p_1122_1 p_1119_0
    · have k_1122 := F_1122.1.trans k_1119
      have g_1122_0 := (F_1122.2 0 (by decide +kernel)).trans g_1119_0
      have g_1122_7 := (F_1122.2 7 (by decide +kernel)).trans g_1119_7
      have g_1122_8 := (F_1122.2 8 (by decide +kernel)).trans g_1119_8
      have g_1122_9 := (F_1122.2 9 (by decide +kernel)).trans g_1119_9
      have g_1122_10 := (F_1122.2 10 (by decide +kernel)).trans g_1119_10
      have g_1122_11 := (F_1122.2 11 (by decide +kernel)).trans g_1119_11
      have g_1122_12 := (F_1122.2 12 (by decide +kernel)).trans g_1119_12
      have g_1122_13 := (F_1122.2 13 (by decide +kernel)).trans g_1119_13
      have g_1122_18 := (F_1122.2 18 (by decide +kernel)).trans g_1119_18
      have g_1122_57 := (F_1122.2 57 (by decide +kernel)).trans g_1119_57
      have g_1122_66 : cE h_1122 66 (.inr (10, [fI pl, .ref 67, .ref 68, .ref 69, fI ((s : Nat) : Int), .ref 70, .ref 71, fI mi, fI sd, .ref 72, fI tn, fI fp, fI sc0, fJ sc1, fI sc2, fI sc3, fI sc4, fI sc5, .ref 73, .ref 74, .ref 75, .ref 76, .ref 77, .ref 78, fI w24, .ref 79, .ref 80, .ref 81, .ref 82, .ref 83, .ref 84, .ref 85, fJ sb, fJ wa, .ref 86, .ref 87, fI r, .ref 88, .ref 89, .ref 90, .ref 91, .ref 92, .ref 93])) := e_1122_66
      refine ⟨rfl, ?_⟩
      have gT_1122 := st_gT_t F_1122 (by decide +kernel) gT_1119
      have gC_1122 := st_gC_t F_1122 (by decide +kernel) gC_1119
      have gS_1122 := st_gS_t F_1122 (by decide +kernel) gS_1119
      have gV_1122 := st_gV_t F_1122 (by decide +kernel) gV_1119
      have gW_1122 := st_gW_t F_1122 (by decide +kernel) gW_1119
      have gM_1122 := st_gM_t F_1122 (by decide +kernel) gM_1119
      have gR_1122 := st_gR_t F_1122 (by decide +kernel) gR_1119
      have gL_1122 := st_gL_t F_1122 (by decide +kernel) gL_1119
      have gI_1122 := st_gI_t F_1122 (by decide +kernel) gI_1119
      have gJ_1122 := st_gJ_t F_1122 (by decide +kernel) gJ_1119
      have hB_1122 := st_hB_t F_1122 (by decide +kernel) hB_1119
      have hC_1122 := st_hC_t F_1122 (by decide +kernel) hC_1119
      have hT_1122 := st_hT_t F_1122 (by decide +kernel) hT_1119
      have hS_1122 := st_hS_t F_1122 (by decide +kernel) hS_1119
      have hM_1122 := st_hM_t F_1122 (by decide +kernel) hM_1119
      have hR_1122 := st_hR_t F_1122 (by decide +kernel) hR_1119
      have hL_1122 := st_hL_t F_1122 (by decide +kernel) hL_1119
      have hI_1122 := st_hI_t F_1122 (by decide +kernel) hI_1119
      intro C_ k_
      exact k_ tn fp pl mi sd ka pa fa kb pb fb xa xb r n0 n1 ga0 gm0 gd_0 gs0 g00 g01 g02 g03 g04 g05 gx0 gy0 ga1 gm1 gd_1 gs1 g10 g11 g12 g13 g14 g15 gx1 gy1 s T cn go ch wg wc we rp rt lr ci0 ci1 cnr gor chr T2 im f_pl f_s f_st f_cb f_cr f_rw f_al f_wy f_k f_p f_x (by omega) f_sd f_r f_rr f_n f_l0 f_l1 f_tn f_t (st_I_K f_i0) (st_I_K f_i1) ⟨g_1122_0, g_1122_18, g_1122_57⟩ gT_1122 ⟨g_1122_7, g_1122_8, n8, g_1122_9, n9, g_1122_10, n10, g_1122_11, m_1119_11, g_1122_12, m_1119_12, g_1122_13, m_1119_13⟩ gC_1122 gS_1122 gV_1122 gW_1122 gM_1122 gR_1122 gL_1122 gI_1122 gJ_1122 ⟨sc0, sc1, sc2, sc3, sc4, sc5, w24, sb, wa, g_1122_66⟩ hB_1122 hC_1122 hT_1122 hS_1122 hM_1122 hR_1122 hL_1122 hI_1122 k_1122

set_option maxRecDepth 100000 in
theorem lk_dig {K : Nat} {h : List ik_E} (E : st_S K h) (hK : K ≤ 600) {p : Int} {a : Int} {b : Int} {n : Int} (z_p : -2147483648 ≤ p ∧ p < 2147483648) (z_a : -2147483648 ≤ a ∧ a < 2147483648) (z_b : -2147483648 ≤ b ∧ b < 2147483648) (z_n : -2147483648 ≤ n ∧ n < 2147483648)  : ik_F 109 [.ref 0, fI p, fI a, fI b, fI n] h (fun rv h' => ∃ o_ : Int, rv = [fI o_] ∧ (h'.length = 94 ∧ ∃ fs, h'[66]? = some (.inr (10, fs))) ∧ ik_F 189 [.ref 66, fI p, fI a, fI b, fI n] h' (fun rv' h'' => rv' = [fI o_] ∧ st_S (K + 1) h'')) := by
  refine E _ ?_
  intro tn fp pl mi sd ka pa fa kb pb fb xa xb r n0 n1 ga0 gm0 gd_0 gs0 g00 g01 g02 g03 g04 g05 gx0 gy0 ga1 gm1 gd_1 gs1 g10 g11 g12 g13 g14 g15 gx1 gy1 s T cn go ch wg wc we rp rt lr ci0 ci1 cnr gor chr T2 im f_pl f_s f_st f_cb f_cr f_rw f_al f_wy f_k f_p f_x f_m f_sd f_r f_rr f_n f_l0 f_l1 f_tn f_t f_i0 f_i1 gA gT gB gC gS gV gW gM gR gL gI gJ hO hB hC hT hS hM hR hL hI hl
  obtain ⟨h0, h18, h57⟩ := gA
  obtain ⟨h7, h8, n8, h9, n9, h10, n10, h11, n11, h12, n12, h13, n13⟩ := gB
  obtain ⟨sc0, sc1, sc2, sc3, sc4, sc5, w24, sb, wa, h66⟩ := hO
  obtain ⟨h67, n67, h68, n68, h69, n69⟩ := hB
  have hdg : (((0 ≤ p ∧ p < pl - 1) ∧ (0 ≤ a ∧ a < cn.getD p.toNat 0) ∧ (0 ≤ b ∧ b < cn.getD p.toNat 0) ∧ ¬ a = b) ∧ (1 ≤ n ∧ n ≤ 99) ∧ n < ch.getD (4 * p + a).toNat 0) ↔ (((0 ≤ p ∧ p < pl - 1) ∧ (0 ≤ a ∧ a < cnr.getD p.toNat 0) ∧ (0 ≤ b ∧ b < cnr.getD p.toNat 0) ∧ ¬ a = b) ∧ (1 ≤ n ∧ n ≤ 99) ∧ n < chr.getD (4 * p + a).toNat 0) := by
    constructor
    · intro w
      have z := f_al p w.1.1.1 w.1.1.2
      rw [z.1, (z.2 a w.1.2.1.1 w.1.2.1.2).2]
      exact w
    · intro w
      have z := f_al p w.1.1.1 w.1.1.2
      rw [z.1] at w
      rw [(z.2 a w.1.2.1.1 w.1.2.1.2).2] at w
      exact w
  refine ik_F_mono (cp_dig (pl := pl) (lo := ((mj_lost pl cn go : Nat) : Int)) (s := s) (p := p) (a := a) (b := b) (n := n) (cn := cn) (go := go) (ch := ch) (wg := wg) (wc := wc) (we := we) f_pl f_wy f_rw f_s f_cb z_p z_a z_b z_n h0 h7 h8 n8 h9 n9 h10 n10 h11 n11 h12 n12 h13 n13 hl) ?_
  rintro _ h_1123 (⟨wg'_1123, wc'_1123, we'_1123, rfl, e_1123_10, m_1123_10, e_1123_11, m_1123_11, e_1123_12, m_1123_12, e_1123_13, m_1123_13, p_1123_0, p_1123_1, F_1123⟩ | ⟨rfl, e_1123_10, m_1123_10, e_1123_11, m_1123_11, e_1123_12, m_1123_12, e_1123_13, m_1123_13, p_1123_0, F_1123⟩)
  · have k_1123 := F_1123.1.trans hl
    have g_1123_0 := (F_1123.2 0 (by decide +kernel)).trans h0
    have g_1123_7 := (F_1123.2 7 (by decide +kernel)).trans h7
    have g_1123_8 := (F_1123.2 8 (by decide +kernel)).trans h8
    have g_1123_9 := (F_1123.2 9 (by decide +kernel)).trans h9
    have g_1123_18 := (F_1123.2 18 (by decide +kernel)).trans h18
    have g_1123_57 := (F_1123.2 57 (by decide +kernel)).trans h57
    have g_1123_66 := (F_1123.2 66 (by decide +kernel)).trans h66
    have g_1123_67 := (F_1123.2 67 (by decide +kernel)).trans h67
    have g_1123_68 := (F_1123.2 68 (by decide +kernel)).trans h68
    have g_1123_69 := (F_1123.2 69 (by decide +kernel)).trans h69
    have g_1123_10 : cE h_1123 10 (.inl (.int, fA (mx_sh ch p a b n))) := e_1123_10
    have g_1123_11 : cE h_1123 11 (.inl (.int, fA wg'_1123)) := e_1123_11
    have g_1123_12 : cE h_1123 12 (.inl (.int, fA wc'_1123)) := e_1123_12
    have g_1123_13 : cE h_1123 13 (.inl (.int, fA we'_1123)) := e_1123_13
    refine ⟨ch.getD (4 * p + b).toNat 0 + n, rfl, ⟨k_1123, _, g_1123_66⟩, ?_⟩
    have gT_1123 := st_gT_t F_1123 (by decide +kernel) gT
    have gC_1123 := st_gC_t F_1123 (by decide +kernel) gC
    have gS_1123 := st_gS_t F_1123 (by decide +kernel) gS
    have gV_1123 := st_gV_t F_1123 (by decide +kernel) gV
    have gW_1123 := st_gW_t F_1123 (by decide +kernel) gW
    have gM_1123 := st_gM_t F_1123 (by decide +kernel) gM
    have gR_1123 := st_gR_t F_1123 (by decide +kernel) gR
    have gL_1123 := st_gL_t F_1123 (by decide +kernel) gL
    have gI_1123 := st_gI_t F_1123 (by decide +kernel) gI
    have gJ_1123 := st_gJ_t F_1123 (by decide +kernel) gJ
    have hC_1123 := st_hC_t F_1123 (by decide +kernel) hC
    have hT_1123 := st_hT_t F_1123 (by decide +kernel) hT
    have hS_1123 := st_hS_t F_1123 (by decide +kernel) hS
    have hM_1123 := st_hM_t F_1123 (by decide +kernel) hM
    have hR_1123 := st_hR_t F_1123 (by decide +kernel) hR
    have hL_1123 := st_hL_t F_1123 (by decide +kernel) hL
    have hI_1123 := st_hI_t F_1123 (by decide +kernel) hI
    refine ik_F_mono (rp_dig (f := fun j => ([0, 0, 0, 0, ((s : Nat) : Int), 0, 0, mi, sd, 0, tn, fp, sc0, sc1, sc2, sc3, sc4, sc5, 0, 0, 0, 0, 0, 0, w24, 0, 0, 0, 0, 0, 0, 0, sb, wa, 0, 0, r, 0, 0, 0, 0, 0, 0] : List Int).getD j 0) (pl := pl) (p := p) (a := a) (b := b) (n := n) (cn := cnr) (go := gor) (ch := chr) f_pl (mx_al_rw f_rw f_al) z_p z_a z_b z_n g_1123_66 g_1123_67 n67 g_1123_68 n68 g_1123_69 n69 k_1123) ?_
    rintro _ h_1124 (⟨rfl, e_1124_69, m_1124_69, p_1124_0, F_1124⟩ | ⟨rfl, e_1124_69, m_1124_69, p_1124_0, F_1124⟩)
    · have k_1124 := F_1124.1.trans k_1123
      have g_1124_0 := (F_1124.2 0 (by decide +kernel)).trans g_1123_0
      have g_1124_7 := (F_1124.2 7 (by decide +kernel)).trans g_1123_7
      have g_1124_8 := (F_1124.2 8 (by decide +kernel)).trans g_1123_8
      have g_1124_9 := (F_1124.2 9 (by decide +kernel)).trans g_1123_9
      have g_1124_10 := (F_1124.2 10 (by decide +kernel)).trans g_1123_10
      have g_1124_11 := (F_1124.2 11 (by decide +kernel)).trans g_1123_11
      have g_1124_12 := (F_1124.2 12 (by decide +kernel)).trans g_1123_12
      have g_1124_13 := (F_1124.2 13 (by decide +kernel)).trans g_1123_13
      have g_1124_18 := (F_1124.2 18 (by decide +kernel)).trans g_1123_18
      have g_1124_57 := (F_1124.2 57 (by decide +kernel)).trans g_1123_57
      have g_1124_66 := (F_1124.2 66 (by decide +kernel)).trans g_1123_66
      have g_1124_67 := (F_1124.2 67 (by decide +kernel)).trans g_1123_67
      have g_1124_68 := (F_1124.2 68 (by decide +kernel)).trans g_1123_68
      have g_1124_69 : cE h_1124 69 (.inl (.int, fA (mx_sh chr p a b n))) := e_1124_69
      refine ⟨(congrArg (fun z => [fI z]) (by rw [((f_al p p_1123_0.1.1.1 p_1123_0.1.1.2).2 b p_1123_0.1.2.2.1.1 p_1123_0.1.2.2.1.2).2])), ?_⟩
      have gT_1124 := st_gT_t F_1124 (by decide +kernel) gT_1123
      have gC_1124 := st_gC_t F_1124 (by decide +kernel) gC_1123
      have gS_1124 := st_gS_t F_1124 (by decide +kernel) gS_1123
      have gV_1124 := st_gV_t F_1124 (by decide +kernel) gV_1123
      have gW_1124 := st_gW_t F_1124 (by decide +kernel) gW_1123
      have gM_1124 := st_gM_t F_1124 (by decide +kernel) gM_1123
      have gR_1124 := st_gR_t F_1124 (by decide +kernel) gR_1123
      have gL_1124 := st_gL_t F_1124 (by decide +kernel) gL_1123
      have gI_1124 := st_gI_t F_1124 (by decide +kernel) gI_1123
      have gJ_1124 := st_gJ_t F_1124 (by decide +kernel) gJ_1123
      have hC_1124 := st_hC_t F_1124 (by decide +kernel) hC_1123
      have hT_1124 := st_hT_t F_1124 (by decide +kernel) hT_1123
      have hS_1124 := st_hS_t F_1124 (by decide +kernel) hS_1123
      have hM_1124 := st_hM_t F_1124 (by decide +kernel) hM_1123
      have hR_1124 := st_hR_t F_1124 (by decide +kernel) hR_1123
      have hL_1124 := st_hL_t F_1124 (by decide +kernel) hL_1123
      have hI_1124 := st_hI_t F_1124 (by decide +kernel) hI_1123
      intro C_ k_
      exact k_ tn fp pl mi sd ka pa fa kb pb fb xa xb r n0 n1 ga0 gm0 gd_0 gs0 g00 g01 g02 g03 g04 g05 gx0 gy0 ga1 gm1 gd_1 gs1 g10 g11 g12 g13 g14 g15 gx1 gy1 s T cn go (mx_sh ch p a b n) wg'_1123 wc'_1123 we'_1123 rp rt lr ci0 ci1 cnr gor (mx_sh chr p a b n) T2 im f_pl f_s f_st f_cb f_cr (mx_rw_sh f_rw f_pl.2 p_1123_0.1.1 p_1123_0.1.2.1 p_1123_0.1.2.2.1 p_1123_0.1.2.2.2 n10 (by have := p_1123_0.2.1; omega) (by have := p_1123_0.2.2; omega)) (mx_al_sh f_al f_rw f_pl.2 p_1123_0.1.1 p_1123_0.1.2.1 p_1123_0.1.2.2.1 n10 n69) p_1123_1 f_k f_p f_x (by omega) f_sd f_r f_rr f_n f_l0 f_l1 f_tn f_t (st_I_K f_i0) (st_I_K f_i1) ⟨g_1124_0, g_1124_18, g_1124_57⟩ gT_1124 ⟨g_1124_7, g_1124_8, n8, g_1124_9, n9, g_1124_10, m_1123_10, g_1124_11, m_1123_11, g_1124_12, m_1123_12, g_1124_13, m_1123_13⟩ gC_1124 gS_1124 gV_1124 gW_1124 gM_1124 gR_1124 gL_1124 gI_1124 gJ_1124 ⟨sc0, sc1, sc2, sc3, sc4, sc5, w24, sb, wa, g_1124_66⟩ ⟨g_1124_67, n67, g_1124_68, n68, g_1124_69, m_1124_69⟩ hC_1124 hT_1124 hS_1124 hM_1124 hR_1124 hL_1124 hI_1124 k_1124
    · have k_1124 := F_1124.1.trans k_1123
      have g_1124_0 := (F_1124.2 0 (by decide +kernel)).trans g_1123_0
      have g_1124_7 := (F_1124.2 7 (by decide +kernel)).trans g_1123_7
      have g_1124_8 := (F_1124.2 8 (by decide +kernel)).trans g_1123_8
      have g_1124_9 := (F_1124.2 9 (by decide +kernel)).trans g_1123_9
      have g_1124_10 := (F_1124.2 10 (by decide +kernel)).trans g_1123_10
      have g_1124_11 := (F_1124.2 11 (by decide +kernel)).trans g_1123_11
      have g_1124_12 := (F_1124.2 12 (by decide +kernel)).trans g_1123_12
      have g_1124_13 := (F_1124.2 13 (by decide +kernel)).trans g_1123_13
      have g_1124_18 := (F_1124.2 18 (by decide +kernel)).trans g_1123_18
      have g_1124_57 := (F_1124.2 57 (by decide +kernel)).trans g_1123_57
      have g_1124_66 := (F_1124.2 66 (by decide +kernel)).trans g_1123_66
      have g_1124_67 := (F_1124.2 67 (by decide +kernel)).trans g_1123_67
      have g_1124_68 := (F_1124.2 68 (by decide +kernel)).trans g_1123_68
      have g_1124_69 : cE h_1124 69 (.inl (.int, fA chr)) := e_1124_69
      exact absurd (hdg.mp p_1123_0) p_1124_0
  · have k_1123 := F_1123.1.trans hl
    have g_1123_0 := (F_1123.2 0 (by decide +kernel)).trans h0
    have g_1123_7 := (F_1123.2 7 (by decide +kernel)).trans h7
    have g_1123_8 := (F_1123.2 8 (by decide +kernel)).trans h8
    have g_1123_9 := (F_1123.2 9 (by decide +kernel)).trans h9
    have g_1123_18 := (F_1123.2 18 (by decide +kernel)).trans h18
    have g_1123_57 := (F_1123.2 57 (by decide +kernel)).trans h57
    have g_1123_66 := (F_1123.2 66 (by decide +kernel)).trans h66
    have g_1123_67 := (F_1123.2 67 (by decide +kernel)).trans h67
    have g_1123_68 := (F_1123.2 68 (by decide +kernel)).trans h68
    have g_1123_69 := (F_1123.2 69 (by decide +kernel)).trans h69
    have g_1123_10 : cE h_1123 10 (.inl (.int, fA ch)) := e_1123_10
    have g_1123_11 : cE h_1123 11 (.inl (.int, fA wg)) := e_1123_11
    have g_1123_12 : cE h_1123 12 (.inl (.int, fA wc)) := e_1123_12
    have g_1123_13 : cE h_1123 13 (.inl (.int, fA we)) := e_1123_13
    refine ⟨an_dg pl (cn.getD p.toNat 0) p a b n, rfl, ⟨k_1123, _, g_1123_66⟩, ?_⟩
    have gT_1123 := st_gT_t F_1123 (by decide +kernel) gT
    have gC_1123 := st_gC_t F_1123 (by decide +kernel) gC
    have gS_1123 := st_gS_t F_1123 (by decide +kernel) gS
    have gV_1123 := st_gV_t F_1123 (by decide +kernel) gV
    have gW_1123 := st_gW_t F_1123 (by decide +kernel) gW
    have gM_1123 := st_gM_t F_1123 (by decide +kernel) gM
    have gR_1123 := st_gR_t F_1123 (by decide +kernel) gR
    have gL_1123 := st_gL_t F_1123 (by decide +kernel) gL
    have gI_1123 := st_gI_t F_1123 (by decide +kernel) gI
    have gJ_1123 := st_gJ_t F_1123 (by decide +kernel) gJ
    have hC_1123 := st_hC_t F_1123 (by decide +kernel) hC
    have hT_1123 := st_hT_t F_1123 (by decide +kernel) hT
    have hS_1123 := st_hS_t F_1123 (by decide +kernel) hS
    have hM_1123 := st_hM_t F_1123 (by decide +kernel) hM
    have hR_1123 := st_hR_t F_1123 (by decide +kernel) hR
    have hL_1123 := st_hL_t F_1123 (by decide +kernel) hL
    have hI_1123 := st_hI_t F_1123 (by decide +kernel) hI
    refine ik_F_mono (rp_dig (f := fun j => ([0, 0, 0, 0, ((s : Nat) : Int), 0, 0, mi, sd, 0, tn, fp, sc0, sc1, sc2, sc3, sc4, sc5, 0, 0, 0, 0, 0, 0, w24, 0, 0, 0, 0, 0, 0, 0, sb, wa, 0, 0, r, 0, 0, 0, 0, 0, 0] : List Int).getD j 0) (pl := pl) (p := p) (a := a) (b := b) (n := n) (cn := cnr) (go := gor) (ch := chr) f_pl (mx_al_rw f_rw f_al) z_p z_a z_b z_n g_1123_66 g_1123_67 n67 g_1123_68 n68 g_1123_69 n69 k_1123) ?_
    rintro _ h_1125 (⟨rfl, e_1125_69, m_1125_69, p_1125_0, F_1125⟩ | ⟨rfl, e_1125_69, m_1125_69, p_1125_0, F_1125⟩)
    · have k_1125 := F_1125.1.trans k_1123
      have g_1125_0 := (F_1125.2 0 (by decide +kernel)).trans g_1123_0
      have g_1125_7 := (F_1125.2 7 (by decide +kernel)).trans g_1123_7
      have g_1125_8 := (F_1125.2 8 (by decide +kernel)).trans g_1123_8
      have g_1125_9 := (F_1125.2 9 (by decide +kernel)).trans g_1123_9
      have g_1125_10 := (F_1125.2 10 (by decide +kernel)).trans g_1123_10
      have g_1125_11 := (F_1125.2 11 (by decide +kernel)).trans g_1123_11
      have g_1125_12 := (F_1125.2 12 (by decide +kernel)).trans g_1123_12
      have g_1125_13 := (F_1125.2 13 (by decide +kernel)).trans g_1123_13
      have g_1125_18 := (F_1125.2 18 (by decide +kernel)).trans g_1123_18
      have g_1125_57 := (F_1125.2 57 (by decide +kernel)).trans g_1123_57
      have g_1125_66 := (F_1125.2 66 (by decide +kernel)).trans g_1123_66
      have g_1125_67 := (F_1125.2 67 (by decide +kernel)).trans g_1123_67
      have g_1125_68 := (F_1125.2 68 (by decide +kernel)).trans g_1123_68
      have g_1125_69 : cE h_1125 69 (.inl (.int, fA (mx_sh chr p a b n))) := e_1125_69
      exact absurd (hdg.mpr p_1125_0) p_1123_0
    · have k_1125 := F_1125.1.trans k_1123
      have g_1125_0 := (F_1125.2 0 (by decide +kernel)).trans g_1123_0
      have g_1125_7 := (F_1125.2 7 (by decide +kernel)).trans g_1123_7
      have g_1125_8 := (F_1125.2 8 (by decide +kernel)).trans g_1123_8
      have g_1125_9 := (F_1125.2 9 (by decide +kernel)).trans g_1123_9
      have g_1125_10 := (F_1125.2 10 (by decide +kernel)).trans g_1123_10
      have g_1125_11 := (F_1125.2 11 (by decide +kernel)).trans g_1123_11
      have g_1125_12 := (F_1125.2 12 (by decide +kernel)).trans g_1123_12
      have g_1125_13 := (F_1125.2 13 (by decide +kernel)).trans g_1123_13
      have g_1125_18 := (F_1125.2 18 (by decide +kernel)).trans g_1123_18
      have g_1125_57 := (F_1125.2 57 (by decide +kernel)).trans g_1123_57
      have g_1125_66 := (F_1125.2 66 (by decide +kernel)).trans g_1123_66
      have g_1125_67 := (F_1125.2 67 (by decide +kernel)).trans g_1123_67
      have g_1125_68 := (F_1125.2 68 (by decide +kernel)).trans g_1123_68
      have g_1125_69 : cE h_1125 69 (.inl (.int, fA chr)) := e_1125_69
      refine ⟨(congrArg (fun z => [fI z]) (by unfold an_dg; by_cases w : 0 ≤ p ∧ p < pl - 1; { rw [(f_al p w.1 w.2).1] }; { rw [if_neg (fun z => w z.1), if_neg (fun z => w z.1)] })), ?_⟩
      have gT_1125 := st_gT_t F_1125 (by decide +kernel) gT_1123
      have gC_1125 := st_gC_t F_1125 (by decide +kernel) gC_1123
      have gS_1125 := st_gS_t F_1125 (by decide +kernel) gS_1123
      have gV_1125 := st_gV_t F_1125 (by decide +kernel) gV_1123
      have gW_1125 := st_gW_t F_1125 (by decide +kernel) gW_1123
      have gM_1125 := st_gM_t F_1125 (by decide +kernel) gM_1123
      have gR_1125 := st_gR_t F_1125 (by decide +kernel) gR_1123
      have gL_1125 := st_gL_t F_1125 (by decide +kernel) gL_1123
      have gI_1125 := st_gI_t F_1125 (by decide +kernel) gI_1123
      have gJ_1125 := st_gJ_t F_1125 (by decide +kernel) gJ_1123
      have hC_1125 := st_hC_t F_1125 (by decide +kernel) hC_1123
      have hT_1125 := st_hT_t F_1125 (by decide +kernel) hT_1123
      have hS_1125 := st_hS_t F_1125 (by decide +kernel) hS_1123
      have hM_1125 := st_hM_t F_1125 (by decide +kernel) hM_1123
      have hR_1125 := st_hR_t F_1125 (by decide +kernel) hR_1123
      have hL_1125 := st_hL_t F_1125 (by decide +kernel) hL_1123
      have hI_1125 := st_hI_t F_1125 (by decide +kernel) hI_1123
      intro C_ k_
      exact k_ tn fp pl mi sd ka pa fa kb pb fb xa xb r n0 n1 ga0 gm0 gd_0 gs0 g00 g01 g02 g03 g04 g05 gx0 gy0 ga1 gm1 gd_1 gs1 g10 g11 g12 g13 g14 g15 gx1 gy1 s T cn go ch wg wc we rp rt lr ci0 ci1 cnr gor chr T2 im f_pl f_s f_st f_cb f_cr f_rw f_al f_wy f_k f_p f_x (by omega) f_sd f_r f_rr f_n f_l0 f_l1 f_tn f_t (st_I_K f_i0) (st_I_K f_i1) ⟨g_1125_0, g_1125_18, g_1125_57⟩ gT_1125 ⟨g_1125_7, g_1125_8, n8, g_1125_9, n9, g_1125_10, m_1123_10, g_1125_11, m_1123_11, g_1125_12, m_1123_12, g_1125_13, m_1123_13⟩ gC_1125 gS_1125 gV_1125 gW_1125 gM_1125 gR_1125 gL_1125 gI_1125 gJ_1125 ⟨sc0, sc1, sc2, sc3, sc4, sc5, w24, sb, wa, g_1125_66⟩ ⟨g_1125_67, n67, g_1125_68, n68, g_1125_69, m_1125_69⟩ hC_1125 hT_1125 hS_1125 hM_1125 hR_1125 hL_1125 hI_1125 k_1125

set_option maxRecDepth 100000 in
theorem lk_begin {K : Nat} {h : List ik_E} (E : st_S K h) (hK : K ≤ 600)    : ik_F 113 [.ref 0] h (fun rv h' => ∃ o_ : Int, rv = [fI o_] ∧ (h'.length = 94 ∧ ∃ fs, h'[66]? = some (.inr (10, fs))) ∧ ik_F 201 [.ref 66] h' (fun rv' h'' => rv' = [fI o_] ∧ st_S (K + 1) h'')) := by
  refine E _ ?_
  intro tn fp pl mi sd ka pa fa kb pb fb xa xb r n0 n1 ga0 gm0 gd_0 gs0 g00 g01 g02 g03 g04 g05 gx0 gy0 ga1 gm1 gd_1 gs1 g10 g11 g12 g13 g14 g15 gx1 gy1 s T cn go ch wg wc we rp rt lr ci0 ci1 cnr gor chr T2 im f_pl f_s f_st f_cb f_cr f_rw f_al f_wy f_k f_p f_x f_m f_sd f_r f_rr f_n f_l0 f_l1 f_tn f_t f_i0 f_i1 gA gT gB gC gS gV gW gM gR gL gI gJ hO hB hC hT hS hM hR hL hI hl
  obtain ⟨h0, h18, h57⟩ := gA
  obtain ⟨h14, h15, h16⟩ := gC
  obtain ⟨sc0, sc1, sc2, sc3, sc4, sc5, w24, sb, wa, h66⟩ := hO
  obtain ⟨h70, h71⟩ := hC
  refine ik_F_mono (cp_begin (ka := ka) (pa := pa) (fa := fa) (kb := kb) (pb := pb) (fb := fb) (xa := xa) (xb := xb) (mi := mi) (dr := sd) f_k.2.2.1 f_k.2.2.2.1 h0 h14 h15 h16 hl) ?_
  rintro _ h_1126 ⟨rfl, e_1126_14, e_1126_16, F_1126⟩
  have k_1126 := F_1126.1.trans hl
  have g_1126_0 := (F_1126.2 0 (by decide +kernel)).trans h0
  have g_1126_15 := (F_1126.2 15 (by decide +kernel)).trans h15
  have g_1126_18 := (F_1126.2 18 (by decide +kernel)).trans h18
  have g_1126_57 := (F_1126.2 57 (by decide +kernel)).trans h57
  have g_1126_66 := (F_1126.2 66 (by decide +kernel)).trans h66
  have g_1126_70 := (F_1126.2 70 (by decide +kernel)).trans h70
  have g_1126_71 := (F_1126.2 71 (by decide +kernel)).trans h71
  have g_1126_14 : cE h_1126 14 (.inr (1, [.ref 7, .ref 15, .ref 16, fI 0, fJ sd])) := e_1126_14
  have g_1126_16 : cE h_1126 16 (.inl (.int, fA [mx_sp pa fa, mx_sp pb fb])) := e_1126_16
  refine ⟨mi, rfl, ⟨k_1126, _, g_1126_66⟩, ?_⟩
  have gT_1126 := st_gT_t F_1126 (by decide +kernel) gT
  have gB_1126 := st_gB_t F_1126 (by decide +kernel) gB
  have gS_1126 := st_gS_t F_1126 (by decide +kernel) gS
  have gV_1126 := st_gV_t F_1126 (by decide +kernel) gV
  have gW_1126 := st_gW_t F_1126 (by decide +kernel) gW
  have gM_1126 := st_gM_t F_1126 (by decide +kernel) gM
  have gR_1126 := st_gR_t F_1126 (by decide +kernel) gR
  have gL_1126 := st_gL_t F_1126 (by decide +kernel) gL
  have gI_1126 := st_gI_t F_1126 (by decide +kernel) gI
  have gJ_1126 := st_gJ_t F_1126 (by decide +kernel) gJ
  have hB_1126 := st_hB_t F_1126 (by decide +kernel) hB
  have hT_1126 := st_hT_t F_1126 (by decide +kernel) hT
  have hS_1126 := st_hS_t F_1126 (by decide +kernel) hS
  have hM_1126 := st_hM_t F_1126 (by decide +kernel) hM
  have hR_1126 := st_hR_t F_1126 (by decide +kernel) hR
  have hL_1126 := st_hL_t F_1126 (by decide +kernel) hL
  have hI_1126 := st_hI_t F_1126 (by decide +kernel) hI
  refine ik_F_mono (rp_begin (ka := ka) (pa := pa) (fa := fa) (kb := kb) (pb := pb) (fb := fb) (xa := xa) (xb := xb) (mi := mi) (f := fun j => ([pl, 0, 0, 0, ((s : Nat) : Int), 0, 0, 0, sd, 0, tn, fp, sc0, sc1, sc2, sc3, sc4, sc5, 0, 0, 0, 0, 0, 0, w24, 0, 0, 0, 0, 0, 0, 0, sb, wa, 0, 0, r, 0, 0, 0, 0, 0, 0] : List Int).getD j 0) f_k.2.2.1 f_k.2.2.2.1 g_1126_66 g_1126_70 g_1126_71 k_1126) ?_
  rintro _ h_1127 ⟨rfl, e_1127_66, e_1127_71, F_1127⟩
  have k_1127 := F_1127.1.trans k_1126
  have g_1127_0 := (F_1127.2 0 (by decide +kernel)).trans g_1126_0
  have g_1127_14 := (F_1127.2 14 (by decide +kernel)).trans g_1126_14
  have g_1127_15 := (F_1127.2 15 (by decide +kernel)).trans g_1126_15
  have g_1127_16 := (F_1127.2 16 (by decide +kernel)).trans g_1126_16
  have g_1127_18 := (F_1127.2 18 (by decide +kernel)).trans g_1126_18
  have g_1127_57 := (F_1127.2 57 (by decide +kernel)).trans g_1126_57
  have g_1127_70 := (F_1127.2 70 (by decide +kernel)).trans g_1126_70
  have g_1127_66 : cE h_1127 66 (.inr (10, [fI pl, .ref 67, .ref 68, .ref 69, fI ((s : Nat) : Int), .ref 70, .ref 71, fI 0, fI sd, .ref 72, fI tn, fI fp, fI sc0, fJ sc1, fI sc2, fI sc3, fI sc4, fI sc5, .ref 73, .ref 74, .ref 75, .ref 76, .ref 77, .ref 78, fI w24, .ref 79, .ref 80, .ref 81, .ref 82, .ref 83, .ref 84, .ref 85, fJ sb, fJ wa, .ref 86, .ref 87, fI r, .ref 88, .ref 89, .ref 90, .ref 91, .ref 92, .ref 93])) := e_1127_66
  have g_1127_71 : cE h_1127 71 (.inl (.int, fA [mx_sp pa fa, mx_sp pb fb])) := e_1127_71
  refine ⟨rfl, ?_⟩
  have gT_1127 := st_gT_t F_1127 (by decide +kernel) gT_1126
  have gB_1127 := st_gB_t F_1127 (by decide +kernel) gB_1126
  have gS_1127 := st_gS_t F_1127 (by decide +kernel) gS_1126
  have gV_1127 := st_gV_t F_1127 (by decide +kernel) gV_1126
  have gW_1127 := st_gW_t F_1127 (by decide +kernel) gW_1126
  have gM_1127 := st_gM_t F_1127 (by decide +kernel) gM_1126
  have gR_1127 := st_gR_t F_1127 (by decide +kernel) gR_1126
  have gL_1127 := st_gL_t F_1127 (by decide +kernel) gL_1126
  have gI_1127 := st_gI_t F_1127 (by decide +kernel) gI_1126
  have gJ_1127 := st_gJ_t F_1127 (by decide +kernel) gJ_1126
  have hB_1127 := st_hB_t F_1127 (by decide +kernel) hB_1126
  have hT_1127 := st_hT_t F_1127 (by decide +kernel) hT_1126
  have hS_1127 := st_hS_t F_1127 (by decide +kernel) hS_1126
  have hM_1127 := st_hM_t F_1127 (by decide +kernel) hM_1126
  have hR_1127 := st_hR_t F_1127 (by decide +kernel) hR_1126
  have hL_1127 := st_hL_t F_1127 (by decide +kernel) hL_1126
  have hI_1127 := st_hI_t F_1127 (by decide +kernel) hI_1126
  intro C_ k_
  exact k_ tn fp pl 0 sd ka pa fa kb pb fb (mx_sp pa fa) (mx_sp pb fb) r n0 n1 ga0 gm0 gd_0 gs0 g00 g01 g02 g03 g04 g05 gx0 gy0 ga1 gm1 gd_1 gs1 g10 g11 g12 g13 g14 g15 gx1 gy1 s T cn go ch wg wc we rp rt lr ci0 ci1 cnr gor chr T2 im f_pl f_s f_st f_cb f_cr f_rw f_al f_wy f_k f_p (fun w => by have z := f_p w; have a := mx_sp_b (fr := fa) (show 0 ≤ pa ∧ pa < pl by omega) (by omega); have b := mx_sp_b (fr := fb) (show 0 ≤ pb ∧ pb < pl by omega) (by omega); omega) (by omega) f_sd f_r f_rr f_n f_l0 f_l1 f_tn f_t (st_I_K f_i0) (st_I_K f_i1) ⟨g_1127_0, g_1127_18, g_1127_57⟩ gT_1127 gB_1127 ⟨g_1127_14, g_1127_15, g_1127_16⟩ gS_1127 gV_1127 gW_1127 gM_1127 gR_1127 gL_1127 gI_1127 gJ_1127 ⟨sc0, sc1, sc2, sc3, sc4, sc5, w24, sb, wa, g_1127_66⟩ hB_1127 ⟨g_1127_70, g_1127_71⟩ hT_1127 hS_1127 hM_1127 hR_1127 hL_1127 hI_1127 k_1127

set_option maxRecDepth 100000 in
theorem lk_seed {K : Nat} {h : List ik_E} (E : st_S K h) (hK : K ≤ 600) {v : Int} (z_v : -2147483648 ≤ v ∧ v < 2147483648)  : ik_F 118 [.ref 0, fI v] h (fun rv h' => ∃ o_ : Int, rv = [fI o_] ∧ (h'.length = 94 ∧ ∃ fs, h'[66]? = some (.inr (10, fs))) ∧ ik_F 208 [.ref 66, fI v] h' (fun rv' h'' => rv' = [fI o_] ∧ st_S (K + 1) h'')) := by
  refine E _ ?_
  intro tn fp pl mi sd ka pa fa kb pb fb xa xb r n0 n1 ga0 gm0 gd_0 gs0 g00 g01 g02 g03 g04 g05 gx0 gy0 ga1 gm1 gd_1 gs1 g10 g11 g12 g13 g14 g15 gx1 gy1 s T cn go ch wg wc we rp rt lr ci0 ci1 cnr gor chr T2 im f_pl f_s f_st f_cb f_cr f_rw f_al f_wy f_k f_p f_x f_m f_sd f_r f_rr f_n f_l0 f_l1 f_tn f_t f_i0 f_i1 gA gT gB gC gS gV gW gM gR gL gI gJ hO hB hC hT hS hM hR hL hI hl
  obtain ⟨h0, h18, h57⟩ := gA
  obtain ⟨h14, h15, h16⟩ := gC
  obtain ⟨sc0, sc1, sc2, sc3, sc4, sc5, w24, sb, wa, h66⟩ := hO
  refine ik_F_mono (cp_seed (mi := mi) (sd := sd) (v := v) z_v h0 h14 hl) ?_
  rintro _ h_1128 (⟨rfl, e_1128_14, p_1128_0, F_1128⟩ | ⟨rfl, e_1128_14, p_1128_0, F_1128⟩)
  · have k_1128 := F_1128.1.trans hl
    have g_1128_0 := (F_1128.2 0 (by decide +kernel)).trans h0
    have g_1128_15 := (F_1128.2 15 (by decide +kernel)).trans h15
    have g_1128_16 := (F_1128.2 16 (by decide +kernel)).trans h16
    have g_1128_18 := (F_1128.2 18 (by decide +kernel)).trans h18
    have g_1128_57 := (F_1128.2 57 (by decide +kernel)).trans h57
    have g_1128_66 := (F_1128.2 66 (by decide +kernel)).trans h66
    have g_1128_14 : cE h_1128 14 (.inr (1, [.ref 7, .ref 15, .ref 16, fI mi, fJ v])) := e_1128_14
    refine ⟨sd, rfl, ⟨k_1128, _, g_1128_66⟩, ?_⟩
    have gT_1128 := st_gT_t F_1128 (by decide +kernel) gT
    have gB_1128 := st_gB_t F_1128 (by decide +kernel) gB
    have gS_1128 := st_gS_t F_1128 (by decide +kernel) gS
    have gV_1128 := st_gV_t F_1128 (by decide +kernel) gV
    have gW_1128 := st_gW_t F_1128 (by decide +kernel) gW
    have gM_1128 := st_gM_t F_1128 (by decide +kernel) gM
    have gR_1128 := st_gR_t F_1128 (by decide +kernel) gR
    have gL_1128 := st_gL_t F_1128 (by decide +kernel) gL
    have gI_1128 := st_gI_t F_1128 (by decide +kernel) gI
    have gJ_1128 := st_gJ_t F_1128 (by decide +kernel) gJ
    have hB_1128 := st_hB_t F_1128 (by decide +kernel) hB
    have hC_1128 := st_hC_t F_1128 (by decide +kernel) hC
    have hT_1128 := st_hT_t F_1128 (by decide +kernel) hT
    have hS_1128 := st_hS_t F_1128 (by decide +kernel) hS
    have hM_1128 := st_hM_t F_1128 (by decide +kernel) hM
    have hR_1128 := st_hR_t F_1128 (by decide +kernel) hR
    have hL_1128 := st_hL_t F_1128 (by decide +kernel) hL
    have hI_1128 := st_hI_t F_1128 (by decide +kernel) hI
    refine ik_F_mono (rp_seed (f := fun j => ([pl, 0, 0, 0, ((s : Nat) : Int), 0, 0, mi, 0, 0, tn, fp, sc0, sc1, sc2, sc3, sc4, sc5, 0, 0, 0, 0, 0, 0, w24, 0, 0, 0, 0, 0, 0, 0, sb, wa, 0, 0, r, 0, 0, 0, 0, 0, 0] : List Int).getD j 0) (sd := sd) (v := v) z_v g_1128_66 k_1128) ?_
    rintro _ h_1129 (⟨rfl, e_1129_66, p_1129_0, F_1129⟩ | ⟨rfl, e_1129_66, p_1129_0, F_1129⟩)
    · have k_1129 := F_1129.1.trans k_1128
      have g_1129_0 := (F_1129.2 0 (by decide +kernel)).trans g_1128_0
      have g_1129_14 := (F_1129.2 14 (by decide +kernel)).trans g_1128_14
      have g_1129_15 := (F_1129.2 15 (by decide +kernel)).trans g_1128_15
      have g_1129_16 := (F_1129.2 16 (by decide +kernel)).trans g_1128_16
      have g_1129_18 := (F_1129.2 18 (by decide +kernel)).trans g_1128_18
      have g_1129_57 := (F_1129.2 57 (by decide +kernel)).trans g_1128_57
      have g_1129_66 : cE h_1129 66 (.inr (10, [fI pl, .ref 67, .ref 68, .ref 69, fI ((s : Nat) : Int), .ref 70, .ref 71, fI mi, fI v, .ref 72, fI tn, fI fp, fI sc0, fJ sc1, fI sc2, fI sc3, fI sc4, fI sc5, .ref 73, .ref 74, .ref 75, .ref 76, .ref 77, .ref 78, fI w24, .ref 79, .ref 80, .ref 81, .ref 82, .ref 83, .ref 84, .ref 85, fJ sb, fJ wa, .ref 86, .ref 87, fI r, .ref 88, .ref 89, .ref 90, .ref 91, .ref 92, .ref 93])) := e_1129_66
      refine ⟨rfl, ?_⟩
      have gT_1129 := st_gT_t F_1129 (by decide +kernel) gT_1128
      have gB_1129 := st_gB_t F_1129 (by decide +kernel) gB_1128
      have gS_1129 := st_gS_t F_1129 (by decide +kernel) gS_1128
      have gV_1129 := st_gV_t F_1129 (by decide +kernel) gV_1128
      have gW_1129 := st_gW_t F_1129 (by decide +kernel) gW_1128
      have gM_1129 := st_gM_t F_1129 (by decide +kernel) gM_1128
      have gR_1129 := st_gR_t F_1129 (by decide +kernel) gR_1128
      have gL_1129 := st_gL_t F_1129 (by decide +kernel) gL_1128
      have gI_1129 := st_gI_t F_1129 (by decide +kernel) gI_1128
      have gJ_1129 := st_gJ_t F_1129 (by decide +kernel) gJ_1128
      have hB_1129 := st_hB_t F_1129 (by decide +kernel) hB_1128
      have hC_1129 := st_hC_t F_1129 (by decide +kernel) hC_1128
      have hT_1129 := st_hT_t F_1129 (by decide +kernel) hT_1128
      have hS_1129 := st_hS_t F_1129 (by decide +kernel) hS_1128
      have hM_1129 := st_hM_t F_1129 (by decide +kernel) hM_1128
      have hR_1129 := st_hR_t F_1129 (by decide +kernel) hR_1128
      have hL_1129 := st_hL_t F_1129 (by decide +kernel) hL_1128
      have hI_1129 := st_hI_t F_1129 (by decide +kernel) hI_1128
      intro C_ k_
      exact k_ tn fp pl mi v ka pa fa kb pb fb xa xb r n0 n1 ga0 gm0 gd_0 gs0 g00 g01 g02 g03 g04 g05 gx0 gy0 ga1 gm1 gd_1 gs1 g10 g11 g12 g13 g14 g15 gx1 gy1 s T cn go ch wg wc we rp rt lr ci0 ci1 cnr gor chr T2 im f_pl f_s f_st f_cb f_cr f_rw f_al f_wy f_k f_p f_x (by omega) (by omega) f_r f_rr f_n f_l0 f_l1 f_tn f_t (st_I_K f_i0) (st_I_K f_i1) ⟨g_1129_0, g_1129_18, g_1129_57⟩ gT_1129 gB_1129 ⟨g_1129_14, g_1129_15, g_1129_16⟩ gS_1129 gV_1129 gW_1129 gM_1129 gR_1129 gL_1129 gI_1129 gJ_1129 ⟨sc0, sc1, sc2, sc3, sc4, sc5, w24, sb, wa, g_1129_66⟩ hB_1129 hC_1129 hT_1129 hS_1129 hM_1129 hR_1129 hL_1129 hI_1129 k_1129
    · have k_1129 := F_1129.1.trans k_1128
      have g_1129_0 := (F_1129.2 0 (by decide +kernel)).trans g_1128_0
      have g_1129_14 := (F_1129.2 14 (by decide +kernel)).trans g_1128_14
      have g_1129_15 := (F_1129.2 15 (by decide +kernel)).trans g_1128_15
      have g_1129_16 := (F_1129.2 16 (by decide +kernel)).trans g_1128_16
      have g_1129_18 := (F_1129.2 18 (by decide +kernel)).trans g_1128_18
      have g_1129_57 := (F_1129.2 57 (by decide +kernel)).trans g_1128_57
      have g_1129_66 : cE h_1129 66 (.inr (10, [fI pl, .ref 67, .ref 68, .ref 69, fI ((s : Nat) : Int), .ref 70, .ref 71, fI mi, fI sd, .ref 72, fI tn, fI fp, fI sc0, fJ sc1, fI sc2, fI sc3, fI sc4, fI sc5, .ref 73, .ref 74, .ref 75, .ref 76, .ref 77, .ref 78, fI w24, .ref 79, .ref 80, .ref 81, .ref 82, .ref 83, .ref 84, .ref 85, fJ sb, fJ wa, .ref 86, .ref 87, fI r, .ref 88, .ref 89, .ref 90, .ref 91, .ref 92, .ref 93])) := e_1129_66
      omega
  · have k_1128 := F_1128.1.trans hl
    have g_1128_0 := (F_1128.2 0 (by decide +kernel)).trans h0
    have g_1128_15 := (F_1128.2 15 (by decide +kernel)).trans h15
    have g_1128_16 := (F_1128.2 16 (by decide +kernel)).trans h16
    have g_1128_18 := (F_1128.2 18 (by decide +kernel)).trans h18
    have g_1128_57 := (F_1128.2 57 (by decide +kernel)).trans h57
    have g_1128_66 := (F_1128.2 66 (by decide +kernel)).trans h66
    have g_1128_14 : cE h_1128 14 (.inr (1, [.ref 7, .ref 15, .ref 16, fI mi, fJ sd])) := e_1128_14
    refine ⟨-1000000002, rfl, ⟨k_1128, _, g_1128_66⟩, ?_⟩
    have gT_1128 := st_gT_t F_1128 (by decide +kernel) gT
    have gB_1128 := st_gB_t F_1128 (by decide +kernel) gB
    have gS_1128 := st_gS_t F_1128 (by decide +kernel) gS
    have gV_1128 := st_gV_t F_1128 (by decide +kernel) gV
    have gW_1128 := st_gW_t F_1128 (by decide +kernel) gW
    have gM_1128 := st_gM_t F_1128 (by decide +kernel) gM
    have gR_1128 := st_gR_t F_1128 (by decide +kernel) gR
    have gL_1128 := st_gL_t F_1128 (by decide +kernel) gL
    have gI_1128 := st_gI_t F_1128 (by decide +kernel) gI
    have gJ_1128 := st_gJ_t F_1128 (by decide +kernel) gJ
    have hB_1128 := st_hB_t F_1128 (by decide +kernel) hB
    have hC_1128 := st_hC_t F_1128 (by decide +kernel) hC
    have hT_1128 := st_hT_t F_1128 (by decide +kernel) hT
    have hS_1128 := st_hS_t F_1128 (by decide +kernel) hS
    have hM_1128 := st_hM_t F_1128 (by decide +kernel) hM
    have hR_1128 := st_hR_t F_1128 (by decide +kernel) hR
    have hL_1128 := st_hL_t F_1128 (by decide +kernel) hL
    have hI_1128 := st_hI_t F_1128 (by decide +kernel) hI
    refine ik_F_mono (rp_seed (f := fun j => ([pl, 0, 0, 0, ((s : Nat) : Int), 0, 0, mi, 0, 0, tn, fp, sc0, sc1, sc2, sc3, sc4, sc5, 0, 0, 0, 0, 0, 0, w24, 0, 0, 0, 0, 0, 0, 0, sb, wa, 0, 0, r, 0, 0, 0, 0, 0, 0] : List Int).getD j 0) (sd := sd) (v := v) z_v g_1128_66 k_1128) ?_
    rintro _ h_1130 (⟨rfl, e_1130_66, p_1130_0, F_1130⟩ | ⟨rfl, e_1130_66, p_1130_0, F_1130⟩)
    · have k_1130 := F_1130.1.trans k_1128
      have g_1130_0 := (F_1130.2 0 (by decide +kernel)).trans g_1128_0
      have g_1130_14 := (F_1130.2 14 (by decide +kernel)).trans g_1128_14
      have g_1130_15 := (F_1130.2 15 (by decide +kernel)).trans g_1128_15
      have g_1130_16 := (F_1130.2 16 (by decide +kernel)).trans g_1128_16
      have g_1130_18 := (F_1130.2 18 (by decide +kernel)).trans g_1128_18
      have g_1130_57 := (F_1130.2 57 (by decide +kernel)).trans g_1128_57
      have g_1130_66 : cE h_1130 66 (.inr (10, [fI pl, .ref 67, .ref 68, .ref 69, fI ((s : Nat) : Int), .ref 70, .ref 71, fI mi, fI v, .ref 72, fI tn, fI fp, fI sc0, fJ sc1, fI sc2, fI sc3, fI sc4, fI sc5, .ref 73, .ref 74, .ref 75, .ref 76, .ref 77, .ref 78, fI w24, .ref 79, .ref 80, .ref 81, .ref 82, .ref 83, .ref 84, .ref 85, fJ sb, fJ wa, .ref 86, .ref 87, fI r, .ref 88, .ref 89, .ref 90, .ref 91, .ref 92, .ref 93])) := e_1130_66
      omega
    · have k_1130 := F_1130.1.trans k_1128
      have g_1130_0 := (F_1130.2 0 (by decide +kernel)).trans g_1128_0
      have g_1130_14 := (F_1130.2 14 (by decide +kernel)).trans g_1128_14
      have g_1130_15 := (F_1130.2 15 (by decide +kernel)).trans g_1128_15
      have g_1130_16 := (F_1130.2 16 (by decide +kernel)).trans g_1128_16
      have g_1130_18 := (F_1130.2 18 (by decide +kernel)).trans g_1128_18
      have g_1130_57 := (F_1130.2 57 (by decide +kernel)).trans g_1128_57
      have g_1130_66 : cE h_1130 66 (.inr (10, [fI pl, .ref 67, .ref 68, .ref 69, fI ((s : Nat) : Int), .ref 70, .ref 71, fI mi, fI sd, .ref 72, fI tn, fI fp, fI sc0, fJ sc1, fI sc2, fI sc3, fI sc4, fI sc5, .ref 73, .ref 74, .ref 75, .ref 76, .ref 77, .ref 78, fI w24, .ref 79, .ref 80, .ref 81, .ref 82, .ref 83, .ref 84, .ref 85, fJ sb, fJ wa, .ref 86, .ref 87, fI r, .ref 88, .ref 89, .ref 90, .ref 91, .ref 92, .ref 93])) := e_1130_66
      refine ⟨rfl, ?_⟩
      have gT_1130 := st_gT_t F_1130 (by decide +kernel) gT_1128
      have gB_1130 := st_gB_t F_1130 (by decide +kernel) gB_1128
      have gS_1130 := st_gS_t F_1130 (by decide +kernel) gS_1128
      have gV_1130 := st_gV_t F_1130 (by decide +kernel) gV_1128
      have gW_1130 := st_gW_t F_1130 (by decide +kernel) gW_1128
      have gM_1130 := st_gM_t F_1130 (by decide +kernel) gM_1128
      have gR_1130 := st_gR_t F_1130 (by decide +kernel) gR_1128
      have gL_1130 := st_gL_t F_1130 (by decide +kernel) gL_1128
      have gI_1130 := st_gI_t F_1130 (by decide +kernel) gI_1128
      have gJ_1130 := st_gJ_t F_1130 (by decide +kernel) gJ_1128
      have hB_1130 := st_hB_t F_1130 (by decide +kernel) hB_1128
      have hC_1130 := st_hC_t F_1130 (by decide +kernel) hC_1128
      have hT_1130 := st_hT_t F_1130 (by decide +kernel) hT_1128
      have hS_1130 := st_hS_t F_1130 (by decide +kernel) hS_1128
      have hM_1130 := st_hM_t F_1130 (by decide +kernel) hM_1128
      have hR_1130 := st_hR_t F_1130 (by decide +kernel) hR_1128
      have hL_1130 := st_hL_t F_1130 (by decide +kernel) hL_1128
      have hI_1130 := st_hI_t F_1130 (by decide +kernel) hI_1128
      intro C_ k_
      exact k_ tn fp pl mi sd ka pa fa kb pb fb xa xb r n0 n1 ga0 gm0 gd_0 gs0 g00 g01 g02 g03 g04 g05 gx0 gy0 ga1 gm1 gd_1 gs1 g10 g11 g12 g13 g14 g15 gx1 gy1 s T cn go ch wg wc we rp rt lr ci0 ci1 cnr gor chr T2 im f_pl f_s f_st f_cb f_cr f_rw f_al f_wy f_k f_p f_x (by omega) f_sd f_r f_rr f_n f_l0 f_l1 f_tn f_t (st_I_K f_i0) (st_I_K f_i1) ⟨g_1130_0, g_1130_18, g_1130_57⟩ gT_1130 gB_1130 ⟨g_1130_14, g_1130_15, g_1130_16⟩ gS_1130 gV_1130 gW_1130 gM_1130 gR_1130 gL_1130 gI_1130 gJ_1130 ⟨sc0, sc1, sc2, sc3, sc4, sc5, w24, sb, wa, g_1130_66⟩ hB_1130 hC_1130 hT_1130 hS_1130 hM_1130 hR_1130 hL_1130 hI_1130 k_1130

set_option maxRecDepth 100000 in
theorem lk_morning {K : Nat} {h : List ik_E} (E : st_S K h) (hK : K ≤ 600) {n : Int} (z_n : -2147483648 ≤ n ∧ n < 2147483648)  : ik_F 114 [.ref 0, fI n] h (fun rv h' => ∃ o_ : Int, rv = [fI o_] ∧ (h'.length = 94 ∧ ∃ fs, h'[66]? = some (.inr (10, fs))) ∧ ik_F 202 [.ref 66, fI n] h' (fun rv' h'' => rv' = [fI o_] ∧ st_S (K + 1) h'')) := by
  refine E _ ?_
  intro tn fp pl mi sd ka pa fa kb pb fb xa xb r n0 n1 ga0 gm0 gd_0 gs0 g00 g01 g02 g03 g04 g05 gx0 gy0 ga1 gm1 gd_1 gs1 g10 g11 g12 g13 g14 g15 gx1 gy1 s T cn go ch wg wc we rp rt lr ci0 ci1 cnr gor chr T2 im f_pl f_s f_st f_cb f_cr f_rw f_al f_wy f_k f_p f_x f_m f_sd f_r f_rr f_n f_l0 f_l1 f_tn f_t f_i0 f_i1 gA gT gB gC gS gV gW gM gR gL gI gJ hO hB hC hT hS hM hR hL hI hl
  obtain ⟨h0, h18, h57⟩ := gA
  obtain ⟨h7, h8, n8, h9, n9, h10, n10, h11, n11, h12, n12, h13, n13⟩ := gB
  obtain ⟨h14, h15, h16⟩ := gC
  obtain ⟨sc0, sc1, sc2, sc3, sc4, sc5, w24, sb, wa, h66⟩ := hO
  obtain ⟨h67, n67, h68, n68, h69, n69⟩ := hB
  obtain ⟨h70, h71⟩ := hC
  obtain ⟨gt, gdd, xs, ys, r1, r2, h77, n77, h78, n78, h79, n79, h80, n80, h81, n81, h82, n82⟩ := hS
  have hq3 : 0 ≤ mi ∧ mi < 1999999000 := by omega
  refine ik_F_mono (cp_morning (pl := pl) (mi := mi) (sd := sd) (ka := ka) (pa := pa) (fa := fa) (kb := kb) (pb := pb) (fb := fb) (xa := xa) (xb := xb) (s := s) (cn := cnr) (go := gor) (ch := chr) (n := n) (lo := ((mj_lost pl cn go : Nat) : Int)) (wg := wg) (wc := wc) (we := we) f_pl f_s f_sd (by omega) (fun x h0 h1 => by have e := mx_al_w f_rw f_al s x h0 h1; exact e.symm ▸ f_wy x h0 h1) (mx_rw_ok (mx_al_rw f_rw f_al) _) f_k.1 f_k.2.1 f_k.2.2.1 f_k.2.2.2.1 (fun w => (f_p w).1) (fun w => (f_p w).2) f_x z_n h0 h7 h11 n11 h12 n12 h13 n13 h14 h15 h16 hl) ?_
  rintro _ h_1131 (⟨rfl, e_1131_14, e_1131_16, p_1131_0, F_1131⟩ | ⟨rfl, e_1131_14, e_1131_16, p_1131_0, F_1131⟩)
  · have k_1131 := F_1131.1.trans hl
    have g_1131_0 := (F_1131.2 0 (by decide +kernel)).trans h0
    have g_1131_7 := (F_1131.2 7 (by decide +kernel)).trans h7
    have g_1131_8 := (F_1131.2 8 (by decide +kernel)).trans h8
    have g_1131_9 := (F_1131.2 9 (by decide +kernel)).trans h9
    have g_1131_10 := (F_1131.2 10 (by decide +kernel)).trans h10
    have g_1131_11 := (F_1131.2 11 (by decide +kernel)).trans h11
    have g_1131_12 := (F_1131.2 12 (by decide +kernel)).trans h12
    have g_1131_13 := (F_1131.2 13 (by decide +kernel)).trans h13
    have g_1131_15 := (F_1131.2 15 (by decide +kernel)).trans h15
    have g_1131_18 := (F_1131.2 18 (by decide +kernel)).trans h18
    have g_1131_57 := (F_1131.2 57 (by decide +kernel)).trans h57
    have g_1131_66 := (F_1131.2 66 (by decide +kernel)).trans h66
    have g_1131_67 := (F_1131.2 67 (by decide +kernel)).trans h67
    have g_1131_68 := (F_1131.2 68 (by decide +kernel)).trans h68
    have g_1131_69 := (F_1131.2 69 (by decide +kernel)).trans h69
    have g_1131_70 := (F_1131.2 70 (by decide +kernel)).trans h70
    have g_1131_71 := (F_1131.2 71 (by decide +kernel)).trans h71
    have g_1131_77 := (F_1131.2 77 (by decide +kernel)).trans h77
    have g_1131_78 := (F_1131.2 78 (by decide +kernel)).trans h78
    have g_1131_79 := (F_1131.2 79 (by decide +kernel)).trans h79
    have g_1131_80 := (F_1131.2 80 (by decide +kernel)).trans h80
    have g_1131_81 := (F_1131.2 81 (by decide +kernel)).trans h81
    have g_1131_82 := (F_1131.2 82 (by decide +kernel)).trans h82
    have g_1131_14 : cE h_1131 14 (.inr (1, [.ref 7, .ref 15, .ref 16, fI mi, fJ ((mx_mo (fun x => mx_w cnr gor chr s x) (pl - 1) ka pa fa kb pb fb n.toNat 0 sd).2)])) := e_1131_14
    have g_1131_16 : cE h_1131 16 (.inl (.int, fA [xa, xb])) := e_1131_16
    refine ⟨(mx_mo (fun x => mx_w cnr gor chr s x) (pl - 1) ka pa fa kb pb fb n.toNat 0 sd).1, rfl, ⟨k_1131, _, g_1131_66⟩, ?_⟩
    have gT_1131 := st_gT_t F_1131 (by decide +kernel) gT
    have gS_1131 := st_gS_t F_1131 (by decide +kernel) gS
    have gV_1131 := st_gV_t F_1131 (by decide +kernel) gV
    have gW_1131 := st_gW_t F_1131 (by decide +kernel) gW
    have gM_1131 := st_gM_t F_1131 (by decide +kernel) gM
    have gR_1131 := st_gR_t F_1131 (by decide +kernel) gR
    have gL_1131 := st_gL_t F_1131 (by decide +kernel) gL
    have gI_1131 := st_gI_t F_1131 (by decide +kernel) gI
    have gJ_1131 := st_gJ_t F_1131 (by decide +kernel) gJ
    have hT_1131 := st_hT_t F_1131 (by decide +kernel) hT
    have hM_1131 := st_hM_t F_1131 (by decide +kernel) hM
    have hR_1131 := st_hR_t F_1131 (by decide +kernel) hR
    have hL_1131 := st_hL_t F_1131 (by decide +kernel) hL
    have hI_1131 := st_hI_t F_1131 (by decide +kernel) hI
    refine ik_F_mono (rp_morning (pl := pl) (mi := mi) (sd := sd) (ka := ka) (pa := pa) (fa := fa) (kb := kb) (pb := pb) (fb := fb) (xa := xa) (xb := xb) (s := s) (cn := cnr) (go := gor) (ch := chr) (n := n) (f := fun j => ([0, 0, 0, 0, 0, 0, 0, 0, 0, 0, tn, fp, sc0, sc1, sc2, sc3, sc4, sc5, 0, 0, 0, 0, 0, 0, w24, 0, 0, 0, 0, 0, 0, 0, sb, wa, 0, 0, r, 0, 0, 0, 0, 0, 0] : List Int).getD j 0) (gt := gt) (gd := gdd) f_pl f_s f_sd (by omega) (mx_rw_ch (mx_al_rw f_rw f_al)) (st_cn (mx_al_rw f_rw f_al) f_cr) (mx_rw_ok (mx_al_rw f_rw f_al) _) f_k.1 f_k.2.1 f_k.2.2.1 f_k.2.2.2.1 (fun w => (f_p w).1) (fun w => (f_p w).2) f_x z_n g_1131_66 g_1131_67 n67 g_1131_68 n68 g_1131_69 n69 g_1131_70 g_1131_71 g_1131_77 n77 g_1131_78 n78 k_1131) ?_
    rintro _ h_1132 (⟨w'_1132, gt'_1132, gd'_1132, rfl, e_1132_66, e_1132_71, e_1132_77, m_1132_77, e_1132_78, m_1132_78, p_1132_0, F_1132⟩ | ⟨rfl, e_1132_66, e_1132_71, e_1132_77, m_1132_77, e_1132_78, m_1132_78, p_1132_0, F_1132⟩)
    · have k_1132 := F_1132.1.trans k_1131
      have g_1132_0 := (F_1132.2 0 (by decide +kernel)).trans g_1131_0
      have g_1132_7 := (F_1132.2 7 (by decide +kernel)).trans g_1131_7
      have g_1132_8 := (F_1132.2 8 (by decide +kernel)).trans g_1131_8
      have g_1132_9 := (F_1132.2 9 (by decide +kernel)).trans g_1131_9
      have g_1132_10 := (F_1132.2 10 (by decide +kernel)).trans g_1131_10
      have g_1132_11 := (F_1132.2 11 (by decide +kernel)).trans g_1131_11
      have g_1132_12 := (F_1132.2 12 (by decide +kernel)).trans g_1131_12
      have g_1132_13 := (F_1132.2 13 (by decide +kernel)).trans g_1131_13
      have g_1132_14 := (F_1132.2 14 (by decide +kernel)).trans g_1131_14
      have g_1132_15 := (F_1132.2 15 (by decide +kernel)).trans g_1131_15
      have g_1132_16 := (F_1132.2 16 (by decide +kernel)).trans g_1131_16
      have g_1132_18 := (F_1132.2 18 (by decide +kernel)).trans g_1131_18
      have g_1132_57 := (F_1132.2 57 (by decide +kernel)).trans g_1131_57
      have g_1132_67 := (F_1132.2 67 (by decide +kernel)).trans g_1131_67
      have g_1132_68 := (F_1132.2 68 (by decide +kernel)).trans g_1131_68
      have g_1132_69 := (F_1132.2 69 (by decide +kernel)).trans g_1131_69
      have g_1132_70 := (F_1132.2 70 (by decide +kernel)).trans g_1131_70
      have g_1132_79 := (F_1132.2 79 (by decide +kernel)).trans g_1131_79
      have g_1132_80 := (F_1132.2 80 (by decide +kernel)).trans g_1131_80
      have g_1132_81 := (F_1132.2 81 (by decide +kernel)).trans g_1131_81
      have g_1132_82 := (F_1132.2 82 (by decide +kernel)).trans g_1131_82
      have g_1132_66 : cE h_1132 66 (.inr (10, [fI pl, .ref 67, .ref 68, .ref 69, fI ((s : Nat) : Int), .ref 70, .ref 71, fI mi, fI ((mx_mo (fun x => mx_w cnr gor chr s x) (pl - 1) ka pa fa kb pb fb n.toNat 0 sd).2), .ref 72, fI tn, fI fp, fI sc0, fJ sc1, fI sc2, fI sc3, fI sc4, fI sc5, .ref 73, .ref 74, .ref 75, .ref 76, .ref 77, .ref 78, fI w'_1132, .ref 79, .ref 80, .ref 81, .ref 82, .ref 83, .ref 84, .ref 85, fJ sb, fJ wa, .ref 86, .ref 87, fI r, .ref 88, .ref 89, .ref 90, .ref 91, .ref 92, .ref 93])) := e_1132_66
      have g_1132_71 : cE h_1132 71 (.inl (.int, fA [xa, xb])) := e_1132_71
      have g_1132_77 : cE h_1132 77 (.inl (.int, fA gt'_1132)) := e_1132_77
      have g_1132_78 : cE h_1132 78 (.inl (.int, fA gd'_1132)) := e_1132_78
      refine ⟨rfl, ?_⟩
      have hp := f_p p_1131_0.2
      have gT_1132 := st_gT_t F_1132 (by decide +kernel) gT_1131
      have gS_1132 := st_gS_t F_1132 (by decide +kernel) gS_1131
      have gV_1132 := st_gV_t F_1132 (by decide +kernel) gV_1131
      have gW_1132 := st_gW_t F_1132 (by decide +kernel) gW_1131
      have gM_1132 := st_gM_t F_1132 (by decide +kernel) gM_1131
      have gR_1132 := st_gR_t F_1132 (by decide +kernel) gR_1131
      have gL_1132 := st_gL_t F_1132 (by decide +kernel) gL_1131
      have gI_1132 := st_gI_t F_1132 (by decide +kernel) gI_1131
      have gJ_1132 := st_gJ_t F_1132 (by decide +kernel) gJ_1131
      have hT_1132 := st_hT_t F_1132 (by decide +kernel) hT_1131
      have hM_1132 := st_hM_t F_1132 (by decide +kernel) hM_1131
      have hR_1132 := st_hR_t F_1132 (by decide +kernel) hR_1131
      have hL_1132 := st_hL_t F_1132 (by decide +kernel) hL_1131
      have hI_1132 := st_hI_t F_1132 (by decide +kernel) hI_1131
      intro C_ k_
      exact k_ tn fp pl mi ((mx_mo (fun x => mx_w cnr gor chr s x) (pl - 1) ka pa fa kb pb fb n.toNat 0 sd).2) ka pa fa kb pb fb xa xb r n0 n1 ga0 gm0 gd_0 gs0 g00 g01 g02 g03 g04 g05 gx0 gy0 ga1 gm1 gd_1 gs1 g10 g11 g12 g13 g14 g15 gx1 gy1 s T cn go ch wg wc we rp rt lr ci0 ci1 cnr gor chr T2 im f_pl f_s f_st f_cb f_cr f_rw f_al f_wy f_k f_p f_x (by omega) (mx_mo_sd (W := (fun x => mx_w cnr gor chr s x)) (mx_rw_ok (mx_al_rw f_rw f_al) _) (by omega) (by omega) (by omega) (by omega) n.toNat 0 sd f_sd) f_r f_rr f_n f_l0 f_l1 f_tn f_t (st_I_K f_i0) (st_I_K f_i1) ⟨g_1132_0, g_1132_18, g_1132_57⟩ gT_1132 ⟨g_1132_7, g_1132_8, n8, g_1132_9, n9, g_1132_10, n10, g_1132_11, n11, g_1132_12, n12, g_1132_13, n13⟩ ⟨g_1132_14, g_1132_15, g_1132_16⟩ gS_1132 gV_1132 gW_1132 gM_1132 gR_1132 gL_1132 gI_1132 gJ_1132 ⟨sc0, sc1, sc2, sc3, sc4, sc5, w'_1132, sb, wa, g_1132_66⟩ ⟨g_1132_67, n67, g_1132_68, n68, g_1132_69, n69⟩ ⟨g_1132_70, g_1132_71⟩ hT_1132 ⟨gt'_1132, gd'_1132, xs, ys, r1, r2, g_1132_77, m_1132_77, g_1132_78, m_1132_78, g_1132_79, n79, g_1132_80, n80, g_1132_81, n81, g_1132_82, n82⟩ hM_1132 hR_1132 hL_1132 hI_1132 k_1132
    · have k_1132 := F_1132.1.trans k_1131
      have g_1132_0 := (F_1132.2 0 (by decide +kernel)).trans g_1131_0
      have g_1132_7 := (F_1132.2 7 (by decide +kernel)).trans g_1131_7
      have g_1132_8 := (F_1132.2 8 (by decide +kernel)).trans g_1131_8
      have g_1132_9 := (F_1132.2 9 (by decide +kernel)).trans g_1131_9
      have g_1132_10 := (F_1132.2 10 (by decide +kernel)).trans g_1131_10
      have g_1132_11 := (F_1132.2 11 (by decide +kernel)).trans g_1131_11
      have g_1132_12 := (F_1132.2 12 (by decide +kernel)).trans g_1131_12
      have g_1132_13 := (F_1132.2 13 (by decide +kernel)).trans g_1131_13
      have g_1132_14 := (F_1132.2 14 (by decide +kernel)).trans g_1131_14
      have g_1132_15 := (F_1132.2 15 (by decide +kernel)).trans g_1131_15
      have g_1132_16 := (F_1132.2 16 (by decide +kernel)).trans g_1131_16
      have g_1132_18 := (F_1132.2 18 (by decide +kernel)).trans g_1131_18
      have g_1132_57 := (F_1132.2 57 (by decide +kernel)).trans g_1131_57
      have g_1132_67 := (F_1132.2 67 (by decide +kernel)).trans g_1131_67
      have g_1132_68 := (F_1132.2 68 (by decide +kernel)).trans g_1131_68
      have g_1132_69 := (F_1132.2 69 (by decide +kernel)).trans g_1131_69
      have g_1132_70 := (F_1132.2 70 (by decide +kernel)).trans g_1131_70
      have g_1132_79 := (F_1132.2 79 (by decide +kernel)).trans g_1131_79
      have g_1132_80 := (F_1132.2 80 (by decide +kernel)).trans g_1131_80
      have g_1132_81 := (F_1132.2 81 (by decide +kernel)).trans g_1131_81
      have g_1132_82 := (F_1132.2 82 (by decide +kernel)).trans g_1131_82
      have g_1132_66 : cE h_1132 66 (.inr (10, [fI pl, .ref 67, .ref 68, .ref 69, fI ((s : Nat) : Int), .ref 70, .ref 71, fI mi, fI sd, .ref 72, fI tn, fI fp, fI sc0, fJ sc1, fI sc2, fI sc3, fI sc4, fI sc5, .ref 73, .ref 74, .ref 75, .ref 76, .ref 77, .ref 78, fI w24, .ref 79, .ref 80, .ref 81, .ref 82, .ref 83, .ref 84, .ref 85, fJ sb, fJ wa, .ref 86, .ref 87, fI r, .ref 88, .ref 89, .ref 90, .ref 91, .ref 92, .ref 93])) := e_1132_66
      have g_1132_71 : cE h_1132 71 (.inl (.int, fA [xa, xb])) := e_1132_71
      have g_1132_77 : cE h_1132 77 (.inl (.int, fA gt)) := e_1132_77
      have g_1132_78 : cE h_1132 78 (.inl (.int, fA gdd)) := e_1132_78
      exact absurd p_1131_0 p_1132_0
  · have k_1131 := F_1131.1.trans hl
    have g_1131_0 := (F_1131.2 0 (by decide +kernel)).trans h0
    have g_1131_7 := (F_1131.2 7 (by decide +kernel)).trans h7
    have g_1131_8 := (F_1131.2 8 (by decide +kernel)).trans h8
    have g_1131_9 := (F_1131.2 9 (by decide +kernel)).trans h9
    have g_1131_10 := (F_1131.2 10 (by decide +kernel)).trans h10
    have g_1131_11 := (F_1131.2 11 (by decide +kernel)).trans h11
    have g_1131_12 := (F_1131.2 12 (by decide +kernel)).trans h12
    have g_1131_13 := (F_1131.2 13 (by decide +kernel)).trans h13
    have g_1131_15 := (F_1131.2 15 (by decide +kernel)).trans h15
    have g_1131_18 := (F_1131.2 18 (by decide +kernel)).trans h18
    have g_1131_57 := (F_1131.2 57 (by decide +kernel)).trans h57
    have g_1131_66 := (F_1131.2 66 (by decide +kernel)).trans h66
    have g_1131_67 := (F_1131.2 67 (by decide +kernel)).trans h67
    have g_1131_68 := (F_1131.2 68 (by decide +kernel)).trans h68
    have g_1131_69 := (F_1131.2 69 (by decide +kernel)).trans h69
    have g_1131_70 := (F_1131.2 70 (by decide +kernel)).trans h70
    have g_1131_71 := (F_1131.2 71 (by decide +kernel)).trans h71
    have g_1131_77 := (F_1131.2 77 (by decide +kernel)).trans h77
    have g_1131_78 := (F_1131.2 78 (by decide +kernel)).trans h78
    have g_1131_79 := (F_1131.2 79 (by decide +kernel)).trans h79
    have g_1131_80 := (F_1131.2 80 (by decide +kernel)).trans h80
    have g_1131_81 := (F_1131.2 81 (by decide +kernel)).trans h81
    have g_1131_82 := (F_1131.2 82 (by decide +kernel)).trans h82
    have g_1131_14 : cE h_1131 14 (.inr (1, [.ref 7, .ref 15, .ref 16, fI mi, fJ sd])) := e_1131_14
    have g_1131_16 : cE h_1131 16 (.inl (.int, fA [xa, xb])) := e_1131_16
    refine ⟨an_n 40 n, rfl, ⟨k_1131, _, g_1131_66⟩, ?_⟩
    have gT_1131 := st_gT_t F_1131 (by decide +kernel) gT
    have gS_1131 := st_gS_t F_1131 (by decide +kernel) gS
    have gV_1131 := st_gV_t F_1131 (by decide +kernel) gV
    have gW_1131 := st_gW_t F_1131 (by decide +kernel) gW
    have gM_1131 := st_gM_t F_1131 (by decide +kernel) gM
    have gR_1131 := st_gR_t F_1131 (by decide +kernel) gR
    have gL_1131 := st_gL_t F_1131 (by decide +kernel) gL
    have gI_1131 := st_gI_t F_1131 (by decide +kernel) gI
    have gJ_1131 := st_gJ_t F_1131 (by decide +kernel) gJ
    have hT_1131 := st_hT_t F_1131 (by decide +kernel) hT
    have hM_1131 := st_hM_t F_1131 (by decide +kernel) hM
    have hR_1131 := st_hR_t F_1131 (by decide +kernel) hR
    have hL_1131 := st_hL_t F_1131 (by decide +kernel) hL
    have hI_1131 := st_hI_t F_1131 (by decide +kernel) hI
    refine ik_F_mono (rp_morning (pl := pl) (mi := mi) (sd := sd) (ka := ka) (pa := pa) (fa := fa) (kb := kb) (pb := pb) (fb := fb) (xa := xa) (xb := xb) (s := s) (cn := cnr) (go := gor) (ch := chr) (n := n) (f := fun j => ([0, 0, 0, 0, 0, 0, 0, 0, 0, 0, tn, fp, sc0, sc1, sc2, sc3, sc4, sc5, 0, 0, 0, 0, 0, 0, w24, 0, 0, 0, 0, 0, 0, 0, sb, wa, 0, 0, r, 0, 0, 0, 0, 0, 0] : List Int).getD j 0) (gt := gt) (gd := gdd) f_pl f_s f_sd (by omega) (mx_rw_ch (mx_al_rw f_rw f_al)) (st_cn (mx_al_rw f_rw f_al) f_cr) (mx_rw_ok (mx_al_rw f_rw f_al) _) f_k.1 f_k.2.1 f_k.2.2.1 f_k.2.2.2.1 (fun w => (f_p w).1) (fun w => (f_p w).2) f_x z_n g_1131_66 g_1131_67 n67 g_1131_68 n68 g_1131_69 n69 g_1131_70 g_1131_71 g_1131_77 n77 g_1131_78 n78 k_1131) ?_
    rintro _ h_1133 (⟨w'_1133, gt'_1133, gd'_1133, rfl, e_1133_66, e_1133_71, e_1133_77, m_1133_77, e_1133_78, m_1133_78, p_1133_0, F_1133⟩ | ⟨rfl, e_1133_66, e_1133_71, e_1133_77, m_1133_77, e_1133_78, m_1133_78, p_1133_0, F_1133⟩)
    · have k_1133 := F_1133.1.trans k_1131
      have g_1133_0 := (F_1133.2 0 (by decide +kernel)).trans g_1131_0
      have g_1133_7 := (F_1133.2 7 (by decide +kernel)).trans g_1131_7
      have g_1133_8 := (F_1133.2 8 (by decide +kernel)).trans g_1131_8
      have g_1133_9 := (F_1133.2 9 (by decide +kernel)).trans g_1131_9
      have g_1133_10 := (F_1133.2 10 (by decide +kernel)).trans g_1131_10
      have g_1133_11 := (F_1133.2 11 (by decide +kernel)).trans g_1131_11
      have g_1133_12 := (F_1133.2 12 (by decide +kernel)).trans g_1131_12
      have g_1133_13 := (F_1133.2 13 (by decide +kernel)).trans g_1131_13
      have g_1133_14 := (F_1133.2 14 (by decide +kernel)).trans g_1131_14
      have g_1133_15 := (F_1133.2 15 (by decide +kernel)).trans g_1131_15
      have g_1133_16 := (F_1133.2 16 (by decide +kernel)).trans g_1131_16
      have g_1133_18 := (F_1133.2 18 (by decide +kernel)).trans g_1131_18
      have g_1133_57 := (F_1133.2 57 (by decide +kernel)).trans g_1131_57
      have g_1133_67 := (F_1133.2 67 (by decide +kernel)).trans g_1131_67
      have g_1133_68 := (F_1133.2 68 (by decide +kernel)).trans g_1131_68
      have g_1133_69 := (F_1133.2 69 (by decide +kernel)).trans g_1131_69
      have g_1133_70 := (F_1133.2 70 (by decide +kernel)).trans g_1131_70
      have g_1133_79 := (F_1133.2 79 (by decide +kernel)).trans g_1131_79
      have g_1133_80 := (F_1133.2 80 (by decide +kernel)).trans g_1131_80
      have g_1133_81 := (F_1133.2 81 (by decide +kernel)).trans g_1131_81
      have g_1133_82 := (F_1133.2 82 (by decide +kernel)).trans g_1131_82
      have g_1133_66 : cE h_1133 66 (.inr (10, [fI pl, .ref 67, .ref 68, .ref 69, fI ((s : Nat) : Int), .ref 70, .ref 71, fI mi, fI ((mx_mo (fun x => mx_w cnr gor chr s x) (pl - 1) ka pa fa kb pb fb n.toNat 0 sd).2), .ref 72, fI tn, fI fp, fI sc0, fJ sc1, fI sc2, fI sc3, fI sc4, fI sc5, .ref 73, .ref 74, .ref 75, .ref 76, .ref 77, .ref 78, fI w'_1133, .ref 79, .ref 80, .ref 81, .ref 82, .ref 83, .ref 84, .ref 85, fJ sb, fJ wa, .ref 86, .ref 87, fI r, .ref 88, .ref 89, .ref 90, .ref 91, .ref 92, .ref 93])) := e_1133_66
      have g_1133_71 : cE h_1133 71 (.inl (.int, fA [xa, xb])) := e_1133_71
      have g_1133_77 : cE h_1133 77 (.inl (.int, fA gt'_1133)) := e_1133_77
      have g_1133_78 : cE h_1133 78 (.inl (.int, fA gd'_1133)) := e_1133_78
      exact absurd p_1133_0 p_1131_0
    · have k_1133 := F_1133.1.trans k_1131
      have g_1133_0 := (F_1133.2 0 (by decide +kernel)).trans g_1131_0
      have g_1133_7 := (F_1133.2 7 (by decide +kernel)).trans g_1131_7
      have g_1133_8 := (F_1133.2 8 (by decide +kernel)).trans g_1131_8
      have g_1133_9 := (F_1133.2 9 (by decide +kernel)).trans g_1131_9
      have g_1133_10 := (F_1133.2 10 (by decide +kernel)).trans g_1131_10
      have g_1133_11 := (F_1133.2 11 (by decide +kernel)).trans g_1131_11
      have g_1133_12 := (F_1133.2 12 (by decide +kernel)).trans g_1131_12
      have g_1133_13 := (F_1133.2 13 (by decide +kernel)).trans g_1131_13
      have g_1133_14 := (F_1133.2 14 (by decide +kernel)).trans g_1131_14
      have g_1133_15 := (F_1133.2 15 (by decide +kernel)).trans g_1131_15
      have g_1133_16 := (F_1133.2 16 (by decide +kernel)).trans g_1131_16
      have g_1133_18 := (F_1133.2 18 (by decide +kernel)).trans g_1131_18
      have g_1133_57 := (F_1133.2 57 (by decide +kernel)).trans g_1131_57
      have g_1133_67 := (F_1133.2 67 (by decide +kernel)).trans g_1131_67
      have g_1133_68 := (F_1133.2 68 (by decide +kernel)).trans g_1131_68
      have g_1133_69 := (F_1133.2 69 (by decide +kernel)).trans g_1131_69
      have g_1133_70 := (F_1133.2 70 (by decide +kernel)).trans g_1131_70
      have g_1133_79 := (F_1133.2 79 (by decide +kernel)).trans g_1131_79
      have g_1133_80 := (F_1133.2 80 (by decide +kernel)).trans g_1131_80
      have g_1133_81 := (F_1133.2 81 (by decide +kernel)).trans g_1131_81
      have g_1133_82 := (F_1133.2 82 (by decide +kernel)).trans g_1131_82
      have g_1133_66 : cE h_1133 66 (.inr (10, [fI pl, .ref 67, .ref 68, .ref 69, fI ((s : Nat) : Int), .ref 70, .ref 71, fI mi, fI sd, .ref 72, fI tn, fI fp, fI sc0, fJ sc1, fI sc2, fI sc3, fI sc4, fI sc5, .ref 73, .ref 74, .ref 75, .ref 76, .ref 77, .ref 78, fI w24, .ref 79, .ref 80, .ref 81, .ref 82, .ref 83, .ref 84, .ref 85, fJ sb, fJ wa, .ref 86, .ref 87, fI r, .ref 88, .ref 89, .ref 90, .ref 91, .ref 92, .ref 93])) := e_1133_66
      have g_1133_71 : cE h_1133 71 (.inl (.int, fA [xa, xb])) := e_1133_71
      have g_1133_77 : cE h_1133 77 (.inl (.int, fA gt)) := e_1133_77
      have g_1133_78 : cE h_1133 78 (.inl (.int, fA gdd)) := e_1133_78
      refine ⟨rfl, ?_⟩
      have gT_1133 := st_gT_t F_1133 (by decide +kernel) gT_1131
      have gS_1133 := st_gS_t F_1133 (by decide +kernel) gS_1131
      have gV_1133 := st_gV_t F_1133 (by decide +kernel) gV_1131
      have gW_1133 := st_gW_t F_1133 (by decide +kernel) gW_1131
      have gM_1133 := st_gM_t F_1133 (by decide +kernel) gM_1131
      have gR_1133 := st_gR_t F_1133 (by decide +kernel) gR_1131
      have gL_1133 := st_gL_t F_1133 (by decide +kernel) gL_1131
      have gI_1133 := st_gI_t F_1133 (by decide +kernel) gI_1131
      have gJ_1133 := st_gJ_t F_1133 (by decide +kernel) gJ_1131
      have hT_1133 := st_hT_t F_1133 (by decide +kernel) hT_1131
      have hM_1133 := st_hM_t F_1133 (by decide +kernel) hM_1131
      have hR_1133 := st_hR_t F_1133 (by decide +kernel) hR_1131
      have hL_1133 := st_hL_t F_1133 (by decide +kernel) hL_1131
      have hI_1133 := st_hI_t F_1133 (by decide +kernel) hI_1131
      intro C_ k_
      exact k_ tn fp pl mi sd ka pa fa kb pb fb xa xb r n0 n1 ga0 gm0 gd_0 gs0 g00 g01 g02 g03 g04 g05 gx0 gy0 ga1 gm1 gd_1 gs1 g10 g11 g12 g13 g14 g15 gx1 gy1 s T cn go ch wg wc we rp rt lr ci0 ci1 cnr gor chr T2 im f_pl f_s f_st f_cb f_cr f_rw f_al f_wy f_k f_p f_x (by omega) f_sd f_r f_rr f_n f_l0 f_l1 f_tn f_t (st_I_K f_i0) (st_I_K f_i1) ⟨g_1133_0, g_1133_18, g_1133_57⟩ gT_1133 ⟨g_1133_7, g_1133_8, n8, g_1133_9, n9, g_1133_10, n10, g_1133_11, n11, g_1133_12, n12, g_1133_13, n13⟩ ⟨g_1133_14, g_1133_15, g_1133_16⟩ gS_1133 gV_1133 gW_1133 gM_1133 gR_1133 gL_1133 gI_1133 gJ_1133 ⟨sc0, sc1, sc2, sc3, sc4, sc5, w24, sb, wa, g_1133_66⟩ ⟨g_1133_67, n67, g_1133_68, n68, g_1133_69, n69⟩ ⟨g_1133_70, g_1133_71⟩ hT_1133 ⟨gt, gdd, xs, ys, r1, r2, g_1133_77, m_1133_77, g_1133_78, m_1133_78, g_1133_79, n79, g_1133_80, n80, g_1133_81, n81, g_1133_82, n82⟩ hM_1133 hR_1133 hL_1133 hI_1133 k_1133

set_option maxRecDepth 100000 in
theorem lk_drift {K : Nat} {h : List ik_E} (E : st_S K h) (hK : K ≤ 600) {n : Int} (z_n : -2147483648 ≤ n ∧ n < 2147483648)  : ik_F 111 [.ref 0, fI n] h (fun rv h' => ∃ o_ : Int, rv = [fI o_] ∧ (h'.length = 94 ∧ ∃ fs, h'[66]? = some (.inr (10, fs))) ∧ ik_F 199 [.ref 66, fI n] h' (fun rv' h'' => rv' = [fI o_] ∧ st_S (K + 1) h'')) := by
  refine E _ ?_
  intro tn fp pl mi sd ka pa fa kb pb fb xa xb r n0 n1 ga0 gm0 gd_0 gs0 g00 g01 g02 g03 g04 g05 gx0 gy0 ga1 gm1 gd_1 gs1 g10 g11 g12 g13 g14 g15 gx1 gy1 s T cn go ch wg wc we rp rt lr ci0 ci1 cnr gor chr T2 im f_pl f_s f_st f_cb f_cr f_rw f_al f_wy f_k f_p f_x f_m f_sd f_r f_rr f_n f_l0 f_l1 f_tn f_t f_i0 f_i1 gA gT gB gC gS gV gW gM gR gL gI gJ hO hB hC hT hS hM hR hL hI hl
  obtain ⟨h0, h18, h57⟩ := gA
  obtain ⟨h7, h8, n8, h9, n9, h10, n10, h11, n11, h12, n12, h13, n13⟩ := gB
  obtain ⟨h14, h15, h16⟩ := gC
  obtain ⟨sc0, sc1, sc2, sc3, sc4, sc5, w24, sb, wa, h66⟩ := hO
  obtain ⟨h67, n67, h68, n68, h69, n69⟩ := hB
  obtain ⟨h70, h71⟩ := hC
  obtain ⟨gt, gdd, xs, ys, r1, r2, h77, n77, h78, n78, h79, n79, h80, n80, h81, n81, h82, n82⟩ := hS
  have hq3 : 0 ≤ mi ∧ mi < 1999999000 := by omega
  refine ik_F_mono (cp_drift (pl := pl) (mi := mi) (sd := sd) (ka := ka) (pa := pa) (fa := fa) (kb := kb) (pb := pb) (fb := fb) (xa := xa) (xb := xb) (s := s) (cn := cnr) (go := gor) (ch := chr) (n := n) (lo := ((mj_lost pl cn go : Nat) : Int)) (wg := wg) (wc := wc) (we := we) f_pl f_s f_sd (by omega) (fun x h0 h1 => by have e := mx_al_w f_rw f_al s x h0 h1; exact e.symm ▸ f_wy x h0 h1) (mx_rw_ok (mx_al_rw f_rw f_al) _) f_k.1 f_k.2.1 f_k.2.2.1 f_k.2.2.2.1 (fun w => (f_p w).1) (fun w => (f_p w).2) f_x z_n h0 h7 h11 n11 h12 n12 h13 n13 h14 h15 h16 hl) ?_
  rintro _ h_1134 (⟨rfl, e_1134_14, e_1134_16, p_1134_0, F_1134⟩ | ⟨rfl, e_1134_14, e_1134_16, p_1134_0, F_1134⟩)
  · have k_1134 := F_1134.1.trans hl
    have g_1134_0 := (F_1134.2 0 (by decide +kernel)).trans h0
    have g_1134_7 := (F_1134.2 7 (by decide +kernel)).trans h7
    have g_1134_8 := (F_1134.2 8 (by decide +kernel)).trans h8
    have g_1134_9 := (F_1134.2 9 (by decide +kernel)).trans h9
    have g_1134_10 := (F_1134.2 10 (by decide +kernel)).trans h10
    have g_1134_11 := (F_1134.2 11 (by decide +kernel)).trans h11
    have g_1134_12 := (F_1134.2 12 (by decide +kernel)).trans h12
    have g_1134_13 := (F_1134.2 13 (by decide +kernel)).trans h13
    have g_1134_15 := (F_1134.2 15 (by decide +kernel)).trans h15
    have g_1134_18 := (F_1134.2 18 (by decide +kernel)).trans h18
    have g_1134_57 := (F_1134.2 57 (by decide +kernel)).trans h57
    have g_1134_66 := (F_1134.2 66 (by decide +kernel)).trans h66
    have g_1134_67 := (F_1134.2 67 (by decide +kernel)).trans h67
    have g_1134_68 := (F_1134.2 68 (by decide +kernel)).trans h68
    have g_1134_69 := (F_1134.2 69 (by decide +kernel)).trans h69
    have g_1134_70 := (F_1134.2 70 (by decide +kernel)).trans h70
    have g_1134_71 := (F_1134.2 71 (by decide +kernel)).trans h71
    have g_1134_77 := (F_1134.2 77 (by decide +kernel)).trans h77
    have g_1134_78 := (F_1134.2 78 (by decide +kernel)).trans h78
    have g_1134_79 := (F_1134.2 79 (by decide +kernel)).trans h79
    have g_1134_80 := (F_1134.2 80 (by decide +kernel)).trans h80
    have g_1134_81 := (F_1134.2 81 (by decide +kernel)).trans h81
    have g_1134_82 := (F_1134.2 82 (by decide +kernel)).trans h82
    have g_1134_14 : cE h_1134 14 (.inr (1, [.ref 7, .ref 15, .ref 16, fI ((mx_dr (fun x => mx_w cnr gor chr s x) (pl - 1) ka pa fa kb pb fb n.toNat xa xb mi sd).2.2.1), fJ ((mx_dr (fun x => mx_w cnr gor chr s x) (pl - 1) ka pa fa kb pb fb n.toNat xa xb mi sd).2.2.2)])) := e_1134_14
    have g_1134_16 : cE h_1134 16 (.inl (.int, fA [(mx_dr (fun x => mx_w cnr gor chr s x) (pl - 1) ka pa fa kb pb fb n.toNat xa xb mi sd).1, (mx_dr (fun x => mx_w cnr gor chr s x) (pl - 1) ka pa fa kb pb fb n.toNat xa xb mi sd).2.1])) := e_1134_16
    refine ⟨mx_en (pl - 1) (mx_dr (fun x => mx_w cnr gor chr s x) (pl - 1) ka pa fa kb pb fb n.toNat xa xb mi sd).1 (mx_dr (fun x => mx_w cnr gor chr s x) (pl - 1) ka pa fa kb pb fb n.toNat xa xb mi sd).2.1, rfl, ⟨k_1134, _, g_1134_66⟩, ?_⟩
    have gT_1134 := st_gT_t F_1134 (by decide +kernel) gT
    have gS_1134 := st_gS_t F_1134 (by decide +kernel) gS
    have gV_1134 := st_gV_t F_1134 (by decide +kernel) gV
    have gW_1134 := st_gW_t F_1134 (by decide +kernel) gW
    have gM_1134 := st_gM_t F_1134 (by decide +kernel) gM
    have gR_1134 := st_gR_t F_1134 (by decide +kernel) gR
    have gL_1134 := st_gL_t F_1134 (by decide +kernel) gL
    have gI_1134 := st_gI_t F_1134 (by decide +kernel) gI
    have gJ_1134 := st_gJ_t F_1134 (by decide +kernel) gJ
    have hT_1134 := st_hT_t F_1134 (by decide +kernel) hT
    have hM_1134 := st_hM_t F_1134 (by decide +kernel) hM
    have hR_1134 := st_hR_t F_1134 (by decide +kernel) hR
    have hL_1134 := st_hL_t F_1134 (by decide +kernel) hL
    have hI_1134 := st_hI_t F_1134 (by decide +kernel) hI
    refine ik_F_mono (rp_drift (pl := pl) (mi := mi) (sd := sd) (ka := ka) (pa := pa) (fa := fa) (kb := kb) (pb := pb) (fb := fb) (xa := xa) (xb := xb) (s := s) (cn := cnr) (go := gor) (ch := chr) (n := n) (f := fun j => ([0, 0, 0, 0, 0, 0, 0, 0, 0, 0, tn, fp, sc0, sc1, sc2, sc3, sc4, sc5, 0, 0, 0, 0, 0, 0, w24, 0, 0, 0, 0, 0, 0, 0, sb, wa, 0, 0, r, 0, 0, 0, 0, 0, 0] : List Int).getD j 0) (gt := gt) (gd := gdd) f_pl f_s f_sd (by omega) (mx_rw_ch (mx_al_rw f_rw f_al)) (st_cn (mx_al_rw f_rw f_al) f_cr) (mx_rw_ok (mx_al_rw f_rw f_al) _) f_k.1 f_k.2.1 f_k.2.2.1 f_k.2.2.2.1 (fun w => (f_p w).1) (fun w => (f_p w).2) f_x z_n g_1134_66 g_1134_67 n67 g_1134_68 n68 g_1134_69 n69 g_1134_70 g_1134_71 g_1134_77 n77 g_1134_78 n78 k_1134) ?_
    rintro _ h_1135 (⟨w'_1135, gt'_1135, gd'_1135, rfl, e_1135_66, e_1135_71, e_1135_77, m_1135_77, e_1135_78, m_1135_78, p_1135_0, F_1135⟩ | ⟨rfl, e_1135_66, e_1135_71, e_1135_77, m_1135_77, e_1135_78, m_1135_78, p_1135_0, F_1135⟩)
    · have k_1135 := F_1135.1.trans k_1134
      have g_1135_0 := (F_1135.2 0 (by decide +kernel)).trans g_1134_0
      have g_1135_7 := (F_1135.2 7 (by decide +kernel)).trans g_1134_7
      have g_1135_8 := (F_1135.2 8 (by decide +kernel)).trans g_1134_8
      have g_1135_9 := (F_1135.2 9 (by decide +kernel)).trans g_1134_9
      have g_1135_10 := (F_1135.2 10 (by decide +kernel)).trans g_1134_10
      have g_1135_11 := (F_1135.2 11 (by decide +kernel)).trans g_1134_11
      have g_1135_12 := (F_1135.2 12 (by decide +kernel)).trans g_1134_12
      have g_1135_13 := (F_1135.2 13 (by decide +kernel)).trans g_1134_13
      have g_1135_14 := (F_1135.2 14 (by decide +kernel)).trans g_1134_14
      have g_1135_15 := (F_1135.2 15 (by decide +kernel)).trans g_1134_15
      have g_1135_16 := (F_1135.2 16 (by decide +kernel)).trans g_1134_16
      have g_1135_18 := (F_1135.2 18 (by decide +kernel)).trans g_1134_18
      have g_1135_57 := (F_1135.2 57 (by decide +kernel)).trans g_1134_57
      have g_1135_67 := (F_1135.2 67 (by decide +kernel)).trans g_1134_67
      have g_1135_68 := (F_1135.2 68 (by decide +kernel)).trans g_1134_68
      have g_1135_69 := (F_1135.2 69 (by decide +kernel)).trans g_1134_69
      have g_1135_70 := (F_1135.2 70 (by decide +kernel)).trans g_1134_70
      have g_1135_79 := (F_1135.2 79 (by decide +kernel)).trans g_1134_79
      have g_1135_80 := (F_1135.2 80 (by decide +kernel)).trans g_1134_80
      have g_1135_81 := (F_1135.2 81 (by decide +kernel)).trans g_1134_81
      have g_1135_82 := (F_1135.2 82 (by decide +kernel)).trans g_1134_82
      have g_1135_66 : cE h_1135 66 (.inr (10, [fI pl, .ref 67, .ref 68, .ref 69, fI ((s : Nat) : Int), .ref 70, .ref 71, fI ((mx_dr (fun x => mx_w cnr gor chr s x) (pl - 1) ka pa fa kb pb fb n.toNat xa xb mi sd).2.2.1), fI ((mx_dr (fun x => mx_w cnr gor chr s x) (pl - 1) ka pa fa kb pb fb n.toNat xa xb mi sd).2.2.2), .ref 72, fI tn, fI fp, fI sc0, fJ sc1, fI sc2, fI sc3, fI sc4, fI sc5, .ref 73, .ref 74, .ref 75, .ref 76, .ref 77, .ref 78, fI w'_1135, .ref 79, .ref 80, .ref 81, .ref 82, .ref 83, .ref 84, .ref 85, fJ sb, fJ wa, .ref 86, .ref 87, fI r, .ref 88, .ref 89, .ref 90, .ref 91, .ref 92, .ref 93])) := e_1135_66
      have g_1135_71 : cE h_1135 71 (.inl (.int, fA [(mx_dr (fun x => mx_w cnr gor chr s x) (pl - 1) ka pa fa kb pb fb n.toNat xa xb mi sd).1, (mx_dr (fun x => mx_w cnr gor chr s x) (pl - 1) ka pa fa kb pb fb n.toNat xa xb mi sd).2.1])) := e_1135_71
      have g_1135_77 : cE h_1135 77 (.inl (.int, fA gt'_1135)) := e_1135_77
      have g_1135_78 : cE h_1135 78 (.inl (.int, fA gd'_1135)) := e_1135_78
      refine ⟨rfl, ?_⟩
      have hp := f_p p_1134_0.2
      have hx := f_x p_1134_0.2
      have hz := mx_dr_in (W := (fun x => mx_w cnr gor chr s x)) (pl := pl) (ka := ka) (pa := pa) (fa := fa) (kb := kb) (pb := pb) (fb := fb) (mx_rw_ok (mx_al_rw f_rw f_al) _) (by omega) (by omega) n.toNat xa xb mi sd hx.1 hx.2.1 hx.2.2.1 hx.2.2.2 f_sd
      have gT_1135 := st_gT_t F_1135 (by decide +kernel) gT_1134
      have gS_1135 := st_gS_t F_1135 (by decide +kernel) gS_1134
      have gV_1135 := st_gV_t F_1135 (by decide +kernel) gV_1134
      have gW_1135 := st_gW_t F_1135 (by decide +kernel) gW_1134
      have gM_1135 := st_gM_t F_1135 (by decide +kernel) gM_1134
      have gR_1135 := st_gR_t F_1135 (by decide +kernel) gR_1134
      have gL_1135 := st_gL_t F_1135 (by decide +kernel) gL_1134
      have gI_1135 := st_gI_t F_1135 (by decide +kernel) gI_1134
      have gJ_1135 := st_gJ_t F_1135 (by decide +kernel) gJ_1134
      have hT_1135 := st_hT_t F_1135 (by decide +kernel) hT_1134
      have hM_1135 := st_hM_t F_1135 (by decide +kernel) hM_1134
      have hR_1135 := st_hR_t F_1135 (by decide +kernel) hR_1134
      have hL_1135 := st_hL_t F_1135 (by decide +kernel) hL_1134
      have hI_1135 := st_hI_t F_1135 (by decide +kernel) hI_1134
      intro C_ k_
      exact k_ tn fp pl ((mx_dr (fun x => mx_w cnr gor chr s x) (pl - 1) ka pa fa kb pb fb n.toNat xa xb mi sd).2.2.1) ((mx_dr (fun x => mx_w cnr gor chr s x) (pl - 1) ka pa fa kb pb fb n.toNat xa xb mi sd).2.2.2) ka pa fa kb pb fb ((mx_dr (fun x => mx_w cnr gor chr s x) (pl - 1) ka pa fa kb pb fb n.toNat xa xb mi sd).1) ((mx_dr (fun x => mx_w cnr gor chr s x) (pl - 1) ka pa fa kb pb fb n.toNat xa xb mi sd).2.1) r n0 n1 ga0 gm0 gd_0 gs0 g00 g01 g02 g03 g04 g05 gx0 gy0 ga1 gm1 gd_1 gs1 g10 g11 g12 g13 g14 g15 gx1 gy1 s T cn go ch wg wc we rp rt lr ci0 ci1 cnr gor chr T2 im f_pl f_s f_st f_cb f_cr f_rw f_al f_wy f_k f_p (fun _ => ⟨hz.1, hz.2.1, hz.2.2.1, hz.2.2.2.1⟩) (by have a := hz.2.2.2.2.2; omega) hz.2.2.2.2.1 f_r f_rr f_n f_l0 f_l1 f_tn f_t (st_I_K f_i0) (st_I_K f_i1) ⟨g_1135_0, g_1135_18, g_1135_57⟩ gT_1135 ⟨g_1135_7, g_1135_8, n8, g_1135_9, n9, g_1135_10, n10, g_1135_11, n11, g_1135_12, n12, g_1135_13, n13⟩ ⟨g_1135_14, g_1135_15, g_1135_16⟩ gS_1135 gV_1135 gW_1135 gM_1135 gR_1135 gL_1135 gI_1135 gJ_1135 ⟨sc0, sc1, sc2, sc3, sc4, sc5, w'_1135, sb, wa, g_1135_66⟩ ⟨g_1135_67, n67, g_1135_68, n68, g_1135_69, n69⟩ ⟨g_1135_70, g_1135_71⟩ hT_1135 ⟨gt'_1135, gd'_1135, xs, ys, r1, r2, g_1135_77, m_1135_77, g_1135_78, m_1135_78, g_1135_79, n79, g_1135_80, n80, g_1135_81, n81, g_1135_82, n82⟩ hM_1135 hR_1135 hL_1135 hI_1135 k_1135
    · have k_1135 := F_1135.1.trans k_1134
      have g_1135_0 := (F_1135.2 0 (by decide +kernel)).trans g_1134_0
      have g_1135_7 := (F_1135.2 7 (by decide +kernel)).trans g_1134_7
      have g_1135_8 := (F_1135.2 8 (by decide +kernel)).trans g_1134_8
      have g_1135_9 := (F_1135.2 9 (by decide +kernel)).trans g_1134_9
      have g_1135_10 := (F_1135.2 10 (by decide +kernel)).trans g_1134_10
      have g_1135_11 := (F_1135.2 11 (by decide +kernel)).trans g_1134_11
      have g_1135_12 := (F_1135.2 12 (by decide +kernel)).trans g_1134_12
      have g_1135_13 := (F_1135.2 13 (by decide +kernel)).trans g_1134_13
      have g_1135_14 := (F_1135.2 14 (by decide +kernel)).trans g_1134_14
      have g_1135_15 := (F_1135.2 15 (by decide +kernel)).trans g_1134_15
      have g_1135_16 := (F_1135.2 16 (by decide +kernel)).trans g_1134_16
      have g_1135_18 := (F_1135.2 18 (by decide +kernel)).trans g_1134_18
      have g_1135_57 := (F_1135.2 57 (by decide +kernel)).trans g_1134_57
      have g_1135_67 := (F_1135.2 67 (by decide +kernel)).trans g_1134_67
      have g_1135_68 := (F_1135.2 68 (by decide +kernel)).trans g_1134_68
      have g_1135_69 := (F_1135.2 69 (by decide +kernel)).trans g_1134_69
      have g_1135_70 := (F_1135.2 70 (by decide +kernel)).trans g_1134_70
      have g_1135_79 := (F_1135.2 79 (by decide +kernel)).trans g_1134_79
      have g_1135_80 := (F_1135.2 80 (by decide +kernel)).trans g_1134_80
      have g_1135_81 := (F_1135.2 81 (by decide +kernel)).trans g_1134_81
      have g_1135_82 := (F_1135.2 82 (by decide +kernel)).trans g_1134_82
      have g_1135_66 : cE h_1135 66 (.inr (10, [fI pl, .ref 67, .ref 68, .ref 69, fI ((s : Nat) : Int), .ref 70, .ref 71, fI mi, fI sd, .ref 72, fI tn, fI fp, fI sc0, fJ sc1, fI sc2, fI sc3, fI sc4, fI sc5, .ref 73, .ref 74, .ref 75, .ref 76, .ref 77, .ref 78, fI w24, .ref 79, .ref 80, .ref 81, .ref 82, .ref 83, .ref 84, .ref 85, fJ sb, fJ wa, .ref 86, .ref 87, fI r, .ref 88, .ref 89, .ref 90, .ref 91, .ref 92, .ref 93])) := e_1135_66
      have g_1135_71 : cE h_1135 71 (.inl (.int, fA [xa, xb])) := e_1135_71
      have g_1135_77 : cE h_1135 77 (.inl (.int, fA gt)) := e_1135_77
      have g_1135_78 : cE h_1135 78 (.inl (.int, fA gdd)) := e_1135_78
      exact absurd p_1134_0 p_1135_0
  · have k_1134 := F_1134.1.trans hl
    have g_1134_0 := (F_1134.2 0 (by decide +kernel)).trans h0
    have g_1134_7 := (F_1134.2 7 (by decide +kernel)).trans h7
    have g_1134_8 := (F_1134.2 8 (by decide +kernel)).trans h8
    have g_1134_9 := (F_1134.2 9 (by decide +kernel)).trans h9
    have g_1134_10 := (F_1134.2 10 (by decide +kernel)).trans h10
    have g_1134_11 := (F_1134.2 11 (by decide +kernel)).trans h11
    have g_1134_12 := (F_1134.2 12 (by decide +kernel)).trans h12
    have g_1134_13 := (F_1134.2 13 (by decide +kernel)).trans h13
    have g_1134_15 := (F_1134.2 15 (by decide +kernel)).trans h15
    have g_1134_18 := (F_1134.2 18 (by decide +kernel)).trans h18
    have g_1134_57 := (F_1134.2 57 (by decide +kernel)).trans h57
    have g_1134_66 := (F_1134.2 66 (by decide +kernel)).trans h66
    have g_1134_67 := (F_1134.2 67 (by decide +kernel)).trans h67
    have g_1134_68 := (F_1134.2 68 (by decide +kernel)).trans h68
    have g_1134_69 := (F_1134.2 69 (by decide +kernel)).trans h69
    have g_1134_70 := (F_1134.2 70 (by decide +kernel)).trans h70
    have g_1134_71 := (F_1134.2 71 (by decide +kernel)).trans h71
    have g_1134_77 := (F_1134.2 77 (by decide +kernel)).trans h77
    have g_1134_78 := (F_1134.2 78 (by decide +kernel)).trans h78
    have g_1134_79 := (F_1134.2 79 (by decide +kernel)).trans h79
    have g_1134_80 := (F_1134.2 80 (by decide +kernel)).trans h80
    have g_1134_81 := (F_1134.2 81 (by decide +kernel)).trans h81
    have g_1134_82 := (F_1134.2 82 (by decide +kernel)).trans h82
    have g_1134_14 : cE h_1134 14 (.inr (1, [.ref 7, .ref 15, .ref 16, fI mi, fJ sd])) := e_1134_14
    have g_1134_16 : cE h_1134 16 (.inl (.int, fA [xa, xb])) := e_1134_16
    refine ⟨an_n 200 n, rfl, ⟨k_1134, _, g_1134_66⟩, ?_⟩
    have gT_1134 := st_gT_t F_1134 (by decide +kernel) gT
    have gS_1134 := st_gS_t F_1134 (by decide +kernel) gS
    have gV_1134 := st_gV_t F_1134 (by decide +kernel) gV
    have gW_1134 := st_gW_t F_1134 (by decide +kernel) gW
    have gM_1134 := st_gM_t F_1134 (by decide +kernel) gM
    have gR_1134 := st_gR_t F_1134 (by decide +kernel) gR
    have gL_1134 := st_gL_t F_1134 (by decide +kernel) gL
    have gI_1134 := st_gI_t F_1134 (by decide +kernel) gI
    have gJ_1134 := st_gJ_t F_1134 (by decide +kernel) gJ
    have hT_1134 := st_hT_t F_1134 (by decide +kernel) hT
    have hM_1134 := st_hM_t F_1134 (by decide +kernel) hM
    have hR_1134 := st_hR_t F_1134 (by decide +kernel) hR
    have hL_1134 := st_hL_t F_1134 (by decide +kernel) hL
    have hI_1134 := st_hI_t F_1134 (by decide +kernel) hI
    refine ik_F_mono (rp_drift (pl := pl) (mi := mi) (sd := sd) (ka := ka) (pa := pa) (fa := fa) (kb := kb) (pb := pb) (fb := fb) (xa := xa) (xb := xb) (s := s) (cn := cnr) (go := gor) (ch := chr) (n := n) (f := fun j => ([0, 0, 0, 0, 0, 0, 0, 0, 0, 0, tn, fp, sc0, sc1, sc2, sc3, sc4, sc5, 0, 0, 0, 0, 0, 0, w24, 0, 0, 0, 0, 0, 0, 0, sb, wa, 0, 0, r, 0, 0, 0, 0, 0, 0] : List Int).getD j 0) (gt := gt) (gd := gdd) f_pl f_s f_sd (by omega) (mx_rw_ch (mx_al_rw f_rw f_al)) (st_cn (mx_al_rw f_rw f_al) f_cr) (mx_rw_ok (mx_al_rw f_rw f_al) _) f_k.1 f_k.2.1 f_k.2.2.1 f_k.2.2.2.1 (fun w => (f_p w).1) (fun w => (f_p w).2) f_x z_n g_1134_66 g_1134_67 n67 g_1134_68 n68 g_1134_69 n69 g_1134_70 g_1134_71 g_1134_77 n77 g_1134_78 n78 k_1134) ?_
    rintro _ h_1136 (⟨w'_1136, gt'_1136, gd'_1136, rfl, e_1136_66, e_1136_71, e_1136_77, m_1136_77, e_1136_78, m_1136_78, p_1136_0, F_1136⟩ | ⟨rfl, e_1136_66, e_1136_71, e_1136_77, m_1136_77, e_1136_78, m_1136_78, p_1136_0, F_1136⟩)
    · have k_1136 := F_1136.1.trans k_1134
      have g_1136_0 := (F_1136.2 0 (by decide +kernel)).trans g_1134_0
      have g_1136_7 := (F_1136.2 7 (by decide +kernel)).trans g_1134_7
      have g_1136_8 := (F_1136.2 8 (by decide +kernel)).trans g_1134_8
      have g_1136_9 := (F_1136.2 9 (by decide +kernel)).trans g_1134_9
      have g_1136_10 := (F_1136.2 10 (by decide +kernel)).trans g_1134_10
      have g_1136_11 := (F_1136.2 11 (by decide +kernel)).trans g_1134_11
      have g_1136_12 := (F_1136.2 12 (by decide +kernel)).trans g_1134_12
      have g_1136_13 := (F_1136.2 13 (by decide +kernel)).trans g_1134_13
      have g_1136_14 := (F_1136.2 14 (by decide +kernel)).trans g_1134_14
      have g_1136_15 := (F_1136.2 15 (by decide +kernel)).trans g_1134_15
      have g_1136_16 := (F_1136.2 16 (by decide +kernel)).trans g_1134_16
      have g_1136_18 := (F_1136.2 18 (by decide +kernel)).trans g_1134_18
      have g_1136_57 := (F_1136.2 57 (by decide +kernel)).trans g_1134_57
      have g_1136_67 := (F_1136.2 67 (by decide +kernel)).trans g_1134_67
      have g_1136_68 := (F_1136.2 68 (by decide +kernel)).trans g_1134_68
      have g_1136_69 := (F_1136.2 69 (by decide +kernel)).trans g_1134_69
      have g_1136_70 := (F_1136.2 70 (by decide +kernel)).trans g_1134_70
      have g_1136_79 := (F_1136.2 79 (by decide +kernel)).trans g_1134_79
      have g_1136_80 := (F_1136.2 80 (by decide +kernel)).trans g_1134_80
      have g_1136_81 := (F_1136.2 81 (by decide +kernel)).trans g_1134_81
      have g_1136_82 := (F_1136.2 82 (by decide +kernel)).trans g_1134_82
      have g_1136_66 : cE h_1136 66 (.inr (10, [fI pl, .ref 67, .ref 68, .ref 69, fI ((s : Nat) : Int), .ref 70, .ref 71, fI ((mx_dr (fun x => mx_w cnr gor chr s x) (pl - 1) ka pa fa kb pb fb n.toNat xa xb mi sd).2.2.1), fI ((mx_dr (fun x => mx_w cnr gor chr s x) (pl - 1) ka pa fa kb pb fb n.toNat xa xb mi sd).2.2.2), .ref 72, fI tn, fI fp, fI sc0, fJ sc1, fI sc2, fI sc3, fI sc4, fI sc5, .ref 73, .ref 74, .ref 75, .ref 76, .ref 77, .ref 78, fI w'_1136, .ref 79, .ref 80, .ref 81, .ref 82, .ref 83, .ref 84, .ref 85, fJ sb, fJ wa, .ref 86, .ref 87, fI r, .ref 88, .ref 89, .ref 90, .ref 91, .ref 92, .ref 93])) := e_1136_66
      have g_1136_71 : cE h_1136 71 (.inl (.int, fA [(mx_dr (fun x => mx_w cnr gor chr s x) (pl - 1) ka pa fa kb pb fb n.toNat xa xb mi sd).1, (mx_dr (fun x => mx_w cnr gor chr s x) (pl - 1) ka pa fa kb pb fb n.toNat xa xb mi sd).2.1])) := e_1136_71
      have g_1136_77 : cE h_1136 77 (.inl (.int, fA gt'_1136)) := e_1136_77
      have g_1136_78 : cE h_1136 78 (.inl (.int, fA gd'_1136)) := e_1136_78
      exact absurd p_1136_0 p_1134_0
    · have k_1136 := F_1136.1.trans k_1134
      have g_1136_0 := (F_1136.2 0 (by decide +kernel)).trans g_1134_0
      have g_1136_7 := (F_1136.2 7 (by decide +kernel)).trans g_1134_7
      have g_1136_8 := (F_1136.2 8 (by decide +kernel)).trans g_1134_8
      have g_1136_9 := (F_1136.2 9 (by decide +kernel)).trans g_1134_9
      have g_1136_10 := (F_1136.2 10 (by decide +kernel)).trans g_1134_10
      have g_1136_11 := (F_1136.2 11 (by decide +kernel)).trans g_1134_11
      have g_1136_12 := (F_1136.2 12 (by decide +kernel)).trans g_1134_12
      have g_1136_13 := (F_1136.2 13 (by decide +kernel)).trans g_1134_13
      have g_1136_14 := (F_1136.2 14 (by decide +kernel)).trans g_1134_14
      have g_1136_15 := (F_1136.2 15 (by decide +kernel)).trans g_1134_15
      have g_1136_16 := (F_1136.2 16 (by decide +kernel)).trans g_1134_16
      have g_1136_18 := (F_1136.2 18 (by decide +kernel)).trans g_1134_18
      have g_1136_57 := (F_1136.2 57 (by decide +kernel)).trans g_1134_57
      have g_1136_67 := (F_1136.2 67 (by decide +kernel)).trans g_1134_67
      have g_1136_68 := (F_1136.2 68 (by decide +kernel)).trans g_1134_68
      have g_1136_69 := (F_1136.2 69 (by decide +kernel)).trans g_1134_69
      have g_1136_70 := (F_1136.2 70 (by decide +kernel)).trans g_1134_70
      have g_1136_79 := (F_1136.2 79 (by decide +kernel)).trans g_1134_79
      have g_1136_80 := (F_1136.2 80 (by decide +kernel)).trans g_1134_80
      have g_1136_81 := (F_1136.2 81 (by decide +kernel)).trans g_1134_81
      have g_1136_82 := (F_1136.2 82 (by decide +kernel)).trans g_1134_82
      have g_1136_66 : cE h_1136 66 (.inr (10, [fI pl, .ref 67, .ref 68, .ref 69, fI ((s : Nat) : Int), .ref 70, .ref 71, fI mi, fI sd, .ref 72, fI tn, fI fp, fI sc0, fJ sc1, fI sc2, fI sc3, fI sc4, fI sc5, .ref 73, .ref 74, .ref 75, .ref 76, .ref 77, .ref 78, fI w24, .ref 79, .ref 80, .ref 81, .ref 82, .ref 83, .ref 84, .ref 85, fJ sb, fJ wa, .ref 86, .ref 87, fI r, .ref 88, .ref 89, .ref 90, .ref 91, .ref 92, .ref 93])) := e_1136_66
      have g_1136_71 : cE h_1136 71 (.inl (.int, fA [xa, xb])) := e_1136_71
      have g_1136_77 : cE h_1136 77 (.inl (.int, fA gt)) := e_1136_77
      have g_1136_78 : cE h_1136 78 (.inl (.int, fA gdd)) := e_1136_78
      refine ⟨rfl, ?_⟩
      have gT_1136 := st_gT_t F_1136 (by decide +kernel) gT_1134
      have gS_1136 := st_gS_t F_1136 (by decide +kernel) gS_1134
      have gV_1136 := st_gV_t F_1136 (by decide +kernel) gV_1134
      have gW_1136 := st_gW_t F_1136 (by decide +kernel) gW_1134
      have gM_1136 := st_gM_t F_1136 (by decide +kernel) gM_1134
      have gR_1136 := st_gR_t F_1136 (by decide +kernel) gR_1134
      have gL_1136 := st_gL_t F_1136 (by decide +kernel) gL_1134
      have gI_1136 := st_gI_t F_1136 (by decide +kernel) gI_1134
      have gJ_1136 := st_gJ_t F_1136 (by decide +kernel) gJ_1134
      have hT_1136 := st_hT_t F_1136 (by decide +kernel) hT_1134
      have hM_1136 := st_hM_t F_1136 (by decide +kernel) hM_1134
      have hR_1136 := st_hR_t F_1136 (by decide +kernel) hR_1134
      have hL_1136 := st_hL_t F_1136 (by decide +kernel) hL_1134
      have hI_1136 := st_hI_t F_1136 (by decide +kernel) hI_1134
      intro C_ k_
      exact k_ tn fp pl mi sd ka pa fa kb pb fb xa xb r n0 n1 ga0 gm0 gd_0 gs0 g00 g01 g02 g03 g04 g05 gx0 gy0 ga1 gm1 gd_1 gs1 g10 g11 g12 g13 g14 g15 gx1 gy1 s T cn go ch wg wc we rp rt lr ci0 ci1 cnr gor chr T2 im f_pl f_s f_st f_cb f_cr f_rw f_al f_wy f_k f_p f_x (by omega) f_sd f_r f_rr f_n f_l0 f_l1 f_tn f_t (st_I_K f_i0) (st_I_K f_i1) ⟨g_1136_0, g_1136_18, g_1136_57⟩ gT_1136 ⟨g_1136_7, g_1136_8, n8, g_1136_9, n9, g_1136_10, n10, g_1136_11, n11, g_1136_12, n12, g_1136_13, n13⟩ ⟨g_1136_14, g_1136_15, g_1136_16⟩ gS_1136 gV_1136 gW_1136 gM_1136 gR_1136 gL_1136 gI_1136 gJ_1136 ⟨sc0, sc1, sc2, sc3, sc4, sc5, w24, sb, wa, g_1136_66⟩ ⟨g_1136_67, n67, g_1136_68, n68, g_1136_69, n69⟩ ⟨g_1136_70, g_1136_71⟩ hT_1136 ⟨gt, gdd, xs, ys, r1, r2, g_1136_77, m_1136_77, g_1136_78, m_1136_78, g_1136_79, n79, g_1136_80, n80, g_1136_81, n81, g_1136_82, n82⟩ hM_1136 hR_1136 hL_1136 hI_1136 k_1136

end