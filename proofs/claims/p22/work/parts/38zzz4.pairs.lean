/-! 38zzz4.pairs -/
noncomputable section
set_option maxRecDepth 100000 in
theorem lk_stone0 {K : Nat} {h : List ik_E} (E : st_S K h) (hK : K ≤ 600) {p : Int} (z_p : -2147483648 ≤ p ∧ p < 2147483648)  : ik_F 103 [.ref 0, fI p, fI 0] h (fun rv h_q => ∃ o_ : Int, rv = [fI o_] ∧ (h_q.length = (94 : Nat) ∧ ∃ fs, h_q[66]? = some (.inr (10, fs))) ∧ ik_F 181 [.ref 66, fI p, fI 0] h_q (fun rv' h'' => rv' = [fI o_] ∧ st_S (K + 1) h'')) := by
  refine E _ ?_
  intro tn fp pl mi sd ka pa fa kb pb fb xa xb r n0 n1 ga0 gm0 gd_0 gs0 g00 g01 g02 g03 g04 g05 gx0 gy0 ga1 gm1 gd_1 gs1 g10 g11 g12 g13 g14 g15 gx1 gy1 s T cn go ch wg wc we rp rt lr ci0 ci1 cnr gor chr T2 im f_pl f_s f_st f_cb f_cr f_rw f_al f_wy f_k f_p f_x f_m f_sd f_r f_rr f_n f_l0 f_l1 f_tn f_t f_i0 f_i1 gA gT gB gC gS gV gW gM gR gL gI gJ hO hB hC hT hS hM hR hL hI hl
  replace f_cb := ik_hid_i f_cb
  replace f_cr := ik_hid_i f_cr
  replace f_p := ik_hid_i f_p
  replace f_x := ik_hid_i f_x
  obtain ⟨h0, h18, h57⟩ := gA
  obtain ⟨h7, h8, n8, h9, n9, h10, n10, h11, n11, h12, n12, h13, n13⟩ := gB
  obtain ⟨sc0, sc1, sc2, sc3, sc4, sc5, w24, sb, wa, h66⟩ := hO
  refine ik_F_mono (cp_stone0 (pl := pl) (lo := ((mj_lost pl cn go : Nat) : Int)) (s := s) (p := p) (cn := cn) (go := go) (ch := ch) (wg := wg) (wc := wc) (we := we) f_pl f_wy f_rw f_s z_p h0 h7 h8 n8 h9 n9 h10 n10 h11 n11 h12 n12 h13 n13 hl) ?_
  rintro v_1115 h_1115 (⟨er_1115, e_1115_7, e_1115_11, m_1115_11, e_1115_12, m_1115_12, e_1115_13, m_1115_13, p_1115_0, p_1115_1, F_1115⟩ | ⟨wg'_1115, wc'_1115, we'_1115, er_1115, e_1115_7, e_1115_11, m_1115_11, e_1115_12, m_1115_12, e_1115_13, m_1115_13, p_1115_0, p_1115_1, p_1115_2, F_1115⟩ | ⟨er_1115, e_1115_7, e_1115_11, m_1115_11, e_1115_12, m_1115_12, e_1115_13, m_1115_13, p_1115_0, F_1115⟩) <;> subst er_1115
  · have k_1115 : cL h_1115 := F_1115.1.trans hl
    have g_1115_0 := (hfr_g F_1115 0 rfl).trans h0
    have g_1115_8 := (hfr_g F_1115 8 rfl).trans h8
    have g_1115_9 := (hfr_g F_1115 9 rfl).trans h9
    have g_1115_10 := (hfr_g F_1115 10 rfl).trans h10
    have g_1115_18 := (hfr_g F_1115 18 rfl).trans h18
    have g_1115_57 := (hfr_g F_1115 57 rfl).trans h57
    have g_1115_66 := (hfr_g F_1115 66 rfl).trans h66
    have g_1115_7 : cE h_1115 7 (.inr (0, [fI pl, fI ((s : Nat) : Int), fI ((mj_lost pl cn go : Nat) : Int), .ref 8, .ref 9, .ref 10, .ref 11, .ref 12, .ref 13])) := e_1115_7
    have g_1115_11 : cE h_1115 11 (.inl (.int, fA wg)) := e_1115_11
    have g_1115_12 : cE h_1115 12 (.inl (.int, fA wc)) := e_1115_12
    have g_1115_13 : cE h_1115 13 (.inl (.int, fA we)) := e_1115_13
    refine ⟨0, rfl, ⟨k_1115, _, g_1115_66⟩, ?_⟩
    have gT_1115 := st_gT_t F_1115 (hdj_b rfl) gT
    have gC_1115 := st_gC_t F_1115 (hdj_b rfl) gC
    have gS_1115 := st_gS_t F_1115 (hdj_b rfl) gS
    have gV_1115 := st_gV_t F_1115 (hdj_b rfl) gV
    have gW_1115 := st_gW_t F_1115 (hdj_b rfl) gW
    have gM_1115 := st_gM_t F_1115 (hdj_b rfl) gM
    have gR_1115 := st_gR_t F_1115 (hdj_b rfl) gR
    have gL_1115 := st_gL_t F_1115 (hdj_b rfl) gL
    have gI_1115 := st_gI_t F_1115 (hdj_b rfl) gI
    have gJ_1115 := st_gJ_t F_1115 (hdj_b rfl) gJ
    have hB_1115 := st_hB_t F_1115 (hdj_b rfl) hB
    have hC_1115 := st_hC_t F_1115 (hdj_b rfl) hC
    have hT_1115 := st_hT_t F_1115 (hdj_b rfl) hT
    have hS_1115 := st_hS_t F_1115 (hdj_b rfl) hS
    have hM_1115 := st_hM_t F_1115 (hdj_b rfl) hM
    have hR_1115 := st_hR_t F_1115 (hdj_b rfl) hR
    have hL_1115 := st_hL_t F_1115 (hdj_b rfl) hL
    have hI_1115 := st_hI_t F_1115 (hdj_b rfl) hI
    refine ik_F_mono (rp_stone0 (pl := pl) (s := s) (p := p) (f := fun j => ((0 :: 0 :: 0 :: 0 :: 0 :: 0 :: 0 :: mi :: sd :: 0 :: tn :: fp :: sc0 :: sc1 :: sc2 :: sc3 :: sc4 :: sc5 :: 0 :: 0 :: 0 :: 0 :: 0 :: 0 :: w24 :: 0 :: 0 :: 0 :: 0 :: 0 :: 0 :: 0 :: sb :: wa :: 0 :: 0 :: r :: 0 :: 0 :: 0 :: 0 :: 0 :: 0 :: []) : List Int).getD j 0) f_pl f_s z_p g_1115_66 k_1115) ?_
    rintro v_1116 h_1116 (⟨er_1116, e_1116_66, p_1116_0, p_1116_1, F_1116⟩ | ⟨er_1116, e_1116_66, p_1116_0, p_1116_1, F_1116⟩ | ⟨er_1116, e_1116_66, p_1116_0, F_1116⟩) <;> subst er_1116
    · have k_1116 : cL h_1116 := F_1116.1.trans k_1115
      have g_1116_0 := (hfr_g F_1116 0 rfl).trans g_1115_0
      have g_1116_7 := (hfr_g F_1116 7 rfl).trans g_1115_7
      have g_1116_8 := (hfr_g F_1116 8 rfl).trans g_1115_8
      have g_1116_9 := (hfr_g F_1116 9 rfl).trans g_1115_9
      have g_1116_10 := (hfr_g F_1116 10 rfl).trans g_1115_10
      have g_1116_11 := (hfr_g F_1116 11 rfl).trans g_1115_11
      have g_1116_12 := (hfr_g F_1116 12 rfl).trans g_1115_12
      have g_1116_13 := (hfr_g F_1116 13 rfl).trans g_1115_13
      have g_1116_18 := (hfr_g F_1116 18 rfl).trans g_1115_18
      have g_1116_57 := (hfr_g F_1116 57 rfl).trans g_1115_57
      have g_1116_66 : cE h_1116 66 (.inr (10, (fI pl :: .ref 67 :: .ref 68 :: .ref 69 :: fI ((s : Nat) : Int) :: .ref 70 :: .ref 71 :: fI mi :: fI sd :: .ref 72 :: fI tn :: fI fp :: fI sc0 :: fJ sc1 :: fI sc2 :: fI sc3 :: fI sc4 :: fI sc5 :: .ref 73 :: .ref 74 :: .ref 75 :: .ref 76 :: .ref 77 :: .ref 78 :: fI w24 :: .ref 79 :: .ref 80 :: .ref 81 :: .ref 82 :: .ref 83 :: .ref 84 :: .ref 85 :: fJ sb :: fJ wa :: .ref 86 :: .ref 87 :: fI r :: .ref 88 :: .ref 89 :: .ref 90 :: .ref 91 :: .ref 92 :: .ref 93 :: []))) := e_1116_66
      refine ⟨rfl, ?_⟩
      have gT_1116 := st_gT_t F_1116 (hdj_b rfl) gT_1115
      have gC_1116 := st_gC_t F_1116 (hdj_b rfl) gC_1115
      have gS_1116 := st_gS_t F_1116 (hdj_b rfl) gS_1115
      have gV_1116 := st_gV_t F_1116 (hdj_b rfl) gV_1115
      have gW_1116 := st_gW_t F_1116 (hdj_b rfl) gW_1115
      have gM_1116 := st_gM_t F_1116 (hdj_b rfl) gM_1115
      have gR_1116 := st_gR_t F_1116 (hdj_b rfl) gR_1115
      have gL_1116 := st_gL_t F_1116 (hdj_b rfl) gL_1115
      have gI_1116 := st_gI_t F_1116 (hdj_b rfl) gI_1115
      have gJ_1116 := st_gJ_t F_1116 (hdj_b rfl) gJ_1115
      have hB_1116 := st_hB_t F_1116 (hdj_b rfl) hB_1115
      have hC_1116 := st_hC_t F_1116 (hdj_b rfl) hC_1115
      have hT_1116 := st_hT_t F_1116 (hdj_b rfl) hT_1115
      have hS_1116 := st_hS_t F_1116 (hdj_b rfl) hS_1115
      have hM_1116 := st_hM_t F_1116 (hdj_b rfl) hM_1115
      have hR_1116 := st_hR_t F_1116 (hdj_b rfl) hR_1115
      have hL_1116 := st_hL_t F_1116 (hdj_b rfl) hL_1115
      have hI_1116 := st_hI_t F_1116 (hdj_b rfl) hI_1115
      intro C_ k_
      exact k_ tn fp pl mi sd ka pa fa kb pb fb xa xb r n0 n1 ga0 gm0 gd_0 gs0 g00 g01 g02 g03 g04 g05 gx0 gy0 ga1 gm1 gd_1 gs1 g10 g11 g12 g13 g14 g15 gx1 gy1 s T cn go ch wg wc we rp rt lr ci0 ci1 cnr gor chr T2 im f_pl f_s f_st f_cb f_cr f_rw f_al f_wy f_k f_p f_x (by first | exact st_m f_m | omega) f_sd f_r f_rr f_n f_l0 f_l1 f_tn f_t (st_I_K f_i0) (st_I_K f_i1) ⟨g_1116_0, g_1116_18, g_1116_57⟩ gT_1116 ⟨g_1116_7, g_1116_8, n8, g_1116_9, n9, g_1116_10, n10, g_1116_11, m_1115_11, g_1116_12, m_1115_12, g_1116_13, m_1115_13⟩ gC_1116 gS_1116 gV_1116 gW_1116 gM_1116 gR_1116 gL_1116 gI_1116 gJ_1116 ⟨sc0, sc1, sc2, sc3, sc4, sc5, w24, sb, wa, g_1116_66⟩ hB_1116 hC_1116 hT_1116 hS_1116 hM_1116 hR_1116 hL_1116 hI_1116 k_1116
    · have k_1116 : cL h_1116 := F_1116.1.trans k_1115
      have g_1116_0 := (hfr_g F_1116 0 rfl).trans g_1115_0
      have g_1116_7 := (hfr_g F_1116 7 rfl).trans g_1115_7
      have g_1116_8 := (hfr_g F_1116 8 rfl).trans g_1115_8
      have g_1116_9 := (hfr_g F_1116 9 rfl).trans g_1115_9
      have g_1116_10 := (hfr_g F_1116 10 rfl).trans g_1115_10
      have g_1116_11 := (hfr_g F_1116 11 rfl).trans g_1115_11
      have g_1116_12 := (hfr_g F_1116 12 rfl).trans g_1115_12
      have g_1116_13 := (hfr_g F_1116 13 rfl).trans g_1115_13
      have g_1116_18 := (hfr_g F_1116 18 rfl).trans g_1115_18
      have g_1116_57 := (hfr_g F_1116 57 rfl).trans g_1115_57
      have g_1116_66 : cE h_1116 66 (.inr (10, (fI pl :: .ref 67 :: .ref 68 :: .ref 69 :: fI ((s ^^^ 1 <<< p.toNat : Nat) : Int) :: .ref 70 :: .ref 71 :: fI mi :: fI sd :: .ref 72 :: fI tn :: fI fp :: fI sc0 :: fJ sc1 :: fI sc2 :: fI sc3 :: fI sc4 :: fI sc5 :: .ref 73 :: .ref 74 :: .ref 75 :: .ref 76 :: .ref 77 :: .ref 78 :: fI w24 :: .ref 79 :: .ref 80 :: .ref 81 :: .ref 82 :: .ref 83 :: .ref 84 :: .ref 85 :: fJ sb :: fJ wa :: .ref 86 :: .ref 87 :: fI r :: .ref 88 :: .ref 89 :: .ref 90 :: .ref 91 :: .ref 92 :: .ref 93 :: []))) := e_1116_66
      exact absurd (p_1115_0.symm.trans p_1116_0) (by decide +kernel)
    · have k_1116 : cL h_1116 := F_1116.1.trans k_1115
      have g_1116_0 := (hfr_g F_1116 0 rfl).trans g_1115_0
      have g_1116_7 := (hfr_g F_1116 7 rfl).trans g_1115_7
      have g_1116_8 := (hfr_g F_1116 8 rfl).trans g_1115_8
      have g_1116_9 := (hfr_g F_1116 9 rfl).trans g_1115_9
      have g_1116_10 := (hfr_g F_1116 10 rfl).trans g_1115_10
      have g_1116_11 := (hfr_g F_1116 11 rfl).trans g_1115_11
      have g_1116_12 := (hfr_g F_1116 12 rfl).trans g_1115_12
      have g_1116_13 := (hfr_g F_1116 13 rfl).trans g_1115_13
      have g_1116_18 := (hfr_g F_1116 18 rfl).trans g_1115_18
      have g_1116_57 := (hfr_g F_1116 57 rfl).trans g_1115_57
      have g_1116_66 : cE h_1116 66 (.inr (10, (fI pl :: .ref 67 :: .ref 68 :: .ref 69 :: fI ((s : Nat) : Int) :: .ref 70 :: .ref 71 :: fI mi :: fI sd :: .ref 72 :: fI tn :: fI fp :: fI sc0 :: fJ sc1 :: fI sc2 :: fI sc3 :: fI sc4 :: fI sc5 :: .ref 73 :: .ref 74 :: .ref 75 :: .ref 76 :: .ref 77 :: .ref 78 :: fI w24 :: .ref 79 :: .ref 80 :: .ref 81 :: .ref 82 :: .ref 83 :: .ref 84 :: .ref 85 :: fJ sb :: fJ wa :: .ref 86 :: .ref 87 :: fI r :: .ref 88 :: .ref 89 :: .ref 90 :: .ref 91 :: .ref 92 :: .ref 93 :: []))) := e_1116_66
      exact absurd p_1115_1 p_1116_0
  · have k_1115 : cL h_1115 := F_1115.1.trans hl
    have g_1115_0 := (hfr_g F_1115 0 rfl).trans h0
    have g_1115_8 := (hfr_g F_1115 8 rfl).trans h8
    have g_1115_9 := (hfr_g F_1115 9 rfl).trans h9
    have g_1115_10 := (hfr_g F_1115 10 rfl).trans h10
    have g_1115_18 := (hfr_g F_1115 18 rfl).trans h18
    have g_1115_57 := (hfr_g F_1115 57 rfl).trans h57
    have g_1115_66 := (hfr_g F_1115 66 rfl).trans h66
    have g_1115_7 : cE h_1115 7 (.inr (0, [fI pl, fI ((s ^^^ 1 <<< p.toNat : Nat) : Int), fI ((mj_lost pl cn go : Nat) : Int), .ref 8, .ref 9, .ref 10, .ref 11, .ref 12, .ref 13])) := e_1115_7
    have g_1115_11 : cE h_1115 11 (.inl (.int, fA wg'_1115)) := e_1115_11
    have g_1115_12 : cE h_1115 12 (.inl (.int, fA wc'_1115)) := e_1115_12
    have g_1115_13 : cE h_1115 13 (.inl (.int, fA we'_1115)) := e_1115_13
    refine ⟨1, rfl, ⟨k_1115, _, g_1115_66⟩, ?_⟩
    have gT_1115 := st_gT_t F_1115 (hdj_b rfl) gT
    have gC_1115 := st_gC_t F_1115 (hdj_b rfl) gC
    have gS_1115 := st_gS_t F_1115 (hdj_b rfl) gS
    have gV_1115 := st_gV_t F_1115 (hdj_b rfl) gV
    have gW_1115 := st_gW_t F_1115 (hdj_b rfl) gW
    have gM_1115 := st_gM_t F_1115 (hdj_b rfl) gM
    have gR_1115 := st_gR_t F_1115 (hdj_b rfl) gR
    have gL_1115 := st_gL_t F_1115 (hdj_b rfl) gL
    have gI_1115 := st_gI_t F_1115 (hdj_b rfl) gI
    have gJ_1115 := st_gJ_t F_1115 (hdj_b rfl) gJ
    have hB_1115 := st_hB_t F_1115 (hdj_b rfl) hB
    have hC_1115 := st_hC_t F_1115 (hdj_b rfl) hC
    have hT_1115 := st_hT_t F_1115 (hdj_b rfl) hT
    have hS_1115 := st_hS_t F_1115 (hdj_b rfl) hS
    have hM_1115 := st_hM_t F_1115 (hdj_b rfl) hM
    have hR_1115 := st_hR_t F_1115 (hdj_b rfl) hR
    have hL_1115 := st_hL_t F_1115 (hdj_b rfl) hL
    have hI_1115 := st_hI_t F_1115 (hdj_b rfl) hI
    refine ik_F_mono (rp_stone0 (pl := pl) (s := s) (p := p) (f := fun j => ((0 :: 0 :: 0 :: 0 :: 0 :: 0 :: 0 :: mi :: sd :: 0 :: tn :: fp :: sc0 :: sc1 :: sc2 :: sc3 :: sc4 :: sc5 :: 0 :: 0 :: 0 :: 0 :: 0 :: 0 :: w24 :: 0 :: 0 :: 0 :: 0 :: 0 :: 0 :: 0 :: sb :: wa :: 0 :: 0 :: r :: 0 :: 0 :: 0 :: 0 :: 0 :: 0 :: []) : List Int).getD j 0) f_pl f_s z_p g_1115_66 k_1115) ?_
    rintro v_1117 h_1117 (⟨er_1117, e_1117_66, p_1117_0, p_1117_1, F_1117⟩ | ⟨er_1117, e_1117_66, p_1117_0, p_1117_1, F_1117⟩ | ⟨er_1117, e_1117_66, p_1117_0, F_1117⟩) <;> subst er_1117
    · have k_1117 : cL h_1117 := F_1117.1.trans k_1115
      have g_1117_0 := (hfr_g F_1117 0 rfl).trans g_1115_0
      have g_1117_7 := (hfr_g F_1117 7 rfl).trans g_1115_7
      have g_1117_8 := (hfr_g F_1117 8 rfl).trans g_1115_8
      have g_1117_9 := (hfr_g F_1117 9 rfl).trans g_1115_9
      have g_1117_10 := (hfr_g F_1117 10 rfl).trans g_1115_10
      have g_1117_11 := (hfr_g F_1117 11 rfl).trans g_1115_11
      have g_1117_12 := (hfr_g F_1117 12 rfl).trans g_1115_12
      have g_1117_13 := (hfr_g F_1117 13 rfl).trans g_1115_13
      have g_1117_18 := (hfr_g F_1117 18 rfl).trans g_1115_18
      have g_1117_57 := (hfr_g F_1117 57 rfl).trans g_1115_57
      have g_1117_66 : cE h_1117 66 (.inr (10, (fI pl :: .ref 67 :: .ref 68 :: .ref 69 :: fI ((s : Nat) : Int) :: .ref 70 :: .ref 71 :: fI mi :: fI sd :: .ref 72 :: fI tn :: fI fp :: fI sc0 :: fJ sc1 :: fI sc2 :: fI sc3 :: fI sc4 :: fI sc5 :: .ref 73 :: .ref 74 :: .ref 75 :: .ref 76 :: .ref 77 :: .ref 78 :: fI w24 :: .ref 79 :: .ref 80 :: .ref 81 :: .ref 82 :: .ref 83 :: .ref 84 :: .ref 85 :: fJ sb :: fJ wa :: .ref 86 :: .ref 87 :: fI r :: .ref 88 :: .ref 89 :: .ref 90 :: .ref 91 :: .ref 92 :: .ref 93 :: []))) := e_1117_66
      exact absurd (p_1115_0.symm.trans p_1117_0) (by decide +kernel)
    · have k_1117 : cL h_1117 := F_1117.1.trans k_1115
      have g_1117_0 := (hfr_g F_1117 0 rfl).trans g_1115_0
      have g_1117_7 := (hfr_g F_1117 7 rfl).trans g_1115_7
      have g_1117_8 := (hfr_g F_1117 8 rfl).trans g_1115_8
      have g_1117_9 := (hfr_g F_1117 9 rfl).trans g_1115_9
      have g_1117_10 := (hfr_g F_1117 10 rfl).trans g_1115_10
      have g_1117_11 := (hfr_g F_1117 11 rfl).trans g_1115_11
      have g_1117_12 := (hfr_g F_1117 12 rfl).trans g_1115_12
      have g_1117_13 := (hfr_g F_1117 13 rfl).trans g_1115_13
      have g_1117_18 := (hfr_g F_1117 18 rfl).trans g_1115_18
      have g_1117_57 := (hfr_g F_1117 57 rfl).trans g_1115_57
      have g_1117_66 : cE h_1117 66 (.inr (10, (fI pl :: .ref 67 :: .ref 68 :: .ref 69 :: fI ((s ^^^ 1 <<< p.toNat : Nat) : Int) :: .ref 70 :: .ref 71 :: fI mi :: fI sd :: .ref 72 :: fI tn :: fI fp :: fI sc0 :: fJ sc1 :: fI sc2 :: fI sc3 :: fI sc4 :: fI sc5 :: .ref 73 :: .ref 74 :: .ref 75 :: .ref 76 :: .ref 77 :: .ref 78 :: fI w24 :: .ref 79 :: .ref 80 :: .ref 81 :: .ref 82 :: .ref 83 :: .ref 84 :: .ref 85 :: fJ sb :: fJ wa :: .ref 86 :: .ref 87 :: fI r :: .ref 88 :: .ref 89 :: .ref 90 :: .ref 91 :: .ref 92 :: .ref 93 :: []))) := e_1117_66
      refine ⟨rfl, ?_⟩
      have gT_1117 := st_gT_t F_1117 (hdj_b rfl) gT_1115
      have gC_1117 := st_gC_t F_1117 (hdj_b rfl) gC_1115
      have gS_1117 := st_gS_t F_1117 (hdj_b rfl) gS_1115
      have gV_1117 := st_gV_t F_1117 (hdj_b rfl) gV_1115
      have gW_1117 := st_gW_t F_1117 (hdj_b rfl) gW_1115
      have gM_1117 := st_gM_t F_1117 (hdj_b rfl) gM_1115
      have gR_1117 := st_gR_t F_1117 (hdj_b rfl) gR_1115
      have gL_1117 := st_gL_t F_1117 (hdj_b rfl) gL_1115
      have gI_1117 := st_gI_t F_1117 (hdj_b rfl) gI_1115
      have gJ_1117 := st_gJ_t F_1117 (hdj_b rfl) gJ_1115
      have hB_1117 := st_hB_t F_1117 (hdj_b rfl) hB_1115
      have hC_1117 := st_hC_t F_1117 (hdj_b rfl) hC_1115
      have hT_1117 := st_hT_t F_1117 (hdj_b rfl) hT_1115
      have hS_1117 := st_hS_t F_1117 (hdj_b rfl) hS_1115
      have hM_1117 := st_hM_t F_1117 (hdj_b rfl) hM_1115
      have hR_1117 := st_hR_t F_1117 (hdj_b rfl) hR_1115
      have hL_1117 := st_hL_t F_1117 (hdj_b rfl) hL_1115
      have hI_1117 := st_hI_t F_1117 (hdj_b rfl) hI_1115
      intro C_ k_
      exact k_ tn fp pl mi sd ka pa fa kb pb fb xa xb r n0 n1 ga0 gm0 gd_0 gs0 g00 g01 g02 g03 g04 g05 gx0 gy0 ga1 gm1 gd_1 gs1 g10 g11 g12 g13 g14 g15 gx1 gy1 (s ^^^ 1 <<< p.toNat) T cn go ch wg'_1115 wc'_1115 we'_1115 rp rt lr ci0 ci1 cnr gor chr T2 im f_pl (mx_xor_lt f_s (by omega)) (fun w => by rw [Nat.testBit_xor, f_st w, mf_tb0 (by omega)]; rfl) f_cb f_cr f_rw f_al p_1115_2 f_k f_p f_x (by first | exact st_m f_m | omega) f_sd f_r f_rr f_n f_l0 f_l1 f_tn f_t (st_I_K f_i0) (st_I_K f_i1) ⟨g_1117_0, g_1117_18, g_1117_57⟩ gT_1117 ⟨g_1117_7, g_1117_8, n8, g_1117_9, n9, g_1117_10, n10, g_1117_11, m_1115_11, g_1117_12, m_1115_12, g_1117_13, m_1115_13⟩ gC_1117 gS_1117 gV_1117 gW_1117 gM_1117 gR_1117 gL_1117 gI_1117 gJ_1117 ⟨sc0, sc1, sc2, sc3, sc4, sc5, w24, sb, wa, g_1117_66⟩ hB_1117 hC_1117 hT_1117 hS_1117 hM_1117 hR_1117 hL_1117 hI_1117 k_1117
    · have k_1117 : cL h_1117 := F_1117.1.trans k_1115
      have g_1117_0 := (hfr_g F_1117 0 rfl).trans g_1115_0
      have g_1117_7 := (hfr_g F_1117 7 rfl).trans g_1115_7
      have g_1117_8 := (hfr_g F_1117 8 rfl).trans g_1115_8
      have g_1117_9 := (hfr_g F_1117 9 rfl).trans g_1115_9
      have g_1117_10 := (hfr_g F_1117 10 rfl).trans g_1115_10
      have g_1117_11 := (hfr_g F_1117 11 rfl).trans g_1115_11
      have g_1117_12 := (hfr_g F_1117 12 rfl).trans g_1115_12
      have g_1117_13 := (hfr_g F_1117 13 rfl).trans g_1115_13
      have g_1117_18 := (hfr_g F_1117 18 rfl).trans g_1115_18
      have g_1117_57 := (hfr_g F_1117 57 rfl).trans g_1115_57
      have g_1117_66 : cE h_1117 66 (.inr (10, (fI pl :: .ref 67 :: .ref 68 :: .ref 69 :: fI ((s : Nat) : Int) :: .ref 70 :: .ref 71 :: fI mi :: fI sd :: .ref 72 :: fI tn :: fI fp :: fI sc0 :: fJ sc1 :: fI sc2 :: fI sc3 :: fI sc4 :: fI sc5 :: .ref 73 :: .ref 74 :: .ref 75 :: .ref 76 :: .ref 77 :: .ref 78 :: fI w24 :: .ref 79 :: .ref 80 :: .ref 81 :: .ref 82 :: .ref 83 :: .ref 84 :: .ref 85 :: fJ sb :: fJ wa :: .ref 86 :: .ref 87 :: fI r :: .ref 88 :: .ref 89 :: .ref 90 :: .ref 91 :: .ref 92 :: .ref 93 :: []))) := e_1117_66
      exact absurd p_1115_1 p_1117_0
  · have k_1115 : cL h_1115 := F_1115.1.trans hl
    have g_1115_0 := (hfr_g F_1115 0 rfl).trans h0
    have g_1115_8 := (hfr_g F_1115 8 rfl).trans h8
    have g_1115_9 := (hfr_g F_1115 9 rfl).trans h9
    have g_1115_10 := (hfr_g F_1115 10 rfl).trans h10
    have g_1115_18 := (hfr_g F_1115 18 rfl).trans h18
    have g_1115_57 := (hfr_g F_1115 57 rfl).trans h57
    have g_1115_66 := (hfr_g F_1115 66 rfl).trans h66
    have g_1115_7 : cE h_1115 7 (.inr (0, [fI pl, fI ((s : Nat) : Int), fI ((mj_lost pl cn go : Nat) : Int), .ref 8, .ref 9, .ref 10, .ref 11, .ref 12, .ref 13])) := e_1115_7
    have g_1115_11 : cE h_1115 11 (.inl (.int, fA wg)) := e_1115_11
    have g_1115_12 : cE h_1115 12 (.inl (.int, fA wc)) := e_1115_12
    have g_1115_13 : cE h_1115 13 (.inl (.int, fA we)) := e_1115_13
    refine ⟨-1000000001, rfl, ⟨k_1115, _, g_1115_66⟩, ?_⟩
    have gT_1115 := st_gT_t F_1115 (hdj_b rfl) gT
    have gC_1115 := st_gC_t F_1115 (hdj_b rfl) gC
    have gS_1115 := st_gS_t F_1115 (hdj_b rfl) gS
    have gV_1115 := st_gV_t F_1115 (hdj_b rfl) gV
    have gW_1115 := st_gW_t F_1115 (hdj_b rfl) gW
    have gM_1115 := st_gM_t F_1115 (hdj_b rfl) gM
    have gR_1115 := st_gR_t F_1115 (hdj_b rfl) gR
    have gL_1115 := st_gL_t F_1115 (hdj_b rfl) gL
    have gI_1115 := st_gI_t F_1115 (hdj_b rfl) gI
    have gJ_1115 := st_gJ_t F_1115 (hdj_b rfl) gJ
    have hB_1115 := st_hB_t F_1115 (hdj_b rfl) hB
    have hC_1115 := st_hC_t F_1115 (hdj_b rfl) hC
    have hT_1115 := st_hT_t F_1115 (hdj_b rfl) hT
    have hS_1115 := st_hS_t F_1115 (hdj_b rfl) hS
    have hM_1115 := st_hM_t F_1115 (hdj_b rfl) hM
    have hR_1115 := st_hR_t F_1115 (hdj_b rfl) hR
    have hL_1115 := st_hL_t F_1115 (hdj_b rfl) hL
    have hI_1115 := st_hI_t F_1115 (hdj_b rfl) hI
    refine ik_F_mono (rp_stone0 (pl := pl) (s := s) (p := p) (f := fun j => ((0 :: 0 :: 0 :: 0 :: 0 :: 0 :: 0 :: mi :: sd :: 0 :: tn :: fp :: sc0 :: sc1 :: sc2 :: sc3 :: sc4 :: sc5 :: 0 :: 0 :: 0 :: 0 :: 0 :: 0 :: w24 :: 0 :: 0 :: 0 :: 0 :: 0 :: 0 :: 0 :: sb :: wa :: 0 :: 0 :: r :: 0 :: 0 :: 0 :: 0 :: 0 :: 0 :: []) : List Int).getD j 0) f_pl f_s z_p g_1115_66 k_1115) ?_
    rintro v_1118 h_1118 (⟨er_1118, e_1118_66, p_1118_0, p_1118_1, F_1118⟩ | ⟨er_1118, e_1118_66, p_1118_0, p_1118_1, F_1118⟩ | ⟨er_1118, e_1118_66, p_1118_0, F_1118⟩) <;> subst er_1118
    · have k_1118 : cL h_1118 := F_1118.1.trans k_1115
      have g_1118_0 := (hfr_g F_1118 0 rfl).trans g_1115_0
      have g_1118_7 := (hfr_g F_1118 7 rfl).trans g_1115_7
      have g_1118_8 := (hfr_g F_1118 8 rfl).trans g_1115_8
      have g_1118_9 := (hfr_g F_1118 9 rfl).trans g_1115_9
      have g_1118_10 := (hfr_g F_1118 10 rfl).trans g_1115_10
      have g_1118_11 := (hfr_g F_1118 11 rfl).trans g_1115_11
      have g_1118_12 := (hfr_g F_1118 12 rfl).trans g_1115_12
      have g_1118_13 := (hfr_g F_1118 13 rfl).trans g_1115_13
      have g_1118_18 := (hfr_g F_1118 18 rfl).trans g_1115_18
      have g_1118_57 := (hfr_g F_1118 57 rfl).trans g_1115_57
      have g_1118_66 : cE h_1118 66 (.inr (10, (fI pl :: .ref 67 :: .ref 68 :: .ref 69 :: fI ((s : Nat) : Int) :: .ref 70 :: .ref 71 :: fI mi :: fI sd :: .ref 72 :: fI tn :: fI fp :: fI sc0 :: fJ sc1 :: fI sc2 :: fI sc3 :: fI sc4 :: fI sc5 :: .ref 73 :: .ref 74 :: .ref 75 :: .ref 76 :: .ref 77 :: .ref 78 :: fI w24 :: .ref 79 :: .ref 80 :: .ref 81 :: .ref 82 :: .ref 83 :: .ref 84 :: .ref 85 :: fJ sb :: fJ wa :: .ref 86 :: .ref 87 :: fI r :: .ref 88 :: .ref 89 :: .ref 90 :: .ref 91 :: .ref 92 :: .ref 93 :: []))) := e_1118_66
      exact absurd p_1118_1 p_1115_0
    · have k_1118 : cL h_1118 := F_1118.1.trans k_1115
      have g_1118_0 := (hfr_g F_1118 0 rfl).trans g_1115_0
      have g_1118_7 := (hfr_g F_1118 7 rfl).trans g_1115_7
      have g_1118_8 := (hfr_g F_1118 8 rfl).trans g_1115_8
      have g_1118_9 := (hfr_g F_1118 9 rfl).trans g_1115_9
      have g_1118_10 := (hfr_g F_1118 10 rfl).trans g_1115_10
      have g_1118_11 := (hfr_g F_1118 11 rfl).trans g_1115_11
      have g_1118_12 := (hfr_g F_1118 12 rfl).trans g_1115_12
      have g_1118_13 := (hfr_g F_1118 13 rfl).trans g_1115_13
      have g_1118_18 := (hfr_g F_1118 18 rfl).trans g_1115_18
      have g_1118_57 := (hfr_g F_1118 57 rfl).trans g_1115_57
      have g_1118_66 : cE h_1118 66 (.inr (10, (fI pl :: .ref 67 :: .ref 68 :: .ref 69 :: fI ((s ^^^ 1 <<< p.toNat : Nat) : Int) :: .ref 70 :: .ref 71 :: fI mi :: fI sd :: .ref 72 :: fI tn :: fI fp :: fI sc0 :: fJ sc1 :: fI sc2 :: fI sc3 :: fI sc4 :: fI sc5 :: .ref 73 :: .ref 74 :: .ref 75 :: .ref 76 :: .ref 77 :: .ref 78 :: fI w24 :: .ref 79 :: .ref 80 :: .ref 81 :: .ref 82 :: .ref 83 :: .ref 84 :: .ref 85 :: fJ sb :: fJ wa :: .ref 86 :: .ref 87 :: fI r :: .ref 88 :: .ref 89 :: .ref 90 :: .ref 91 :: .ref 92 :: .ref 93 :: []))) := e_1118_66
      exact absurd p_1118_1 p_1115_0
    · have k_1118 : cL h_1118 := F_1118.1.trans k_1115
      have g_1118_0 := (hfr_g F_1118 0 rfl).trans g_1115_0
      have g_1118_7 := (hfr_g F_1118 7 rfl).trans g_1115_7
      have g_1118_8 := (hfr_g F_1118 8 rfl).trans g_1115_8
      have g_1118_9 := (hfr_g F_1118 9 rfl).trans g_1115_9
      have g_1118_10 := (hfr_g F_1118 10 rfl).trans g_1115_10
      have g_1118_11 := (hfr_g F_1118 11 rfl).trans g_1115_11
      have g_1118_12 := (hfr_g F_1118 12 rfl).trans g_1115_12
      have g_1118_13 := (hfr_g F_1118 13 rfl).trans g_1115_13
      have g_1118_18 := (hfr_g F_1118 18 rfl).trans g_1115_18
      have g_1118_57 := (hfr_g F_1118 57 rfl).trans g_1115_57
      have g_1118_66 : cE h_1118 66 (.inr (10, (fI pl :: .ref 67 :: .ref 68 :: .ref 69 :: fI ((s : Nat) : Int) :: .ref 70 :: .ref 71 :: fI mi :: fI sd :: .ref 72 :: fI tn :: fI fp :: fI sc0 :: fJ sc1 :: fI sc2 :: fI sc3 :: fI sc4 :: fI sc5 :: .ref 73 :: .ref 74 :: .ref 75 :: .ref 76 :: .ref 77 :: .ref 78 :: fI w24 :: .ref 79 :: .ref 80 :: .ref 81 :: .ref 82 :: .ref 83 :: .ref 84 :: .ref 85 :: fJ sb :: fJ wa :: .ref 86 :: .ref 87 :: fI r :: .ref 88 :: .ref 89 :: .ref 90 :: .ref 91 :: .ref 92 :: .ref 93 :: []))) := e_1118_66
      refine ⟨rfl, ?_⟩
      have gT_1118 := st_gT_t F_1118 (hdj_b rfl) gT_1115
      have gC_1118 := st_gC_t F_1118 (hdj_b rfl) gC_1115
      have gS_1118 := st_gS_t F_1118 (hdj_b rfl) gS_1115
      have gV_1118 := st_gV_t F_1118 (hdj_b rfl) gV_1115
      have gW_1118 := st_gW_t F_1118 (hdj_b rfl) gW_1115
      have gM_1118 := st_gM_t F_1118 (hdj_b rfl) gM_1115
      have gR_1118 := st_gR_t F_1118 (hdj_b rfl) gR_1115
      have gL_1118 := st_gL_t F_1118 (hdj_b rfl) gL_1115
      have gI_1118 := st_gI_t F_1118 (hdj_b rfl) gI_1115
      have gJ_1118 := st_gJ_t F_1118 (hdj_b rfl) gJ_1115
      have hB_1118 := st_hB_t F_1118 (hdj_b rfl) hB_1115
      have hC_1118 := st_hC_t F_1118 (hdj_b rfl) hC_1115
      have hT_1118 := st_hT_t F_1118 (hdj_b rfl) hT_1115
      have hS_1118 := st_hS_t F_1118 (hdj_b rfl) hS_1115
      have hM_1118 := st_hM_t F_1118 (hdj_b rfl) hM_1115
      have hR_1118 := st_hR_t F_1118 (hdj_b rfl) hR_1115
      have hL_1118 := st_hL_t F_1118 (hdj_b rfl) hL_1115
      have hI_1118 := st_hI_t F_1118 (hdj_b rfl) hI_1115
      intro C_ k_
      exact k_ tn fp pl mi sd ka pa fa kb pb fb xa xb r n0 n1 ga0 gm0 gd_0 gs0 g00 g01 g02 g03 g04 g05 gx0 gy0 ga1 gm1 gd_1 gs1 g10 g11 g12 g13 g14 g15 gx1 gy1 s T cn go ch wg wc we rp rt lr ci0 ci1 cnr gor chr T2 im f_pl f_s f_st f_cb f_cr f_rw f_al f_wy f_k f_p f_x (by first | exact st_m f_m | omega) f_sd f_r f_rr f_n f_l0 f_l1 f_tn f_t (st_I_K f_i0) (st_I_K f_i1) ⟨g_1118_0, g_1118_18, g_1118_57⟩ gT_1118 ⟨g_1118_7, g_1118_8, n8, g_1118_9, n9, g_1118_10, n10, g_1118_11, m_1115_11, g_1118_12, m_1115_12, g_1118_13, m_1115_13⟩ gC_1118 gS_1118 gV_1118 gW_1118 gM_1118 gR_1118 gL_1118 gI_1118 gJ_1118 ⟨sc0, sc1, sc2, sc3, sc4, sc5, w24, sb, wa, g_1118_66⟩ hB_1118 hC_1118 hT_1118 hS_1118 hM_1118 hR_1118 hL_1118 hI_1118 k_1118

set_option maxRecDepth 100000 in
theorem lk_stone1 {K : Nat} {h : List ik_E} (E : st_S K h) (hK : K ≤ 600) {p : Int} (z_p : -2147483648 ≤ p ∧ p < 2147483648)  : ik_F 103 [.ref 0, fI p, fI 1] h (fun rv h_q => ∃ o_ : Int, rv = [fI o_] ∧ (h_q.length = (94 : Nat) ∧ ∃ fs, h_q[66]? = some (.inr (10, fs))) ∧ ik_F 181 [.ref 66, fI p, fI 1] h_q (fun rv' h'' => rv' = [fI o_] ∧ st_S (K + 1) h'')) := by
  refine E _ ?_
  intro tn fp pl mi sd ka pa fa kb pb fb xa xb r n0 n1 ga0 gm0 gd_0 gs0 g00 g01 g02 g03 g04 g05 gx0 gy0 ga1 gm1 gd_1 gs1 g10 g11 g12 g13 g14 g15 gx1 gy1 s T cn go ch wg wc we rp rt lr ci0 ci1 cnr gor chr T2 im f_pl f_s f_st f_cb f_cr f_rw f_al f_wy f_k f_p f_x f_m f_sd f_r f_rr f_n f_l0 f_l1 f_tn f_t f_i0 f_i1 gA gT gB gC gS gV gW gM gR gL gI gJ hO hB hC hT hS hM hR hL hI hl
  replace f_cb := ik_hid_i f_cb
  replace f_cr := ik_hid_i f_cr
  replace f_p := ik_hid_i f_p
  replace f_x := ik_hid_i f_x
  obtain ⟨h0, h18, h57⟩ := gA
  obtain ⟨h7, h8, n8, h9, n9, h10, n10, h11, n11, h12, n12, h13, n13⟩ := gB
  obtain ⟨sc0, sc1, sc2, sc3, sc4, sc5, w24, sb, wa, h66⟩ := hO
  refine ik_F_mono (cp_stone1 (pl := pl) (lo := ((mj_lost pl cn go : Nat) : Int)) (s := s) (p := p) (cn := cn) (go := go) (ch := ch) (wg := wg) (wc := wc) (we := we) f_pl f_wy f_rw f_s z_p h0 h7 h8 n8 h9 n9 h10 n10 h11 n11 h12 n12 h13 n13 hl) ?_
  rintro v_1119 h_1119 (⟨er_1119, e_1119_7, e_1119_11, m_1119_11, e_1119_12, m_1119_12, e_1119_13, m_1119_13, p_1119_0, p_1119_1, F_1119⟩ | ⟨wg'_1119, wc'_1119, we'_1119, er_1119, e_1119_7, e_1119_11, m_1119_11, e_1119_12, m_1119_12, e_1119_13, m_1119_13, p_1119_0, p_1119_1, p_1119_2, F_1119⟩ | ⟨er_1119, e_1119_7, e_1119_11, m_1119_11, e_1119_12, m_1119_12, e_1119_13, m_1119_13, p_1119_0, F_1119⟩) <;> subst er_1119
  · have k_1119 : cL h_1119 := F_1119.1.trans hl
    have g_1119_0 := (hfr_g F_1119 0 rfl).trans h0
    have g_1119_8 := (hfr_g F_1119 8 rfl).trans h8
    have g_1119_9 := (hfr_g F_1119 9 rfl).trans h9
    have g_1119_10 := (hfr_g F_1119 10 rfl).trans h10
    have g_1119_18 := (hfr_g F_1119 18 rfl).trans h18
    have g_1119_57 := (hfr_g F_1119 57 rfl).trans h57
    have g_1119_66 := (hfr_g F_1119 66 rfl).trans h66
    have g_1119_7 : cE h_1119 7 (.inr (0, [fI pl, fI ((s : Nat) : Int), fI ((mj_lost pl cn go : Nat) : Int), .ref 8, .ref 9, .ref 10, .ref 11, .ref 12, .ref 13])) := e_1119_7
    have g_1119_11 : cE h_1119 11 (.inl (.int, fA wg)) := e_1119_11
    have g_1119_12 : cE h_1119 12 (.inl (.int, fA wc)) := e_1119_12
    have g_1119_13 : cE h_1119 13 (.inl (.int, fA we)) := e_1119_13
    refine ⟨1, rfl, ⟨k_1119, _, g_1119_66⟩, ?_⟩
    have gT_1119 := st_gT_t F_1119 (hdj_b rfl) gT
    have gC_1119 := st_gC_t F_1119 (hdj_b rfl) gC
    have gS_1119 := st_gS_t F_1119 (hdj_b rfl) gS
    have gV_1119 := st_gV_t F_1119 (hdj_b rfl) gV
    have gW_1119 := st_gW_t F_1119 (hdj_b rfl) gW
    have gM_1119 := st_gM_t F_1119 (hdj_b rfl) gM
    have gR_1119 := st_gR_t F_1119 (hdj_b rfl) gR
    have gL_1119 := st_gL_t F_1119 (hdj_b rfl) gL
    have gI_1119 := st_gI_t F_1119 (hdj_b rfl) gI
    have gJ_1119 := st_gJ_t F_1119 (hdj_b rfl) gJ
    have hB_1119 := st_hB_t F_1119 (hdj_b rfl) hB
    have hC_1119 := st_hC_t F_1119 (hdj_b rfl) hC
    have hT_1119 := st_hT_t F_1119 (hdj_b rfl) hT
    have hS_1119 := st_hS_t F_1119 (hdj_b rfl) hS
    have hM_1119 := st_hM_t F_1119 (hdj_b rfl) hM
    have hR_1119 := st_hR_t F_1119 (hdj_b rfl) hR
    have hL_1119 := st_hL_t F_1119 (hdj_b rfl) hL
    have hI_1119 := st_hI_t F_1119 (hdj_b rfl) hI
    refine ik_F_mono (rp_stone1 (pl := pl) (s := s) (p := p) (f := fun j => ((0 :: 0 :: 0 :: 0 :: 0 :: 0 :: 0 :: mi :: sd :: 0 :: tn :: fp :: sc0 :: sc1 :: sc2 :: sc3 :: sc4 :: sc5 :: 0 :: 0 :: 0 :: 0 :: 0 :: 0 :: w24 :: 0 :: 0 :: 0 :: 0 :: 0 :: 0 :: 0 :: sb :: wa :: 0 :: 0 :: r :: 0 :: 0 :: 0 :: 0 :: 0 :: 0 :: []) : List Int).getD j 0) f_pl f_s z_p g_1119_66 k_1119) ?_
    rintro v_1120 h_1120 (⟨er_1120, e_1120_66, p_1120_0, p_1120_1, F_1120⟩ | ⟨er_1120, e_1120_66, p_1120_0, p_1120_1, F_1120⟩ | ⟨er_1120, e_1120_66, p_1120_0, F_1120⟩) <;> subst er_1120
    · have k_1120 : cL h_1120 := F_1120.1.trans k_1119
      have g_1120_0 := (hfr_g F_1120 0 rfl).trans g_1119_0
      have g_1120_7 := (hfr_g F_1120 7 rfl).trans g_1119_7
      have g_1120_8 := (hfr_g F_1120 8 rfl).trans g_1119_8
      have g_1120_9 := (hfr_g F_1120 9 rfl).trans g_1119_9
      have g_1120_10 := (hfr_g F_1120 10 rfl).trans g_1119_10
      have g_1120_11 := (hfr_g F_1120 11 rfl).trans g_1119_11
      have g_1120_12 := (hfr_g F_1120 12 rfl).trans g_1119_12
      have g_1120_13 := (hfr_g F_1120 13 rfl).trans g_1119_13
      have g_1120_18 := (hfr_g F_1120 18 rfl).trans g_1119_18
      have g_1120_57 := (hfr_g F_1120 57 rfl).trans g_1119_57
      have g_1120_66 : cE h_1120 66 (.inr (10, (fI pl :: .ref 67 :: .ref 68 :: .ref 69 :: fI ((s : Nat) : Int) :: .ref 70 :: .ref 71 :: fI mi :: fI sd :: .ref 72 :: fI tn :: fI fp :: fI sc0 :: fJ sc1 :: fI sc2 :: fI sc3 :: fI sc4 :: fI sc5 :: .ref 73 :: .ref 74 :: .ref 75 :: .ref 76 :: .ref 77 :: .ref 78 :: fI w24 :: .ref 79 :: .ref 80 :: .ref 81 :: .ref 82 :: .ref 83 :: .ref 84 :: .ref 85 :: fJ sb :: fJ wa :: .ref 86 :: .ref 87 :: fI r :: .ref 88 :: .ref 89 :: .ref 90 :: .ref 91 :: .ref 92 :: .ref 93 :: []))) := e_1120_66
      refine ⟨rfl, ?_⟩
      have gT_1120 := st_gT_t F_1120 (hdj_b rfl) gT_1119
      have gC_1120 := st_gC_t F_1120 (hdj_b rfl) gC_1119
      have gS_1120 := st_gS_t F_1120 (hdj_b rfl) gS_1119
      have gV_1120 := st_gV_t F_1120 (hdj_b rfl) gV_1119
      have gW_1120 := st_gW_t F_1120 (hdj_b rfl) gW_1119
      have gM_1120 := st_gM_t F_1120 (hdj_b rfl) gM_1119
      have gR_1120 := st_gR_t F_1120 (hdj_b rfl) gR_1119
      have gL_1120 := st_gL_t F_1120 (hdj_b rfl) gL_1119
      have gI_1120 := st_gI_t F_1120 (hdj_b rfl) gI_1119
      have gJ_1120 := st_gJ_t F_1120 (hdj_b rfl) gJ_1119
      have hB_1120 := st_hB_t F_1120 (hdj_b rfl) hB_1119
      have hC_1120 := st_hC_t F_1120 (hdj_b rfl) hC_1119
      have hT_1120 := st_hT_t F_1120 (hdj_b rfl) hT_1119
      have hS_1120 := st_hS_t F_1120 (hdj_b rfl) hS_1119
      have hM_1120 := st_hM_t F_1120 (hdj_b rfl) hM_1119
      have hR_1120 := st_hR_t F_1120 (hdj_b rfl) hR_1119
      have hL_1120 := st_hL_t F_1120 (hdj_b rfl) hL_1119
      have hI_1120 := st_hI_t F_1120 (hdj_b rfl) hI_1119
      intro C_ k_
      exact k_ tn fp pl mi sd ka pa fa kb pb fb xa xb r n0 n1 ga0 gm0 gd_0 gs0 g00 g01 g02 g03 g04 g05 gx0 gy0 ga1 gm1 gd_1 gs1 g10 g11 g12 g13 g14 g15 gx1 gy1 s T cn go ch wg wc we rp rt lr ci0 ci1 cnr gor chr T2 im f_pl f_s f_st f_cb f_cr f_rw f_al f_wy f_k f_p f_x (by first | exact st_m f_m | omega) f_sd f_r f_rr f_n f_l0 f_l1 f_tn f_t (st_I_K f_i0) (st_I_K f_i1) ⟨g_1120_0, g_1120_18, g_1120_57⟩ gT_1120 ⟨g_1120_7, g_1120_8, n8, g_1120_9, n9, g_1120_10, n10, g_1120_11, m_1119_11, g_1120_12, m_1119_12, g_1120_13, m_1119_13⟩ gC_1120 gS_1120 gV_1120 gW_1120 gM_1120 gR_1120 gL_1120 gI_1120 gJ_1120 ⟨sc0, sc1, sc2, sc3, sc4, sc5, w24, sb, wa, g_1120_66⟩ hB_1120 hC_1120 hT_1120 hS_1120 hM_1120 hR_1120 hL_1120 hI_1120 k_1120
    · have k_1120 : cL h_1120 := F_1120.1.trans k_1119
      have g_1120_0 := (hfr_g F_1120 0 rfl).trans g_1119_0
      have g_1120_7 := (hfr_g F_1120 7 rfl).trans g_1119_7
      have g_1120_8 := (hfr_g F_1120 8 rfl).trans g_1119_8
      have g_1120_9 := (hfr_g F_1120 9 rfl).trans g_1119_9
      have g_1120_10 := (hfr_g F_1120 10 rfl).trans g_1119_10
      have g_1120_11 := (hfr_g F_1120 11 rfl).trans g_1119_11
      have g_1120_12 := (hfr_g F_1120 12 rfl).trans g_1119_12
      have g_1120_13 := (hfr_g F_1120 13 rfl).trans g_1119_13
      have g_1120_18 := (hfr_g F_1120 18 rfl).trans g_1119_18
      have g_1120_57 := (hfr_g F_1120 57 rfl).trans g_1119_57
      have g_1120_66 : cE h_1120 66 (.inr (10, (fI pl :: .ref 67 :: .ref 68 :: .ref 69 :: fI ((s ^^^ 1 <<< p.toNat : Nat) : Int) :: .ref 70 :: .ref 71 :: fI mi :: fI sd :: .ref 72 :: fI tn :: fI fp :: fI sc0 :: fJ sc1 :: fI sc2 :: fI sc3 :: fI sc4 :: fI sc5 :: .ref 73 :: .ref 74 :: .ref 75 :: .ref 76 :: .ref 77 :: .ref 78 :: fI w24 :: .ref 79 :: .ref 80 :: .ref 81 :: .ref 82 :: .ref 83 :: .ref 84 :: .ref 85 :: fJ sb :: fJ wa :: .ref 86 :: .ref 87 :: fI r :: .ref 88 :: .ref 89 :: .ref 90 :: .ref 91 :: .ref 92 :: .ref 93 :: []))) := e_1120_66
      exact absurd (p_1119_0.symm.trans p_1120_0) (by decide +kernel)
    · have k_1120 : cL h_1120 := F_1120.1.trans k_1119
      have g_1120_0 := (hfr_g F_1120 0 rfl).trans g_1119_0
      have g_1120_7 := (hfr_g F_1120 7 rfl).trans g_1119_7
      have g_1120_8 := (hfr_g F_1120 8 rfl).trans g_1119_8
      have g_1120_9 := (hfr_g F_1120 9 rfl).trans g_1119_9
      have g_1120_10 := (hfr_g F_1120 10 rfl).trans g_1119_10
      have g_1120_11 := (hfr_g F_1120 11 rfl).trans g_1119_11
      have g_1120_12 := (hfr_g F_1120 12 rfl).trans g_1119_12
      have g_1120_13 := (hfr_g F_1120 13 rfl).trans g_1119_13
      have g_1120_18 := (hfr_g F_1120 18 rfl).trans g_1119_18
      have g_1120_57 := (hfr_g F_1120 57 rfl).trans g_1119_57
      have g_1120_66 : cE h_1120 66 (.inr (10, (fI pl :: .ref 67 :: .ref 68 :: .ref 69 :: fI ((s : Nat) : Int) :: .ref 70 :: .ref 71 :: fI mi :: fI sd :: .ref 72 :: fI tn :: fI fp :: fI sc0 :: fJ sc1 :: fI sc2 :: fI sc3 :: fI sc4 :: fI sc5 :: .ref 73 :: .ref 74 :: .ref 75 :: .ref 76 :: .ref 77 :: .ref 78 :: fI w24 :: .ref 79 :: .ref 80 :: .ref 81 :: .ref 82 :: .ref 83 :: .ref 84 :: .ref 85 :: fJ sb :: fJ wa :: .ref 86 :: .ref 87 :: fI r :: .ref 88 :: .ref 89 :: .ref 90 :: .ref 91 :: .ref 92 :: .ref 93 :: []))) := e_1120_66
      exact absurd p_1119_1 p_1120_0
  · have k_1119 : cL h_1119 := F_1119.1.trans hl
    have g_1119_0 := (hfr_g F_1119 0 rfl).trans h0
    have g_1119_8 := (hfr_g F_1119 8 rfl).trans h8
    have g_1119_9 := (hfr_g F_1119 9 rfl).trans h9
    have g_1119_10 := (hfr_g F_1119 10 rfl).trans h10
    have g_1119_18 := (hfr_g F_1119 18 rfl).trans h18
    have g_1119_57 := (hfr_g F_1119 57 rfl).trans h57
    have g_1119_66 := (hfr_g F_1119 66 rfl).trans h66
    have g_1119_7 : cE h_1119 7 (.inr (0, [fI pl, fI ((s ^^^ 1 <<< p.toNat : Nat) : Int), fI ((mj_lost pl cn go : Nat) : Int), .ref 8, .ref 9, .ref 10, .ref 11, .ref 12, .ref 13])) := e_1119_7
    have g_1119_11 : cE h_1119 11 (.inl (.int, fA wg'_1119)) := e_1119_11
    have g_1119_12 : cE h_1119 12 (.inl (.int, fA wc'_1119)) := e_1119_12
    have g_1119_13 : cE h_1119 13 (.inl (.int, fA we'_1119)) := e_1119_13
    refine ⟨0, rfl, ⟨k_1119, _, g_1119_66⟩, ?_⟩
    have gT_1119 := st_gT_t F_1119 (hdj_b rfl) gT
    have gC_1119 := st_gC_t F_1119 (hdj_b rfl) gC
    have gS_1119 := st_gS_t F_1119 (hdj_b rfl) gS
    have gV_1119 := st_gV_t F_1119 (hdj_b rfl) gV
    have gW_1119 := st_gW_t F_1119 (hdj_b rfl) gW
    have gM_1119 := st_gM_t F_1119 (hdj_b rfl) gM
    have gR_1119 := st_gR_t F_1119 (hdj_b rfl) gR
    have gL_1119 := st_gL_t F_1119 (hdj_b rfl) gL
    have gI_1119 := st_gI_t F_1119 (hdj_b rfl) gI
    have gJ_1119 := st_gJ_t F_1119 (hdj_b rfl) gJ
    have hB_1119 := st_hB_t F_1119 (hdj_b rfl) hB
    have hC_1119 := st_hC_t F_1119 (hdj_b rfl) hC
    have hT_1119 := st_hT_t F_1119 (hdj_b rfl) hT
    have hS_1119 := st_hS_t F_1119 (hdj_b rfl) hS
    have hM_1119 := st_hM_t F_1119 (hdj_b rfl) hM
    have hR_1119 := st_hR_t F_1119 (hdj_b rfl) hR
    have hL_1119 := st_hL_t F_1119 (hdj_b rfl) hL
    have hI_1119 := st_hI_t F_1119 (hdj_b rfl) hI
    refine ik_F_mono (rp_stone1 (pl := pl) (s := s) (p := p) (f := fun j => ((0 :: 0 :: 0 :: 0 :: 0 :: 0 :: 0 :: mi :: sd :: 0 :: tn :: fp :: sc0 :: sc1 :: sc2 :: sc3 :: sc4 :: sc5 :: 0 :: 0 :: 0 :: 0 :: 0 :: 0 :: w24 :: 0 :: 0 :: 0 :: 0 :: 0 :: 0 :: 0 :: sb :: wa :: 0 :: 0 :: r :: 0 :: 0 :: 0 :: 0 :: 0 :: 0 :: []) : List Int).getD j 0) f_pl f_s z_p g_1119_66 k_1119) ?_
    rintro v_1121 h_1121 (⟨er_1121, e_1121_66, p_1121_0, p_1121_1, F_1121⟩ | ⟨er_1121, e_1121_66, p_1121_0, p_1121_1, F_1121⟩ | ⟨er_1121, e_1121_66, p_1121_0, F_1121⟩) <;> subst er_1121
    · have k_1121 : cL h_1121 := F_1121.1.trans k_1119
      have g_1121_0 := (hfr_g F_1121 0 rfl).trans g_1119_0
      have g_1121_7 := (hfr_g F_1121 7 rfl).trans g_1119_7
      have g_1121_8 := (hfr_g F_1121 8 rfl).trans g_1119_8
      have g_1121_9 := (hfr_g F_1121 9 rfl).trans g_1119_9
      have g_1121_10 := (hfr_g F_1121 10 rfl).trans g_1119_10
      have g_1121_11 := (hfr_g F_1121 11 rfl).trans g_1119_11
      have g_1121_12 := (hfr_g F_1121 12 rfl).trans g_1119_12
      have g_1121_13 := (hfr_g F_1121 13 rfl).trans g_1119_13
      have g_1121_18 := (hfr_g F_1121 18 rfl).trans g_1119_18
      have g_1121_57 := (hfr_g F_1121 57 rfl).trans g_1119_57
      have g_1121_66 : cE h_1121 66 (.inr (10, (fI pl :: .ref 67 :: .ref 68 :: .ref 69 :: fI ((s : Nat) : Int) :: .ref 70 :: .ref 71 :: fI mi :: fI sd :: .ref 72 :: fI tn :: fI fp :: fI sc0 :: fJ sc1 :: fI sc2 :: fI sc3 :: fI sc4 :: fI sc5 :: .ref 73 :: .ref 74 :: .ref 75 :: .ref 76 :: .ref 77 :: .ref 78 :: fI w24 :: .ref 79 :: .ref 80 :: .ref 81 :: .ref 82 :: .ref 83 :: .ref 84 :: .ref 85 :: fJ sb :: fJ wa :: .ref 86 :: .ref 87 :: fI r :: .ref 88 :: .ref 89 :: .ref 90 :: .ref 91 :: .ref 92 :: .ref 93 :: []))) := e_1121_66
      exact absurd (p_1119_0.symm.trans p_1121_0) (by decide +kernel)
    · have k_1121 : cL h_1121 := F_1121.1.trans k_1119
      have g_1121_0 := (hfr_g F_1121 0 rfl).trans g_1119_0
      have g_1121_7 := (hfr_g F_1121 7 rfl).trans g_1119_7
      have g_1121_8 := (hfr_g F_1121 8 rfl).trans g_1119_8
      have g_1121_9 := (hfr_g F_1121 9 rfl).trans g_1119_9
      have g_1121_10 := (hfr_g F_1121 10 rfl).trans g_1119_10
      have g_1121_11 := (hfr_g F_1121 11 rfl).trans g_1119_11
      have g_1121_12 := (hfr_g F_1121 12 rfl).trans g_1119_12
      have g_1121_13 := (hfr_g F_1121 13 rfl).trans g_1119_13
      have g_1121_18 := (hfr_g F_1121 18 rfl).trans g_1119_18
      have g_1121_57 := (hfr_g F_1121 57 rfl).trans g_1119_57
      have g_1121_66 : cE h_1121 66 (.inr (10, (fI pl :: .ref 67 :: .ref 68 :: .ref 69 :: fI ((s ^^^ 1 <<< p.toNat : Nat) : Int) :: .ref 70 :: .ref 71 :: fI mi :: fI sd :: .ref 72 :: fI tn :: fI fp :: fI sc0 :: fJ sc1 :: fI sc2 :: fI sc3 :: fI sc4 :: fI sc5 :: .ref 73 :: .ref 74 :: .ref 75 :: .ref 76 :: .ref 77 :: .ref 78 :: fI w24 :: .ref 79 :: .ref 80 :: .ref 81 :: .ref 82 :: .ref 83 :: .ref 84 :: .ref 85 :: fJ sb :: fJ wa :: .ref 86 :: .ref 87 :: fI r :: .ref 88 :: .ref 89 :: .ref 90 :: .ref 91 :: .ref 92 :: .ref 93 :: []))) := e_1121_66
      refine ⟨rfl, ?_⟩
      have gT_1121 := st_gT_t F_1121 (hdj_b rfl) gT_1119
      have gC_1121 := st_gC_t F_1121 (hdj_b rfl) gC_1119
      have gS_1121 := st_gS_t F_1121 (hdj_b rfl) gS_1119
      have gV_1121 := st_gV_t F_1121 (hdj_b rfl) gV_1119
      have gW_1121 := st_gW_t F_1121 (hdj_b rfl) gW_1119
      have gM_1121 := st_gM_t F_1121 (hdj_b rfl) gM_1119
      have gR_1121 := st_gR_t F_1121 (hdj_b rfl) gR_1119
      have gL_1121 := st_gL_t F_1121 (hdj_b rfl) gL_1119
      have gI_1121 := st_gI_t F_1121 (hdj_b rfl) gI_1119
      have gJ_1121 := st_gJ_t F_1121 (hdj_b rfl) gJ_1119
      have hB_1121 := st_hB_t F_1121 (hdj_b rfl) hB_1119
      have hC_1121 := st_hC_t F_1121 (hdj_b rfl) hC_1119
      have hT_1121 := st_hT_t F_1121 (hdj_b rfl) hT_1119
      have hS_1121 := st_hS_t F_1121 (hdj_b rfl) hS_1119
      have hM_1121 := st_hM_t F_1121 (hdj_b rfl) hM_1119
      have hR_1121 := st_hR_t F_1121 (hdj_b rfl) hR_1119
      have hL_1121 := st_hL_t F_1121 (hdj_b rfl) hL_1119
      have hI_1121 := st_hI_t F_1121 (hdj_b rfl) hI_1119
      intro C_ k_
      exact k_ tn fp pl mi sd ka pa fa kb pb fb xa xb r n0 n1 ga0 gm0 gd_0 gs0 g00 g01 g02 g03 g04 g05 gx0 gy0 ga1 gm1 gd_1 gs1 g10 g11 g12 g13 g14 g15 gx1 gy1 (s ^^^ 1 <<< p.toNat) T cn go ch wg'_1119 wc'_1119 we'_1119 rp rt lr ci0 ci1 cnr gor chr T2 im f_pl (mx_xor_lt f_s (by omega)) (fun w => by rw [Nat.testBit_xor, f_st w, mf_tb0 (by omega)]; rfl) f_cb f_cr f_rw f_al p_1119_2 f_k f_p f_x (by first | exact st_m f_m | omega) f_sd f_r f_rr f_n f_l0 f_l1 f_tn f_t (st_I_K f_i0) (st_I_K f_i1) ⟨g_1121_0, g_1121_18, g_1121_57⟩ gT_1121 ⟨g_1121_7, g_1121_8, n8, g_1121_9, n9, g_1121_10, n10, g_1121_11, m_1119_11, g_1121_12, m_1119_12, g_1121_13, m_1119_13⟩ gC_1121 gS_1121 gV_1121 gW_1121 gM_1121 gR_1121 gL_1121 gI_1121 gJ_1121 ⟨sc0, sc1, sc2, sc3, sc4, sc5, w24, sb, wa, g_1121_66⟩ hB_1121 hC_1121 hT_1121 hS_1121 hM_1121 hR_1121 hL_1121 hI_1121 k_1121
    · have k_1121 : cL h_1121 := F_1121.1.trans k_1119
      have g_1121_0 := (hfr_g F_1121 0 rfl).trans g_1119_0
      have g_1121_7 := (hfr_g F_1121 7 rfl).trans g_1119_7
      have g_1121_8 := (hfr_g F_1121 8 rfl).trans g_1119_8
      have g_1121_9 := (hfr_g F_1121 9 rfl).trans g_1119_9
      have g_1121_10 := (hfr_g F_1121 10 rfl).trans g_1119_10
      have g_1121_11 := (hfr_g F_1121 11 rfl).trans g_1119_11
      have g_1121_12 := (hfr_g F_1121 12 rfl).trans g_1119_12
      have g_1121_13 := (hfr_g F_1121 13 rfl).trans g_1119_13
      have g_1121_18 := (hfr_g F_1121 18 rfl).trans g_1119_18
      have g_1121_57 := (hfr_g F_1121 57 rfl).trans g_1119_57
      have g_1121_66 : cE h_1121 66 (.inr (10, (fI pl :: .ref 67 :: .ref 68 :: .ref 69 :: fI ((s : Nat) : Int) :: .ref 70 :: .ref 71 :: fI mi :: fI sd :: .ref 72 :: fI tn :: fI fp :: fI sc0 :: fJ sc1 :: fI sc2 :: fI sc3 :: fI sc4 :: fI sc5 :: .ref 73 :: .ref 74 :: .ref 75 :: .ref 76 :: .ref 77 :: .ref 78 :: fI w24 :: .ref 79 :: .ref 80 :: .ref 81 :: .ref 82 :: .ref 83 :: .ref 84 :: .ref 85 :: fJ sb :: fJ wa :: .ref 86 :: .ref 87 :: fI r :: .ref 88 :: .ref 89 :: .ref 90 :: .ref 91 :: .ref 92 :: .ref 93 :: []))) := e_1121_66
      exact absurd p_1119_1 p_1121_0
  · have k_1119 : cL h_1119 := F_1119.1.trans hl
    have g_1119_0 := (hfr_g F_1119 0 rfl).trans h0
    have g_1119_8 := (hfr_g F_1119 8 rfl).trans h8
    have g_1119_9 := (hfr_g F_1119 9 rfl).trans h9
    have g_1119_10 := (hfr_g F_1119 10 rfl).trans h10
    have g_1119_18 := (hfr_g F_1119 18 rfl).trans h18
    have g_1119_57 := (hfr_g F_1119 57 rfl).trans h57
    have g_1119_66 := (hfr_g F_1119 66 rfl).trans h66
    have g_1119_7 : cE h_1119 7 (.inr (0, [fI pl, fI ((s : Nat) : Int), fI ((mj_lost pl cn go : Nat) : Int), .ref 8, .ref 9, .ref 10, .ref 11, .ref 12, .ref 13])) := e_1119_7
    have g_1119_11 : cE h_1119 11 (.inl (.int, fA wg)) := e_1119_11
    have g_1119_12 : cE h_1119 12 (.inl (.int, fA wc)) := e_1119_12
    have g_1119_13 : cE h_1119 13 (.inl (.int, fA we)) := e_1119_13
    refine ⟨-1000000001, rfl, ⟨k_1119, _, g_1119_66⟩, ?_⟩
    have gT_1119 := st_gT_t F_1119 (hdj_b rfl) gT
    have gC_1119 := st_gC_t F_1119 (hdj_b rfl) gC
    have gS_1119 := st_gS_t F_1119 (hdj_b rfl) gS
    have gV_1119 := st_gV_t F_1119 (hdj_b rfl) gV
    have gW_1119 := st_gW_t F_1119 (hdj_b rfl) gW
    have gM_1119 := st_gM_t F_1119 (hdj_b rfl) gM
    have gR_1119 := st_gR_t F_1119 (hdj_b rfl) gR
    have gL_1119 := st_gL_t F_1119 (hdj_b rfl) gL
    have gI_1119 := st_gI_t F_1119 (hdj_b rfl) gI
    have gJ_1119 := st_gJ_t F_1119 (hdj_b rfl) gJ
    have hB_1119 := st_hB_t F_1119 (hdj_b rfl) hB
    have hC_1119 := st_hC_t F_1119 (hdj_b rfl) hC
    have hT_1119 := st_hT_t F_1119 (hdj_b rfl) hT
    have hS_1119 := st_hS_t F_1119 (hdj_b rfl) hS
    have hM_1119 := st_hM_t F_1119 (hdj_b rfl) hM
    have hR_1119 := st_hR_t F_1119 (hdj_b rfl) hR
    have hL_1119 := st_hL_t F_1119 (hdj_b rfl) hL
    have hI_1119 := st_hI_t F_1119 (hdj_b rfl) hI
    refine ik_F_mono (rp_stone1 (pl := pl) (s := s) (p := p) (f := fun j => ((0 :: 0 :: 0 :: 0 :: 0 :: 0 :: 0 :: mi :: sd :: 0 :: tn :: fp :: sc0 :: sc1 :: sc2 :: sc3 :: sc4 :: sc5 :: 0 :: 0 :: 0 :: 0 :: 0 :: 0 :: w24 :: 0 :: 0 :: 0 :: 0 :: 0 :: 0 :: 0 :: sb :: wa :: 0 :: 0 :: r :: 0 :: 0 :: 0 :: 0 :: 0 :: 0 :: []) : List Int).getD j 0) f_pl f_s z_p g_1119_66 k_1119) ?_
    rintro v_1122 h_1122 (⟨er_1122, e_1122_66, p_1122_0, p_1122_1, F_1122⟩ | ⟨er_1122, e_1122_66, p_1122_0, p_1122_1, F_1122⟩ | ⟨er_1122, e_1122_66, p_1122_0, F_1122⟩) <;> subst er_1122
    · have k_1122 : cL h_1122 := F_1122.1.trans k_1119
      have g_1122_0 := (hfr_g F_1122 0 rfl).trans g_1119_0
      have g_1122_7 := (hfr_g F_1122 7 rfl).trans g_1119_7
      have g_1122_8 := (hfr_g F_1122 8 rfl).trans g_1119_8
      have g_1122_9 := (hfr_g F_1122 9 rfl).trans g_1119_9
      have g_1122_10 := (hfr_g F_1122 10 rfl).trans g_1119_10
      have g_1122_11 := (hfr_g F_1122 11 rfl).trans g_1119_11
      have g_1122_12 := (hfr_g F_1122 12 rfl).trans g_1119_12
      have g_1122_13 := (hfr_g F_1122 13 rfl).trans g_1119_13
      have g_1122_18 := (hfr_g F_1122 18 rfl).trans g_1119_18
      have g_1122_57 := (hfr_g F_1122 57 rfl).trans g_1119_57
      have g_1122_66 : cE h_1122 66 (.inr (10, (fI pl :: .ref 67 :: .ref 68 :: .ref 69 :: fI ((s : Nat) : Int) :: .ref 70 :: .ref 71 :: fI mi :: fI sd :: .ref 72 :: fI tn :: fI fp :: fI sc0 :: fJ sc1 :: fI sc2 :: fI sc3 :: fI sc4 :: fI sc5 :: .ref 73 :: .ref 74 :: .ref 75 :: .ref 76 :: .ref 77 :: .ref 78 :: fI w24 :: .ref 79 :: .ref 80 :: .ref 81 :: .ref 82 :: .ref 83 :: .ref 84 :: .ref 85 :: fJ sb :: fJ wa :: .ref 86 :: .ref 87 :: fI r :: .ref 88 :: .ref 89 :: .ref 90 :: .ref 91 :: .ref 92 :: .ref 93 :: []))) := e_1122_66
      exact absurd p_1122_1 p_1119_0
    · have k_1122 : cL h_1122 := F_1122.1.trans k_1119
      have g_1122_0 := (hfr_g F_1122 0 rfl).trans g_1119_0
      have g_1122_7 := (hfr_g F_1122 7 rfl).trans g_1119_7
      have g_1122_8 := (hfr_g F_1122 8 rfl).trans g_1119_8
      have g_1122_9 := (hfr_g F_1122 9 rfl).trans g_1119_9
      have g_1122_10 := (hfr_g F_1122 10 rfl).trans g_1119_10
      have g_1122_11 := (hfr_g F_1122 11 rfl).trans g_1119_11
      have g_1122_12 := (hfr_g F_1122 12 rfl).trans g_1119_12
      have g_1122_13 := (hfr_g F_1122 13 rfl).trans g_1119_13
      have g_1122_18 := (hfr_g F_1122 18 rfl).trans g_1119_18
      have g_1122_57 := (hfr_g F_1122 57 rfl).trans g_1119_57
      have g_1122_66 : cE h_1122 66 (.inr (10, (fI pl :: .ref 67 :: .ref 68 :: .ref 69 :: fI ((s ^^^ 1 <<< p.toNat : Nat) : Int) :: .ref 70 :: .ref 71 :: fI mi :: fI sd :: .ref 72 :: fI tn :: fI fp :: fI sc0 :: fJ sc1 :: fI sc2 :: fI sc3 :: fI sc4 :: fI sc5 :: .ref 73 :: .ref 74 :: .ref 75 :: .ref 76 :: .ref 77 :: .ref 78 :: fI w24 :: .ref 79 :: .ref 80 :: .ref 81 :: .ref 82 :: .ref 83 :: .ref 84 :: .ref 85 :: fJ sb :: fJ wa :: .ref 86 :: .ref 87 :: fI r :: .ref 88 :: .ref 89 :: .ref 90 :: .ref 91 :: .ref 92 :: .ref 93 :: []))) := e_1122_66
      exact absurd p_1122_1 p_1119_0
    · have k_1122 : cL h_1122 := F_1122.1.trans k_1119
      have g_1122_0 := (hfr_g F_1122 0 rfl).trans g_1119_0
      have g_1122_7 := (hfr_g F_1122 7 rfl).trans g_1119_7
      have g_1122_8 := (hfr_g F_1122 8 rfl).trans g_1119_8
      have g_1122_9 := (hfr_g F_1122 9 rfl).trans g_1119_9
      have g_1122_10 := (hfr_g F_1122 10 rfl).trans g_1119_10
      have g_1122_11 := (hfr_g F_1122 11 rfl).trans g_1119_11
      have g_1122_12 := (hfr_g F_1122 12 rfl).trans g_1119_12
      have g_1122_13 := (hfr_g F_1122 13 rfl).trans g_1119_13
      have g_1122_18 := (hfr_g F_1122 18 rfl).trans g_1119_18
      have g_1122_57 := (hfr_g F_1122 57 rfl).trans g_1119_57
      have g_1122_66 : cE h_1122 66 (.inr (10, (fI pl :: .ref 67 :: .ref 68 :: .ref 69 :: fI ((s : Nat) : Int) :: .ref 70 :: .ref 71 :: fI mi :: fI sd :: .ref 72 :: fI tn :: fI fp :: fI sc0 :: fJ sc1 :: fI sc2 :: fI sc3 :: fI sc4 :: fI sc5 :: .ref 73 :: .ref 74 :: .ref 75 :: .ref 76 :: .ref 77 :: .ref 78 :: fI w24 :: .ref 79 :: .ref 80 :: .ref 81 :: .ref 82 :: .ref 83 :: .ref 84 :: .ref 85 :: fJ sb :: fJ wa :: .ref 86 :: .ref 87 :: fI r :: .ref 88 :: .ref 89 :: .ref 90 :: .ref 91 :: .ref 92 :: .ref 93 :: []))) := e_1122_66
      refine ⟨rfl, ?_⟩
      have gT_1122 := st_gT_t F_1122 (hdj_b rfl) gT_1119
      have gC_1122 := st_gC_t F_1122 (hdj_b rfl) gC_1119
      have gS_1122 := st_gS_t F_1122 (hdj_b rfl) gS_1119
      have gV_1122 := st_gV_t F_1122 (hdj_b rfl) gV_1119
      have gW_1122 := st_gW_t F_1122 (hdj_b rfl) gW_1119
      have gM_1122 := st_gM_t F_1122 (hdj_b rfl) gM_1119
      have gR_1122 := st_gR_t F_1122 (hdj_b rfl) gR_1119
      have gL_1122 := st_gL_t F_1122 (hdj_b rfl) gL_1119
      have gI_1122 := st_gI_t F_1122 (hdj_b rfl) gI_1119
      have gJ_1122 := st_gJ_t F_1122 (hdj_b rfl) gJ_1119
      have hB_1122 := st_hB_t F_1122 (hdj_b rfl) hB_1119
      have hC_1122 := st_hC_t F_1122 (hdj_b rfl) hC_1119
      have hT_1122 := st_hT_t F_1122 (hdj_b rfl) hT_1119
      have hS_1122 := st_hS_t F_1122 (hdj_b rfl) hS_1119
      have hM_1122 := st_hM_t F_1122 (hdj_b rfl) hM_1119
      have hR_1122 := st_hR_t F_1122 (hdj_b rfl) hR_1119
      have hL_1122 := st_hL_t F_1122 (hdj_b rfl) hL_1119
      have hI_1122 := st_hI_t F_1122 (hdj_b rfl) hI_1119
      intro C_ k_
      exact k_ tn fp pl mi sd ka pa fa kb pb fb xa xb r n0 n1 ga0 gm0 gd_0 gs0 g00 g01 g02 g03 g04 g05 gx0 gy0 ga1 gm1 gd_1 gs1 g10 g11 g12 g13 g14 g15 gx1 gy1 s T cn go ch wg wc we rp rt lr ci0 ci1 cnr gor chr T2 im f_pl f_s f_st f_cb f_cr f_rw f_al f_wy f_k f_p f_x (by first | exact st_m f_m | omega) f_sd f_r f_rr f_n f_l0 f_l1 f_tn f_t (st_I_K f_i0) (st_I_K f_i1) ⟨g_1122_0, g_1122_18, g_1122_57⟩ gT_1122 ⟨g_1122_7, g_1122_8, n8, g_1122_9, n9, g_1122_10, n10, g_1122_11, m_1119_11, g_1122_12, m_1119_12, g_1122_13, m_1119_13⟩ gC_1122 gS_1122 gV_1122 gW_1122 gM_1122 gR_1122 gL_1122 gI_1122 gJ_1122 ⟨sc0, sc1, sc2, sc3, sc4, sc5, w24, sb, wa, g_1122_66⟩ hB_1122 hC_1122 hT_1122 hS_1122 hM_1122 hR_1122 hL_1122 hI_1122 k_1122

set_option maxRecDepth 100000 in
theorem lk_dig {K : Nat} {h : List ik_E} (E : st_S K h) (hK : K ≤ 600) {p : Int} {a : Int} {b : Int} {n : Int} (z_p : -2147483648 ≤ p ∧ p < 2147483648) (z_a : -2147483648 ≤ a ∧ a < 2147483648) (z_b : -2147483648 ≤ b ∧ b < 2147483648) (z_n : -2147483648 ≤ n ∧ n < 2147483648)  : ik_F 109 [.ref 0, fI p, fI a, fI b, fI n] h (fun rv h_q => ∃ o_ : Int, rv = [fI o_] ∧ (h_q.length = (94 : Nat) ∧ ∃ fs, h_q[66]? = some (.inr (10, fs))) ∧ ik_F 189 [.ref 66, fI p, fI a, fI b, fI n] h_q (fun rv' h'' => rv' = [fI o_] ∧ st_S (K + 1) h'')) := by
  refine E _ ?_
  intro tn fp pl mi sd ka pa fa kb pb fb xa xb r n0 n1 ga0 gm0 gd_0 gs0 g00 g01 g02 g03 g04 g05 gx0 gy0 ga1 gm1 gd_1 gs1 g10 g11 g12 g13 g14 g15 gx1 gy1 s T cn go ch wg wc we rp rt lr ci0 ci1 cnr gor chr T2 im f_pl f_s f_st f_cb f_cr f_rw f_al f_wy f_k f_p f_x f_m f_sd f_r f_rr f_n f_l0 f_l1 f_tn f_t f_i0 f_i1 gA gT gB gC gS gV gW gM gR gL gI gJ hO hB hC hT hS hM hR hL hI hl
  replace f_cb := ik_hid_i f_cb
  replace f_cr := ik_hid_i f_cr
  replace f_p := ik_hid_i f_p
  replace f_x := ik_hid_i f_x
  obtain ⟨h0, h18, h57⟩ := gA
  obtain ⟨h7, h8, n8, h9, n9, h10, n10, h11, n11, h12, n12, h13, n13⟩ := gB
  obtain ⟨sc0, sc1, sc2, sc3, sc4, sc5, w24, sb, wa, h66⟩ := hO
  obtain ⟨h67, n67, h68, n68, h69, n69⟩ := hB
  have hdg : (((0 ≤ p ∧ p < pl - 1) ∧ (0 ≤ a ∧ a < cn.getD p.toNat 0) ∧ (0 ≤ b ∧ b < cn.getD p.toNat 0) ∧ ¬ a = b) ∧ (1 ≤ n ∧ n ≤ 99) ∧ n < ch.getD (4 * p + a).toNat 0) ↔ (((0 ≤ p ∧ p < pl - 1) ∧ (0 ≤ a ∧ a < cnr.getD p.toNat 0) ∧ (0 ≤ b ∧ b < cnr.getD p.toNat 0) ∧ ¬ a = b) ∧ (1 ≤ n ∧ n ≤ 99) ∧ n < chr.getD (4 * p + a).toNat 0) := by
    constructor
    · intro w
      have z := f_al p w.1.1.1 w.1.1.2
      rw [z.1, (z.2 a w.1.2.1.1 w.1.2.1.2).2]
      exact w
    · intro w
      have z := f_al p w.1.1.1 w.1.1.2
      rw [z.1] at w
      rw [(z.2 a w.1.2.1.1 w.1.2.1.2).2] at w
      exact w
  refine ik_F_mono (cp_dig (pl := pl) (lo := ((mj_lost pl cn go : Nat) : Int)) (s := s) (p := p) (a := a) (b := b) (n := n) (cn := cn) (go := go) (ch := ch) (wg := wg) (wc := wc) (we := we) f_pl f_wy f_rw f_s f_cb z_p z_a z_b z_n h0 h7 h8 n8 h9 n9 h10 n10 h11 n11 h12 n12 h13 n13 hl) ?_
  rintro v_1123 h_1123 (⟨wg'_1123, wc'_1123, we'_1123, er_1123, e_1123_10, m_1123_10, e_1123_11, m_1123_11, e_1123_12, m_1123_12, e_1123_13, m_1123_13, p_1123_0, p_1123_1, F_1123⟩ | ⟨er_1123, e_1123_10, m_1123_10, e_1123_11, m_1123_11, e_1123_12, m_1123_12, e_1123_13, m_1123_13, p_1123_0, F_1123⟩) <;> subst er_1123
  · have k_1123 : cL h_1123 := F_1123.1.trans hl
    have g_1123_0 := (hfr_g F_1123 0 rfl).trans h0
    have g_1123_7 := (hfr_g F_1123 7 rfl).trans h7
    have g_1123_8 := (hfr_g F_1123 8 rfl).trans h8
    have g_1123_9 := (hfr_g F_1123 9 rfl).trans h9
    have g_1123_18 := (hfr_g F_1123 18 rfl).trans h18
    have g_1123_57 := (hfr_g F_1123 57 rfl).trans h57
    have g_1123_66 := (hfr_g F_1123 66 rfl).trans h66
    have g_1123_67 := (hfr_g F_1123 67 rfl).trans h67
    have g_1123_68 := (hfr_g F_1123 68 rfl).trans h68
    have g_1123_69 := (hfr_g F_1123 69 rfl).trans h69
    have g_1123_10 : cE h_1123 10 (.inl (.int, fA (mx_sh ch p a b n))) := e_1123_10
    have g_1123_11 : cE h_1123 11 (.inl (.int, fA wg'_1123)) := e_1123_11
    have g_1123_12 : cE h_1123 12 (.inl (.int, fA wc'_1123)) := e_1123_12
    have g_1123_13 : cE h_1123 13 (.inl (.int, fA we'_1123)) := e_1123_13
    refine ⟨ch.getD (4 * p + b).toNat 0 + n, rfl, ⟨k_1123, _, g_1123_66⟩, ?_⟩
    have gT_1123 := st_gT_t F_1123 (hdj_b rfl) gT
    have gC_1123 := st_gC_t F_1123 (hdj_b rfl) gC
    have gS_1123 := st_gS_t F_1123 (hdj_b rfl) gS
    have gV_1123 := st_gV_t F_1123 (hdj_b rfl) gV
    have gW_1123 := st_gW_t F_1123 (hdj_b rfl) gW
    have gM_1123 := st_gM_t F_1123 (hdj_b rfl) gM
    have gR_1123 := st_gR_t F_1123 (hdj_b rfl) gR
    have gL_1123 := st_gL_t F_1123 (hdj_b rfl) gL
    have gI_1123 := st_gI_t F_1123 (hdj_b rfl) gI
    have gJ_1123 := st_gJ_t F_1123 (hdj_b rfl) gJ
    have hC_1123 := st_hC_t F_1123 (hdj_b rfl) hC
    have hT_1123 := st_hT_t F_1123 (hdj_b rfl) hT
    have hS_1123 := st_hS_t F_1123 (hdj_b rfl) hS
    have hM_1123 := st_hM_t F_1123 (hdj_b rfl) hM
    have hR_1123 := st_hR_t F_1123 (hdj_b rfl) hR
    have hL_1123 := st_hL_t F_1123 (hdj_b rfl) hL
    have hI_1123 := st_hI_t F_1123 (hdj_b rfl) hI
    refine ik_F_mono (rp_dig (f := fun j => ((0 :: 0 :: 0 :: 0 :: (((s : Nat) : Int)) :: 0 :: 0 :: mi :: sd :: 0 :: tn :: fp :: sc0 :: sc1 :: sc2 :: sc3 :: sc4 :: sc5 :: 0 :: 0 :: 0 :: 0 :: 0 :: 0 :: w24 :: 0 :: 0 :: 0 :: 0 :: 0 :: 0 :: 0 :: sb :: wa :: 0 :: 0 :: r :: 0 :: 0 :: 0 :: 0 :: 0 :: 0 :: []) : List Int).getD j 0) (pl := pl) (p := p) (a := a) (b := b) (n := n) (cn := cnr) (go := gor) (ch := chr) f_pl (mx_al_rw f_rw f_al) z_p z_a z_b z_n g_1123_66 g_1123_67 n67 g_1123_68 n68 g_1123_69 n69 k_1123) ?_
    rintro v_1124 h_1124 (⟨er_1124, e_1124_69, m_1124_69, p_1124_0, F_1124⟩ | ⟨er_1124, e_1124_69, m_1124_69, p_1124_0, F_1124⟩) <;> subst er_1124
    · have k_1124 : cL h_1124 := F_1124.1.trans k_1123
      have g_1124_0 := (hfr_g F_1124 0 rfl).trans g_1123_0
      have g_1124_7 := (hfr_g F_1124 7 rfl).trans g_1123_7
      have g_1124_8 := (hfr_g F_1124 8 rfl).trans g_1123_8
      have g_1124_9 := (hfr_g F_1124 9 rfl).trans g_1123_9
      have g_1124_10 := (hfr_g F_1124 10 rfl).trans g_1123_10
      have g_1124_11 := (hfr_g F_1124 11 rfl).trans g_1123_11
      have g_1124_12 := (hfr_g F_1124 12 rfl).trans g_1123_12
      have g_1124_13 := (hfr_g F_1124 13 rfl).trans g_1123_13
      have g_1124_18 := (hfr_g F_1124 18 rfl).trans g_1123_18
      have g_1124_57 := (hfr_g F_1124 57 rfl).trans g_1123_57
      have g_1124_66 := (hfr_g F_1124 66 rfl).trans g_1123_66
      have g_1124_67 := (hfr_g F_1124 67 rfl).trans g_1123_67
      have g_1124_68 := (hfr_g F_1124 68 rfl).trans g_1123_68
      have g_1124_69 : cE h_1124 69 (.inl (.int, fA (mx_sh chr p a b n))) := e_1124_69
      refine ⟨(congrArg (fun z => [fI z]) (by rw [((f_al p p_1123_0.1.1.1 p_1123_0.1.1.2).2 b p_1123_0.1.2.2.1.1 p_1123_0.1.2.2.1.2).2])), ?_⟩
      have gT_1124 := st_gT_t F_1124 (hdj_b rfl) gT_1123
      have gC_1124 := st_gC_t F_1124 (hdj_b rfl) gC_1123
      have gS_1124 := st_gS_t F_1124 (hdj_b rfl) gS_1123
      have gV_1124 := st_gV_t F_1124 (hdj_b rfl) gV_1123
      have gW_1124 := st_gW_t F_1124 (hdj_b rfl) gW_1123
      have gM_1124 := st_gM_t F_1124 (hdj_b rfl) gM_1123
      have gR_1124 := st_gR_t F_1124 (hdj_b rfl) gR_1123
      have gL_1124 := st_gL_t F_1124 (hdj_b rfl) gL_1123
      have gI_1124 := st_gI_t F_1124 (hdj_b rfl) gI_1123
      have gJ_1124 := st_gJ_t F_1124 (hdj_b rfl) gJ_1123
      have hC_1124 := st_hC_t F_1124 (hdj_b rfl) hC_1123
      have hT_1124 := st_hT_t F_1124 (hdj_b rfl) hT_1123
      have hS_1124 := st_hS_t F_1124 (hdj_b rfl) hS_1123
      have hM_1124 := st_hM_t F_1124 (hdj_b rfl) hM_1123
      have hR_1124 := st_hR_t F_1124 (hdj_b rfl) hR_1123
      have hL_1124 := st_hL_t F_1124 (hdj_b rfl) hL_1123
      have hI_1124 := st_hI_t F_1124 (hdj_b rfl) hI_1123
      intro C_ k_
      exact k_ tn fp pl mi sd ka pa fa kb pb fb xa xb r n0 n1 ga0 gm0 gd_0 gs0 g00 g01 g02 g03 g04 g05 gx0 gy0 ga1 gm1 gd_1 gs1 g10 g11 g12 g13 g14 g15 gx1 gy1 s T cn go (mx_sh ch p a b n) wg'_1123 wc'_1123 we'_1123 rp rt lr ci0 ci1 cnr gor (mx_sh chr p a b n) T2 im f_pl f_s f_st f_cb f_cr (mx_rw_sh f_rw f_pl.2 p_1123_0.1.1 p_1123_0.1.2.1 p_1123_0.1.2.2.1 p_1123_0.1.2.2.2 n10 (by have := p_1123_0.2.1; omega) (by have := p_1123_0.2.2; omega)) (mx_al_sh f_al f_rw f_pl.2 p_1123_0.1.1 p_1123_0.1.2.1 p_1123_0.1.2.2.1 n10 n69) p_1123_1 f_k f_p f_x (by first | exact st_m f_m | omega) f_sd f_r f_rr f_n f_l0 f_l1 f_tn f_t (st_I_K f_i0) (st_I_K f_i1) ⟨g_1124_0, g_1124_18, g_1124_57⟩ gT_1124 ⟨g_1124_7, g_1124_8, n8, g_1124_9, n9, g_1124_10, m_1123_10, g_1124_11, m_1123_11, g_1124_12, m_1123_12, g_1124_13, m_1123_13⟩ gC_1124 gS_1124 gV_1124 gW_1124 gM_1124 gR_1124 gL_1124 gI_1124 gJ_1124 ⟨sc0, sc1, sc2, sc3, sc4, sc5, w24, sb, wa, g_1124_66⟩ ⟨g_1124_67, n67, g_1124_68, n68, g_1124_69, m_1124_69⟩ hC_1124 hT_1124 hS_1124 hM_1124 hR_1124 hL_1124 hI_1124 k_1124
    · have k_1124 : cL h_1124 := F_1124.1.trans k_1123
      have g_1124_0 := (hfr_g F_1124 0 rfl).trans g_1123_0
      have g_1124_7 := (hfr_g F_1124 7 rfl).trans g_1123_7
      have g_1124_8 := (hfr_g F_1124 8 rfl).trans g_1123_8
      have g_1124_9 := (hfr_g F_1124 9 rfl).trans g_1123_9
      have g_1124_10 := (hfr_g F_1124 10 rfl).trans g_1123_10
      have g_1124_11 := (hfr_g F_1124 11 rfl).trans g_1123_11
      have g_1124_12 := (hfr_g F_1124 12 rfl).trans g_1123_12
      have g_1124_13 := (hfr_g F_1124 13 rfl).trans g_1123_13
      have g_1124_18 := (hfr_g F_1124 18 rfl).trans g_1123_18
      have g_1124_57 := (hfr_g F_1124 57 rfl).trans g_1123_57
      have g_1124_66 := (hfr_g F_1124 66 rfl).trans g_1123_66
      have g_1124_67 := (hfr_g F_1124 67 rfl).trans g_1123_67
      have g_1124_68 := (hfr_g F_1124 68 rfl).trans g_1123_68
      have g_1124_69 : cE h_1124 69 (.inl (.int, fA chr)) := e_1124_69
      exact absurd (hdg.mp p_1123_0) p_1124_0
  · have k_1123 : cL h_1123 := F_1123.1.trans hl
    have g_1123_0 := (hfr_g F_1123 0 rfl).trans h0
    have g_1123_7 := (hfr_g F_1123 7 rfl).trans h7
    have g_1123_8 := (hfr_g F_1123 8 rfl).trans h8
    have g_1123_9 := (hfr_g F_1123 9 rfl).trans h9
    have g_1123_18 := (hfr_g F_1123 18 rfl).trans h18
    have g_1123_57 := (hfr_g F_1123 57 rfl).trans h57
    have g_1123_66 := (hfr_g F_1123 66 rfl).trans h66
    have g_1123_67 := (hfr_g F_1123 67 rfl).trans h67
    have g_1123_68 := (hfr_g F_1123 68 rfl).trans h68
    have g_1123_69 := (hfr_g F_1123 69 rfl).trans h69
    have g_1123_10 : cE h_1123 10 (.inl (.int, fA ch)) := e_1123_10
    have g_1123_11 : cE h_1123 11 (.inl (.int, fA wg)) := e_1123_11
    have g_1123_12 : cE h_1123 12 (.inl (.int, fA wc)) := e_1123_12
    have g_1123_13 : cE h_1123 13 (.inl (.int, fA we)) := e_1123_13
    refine ⟨an_dg pl (cn.getD p.toNat 0) p a b n, rfl, ⟨k_1123, _, g_1123_66⟩, ?_⟩
    have gT_1123 := st_gT_t F_1123 (hdj_b rfl) gT
    have gC_1123 := st_gC_t F_1123 (hdj_b rfl) gC
    have gS_1123 := st_gS_t F_1123 (hdj_b rfl) gS
    have gV_1123 := st_gV_t F_1123 (hdj_b rfl) gV
    have gW_1123 := st_gW_t F_1123 (hdj_b rfl) gW
    have gM_1123 := st_gM_t F_1123 (hdj_b rfl) gM
    have gR_1123 := st_gR_t F_1123 (hdj_b rfl) gR
    have gL_1123 := st_gL_t F_1123 (hdj_b rfl) gL
    have gI_1123 := st_gI_t F_1123 (hdj_b rfl) gI
    have gJ_1123 := st_gJ_t F_1123 (hdj_b rfl) gJ
    have hC_1123 := st_hC_t F_1123 (hdj_b rfl) hC
    have hT_1123 := st_hT_t F_1123 (hdj_b rfl) hT
    have hS_1123 := st_hS_t F_1123 (hdj_b rfl) hS
    have hM_1123 := st_hM_t F_1123 (hdj_b rfl) hM
    have hR_1123 := st_hR_t F_1123 (hdj_b rfl) hR
    have hL_1123 := st_hL_t F_1123 (hdj_b rfl) hL
    have hI_1123 := st_hI_t F_1123 (hdj_b rfl) hI
    refine ik_F_mono (rp_dig (f := fun j => ((0 :: 0 :: 0 :: 0 :: (((s : Nat) : Int)) :: 0 :: 0 :: mi :: sd :: 0 :: tn :: fp :: sc0 :: sc1 :: sc2 :: sc3 :: sc4 :: sc5 :: 0 :: 0 :: 0 :: 0 :: 0 :: 0 :: w24 :: 0 :: 0 :: 0 :: 0 :: 0 :: 0 :: 0 :: sb :: wa :: 0 :: 0 :: r :: 0 :: 0 :: 0 :: 0 :: 0 :: 0 :: []) : List Int).getD j 0) (pl := pl) (p := p) (a := a) (b := b) (n := n) (cn := cnr) (go := gor) (ch := chr) f_pl (mx_al_rw f_rw f_al) z_p z_a z_b z_n g_1123_66 g_1123_67 n67 g_1123_68 n68 g_1123_69 n69 k_1123) ?_
    rintro v_1125 h_1125 (⟨er_1125, e_1125_69, m_1125_69, p_1125_0, F_1125⟩ | ⟨er_1125, e_1125_69, m_1125_69, p_1125_0, F_1125⟩) <;> subst er_1125
    · have k_1125 : cL h_1125 := F_1125.1.trans k_1123
      have g_1125_0 := (hfr_g F_1125 0 rfl).trans g_1123_0
      have g_1125_7 := (hfr_g F_1125 7 rfl).trans g_1123_7
      have g_1125_8 := (hfr_g F_1125 8 rfl).trans g_1123_8
      have g_1125_9 := (hfr_g F_1125 9 rfl).trans g_1123_9
      have g_1125_10 := (hfr_g F_1125 10 rfl).trans g_1123_10
      have g_1125_11 := (hfr_g F_1125 11 rfl).trans g_1123_11
      have g_1125_12 := (hfr_g F_1125 12 rfl).trans g_1123_12
      have g_1125_13 := (hfr_g F_1125 13 rfl).trans g_1123_13
      have g_1125_18 := (hfr_g F_1125 18 rfl).trans g_1123_18
      have g_1125_57 := (hfr_g F_1125 57 rfl).trans g_1123_57
      have g_1125_66 := (hfr_g F_1125 66 rfl).trans g_1123_66
      have g_1125_67 := (hfr_g F_1125 67 rfl).trans g_1123_67
      have g_1125_68 := (hfr_g F_1125 68 rfl).trans g_1123_68
      have g_1125_69 : cE h_1125 69 (.inl (.int, fA (mx_sh chr p a b n))) := e_1125_69
      exact absurd (hdg.mpr p_1125_0) p_1123_0
    · have k_1125 : cL h_1125 := F_1125.1.trans k_1123
      have g_1125_0 := (hfr_g F_1125 0 rfl).trans g_1123_0
      have g_1125_7 := (hfr_g F_1125 7 rfl).trans g_1123_7
      have g_1125_8 := (hfr_g F_1125 8 rfl).trans g_1123_8
      have g_1125_9 := (hfr_g F_1125 9 rfl).trans g_1123_9
      have g_1125_10 := (hfr_g F_1125 10 rfl).trans g_1123_10
      have g_1125_11 := (hfr_g F_1125 11 rfl).trans g_1123_11
      have g_1125_12 := (hfr_g F_1125 12 rfl).trans g_1123_12
      have g_1125_13 := (hfr_g F_1125 13 rfl).trans g_1123_13
      have g_1125_18 := (hfr_g F_1125 18 rfl).trans g_1123_18
      have g_1125_57 := (hfr_g F_1125 57 rfl).trans g_1123_57
      have g_1125_66 := (hfr_g F_1125 66 rfl).trans g_1123_66
      have g_1125_67 := (hfr_g F_1125 67 rfl).trans g_1123_67
      have g_1125_68 := (hfr_g F_1125 68 rfl).trans g_1123_68
      have g_1125_69 : cE h_1125 69 (.inl (.int, fA chr)) := e_1125_69
      refine ⟨(congrArg (fun z => [fI z]) (by unfold an_dg; by_cases w : 0 ≤ p ∧ p < pl - 1; { rw [(f_al p w.1 w.2).1] }; { rw [if_neg (fun z => w z.1), if_neg (fun z => w z.1)] })), ?_⟩
      have gT_1125 := st_gT_t F_1125 (hdj_b rfl) gT_1123
      have gC_1125 := st_gC_t F_1125 (hdj_b rfl) gC_1123
      have gS_1125 := st_gS_t F_1125 (hdj_b rfl) gS_1123
      have gV_1125 := st_gV_t F_1125 (hdj_b rfl) gV_1123
      have gW_1125 := st_gW_t F_1125 (hdj_b rfl) gW_1123
      have gM_1125 := st_gM_t F_1125 (hdj_b rfl) gM_1123
      have gR_1125 := st_gR_t F_1125 (hdj_b rfl) gR_1123
      have gL_1125 := st_gL_t F_1125 (hdj_b rfl) gL_1123
      have gI_1125 := st_gI_t F_1125 (hdj_b rfl) gI_1123
      have gJ_1125 := st_gJ_t F_1125 (hdj_b rfl) gJ_1123
      have hC_1125 := st_hC_t F_1125 (hdj_b rfl) hC_1123
      have hT_1125 := st_hT_t F_1125 (hdj_b rfl) hT_1123
      have hS_1125 := st_hS_t F_1125 (hdj_b rfl) hS_1123
      have hM_1125 := st_hM_t F_1125 (hdj_b rfl) hM_1123
      have hR_1125 := st_hR_t F_1125 (hdj_b rfl) hR_1123
      have hL_1125 := st_hL_t F_1125 (hdj_b rfl) hL_1123
      have hI_1125 := st_hI_t F_1125 (hdj_b rfl) hI_1123
      intro C_ k_
      exact k_ tn fp pl mi sd ka pa fa kb pb fb xa xb r n0 n1 ga0 gm0 gd_0 gs0 g00 g01 g02 g03 g04 g05 gx0 gy0 ga1 gm1 gd_1 gs1 g10 g11 g12 g13 g14 g15 gx1 gy1 s T cn go ch wg wc we rp rt lr ci0 ci1 cnr gor chr T2 im f_pl f_s f_st f_cb f_cr f_rw f_al f_wy f_k f_p f_x (by first | exact st_m f_m | omega) f_sd f_r f_rr f_n f_l0 f_l1 f_tn f_t (st_I_K f_i0) (st_I_K f_i1) ⟨g_1125_0, g_1125_18, g_1125_57⟩ gT_1125 ⟨g_1125_7, g_1125_8, n8, g_1125_9, n9, g_1125_10, m_1123_10, g_1125_11, m_1123_11, g_1125_12, m_1123_12, g_1125_13, m_1123_13⟩ gC_1125 gS_1125 gV_1125 gW_1125 gM_1125 gR_1125 gL_1125 gI_1125 gJ_1125 ⟨sc0, sc1, sc2, sc3, sc4, sc5, w24, sb, wa, g_1125_66⟩ ⟨g_1125_67, n67, g_1125_68, n68, g_1125_69, m_1125_69⟩ hC_1125 hT_1125 hS_1125 hM_1125 hR_1125 hL_1125 hI_1125 k_1125

set_option maxRecDepth 100000 in
theorem lk_begin {K : Nat} {h : List ik_E} (E : st_S K h) (hK : K ≤ 600)    : ik_F 113 [.ref 0] h (fun rv h_q => ∃ o_ : Int, rv = [fI o_] ∧ (h_q.length = (94 : Nat) ∧ ∃ fs, h_q[66]? = some (.inr (10, fs))) ∧ ik_F 201 [.ref 66] h_q (fun rv' h'' => rv' = [fI o_] ∧ st_S (K + 1) h'')) := by
  refine E _ ?_
  intro tn fp pl mi sd ka pa fa kb pb fb xa xb r n0 n1 ga0 gm0 gd_0 gs0 g00 g01 g02 g03 g04 g05 gx0 gy0 ga1 gm1 gd_1 gs1 g10 g11 g12 g13 g14 g15 gx1 gy1 s T cn go ch wg wc we rp rt lr ci0 ci1 cnr gor chr T2 im f_pl f_s f_st f_cb f_cr f_rw f_al f_wy f_k f_p f_x f_m f_sd f_r f_rr f_n f_l0 f_l1 f_tn f_t f_i0 f_i1 gA gT gB gC gS gV gW gM gR gL gI gJ hO hB hC hT hS hM hR hL hI hl
  replace f_cb := ik_hid_i f_cb
  replace f_cr := ik_hid_i f_cr
  replace f_p := ik_hid_i f_p
  replace f_x := ik_hid_i f_x
  obtain ⟨h0, h18, h57⟩ := gA
  obtain ⟨h14, h15, h16⟩ := gC
  obtain ⟨sc0, sc1, sc2, sc3, sc4, sc5, w24, sb, wa, h66⟩ := hO
  obtain ⟨h70, h71⟩ := hC
  refine ik_F_mono (cp_begin (ka := ka) (pa := pa) (fa := fa) (kb := kb) (pb := pb) (fb := fb) (xa := xa) (xb := xb) (mi := mi) (dr := sd) f_k.2.2.1 f_k.2.2.2.1 h0 h14 h15 h16 hl) ?_
  rintro v_1126 h_1126 ⟨er_1126, e_1126_14, e_1126_16, F_1126⟩ <;> subst er_1126
  have k_1126 : cL h_1126 := F_1126.1.trans hl
  have g_1126_0 := (hfr_g F_1126 0 rfl).trans h0
  have g_1126_15 := (hfr_g F_1126 15 rfl).trans h15
  have g_1126_18 := (hfr_g F_1126 18 rfl).trans h18
  have g_1126_57 := (hfr_g F_1126 57 rfl).trans h57
  have g_1126_66 := (hfr_g F_1126 66 rfl).trans h66
  have g_1126_70 := (hfr_g F_1126 70 rfl).trans h70
  have g_1126_71 := (hfr_g F_1126 71 rfl).trans h71
  have g_1126_14 : cE h_1126 14 (.inr (1, [.ref 7, .ref 15, .ref 16, fI 0, fJ sd])) := e_1126_14
  have g_1126_16 : cE h_1126 16 (.inl (.int, fA [mx_sp pa fa, mx_sp pb fb])) := e_1126_16
  refine ⟨mi, rfl, ⟨k_1126, _, g_1126_66⟩, ?_⟩
  have gT_1126 := st_gT_t F_1126 (hdj_b rfl) gT
  have gB_1126 := st_gB_t F_1126 (hdj_b rfl) gB
  have gS_1126 := st_gS_t F_1126 (hdj_b rfl) gS
  have gV_1126 := st_gV_t F_1126 (hdj_b rfl) gV
  have gW_1126 := st_gW_t F_1126 (hdj_b rfl) gW
  have gM_1126 := st_gM_t F_1126 (hdj_b rfl) gM
  have gR_1126 := st_gR_t F_1126 (hdj_b rfl) gR
  have gL_1126 := st_gL_t F_1126 (hdj_b rfl) gL
  have gI_1126 := st_gI_t F_1126 (hdj_b rfl) gI
  have gJ_1126 := st_gJ_t F_1126 (hdj_b rfl) gJ
  have hB_1126 := st_hB_t F_1126 (hdj_b rfl) hB
  have hT_1126 := st_hT_t F_1126 (hdj_b rfl) hT
  have hS_1126 := st_hS_t F_1126 (hdj_b rfl) hS
  have hM_1126 := st_hM_t F_1126 (hdj_b rfl) hM
  have hR_1126 := st_hR_t F_1126 (hdj_b rfl) hR
  have hL_1126 := st_hL_t F_1126 (hdj_b rfl) hL
  have hI_1126 := st_hI_t F_1126 (hdj_b rfl) hI
  refine ik_F_mono (rp_begin (ka := ka) (pa := pa) (fa := fa) (kb := kb) (pb := pb) (fb := fb) (xa := xa) (xb := xb) (mi := mi) (f := fun j => ((pl :: 0 :: 0 :: 0 :: (((s : Nat) : Int)) :: 0 :: 0 :: 0 :: sd :: 0 :: tn :: fp :: sc0 :: sc1 :: sc2 :: sc3 :: sc4 :: sc5 :: 0 :: 0 :: 0 :: 0 :: 0 :: 0 :: w24 :: 0 :: 0 :: 0 :: 0 :: 0 :: 0 :: 0 :: sb :: wa :: 0 :: 0 :: r :: 0 :: 0 :: 0 :: 0 :: 0 :: 0 :: []) : List Int).getD j 0) f_k.2.2.1 f_k.2.2.2.1 g_1126_66 g_1126_70 g_1126_71 k_1126) ?_
  rintro v_1127 h_1127 ⟨er_1127, e_1127_66, e_1127_71, F_1127⟩ <;> subst er_1127
  have k_1127 : cL h_1127 := F_1127.1.trans k_1126
  have g_1127_0 := (hfr_g F_1127 0 rfl).trans g_1126_0
  have g_1127_14 := (hfr_g F_1127 14 rfl).trans g_1126_14
  have g_1127_15 := (hfr_g F_1127 15 rfl).trans g_1126_15
  have g_1127_16 := (hfr_g F_1127 16 rfl).trans g_1126_16
  have g_1127_18 := (hfr_g F_1127 18 rfl).trans g_1126_18
  have g_1127_57 := (hfr_g F_1127 57 rfl).trans g_1126_57
  have g_1127_70 := (hfr_g F_1127 70 rfl).trans g_1126_70
  have g_1127_66 : cE h_1127 66 (.inr (10, (fI pl :: .ref 67 :: .ref 68 :: .ref 69 :: fI ((s : Nat) : Int) :: .ref 70 :: .ref 71 :: fI 0 :: fI sd :: .ref 72 :: fI tn :: fI fp :: fI sc0 :: fJ sc1 :: fI sc2 :: fI sc3 :: fI sc4 :: fI sc5 :: .ref 73 :: .ref 74 :: .ref 75 :: .ref 76 :: .ref 77 :: .ref 78 :: fI w24 :: .ref 79 :: .ref 80 :: .ref 81 :: .ref 82 :: .ref 83 :: .ref 84 :: .ref 85 :: fJ sb :: fJ wa :: .ref 86 :: .ref 87 :: fI r :: .ref 88 :: .ref 89 :: .ref 90 :: .ref 91 :: .ref 92 :: .ref 93 :: []))) := e_1127_66
  have g_1127_71 : cE h_1127 71 (.inl (.int, fA [mx_sp pa fa, mx_sp pb fb])) := e_1127_71
  refine ⟨rfl, ?_⟩
  have gT_1127 := st_gT_t F_1127 (hdj_b rfl) gT_1126
  have gB_1127 := st_gB_t F_1127 (hdj_b rfl) gB_1126
  have gS_1127 := st_gS_t F_1127 (hdj_b rfl) gS_1126
  have gV_1127 := st_gV_t F_1127 (hdj_b rfl) gV_1126
  have gW_1127 := st_gW_t F_1127 (hdj_b rfl) gW_1126
  have gM_1127 := st_gM_t F_1127 (hdj_b rfl) gM_1126
  have gR_1127 := st_gR_t F_1127 (hdj_b rfl) gR_1126
  have gL_1127 := st_gL_t F_1127 (hdj_b rfl) gL_1126
  have gI_1127 := st_gI_t F_1127 (hdj_b rfl) gI_1126
  have gJ_1127 := st_gJ_t F_1127 (hdj_b rfl) gJ_1126
  have hB_1127 := st_hB_t F_1127 (hdj_b rfl) hB_1126
  have hT_1127 := st_hT_t F_1127 (hdj_b rfl) hT_1126
  have hS_1127 := st_hS_t F_1127 (hdj_b rfl) hS_1126
  have hM_1127 := st_hM_t F_1127 (hdj_b rfl) hM_1126
  have hR_1127 := st_hR_t F_1127 (hdj_b rfl) hR_1126
  have hL_1127 := st_hL_t F_1127 (hdj_b rfl) hL_1126
  have hI_1127 := st_hI_t F_1127 (hdj_b rfl) hI_1126
  intro C_ k_
  exact k_ tn fp pl 0 sd ka pa fa kb pb fb (mx_sp pa fa) (mx_sp pb fb) r n0 n1 ga0 gm0 gd_0 gs0 g00 g01 g02 g03 g04 g05 gx0 gy0 ga1 gm1 gd_1 gs1 g10 g11 g12 g13 g14 g15 gx1 gy1 s T cn go ch wg wc we rp rt lr ci0 ci1 cnr gor chr T2 im f_pl f_s f_st f_cb f_cr f_rw f_al f_wy f_k f_p (fun w => by have z := f_p w; have a := mx_sp_b (fr := fa) (show 0 ≤ pa ∧ pa < pl by omega) (by omega); have b := mx_sp_b (fr := fb) (show 0 ≤ pb ∧ pb < pl by omega) (by omega); omega) (by omega) f_sd f_r f_rr f_n f_l0 f_l1 f_tn f_t (st_I_K f_i0) (st_I_K f_i1) ⟨g_1127_0, g_1127_18, g_1127_57⟩ gT_1127 gB_1127 ⟨g_1127_14, g_1127_15, g_1127_16⟩ gS_1127 gV_1127 gW_1127 gM_1127 gR_1127 gL_1127 gI_1127 gJ_1127 ⟨sc0, sc1, sc2, sc3, sc4, sc5, w24, sb, wa, g_1127_66⟩ hB_1127 ⟨g_1127_70, g_1127_71⟩ hT_1127 hS_1127 hM_1127 hR_1127 hL_1127 hI_1127 k_1127

set_option maxRecDepth 100000 in
theorem lk_seed {K : Nat} {h : List ik_E} (E : st_S K h) (hK : K ≤ 600) {v : Int} (z_v : -2147483648 ≤ v ∧ v < 2147483648)  : ik_F 118 [.ref 0, fI v] h (fun rv h_q => ∃ o_ : Int, rv = [fI o_] ∧ (h_q.length = (94 : Nat) ∧ ∃ fs, h_q[66]? = some (.inr (10, fs))) ∧ ik_F 208 [.ref 66, fI v] h_q (fun rv' h'' => rv' = [fI o_] ∧ st_S (K + 1) h'')) := by
  refine E _ ?_
  intro tn fp pl mi sd ka pa fa kb pb fb xa xb r n0 n1 ga0 gm0 gd_0 gs0 g00 g01 g02 g03 g04 g05 gx0 gy0 ga1 gm1 gd_1 gs1 g10 g11 g12 g13 g14 g15 gx1 gy1 s T cn go ch wg wc we rp rt lr ci0 ci1 cnr gor chr T2 im f_pl f_s f_st f_cb f_cr f_rw f_al f_wy f_k f_p f_x f_m f_sd f_r f_rr f_n f_l0 f_l1 f_tn f_t f_i0 f_i1 gA gT gB gC gS gV gW gM gR gL gI gJ hO hB hC hT hS hM hR hL hI hl
  replace f_cb := ik_hid_i f_cb
  replace f_cr := ik_hid_i f_cr
  replace f_p := ik_hid_i f_p
  replace f_x := ik_hid_i f_x
  obtain ⟨h0, h18, h57⟩ := gA
  obtain ⟨h14, h15, h16⟩ := gC
  obtain ⟨sc0, sc1, sc2, sc3, sc4, sc5, w24, sb, wa, h66⟩ := hO
  refine ik_F_mono (cp_seed (mi := mi) (sd := sd) (v := v) z_v h0 h14 hl) ?_
  rintro v_1128 h_1128 (⟨er_1128, e_1128_14, p_1128_0, F_1128⟩ | ⟨er_1128, e_1128_14, p_1128_0, F_1128⟩) <;> subst er_1128
  · have k_1128 : cL h_1128 := F_1128.1.trans hl
    have g_1128_0 := (hfr_g F_1128 0 rfl).trans h0
    have g_1128_15 := (hfr_g F_1128 15 rfl).trans h15
    have g_1128_16 := (hfr_g F_1128 16 rfl).trans h16
    have g_1128_18 := (hfr_g F_1128 18 rfl).trans h18
    have g_1128_57 := (hfr_g F_1128 57 rfl).trans h57
    have g_1128_66 := (hfr_g F_1128 66 rfl).trans h66
    have g_1128_14 : cE h_1128 14 (.inr (1, [.ref 7, .ref 15, .ref 16, fI mi, fJ v])) := e_1128_14
    refine ⟨sd, rfl, ⟨k_1128, _, g_1128_66⟩, ?_⟩
    have gT_1128 := st_gT_t F_1128 (hdj_b rfl) gT
    have gB_1128 := st_gB_t F_1128 (hdj_b rfl) gB
    have gS_1128 := st_gS_t F_1128 (hdj_b rfl) gS
    have gV_1128 := st_gV_t F_1128 (hdj_b rfl) gV
    have gW_1128 := st_gW_t F_1128 (hdj_b rfl) gW
    have gM_1128 := st_gM_t F_1128 (hdj_b rfl) gM
    have gR_1128 := st_gR_t F_1128 (hdj_b rfl) gR
    have gL_1128 := st_gL_t F_1128 (hdj_b rfl) gL
    have gI_1128 := st_gI_t F_1128 (hdj_b rfl) gI
    have gJ_1128 := st_gJ_t F_1128 (hdj_b rfl) gJ
    have hB_1128 := st_hB_t F_1128 (hdj_b rfl) hB
    have hC_1128 := st_hC_t F_1128 (hdj_b rfl) hC
    have hT_1128 := st_hT_t F_1128 (hdj_b rfl) hT
    have hS_1128 := st_hS_t F_1128 (hdj_b rfl) hS
    have hM_1128 := st_hM_t F_1128 (hdj_b rfl) hM
    have hR_1128 := st_hR_t F_1128 (hdj_b rfl) hR
    have hL_1128 := st_hL_t F_1128 (hdj_b rfl) hL
    have hI_1128 := st_hI_t F_1128 (hdj_b rfl) hI
    refine ik_F_mono (rp_seed (f := fun j => ((pl :: 0 :: 0 :: 0 :: (((s : Nat) : Int)) :: 0 :: 0 :: mi :: 0 :: 0 :: tn :: fp :: sc0 :: sc1 :: sc2 :: sc3 :: sc4 :: sc5 :: 0 :: 0 :: 0 :: 0 :: 0 :: 0 :: w24 :: 0 :: 0 :: 0 :: 0 :: 0 :: 0 :: 0 :: sb :: wa :: 0 :: 0 :: r :: 0 :: 0 :: 0 :: 0 :: 0 :: 0 :: []) : List Int).getD j 0) (sd := sd) (v := v) z_v g_1128_66 k_1128) ?_
    rintro v_1129 h_1129 (⟨er_1129, e_1129_66, p_1129_0, F_1129⟩ | ⟨er_1129, e_1129_66, p_1129_0, F_1129⟩) <;> subst er_1129
    · have k_1129 : cL h_1129 := F_1129.1.trans k_1128
      have g_1129_0 := (hfr_g F_1129 0 rfl).trans g_1128_0
      have g_1129_14 := (hfr_g F_1129 14 rfl).trans g_1128_14
      have g_1129_15 := (hfr_g F_1129 15 rfl).trans g_1128_15
      have g_1129_16 := (hfr_g F_1129 16 rfl).trans g_1128_16
      have g_1129_18 := (hfr_g F_1129 18 rfl).trans g_1128_18
      have g_1129_57 := (hfr_g F_1129 57 rfl).trans g_1128_57
      have g_1129_66 : cE h_1129 66 (.inr (10, (fI pl :: .ref 67 :: .ref 68 :: .ref 69 :: fI ((s : Nat) : Int) :: .ref 70 :: .ref 71 :: fI mi :: fI v :: .ref 72 :: fI tn :: fI fp :: fI sc0 :: fJ sc1 :: fI sc2 :: fI sc3 :: fI sc4 :: fI sc5 :: .ref 73 :: .ref 74 :: .ref 75 :: .ref 76 :: .ref 77 :: .ref 78 :: fI w24 :: .ref 79 :: .ref 80 :: .ref 81 :: .ref 82 :: .ref 83 :: .ref 84 :: .ref 85 :: fJ sb :: fJ wa :: .ref 86 :: .ref 87 :: fI r :: .ref 88 :: .ref 89 :: .ref 90 :: .ref 91 :: .ref 92 :: .ref 93 :: []))) := e_1129_66
      refine ⟨rfl, ?_⟩
      have gT_1129 := st_gT_t F_1129 (hdj_b rfl) gT_1128
      have gB_1129 := st_gB_t F_1129 (hdj_b rfl) gB_1128
      have gS_1129 := st_gS_t F_1129 (hdj_b rfl) gS_1128
      have gV_1129 := st_gV_t F_1129 (hdj_b rfl) gV_1128
      have gW_1129 := st_gW_t F_1129 (hdj_b rfl) gW_1128
      have gM_1129 := st_gM_t F_1129 (hdj_b rfl) gM_1128
      have gR_1129 := st_gR_t F_1129 (hdj_b rfl) gR_1128
      have gL_1129 := st_gL_t F_1129 (hdj_b rfl) gL_1128
      have gI_1129 := st_gI_t F_1129 (hdj_b rfl) gI_1128
      have gJ_1129 := st_gJ_t F_1129 (hdj_b rfl) gJ_1128
      have hB_1129 := st_hB_t F_1129 (hdj_b rfl) hB_1128
      have hC_1129 := st_hC_t F_1129 (hdj_b rfl) hC_1128
      have hT_1129 := st_hT_t F_1129 (hdj_b rfl) hT_1128
      have hS_1129 := st_hS_t F_1129 (hdj_b rfl) hS_1128
      have hM_1129 := st_hM_t F_1129 (hdj_b rfl) hM_1128
      have hR_1129 := st_hR_t F_1129 (hdj_b rfl) hR_1128
      have hL_1129 := st_hL_t F_1129 (hdj_b rfl) hL_1128
      have hI_1129 := st_hI_t F_1129 (hdj_b rfl) hI_1128
      intro C_ k_
      exact k_ tn fp pl mi v ka pa fa kb pb fb xa xb r n0 n1 ga0 gm0 gd_0 gs0 g00 g01 g02 g03 g04 g05 gx0 gy0 ga1 gm1 gd_1 gs1 g10 g11 g12 g13 g14 g15 gx1 gy1 s T cn go ch wg wc we rp rt lr ci0 ci1 cnr gor chr T2 im f_pl f_s f_st f_cb f_cr f_rw f_al f_wy f_k f_p f_x (by omega) (by omega) f_r f_rr f_n f_l0 f_l1 f_tn f_t (st_I_K f_i0) (st_I_K f_i1) ⟨g_1129_0, g_1129_18, g_1129_57⟩ gT_1129 gB_1129 ⟨g_1129_14, g_1129_15, g_1129_16⟩ gS_1129 gV_1129 gW_1129 gM_1129 gR_1129 gL_1129 gI_1129 gJ_1129 ⟨sc0, sc1, sc2, sc3, sc4, sc5, w24, sb, wa, g_1129_66⟩ hB_1129 hC_1129 hT_1129 hS_1129 hM_1129 hR_1129 hL_1129 hI_1129 k_1129
    · have k_1129 : cL h_1129 := F_1129.1.trans k_1128
      have g_1129_0 := (hfr_g F_1129 0 rfl).trans g_1128_0
      have g_1129_14 := (hfr_g F_1129 14 rfl).trans g_1128_14
      have g_1129_15 := (hfr_g F_1129 15 rfl).trans g_1128_15
      have g_1129_16 := (hfr_g F_1129 16 rfl).trans g_1128_16
      have g_1129_18 := (hfr_g F_1129 18 rfl).trans g_1128_18
      have g_1129_57 := (hfr_g F_1129 57 rfl).trans g_1128_57
      have g_1129_66 : cE h_1129 66 (.inr (10, (fI pl :: .ref 67 :: .ref 68 :: .ref 69 :: fI ((s : Nat) : Int) :: .ref 70 :: .ref 71 :: fI mi :: fI sd :: .ref 72 :: fI tn :: fI fp :: fI sc0 :: fJ sc1 :: fI sc2 :: fI sc3 :: fI sc4 :: fI sc5 :: .ref 73 :: .ref 74 :: .ref 75 :: .ref 76 :: .ref 77 :: .ref 78 :: fI w24 :: .ref 79 :: .ref 80 :: .ref 81 :: .ref 82 :: .ref 83 :: .ref 84 :: .ref 85 :: fJ sb :: fJ wa :: .ref 86 :: .ref 87 :: fI r :: .ref 88 :: .ref 89 :: .ref 90 :: .ref 91 :: .ref 92 :: .ref 93 :: []))) := e_1129_66
      omega
  · have k_1128 : cL h_1128 := F_1128.1.trans hl
    have g_1128_0 := (hfr_g F_1128 0 rfl).trans h0
    have g_1128_15 := (hfr_g F_1128 15 rfl).trans h15
    have g_1128_16 := (hfr_g F_1128 16 rfl).trans h16
    have g_1128_18 := (hfr_g F_1128 18 rfl).trans h18
    have g_1128_57 := (hfr_g F_1128 57 rfl).trans h57
    have g_1128_66 := (hfr_g F_1128 66 rfl).trans h66
    have g_1128_14 : cE h_1128 14 (.inr (1, [.ref 7, .ref 15, .ref 16, fI mi, fJ sd])) := e_1128_14
    refine ⟨-1000000002, rfl, ⟨k_1128, _, g_1128_66⟩, ?_⟩
    have gT_1128 := st_gT_t F_1128 (hdj_b rfl) gT
    have gB_1128 := st_gB_t F_1128 (hdj_b rfl) gB
    have gS_1128 := st_gS_t F_1128 (hdj_b rfl) gS
    have gV_1128 := st_gV_t F_1128 (hdj_b rfl) gV
    have gW_1128 := st_gW_t F_1128 (hdj_b rfl) gW
    have gM_1128 := st_gM_t F_1128 (hdj_b rfl) gM
    have gR_1128 := st_gR_t F_1128 (hdj_b rfl) gR
    have gL_1128 := st_gL_t F_1128 (hdj_b rfl) gL
    have gI_1128 := st_gI_t F_1128 (hdj_b rfl) gI
    have gJ_1128 := st_gJ_t F_1128 (hdj_b rfl) gJ
    have hB_1128 := st_hB_t F_1128 (hdj_b rfl) hB
    have hC_1128 := st_hC_t F_1128 (hdj_b rfl) hC
    have hT_1128 := st_hT_t F_1128 (hdj_b rfl) hT
    have hS_1128 := st_hS_t F_1128 (hdj_b rfl) hS
    have hM_1128 := st_hM_t F_1128 (hdj_b rfl) hM
    have hR_1128 := st_hR_t F_1128 (hdj_b rfl) hR
    have hL_1128 := st_hL_t F_1128 (hdj_b rfl) hL
    have hI_1128 := st_hI_t F_1128 (hdj_b rfl) hI
    refine ik_F_mono (rp_seed (f := fun j => ((pl :: 0 :: 0 :: 0 :: (((s : Nat) : Int)) :: 0 :: 0 :: mi :: 0 :: 0 :: tn :: fp :: sc0 :: sc1 :: sc2 :: sc3 :: sc4 :: sc5 :: 0 :: 0 :: 0 :: 0 :: 0 :: 0 :: w24 :: 0 :: 0 :: 0 :: 0 :: 0 :: 0 :: 0 :: sb :: wa :: 0 :: 0 :: r :: 0 :: 0 :: 0 :: 0 :: 0 :: 0 :: []) : List Int).getD j 0) (sd := sd) (v := v) z_v g_1128_66 k_1128) ?_
    rintro v_1130 h_1130 (⟨er_1130, e_1130_66, p_1130_0, F_1130⟩ | ⟨er_1130, e_1130_66, p_1130_0, F_1130⟩) <;> subst er_1130
    · have k_1130 : cL h_1130 := F_1130.1.trans k_1128
      have g_1130_0 := (hfr_g F_1130 0 rfl).trans g_1128_0
      have g_1130_14 := (hfr_g F_1130 14 rfl).trans g_1128_14
      have g_1130_15 := (hfr_g F_1130 15 rfl).trans g_1128_15
      have g_1130_16 := (hfr_g F_1130 16 rfl).trans g_1128_16
      have g_1130_18 := (hfr_g F_1130 18 rfl).trans g_1128_18
      have g_1130_57 := (hfr_g F_1130 57 rfl).trans g_1128_57
      have g_1130_66 : cE h_1130 66 (.inr (10, (fI pl :: .ref 67 :: .ref 68 :: .ref 69 :: fI ((s : Nat) : Int) :: .ref 70 :: .ref 71 :: fI mi :: fI v :: .ref 72 :: fI tn :: fI fp :: fI sc0 :: fJ sc1 :: fI sc2 :: fI sc3 :: fI sc4 :: fI sc5 :: .ref 73 :: .ref 74 :: .ref 75 :: .ref 76 :: .ref 77 :: .ref 78 :: fI w24 :: .ref 79 :: .ref 80 :: .ref 81 :: .ref 82 :: .ref 83 :: .ref 84 :: .ref 85 :: fJ sb :: fJ wa :: .ref 86 :: .ref 87 :: fI r :: .ref 88 :: .ref 89 :: .ref 90 :: .ref 91 :: .ref 92 :: .ref 93 :: []))) := e_1130_66
      omega
    · have k_1130 : cL h_1130 := F_1130.1.trans k_1128
      have g_1130_0 := (hfr_g F_1130 0 rfl).trans g_1128_0
      have g_1130_14 := (hfr_g F_1130 14 rfl).trans g_1128_14
      have g_1130_15 := (hfr_g F_1130 15 rfl).trans g_1128_15
      have g_1130_16 := (hfr_g F_1130 16 rfl).trans g_1128_16
      have g_1130_18 := (hfr_g F_1130 18 rfl).trans g_1128_18
      have g_1130_57 := (hfr_g F_1130 57 rfl).trans g_1128_57
      have g_1130_66 : cE h_1130 66 (.inr (10, (fI pl :: .ref 67 :: .ref 68 :: .ref 69 :: fI ((s : Nat) : Int) :: .ref 70 :: .ref 71 :: fI mi :: fI sd :: .ref 72 :: fI tn :: fI fp :: fI sc0 :: fJ sc1 :: fI sc2 :: fI sc3 :: fI sc4 :: fI sc5 :: .ref 73 :: .ref 74 :: .ref 75 :: .ref 76 :: .ref 77 :: .ref 78 :: fI w24 :: .ref 79 :: .ref 80 :: .ref 81 :: .ref 82 :: .ref 83 :: .ref 84 :: .ref 85 :: fJ sb :: fJ wa :: .ref 86 :: .ref 87 :: fI r :: .ref 88 :: .ref 89 :: .ref 90 :: .ref 91 :: .ref 92 :: .ref 93 :: []))) := e_1130_66
      refine ⟨rfl, ?_⟩
      have gT_1130 := st_gT_t F_1130 (hdj_b rfl) gT_1128
      have gB_1130 := st_gB_t F_1130 (hdj_b rfl) gB_1128
      have gS_1130 := st_gS_t F_1130 (hdj_b rfl) gS_1128
      have gV_1130 := st_gV_t F_1130 (hdj_b rfl) gV_1128
      have gW_1130 := st_gW_t F_1130 (hdj_b rfl) gW_1128
      have gM_1130 := st_gM_t F_1130 (hdj_b rfl) gM_1128
      have gR_1130 := st_gR_t F_1130 (hdj_b rfl) gR_1128
      have gL_1130 := st_gL_t F_1130 (hdj_b rfl) gL_1128
      have gI_1130 := st_gI_t F_1130 (hdj_b rfl) gI_1128
      have gJ_1130 := st_gJ_t F_1130 (hdj_b rfl) gJ_1128
      have hB_1130 := st_hB_t F_1130 (hdj_b rfl) hB_1128
      have hC_1130 := st_hC_t F_1130 (hdj_b rfl) hC_1128
      have hT_1130 := st_hT_t F_1130 (hdj_b rfl) hT_1128
      have hS_1130 := st_hS_t F_1130 (hdj_b rfl) hS_1128
      have hM_1130 := st_hM_t F_1130 (hdj_b rfl) hM_1128
      have hR_1130 := st_hR_t F_1130 (hdj_b rfl) hR_1128
      have hL_1130 := st_hL_t F_1130 (hdj_b rfl) hL_1128
      have hI_1130 := st_hI_t F_1130 (hdj_b rfl) hI_1128
      intro C_ k_
      exact k_ tn fp pl mi sd ka pa fa kb pb fb xa xb r n0 n1 ga0 gm0 gd_0 gs0 g00 g01 g02 g03 g04 g05 gx0 gy0 ga1 gm1 gd_1 gs1 g10 g11 g12 g13 g14 g15 gx1 gy1 s T cn go ch wg wc we rp rt lr ci0 ci1 cnr gor chr T2 im f_pl f_s f_st f_cb f_cr f_rw f_al f_wy f_k f_p f_x (by first | exact st_m f_m | omega) f_sd f_r f_rr f_n f_l0 f_l1 f_tn f_t (st_I_K f_i0) (st_I_K f_i1) ⟨g_1130_0, g_1130_18, g_1130_57⟩ gT_1130 gB_1130 ⟨g_1130_14, g_1130_15, g_1130_16⟩ gS_1130 gV_1130 gW_1130 gM_1130 gR_1130 gL_1130 gI_1130 gJ_1130 ⟨sc0, sc1, sc2, sc3, sc4, sc5, w24, sb, wa, g_1130_66⟩ hB_1130 hC_1130 hT_1130 hS_1130 hM_1130 hR_1130 hL_1130 hI_1130 k_1130

set_option maxRecDepth 100000 in
theorem lk_morning {K : Nat} {h : List ik_E} (E : st_S K h) (hK : K ≤ 600) {n : Int} (z_n : -2147483648 ≤ n ∧ n < 2147483648)  : ik_F 114 [.ref 0, fI n] h (fun rv h_q => ∃ o_ : Int, rv = [fI o_] ∧ (h_q.length = (94 : Nat) ∧ ∃ fs, h_q[66]? = some (.inr (10, fs))) ∧ ik_F 202 [.ref 66, fI n] h_q (fun rv' h'' => rv' = [fI o_] ∧ st_S (K + 1) h'')) := by
  refine E _ ?_
  intro tn fp pl mi sd ka pa fa kb pb fb xa xb r n0 n1 ga0 gm0 gd_0 gs0 g00 g01 g02 g03 g04 g05 gx0 gy0 ga1 gm1 gd_1 gs1 g10 g11 g12 g13 g14 g15 gx1 gy1 s T cn go ch wg wc we rp rt lr ci0 ci1 cnr gor chr T2 im f_pl f_s f_st f_cb f_cr f_rw f_al f_wy f_k f_p f_x f_m f_sd f_r f_rr f_n f_l0 f_l1 f_tn f_t f_i0 f_i1 gA gT gB gC gS gV gW gM gR gL gI gJ hO hB hC hT hS hM hR hL hI hl
  replace f_cb := ik_hid_i f_cb
  replace f_cr := ik_hid_i f_cr
  replace f_p := ik_hid_i f_p
  replace f_x := ik_hid_i f_x
  obtain ⟨h0, h18, h57⟩ := gA
  obtain ⟨h7, h8, n8, h9, n9, h10, n10, h11, n11, h12, n12, h13, n13⟩ := gB
  obtain ⟨h14, h15, h16⟩ := gC
  obtain ⟨sc0, sc1, sc2, sc3, sc4, sc5, w24, sb, wa, h66⟩ := hO
  obtain ⟨h67, n67, h68, n68, h69, n69⟩ := hB
  obtain ⟨h70, h71⟩ := hC
  obtain ⟨gt, gdd, xs, ys, r1, r2, h77, n77, h78, n78, h79, n79, h80, n80, h81, n81, h82, n82⟩ := hS
  have hq3 : 0 ≤ mi ∧ mi < 1999999000 := by omega
  refine ik_F_mono (cp_morning (pl := pl) (mi := mi) (sd := sd) (ka := ka) (pa := pa) (fa := fa) (kb := kb) (pb := pb) (fb := fb) (xa := xa) (xb := xb) (s := s) (cn := cnr) (go := gor) (ch := chr) (n := n) (lo := ((mj_lost pl cn go : Nat) : Int)) (wg := wg) (wc := wc) (we := we) f_pl f_s f_sd (by omega) (fun x h0 h1 => by have e := mx_al_w f_rw f_al s x h0 h1; exact e.symm ▸ f_wy x h0 h1) (mx_rw_ok (mx_al_rw f_rw f_al) _) f_k.1 f_k.2.1 f_k.2.2.1 f_k.2.2.2.1 (fun w => (f_p w).1) (fun w => (f_p w).2) f_x z_n h0 h7 h11 n11 h12 n12 h13 n13 h14 h15 h16 hl) ?_
  rintro v_1131 h_1131 (⟨er_1131, e_1131_14, e_1131_16, p_1131_0, F_1131⟩ | ⟨er_1131, e_1131_14, e_1131_16, p_1131_0, F_1131⟩) <;> subst er_1131
  · have k_1131 : cL h_1131 := F_1131.1.trans hl
    have g_1131_0 := (hfr_g F_1131 0 rfl).trans h0
    have g_1131_7 := (hfr_g F_1131 7 rfl).trans h7
    have g_1131_8 := (hfr_g F_1131 8 rfl).trans h8
    have g_1131_9 := (hfr_g F_1131 9 rfl).trans h9
    have g_1131_10 := (hfr_g F_1131 10 rfl).trans h10
    have g_1131_11 := (hfr_g F_1131 11 rfl).trans h11
    have g_1131_12 := (hfr_g F_1131 12 rfl).trans h12
    have g_1131_13 := (hfr_g F_1131 13 rfl).trans h13
    have g_1131_15 := (hfr_g F_1131 15 rfl).trans h15
    have g_1131_18 := (hfr_g F_1131 18 rfl).trans h18
    have g_1131_57 := (hfr_g F_1131 57 rfl).trans h57
    have g_1131_66 := (hfr_g F_1131 66 rfl).trans h66
    have g_1131_67 := (hfr_g F_1131 67 rfl).trans h67
    have g_1131_68 := (hfr_g F_1131 68 rfl).trans h68
    have g_1131_69 := (hfr_g F_1131 69 rfl).trans h69
    have g_1131_70 := (hfr_g F_1131 70 rfl).trans h70
    have g_1131_71 := (hfr_g F_1131 71 rfl).trans h71
    have g_1131_77 := (hfr_g F_1131 77 rfl).trans h77
    have g_1131_78 := (hfr_g F_1131 78 rfl).trans h78
    have g_1131_79 := (hfr_g F_1131 79 rfl).trans h79
    have g_1131_80 := (hfr_g F_1131 80 rfl).trans h80
    have g_1131_81 := (hfr_g F_1131 81 rfl).trans h81
    have g_1131_82 := (hfr_g F_1131 82 rfl).trans h82
    have g_1131_14 : cE h_1131 14 (.inr (1, [.ref 7, .ref 15, .ref 16, fI mi, fJ ((mx_mo (fun x => mx_w cnr gor chr s x) (pl - 1) ka pa fa kb pb fb n.toNat 0 sd).2)])) := e_1131_14
    have g_1131_16 : cE h_1131 16 (.inl (.int, fA [xa, xb])) := e_1131_16
    refine ⟨(mx_mo (fun x => mx_w cnr gor chr s x) (pl - 1) ka pa fa kb pb fb n.toNat 0 sd).1, rfl, ⟨k_1131, _, g_1131_66⟩, ?_⟩
    have gT_1131 := st_gT_t F_1131 (hdj_b rfl) gT
    have gS_1131 := st_gS_t F_1131 (hdj_b rfl) gS
    have gV_1131 := st_gV_t F_1131 (hdj_b rfl) gV
    have gW_1131 := st_gW_t F_1131 (hdj_b rfl) gW
    have gM_1131 := st_gM_t F_1131 (hdj_b rfl) gM
    have gR_1131 := st_gR_t F_1131 (hdj_b rfl) gR
    have gL_1131 := st_gL_t F_1131 (hdj_b rfl) gL
    have gI_1131 := st_gI_t F_1131 (hdj_b rfl) gI
    have gJ_1131 := st_gJ_t F_1131 (hdj_b rfl) gJ
    have hT_1131 := st_hT_t F_1131 (hdj_b rfl) hT
    have hM_1131 := st_hM_t F_1131 (hdj_b rfl) hM
    have hR_1131 := st_hR_t F_1131 (hdj_b rfl) hR
    have hL_1131 := st_hL_t F_1131 (hdj_b rfl) hL
    have hI_1131 := st_hI_t F_1131 (hdj_b rfl) hI
    refine ik_F_mono (rp_morning (pl := pl) (mi := mi) (sd := sd) (ka := ka) (pa := pa) (fa := fa) (kb := kb) (pb := pb) (fb := fb) (xa := xa) (xb := xb) (s := s) (cn := cnr) (go := gor) (ch := chr) (n := n) (f := fun j => ((0 :: 0 :: 0 :: 0 :: 0 :: 0 :: 0 :: 0 :: 0 :: 0 :: tn :: fp :: sc0 :: sc1 :: sc2 :: sc3 :: sc4 :: sc5 :: 0 :: 0 :: 0 :: 0 :: 0 :: 0 :: w24 :: 0 :: 0 :: 0 :: 0 :: 0 :: 0 :: 0 :: sb :: wa :: 0 :: 0 :: r :: 0 :: 0 :: 0 :: 0 :: 0 :: 0 :: []) : List Int).getD j 0) (gt := gt) (gd := gdd) f_pl f_s f_sd (by omega) (mx_rw_ch (mx_al_rw f_rw f_al)) (st_cn (mx_al_rw f_rw f_al) f_cr) (mx_rw_ok (mx_al_rw f_rw f_al) _) f_k.1 f_k.2.1 f_k.2.2.1 f_k.2.2.2.1 (fun w => (f_p w).1) (fun w => (f_p w).2) f_x z_n g_1131_66 g_1131_67 n67 g_1131_68 n68 g_1131_69 n69 g_1131_70 g_1131_71 g_1131_77 n77 g_1131_78 n78 k_1131) ?_
    rintro v_1132 h_1132 (⟨w'_1132, gt'_1132, gd'_1132, er_1132, e_1132_66, e_1132_71, e_1132_77, m_1132_77, e_1132_78, m_1132_78, p_1132_0, F_1132⟩ | ⟨er_1132, e_1132_66, e_1132_71, e_1132_77, m_1132_77, e_1132_78, m_1132_78, p_1132_0, F_1132⟩) <;> subst er_1132
    · have k_1132 : cL h_1132 := F_1132.1.trans k_1131
      have g_1132_0 := (hfr_g F_1132 0 rfl).trans g_1131_0
      have g_1132_7 := (hfr_g F_1132 7 rfl).trans g_1131_7
      have g_1132_8 := (hfr_g F_1132 8 rfl).trans g_1131_8
      have g_1132_9 := (hfr_g F_1132 9 rfl).trans g_1131_9
      have g_1132_10 := (hfr_g F_1132 10 rfl).trans g_1131_10
      have g_1132_11 := (hfr_g F_1132 11 rfl).trans g_1131_11
      have g_1132_12 := (hfr_g F_1132 12 rfl).trans g_1131_12
      have g_1132_13 := (hfr_g F_1132 13 rfl).trans g_1131_13
      have g_1132_14 := (hfr_g F_1132 14 rfl).trans g_1131_14
      have g_1132_15 := (hfr_g F_1132 15 rfl).trans g_1131_15
      have g_1132_16 := (hfr_g F_1132 16 rfl).trans g_1131_16
      have g_1132_18 := (hfr_g F_1132 18 rfl).trans g_1131_18
      have g_1132_57 := (hfr_g F_1132 57 rfl).trans g_1131_57
      have g_1132_67 := (hfr_g F_1132 67 rfl).trans g_1131_67
      have g_1132_68 := (hfr_g F_1132 68 rfl).trans g_1131_68
      have g_1132_69 := (hfr_g F_1132 69 rfl).trans g_1131_69
      have g_1132_70 := (hfr_g F_1132 70 rfl).trans g_1131_70
      have g_1132_79 := (hfr_g F_1132 79 rfl).trans g_1131_79
      have g_1132_80 := (hfr_g F_1132 80 rfl).trans g_1131_80
      have g_1132_81 := (hfr_g F_1132 81 rfl).trans g_1131_81
      have g_1132_82 := (hfr_g F_1132 82 rfl).trans g_1131_82
      have g_1132_66 : cE h_1132 66 (.inr (10, (fI pl :: .ref 67 :: .ref 68 :: .ref 69 :: fI ((s : Nat) : Int) :: .ref 70 :: .ref 71 :: fI mi :: fI ((mx_mo (fun x => mx_w cnr gor chr s x) (pl - 1) ka pa fa kb pb fb n.toNat 0 sd).2) :: .ref 72 :: fI tn :: fI fp :: fI sc0 :: fJ sc1 :: fI sc2 :: fI sc3 :: fI sc4 :: fI sc5 :: .ref 73 :: .ref 74 :: .ref 75 :: .ref 76 :: .ref 77 :: .ref 78 :: fI w'_1132 :: .ref 79 :: .ref 80 :: .ref 81 :: .ref 82 :: .ref 83 :: .ref 84 :: .ref 85 :: fJ sb :: fJ wa :: .ref 86 :: .ref 87 :: fI r :: .ref 88 :: .ref 89 :: .ref 90 :: .ref 91 :: .ref 92 :: .ref 93 :: []))) := e_1132_66
      have g_1132_71 : cE h_1132 71 (.inl (.int, fA [xa, xb])) := e_1132_71
      have g_1132_77 : cE h_1132 77 (.inl (.int, fA gt'_1132)) := e_1132_77
      have g_1132_78 : cE h_1132 78 (.inl (.int, fA gd'_1132)) := e_1132_78
      refine ⟨rfl, ?_⟩
      have hp := f_p p_1131_0.2
      have gT_1132 := st_gT_t F_1132 (hdj_b rfl) gT_1131
      have gS_1132 := st_gS_t F_1132 (hdj_b rfl) gS_1131
      have gV_1132 := st_gV_t F_1132 (hdj_b rfl) gV_1131
      have gW_1132 := st_gW_t F_1132 (hdj_b rfl) gW_1131
      have gM_1132 := st_gM_t F_1132 (hdj_b rfl) gM_1131
      have gR_1132 := st_gR_t F_1132 (hdj_b rfl) gR_1131
      have gL_1132 := st_gL_t F_1132 (hdj_b rfl) gL_1131
      have gI_1132 := st_gI_t F_1132 (hdj_b rfl) gI_1131
      have gJ_1132 := st_gJ_t F_1132 (hdj_b rfl) gJ_1131
      have hT_1132 := st_hT_t F_1132 (hdj_b rfl) hT_1131
      have hM_1132 := st_hM_t F_1132 (hdj_b rfl) hM_1131
      have hR_1132 := st_hR_t F_1132 (hdj_b rfl) hR_1131
      have hL_1132 := st_hL_t F_1132 (hdj_b rfl) hL_1131
      have hI_1132 := st_hI_t F_1132 (hdj_b rfl) hI_1131
      intro C_ k_
      exact k_ tn fp pl mi ((mx_mo (fun x => mx_w cnr gor chr s x) (pl - 1) ka pa fa kb pb fb n.toNat 0 sd).2) ka pa fa kb pb fb xa xb r n0 n1 ga0 gm0 gd_0 gs0 g00 g01 g02 g03 g04 g05 gx0 gy0 ga1 gm1 gd_1 gs1 g10 g11 g12 g13 g14 g15 gx1 gy1 s T cn go ch wg wc we rp rt lr ci0 ci1 cnr gor chr T2 im f_pl f_s f_st f_cb f_cr f_rw f_al f_wy f_k f_p f_x (by omega) (mx_mo_sd (W := (fun x => mx_w cnr gor chr s x)) (mx_rw_ok (mx_al_rw f_rw f_al) _) (by omega) (by omega) (by omega) (by omega) n.toNat 0 sd f_sd) f_r f_rr f_n f_l0 f_l1 f_tn f_t (st_I_K f_i0) (st_I_K f_i1) ⟨g_1132_0, g_1132_18, g_1132_57⟩ gT_1132 ⟨g_1132_7, g_1132_8, n8, g_1132_9, n9, g_1132_10, n10, g_1132_11, n11, g_1132_12, n12, g_1132_13, n13⟩ ⟨g_1132_14, g_1132_15, g_1132_16⟩ gS_1132 gV_1132 gW_1132 gM_1132 gR_1132 gL_1132 gI_1132 gJ_1132 ⟨sc0, sc1, sc2, sc3, sc4, sc5, w'_1132, sb, wa, g_1132_66⟩ ⟨g_1132_67, n67, g_1132_68, n68, g_1132_69, n69⟩ ⟨g_1132_70, g_1132_71⟩ hT_1132 ⟨gt'_1132, gd'_1132, xs, ys, r1, r2, g_1132_77, m_1132_77, g_1132_78, m_1132_78, g_1132_79, n79, g_1132_80, n80, g_1132_81, n81, g_1132_82, n82⟩ hM_1132 hR_1132 hL_1132 hI_1132 k_1132
    · have k_1132 : cL h_1132 := F_1132.1.trans k_1131
      have g_1132_0 := (hfr_g F_1132 0 rfl).trans g_1131_0
      have g_1132_7 := (hfr_g F_1132 7 rfl).trans g_1131_7
      have g_1132_8 := (hfr_g F_1132 8 rfl).trans g_1131_8
      have g_1132_9 := (hfr_g F_1132 9 rfl).trans g_1131_9
      have g_1132_10 := (hfr_g F_1132 10 rfl).trans g_1131_10
      have g_1132_11 := (hfr_g F_1132 11 rfl).trans g_1131_11
      have g_1132_12 := (hfr_g F_1132 12 rfl).trans g_1131_12
      have g_1132_13 := (hfr_g F_1132 13 rfl).trans g_1131_13
      have g_1132_14 := (hfr_g F_1132 14 rfl).trans g_1131_14
      have g_1132_15 := (hfr_g F_1132 15 rfl).trans g_1131_15
      have g_1132_16 := (hfr_g F_1132 16 rfl).trans g_1131_16
      have g_1132_18 := (hfr_g F_1132 18 rfl).trans g_1131_18
      have g_1132_57 := (hfr_g F_1132 57 rfl).trans g_1131_57
      have g_1132_67 := (hfr_g F_1132 67 rfl).trans g_1131_67
      have g_1132_68 := (hfr_g F_1132 68 rfl).trans g_1131_68
      have g_1132_69 := (hfr_g F_1132 69 rfl).trans g_1131_69
      have g_1132_70 := (hfr_g F_1132 70 rfl).trans g_1131_70
      have g_1132_79 := (hfr_g F_1132 79 rfl).trans g_1131_79
      have g_1132_80 := (hfr_g F_1132 80 rfl).trans g_1131_80
      have g_1132_81 := (hfr_g F_1132 81 rfl).trans g_1131_81
      have g_1132_82 := (hfr_g F_1132 82 rfl).trans g_1131_82
      have g_1132_66 : cE h_1132 66 (.inr (10, (fI pl :: .ref 67 :: .ref 68 :: .ref 69 :: fI ((s : Nat) : Int) :: .ref 70 :: .ref 71 :: fI mi :: fI sd :: .ref 72 :: fI tn :: fI fp :: fI sc0 :: fJ sc1 :: fI sc2 :: fI sc3 :: fI sc4 :: fI sc5 :: .ref 73 :: .ref 74 :: .ref 75 :: .ref 76 :: .ref 77 :: .ref 78 :: fI w24 :: .ref 79 :: .ref 80 :: .ref 81 :: .ref 82 :: .ref 83 :: .ref 84 :: .ref 85 :: fJ sb :: fJ wa :: .ref 86 :: .ref 87 :: fI r :: .ref 88 :: .ref 89 :: .ref 90 :: .ref 91 :: .ref 92 :: .ref 93 :: []))) := e_1132_66
      have g_1132_71 : cE h_1132 71 (.inl (.int, fA [xa, xb])) := e_1132_71
      have g_1132_77 : cE h_1132 77 (.inl (.int, fA gt)) := e_1132_77
      have g_1132_78 : cE h_1132 78 (.inl (.int, fA gdd)) := e_1132_78
      exact absurd p_1131_0 p_1132_0
  · have k_1131 : cL h_1131 := F_1131.1.trans hl
    have g_1131_0 := (hfr_g F_1131 0 rfl).trans h0
    have g_1131_7 := (hfr_g F_1131 7 rfl).trans h7
    have g_1131_8 := (hfr_g F_1131 8 rfl).trans h8
    have g_1131_9 := (hfr_g F_1131 9 rfl).trans h9
    have g_1131_10 := (hfr_g F_1131 10 rfl).trans h10
    have g_1131_11 := (hfr_g F_1131 11 rfl).trans h11
    have g_1131_12 := (hfr_g F_1131 12 rfl).trans h12
    have g_1131_13 := (hfr_g F_1131 13 rfl).trans h13
    have g_1131_15 := (hfr_g F_1131 15 rfl).trans h15
    have g_1131_18 := (hfr_g F_1131 18 rfl).trans h18
    have g_1131_57 := (hfr_g F_1131 57 rfl).trans h57
    have g_1131_66 := (hfr_g F_1131 66 rfl).trans h66
    have g_1131_67 := (hfr_g F_1131 67 rfl).trans h67
    have g_1131_68 := (hfr_g F_1131 68 rfl).trans h68
    have g_1131_69 := (hfr_g F_1131 69 rfl).trans h69
    have g_1131_70 := (hfr_g F_1131 70 rfl).trans h70
    have g_1131_71 := (hfr_g F_1131 71 rfl).trans h71
    have g_1131_77 := (hfr_g F_1131 77 rfl).trans h77
    have g_1131_78 := (hfr_g F_1131 78 rfl).trans h78
    have g_1131_79 := (hfr_g F_1131 79 rfl).trans h79
    have g_1131_80 := (hfr_g F_1131 80 rfl).trans h80
    have g_1131_81 := (hfr_g F_1131 81 rfl).trans h81
    have g_1131_82 := (hfr_g F_1131 82 rfl).trans h82
    have g_1131_14 : cE h_1131 14 (.inr (1, [.ref 7, .ref 15, .ref 16, fI mi, fJ sd])) := e_1131_14
    have g_1131_16 : cE h_1131 16 (.inl (.int, fA [xa, xb])) := e_1131_16
    refine ⟨an_n 40 n, rfl, ⟨k_1131, _, g_1131_66⟩, ?_⟩
    have gT_1131 := st_gT_t F_1131 (hdj_b rfl) gT
    have gS_1131 := st_gS_t F_1131 (hdj_b rfl) gS
    have gV_1131 := st_gV_t F_1131 (hdj_b rfl) gV
    have gW_1131 := st_gW_t F_1131 (hdj_b rfl) gW
    have gM_1131 := st_gM_t F_1131 (hdj_b rfl) gM
    have gR_1131 := st_gR_t F_1131 (hdj_b rfl) gR
    have gL_1131 := st_gL_t F_1131 (hdj_b rfl) gL
    have gI_1131 := st_gI_t F_1131 (hdj_b rfl) gI
    have gJ_1131 := st_gJ_t F_1131 (hdj_b rfl) gJ
    have hT_1131 := st_hT_t F_1131 (hdj_b rfl) hT
    have hM_1131 := st_hM_t F_1131 (hdj_b rfl) hM
    have hR_1131 := st_hR_t F_1131 (hdj_b rfl) hR
    have hL_1131 := st_hL_t F_1131 (hdj_b rfl) hL
    have hI_1131 := st_hI_t F_1131 (hdj_b rfl) hI
    refine ik_F_mono (rp_morning (pl := pl) (mi := mi) (sd := sd) (ka := ka) (pa := pa) (fa := fa) (kb := kb) (pb := pb) (fb := fb) (xa := xa) (xb := xb) (s := s) (cn := cnr) (go := gor) (ch := chr) (n := n) (f := fun j => ((0 :: 0 :: 0 :: 0 :: 0 :: 0 :: 0 :: 0 :: 0 :: 0 :: tn :: fp :: sc0 :: sc1 :: sc2 :: sc3 :: sc4 :: sc5 :: 0 :: 0 :: 0 :: 0 :: 0 :: 0 :: w24 :: 0 :: 0 :: 0 :: 0 :: 0 :: 0 :: 0 :: sb :: wa :: 0 :: 0 :: r :: 0 :: 0 :: 0 :: 0 :: 0 :: 0 :: []) : List Int).getD j 0) (gt := gt) (gd := gdd) f_pl f_s f_sd (by omega) (mx_rw_ch (mx_al_rw f_rw f_al)) (st_cn (mx_al_rw f_rw f_al) f_cr) (mx_rw_ok (mx_al_rw f_rw f_al) _) f_k.1 f_k.2.1 f_k.2.2.1 f_k.2.2.2.1 (fun w => (f_p w).1) (fun w => (f_p w).2) f_x z_n g_1131_66 g_1131_67 n67 g_1131_68 n68 g_1131_69 n69 g_1131_70 g_1131_71 g_1131_77 n77 g_1131_78 n78 k_1131) ?_
    rintro v_1133 h_1133 (⟨w'_1133, gt'_1133, gd'_1133, er_1133, e_1133_66, e_1133_71, e_1133_77, m_1133_77, e_1133_78, m_1133_78, p_1133_0, F_1133⟩ | ⟨er_1133, e_1133_66, e_1133_71, e_1133_77, m_1133_77, e_1133_78, m_1133_78, p_1133_0, F_1133⟩) <;> subst er_1133
    · have k_1133 : cL h_1133 := F_1133.1.trans k_1131
      have g_1133_0 := (hfr_g F_1133 0 rfl).trans g_1131_0
      have g_1133_7 := (hfr_g F_1133 7 rfl).trans g_1131_7
      have g_1133_8 := (hfr_g F_1133 8 rfl).trans g_1131_8
      have g_1133_9 := (hfr_g F_1133 9 rfl).trans g_1131_9
      have g_1133_10 := (hfr_g F_1133 10 rfl).trans g_1131_10
      have g_1133_11 := (hfr_g F_1133 11 rfl).trans g_1131_11
      have g_1133_12 := (hfr_g F_1133 12 rfl).trans g_1131_12
      have g_1133_13 := (hfr_g F_1133 13 rfl).trans g_1131_13
      have g_1133_14 := (hfr_g F_1133 14 rfl).trans g_1131_14
      have g_1133_15 := (hfr_g F_1133 15 rfl).trans g_1131_15
      have g_1133_16 := (hfr_g F_1133 16 rfl).trans g_1131_16
      have g_1133_18 := (hfr_g F_1133 18 rfl).trans g_1131_18
      have g_1133_57 := (hfr_g F_1133 57 rfl).trans g_1131_57
      have g_1133_67 := (hfr_g F_1133 67 rfl).trans g_1131_67
      have g_1133_68 := (hfr_g F_1133 68 rfl).trans g_1131_68
      have g_1133_69 := (hfr_g F_1133 69 rfl).trans g_1131_69
      have g_1133_70 := (hfr_g F_1133 70 rfl).trans g_1131_70
      have g_1133_79 := (hfr_g F_1133 79 rfl).trans g_1131_79
      have g_1133_80 := (hfr_g F_1133 80 rfl).trans g_1131_80
      have g_1133_81 := (hfr_g F_1133 81 rfl).trans g_1131_81
      have g_1133_82 := (hfr_g F_1133 82 rfl).trans g_1131_82
      have g_1133_66 : cE h_1133 66 (.inr (10, (fI pl :: .ref 67 :: .ref 68 :: .ref 69 :: fI ((s : Nat) : Int) :: .ref 70 :: .ref 71 :: fI mi :: fI ((mx_mo (fun x => mx_w cnr gor chr s x) (pl - 1) ka pa fa kb pb fb n.toNat 0 sd).2) :: .ref 72 :: fI tn :: fI fp :: fI sc0 :: fJ sc1 :: fI sc2 :: fI sc3 :: fI sc4 :: fI sc5 :: .ref 73 :: .ref 74 :: .ref 75 :: .ref 76 :: .ref 77 :: .ref 78 :: fI w'_1133 :: .ref 79 :: .ref 80 :: .ref 81 :: .ref 82 :: .ref 83 :: .ref 84 :: .ref 85 :: fJ sb :: fJ wa :: .ref 86 :: .ref 87 :: fI r :: .ref 88 :: .ref 89 :: .ref 90 :: .ref 91 :: .ref 92 :: .ref 93 :: []))) := e_1133_66
      have g_1133_71 : cE h_1133 71 (.inl (.int, fA [xa, xb])) := e_1133_71
      have g_1133_77 : cE h_1133 77 (.inl (.int, fA gt'_1133)) := e_1133_77
      have g_1133_78 : cE h_1133 78 (.inl (.int, fA gd'_1133)) := e_1133_78
      exact absurd p_1133_0 p_1131_0
    · have k_1133 : cL h_1133 := F_1133.1.trans k_1131
      have g_1133_0 := (hfr_g F_1133 0 rfl).trans g_1131_0
      have g_1133_7 := (hfr_g F_1133 7 rfl).trans g_1131_7
      have g_1133_8 := (hfr_g F_1133 8 rfl).trans g_1131_8
      have g_1133_9 := (hfr_g F_1133 9 rfl).trans g_1131_9
      have g_1133_10 := (hfr_g F_1133 10 rfl).trans g_1131_10
      have g_1133_11 := (hfr_g F_1133 11 rfl).trans g_1131_11
      have g_1133_12 := (hfr_g F_1133 12 rfl).trans g_1131_12
      have g_1133_13 := (hfr_g F_1133 13 rfl).trans g_1131_13
      have g_1133_14 := (hfr_g F_1133 14 rfl).trans g_1131_14
      have g_1133_15 := (hfr_g F_1133 15 rfl).trans g_1131_15
      have g_1133_16 := (hfr_g F_1133 16 rfl).trans g_1131_16
      have g_1133_18 := (hfr_g F_1133 18 rfl).trans g_1131_18
      have g_1133_57 := (hfr_g F_1133 57 rfl).trans g_1131_57
      have g_1133_67 := (hfr_g F_1133 67 rfl).trans g_1131_67
      have g_1133_68 := (hfr_g F_1133 68 rfl).trans g_1131_68
      have g_1133_69 := (hfr_g F_1133 69 rfl).trans g_1131_69
      have g_1133_70 := (hfr_g F_1133 70 rfl).trans g_1131_70
      have g_1133_79 := (hfr_g F_1133 79 rfl).trans g_1131_79
      have g_1133_80 := (hfr_g F_1133 80 rfl).trans g_1131_80
      have g_1133_81 := (hfr_g F_1133 81 rfl).trans g_1131_81
      have g_1133_82 := (hfr_g F_1133 82 rfl).trans g_1131_82
      have g_1133_66 : cE h_1133 66 (.inr (10, (fI pl :: .ref 67 :: .ref 68 :: .ref 69 :: fI ((s : Nat) : Int) :: .ref 70 :: .ref 71 :: fI mi :: fI sd :: .ref 72 :: fI tn :: fI fp :: fI sc0 :: fJ sc1 :: fI sc2 :: fI sc3 :: fI sc4 :: fI sc5 :: .ref 73 :: .ref 74 :: .ref 75 :: .ref 76 :: .ref 77 :: .ref 78 :: fI w24 :: .ref 79 :: .ref 80 :: .ref 81 :: .ref 82 :: .ref 83 :: .ref 84 :: .ref 85 :: fJ sb :: fJ wa :: .ref 86 :: .ref 87 :: fI r :: .ref 88 :: .ref 89 :: .ref 90 :: .ref 91 :: .ref 92 :: .ref 93 :: []))) := e_1133_66
      have g_1133_71 : cE h_1133 71 (.inl (.int, fA [xa, xb])) := e_1133_71
      have g_1133_77 : cE h_1133 77 (.inl (.int, fA gt)) := e_1133_77
      have g_1133_78 : cE h_1133 78 (.inl (.int, fA gdd)) := e_1133_78
      refine ⟨rfl, ?_⟩
      have gT_1133 := st_gT_t F_1133 (hdj_b rfl) gT_1131
      have gS_1133 := st_gS_t F_1133 (hdj_b rfl) gS_1131
      have gV_1133 := st_gV_t F_1133 (hdj_b rfl) gV_1131
      have gW_1133 := st_gW_t F_1133 (hdj_b rfl) gW_1131
      have gM_1133 := st_gM_t F_1133 (hdj_b rfl) gM_1131
      have gR_1133 := st_gR_t F_1133 (hdj_b rfl) gR_1131
      have gL_1133 := st_gL_t F_1133 (hdj_b rfl) gL_1131
      have gI_1133 := st_gI_t F_1133 (hdj_b rfl) gI_1131
      have gJ_1133 := st_gJ_t F_1133 (hdj_b rfl) gJ_1131
      have hT_1133 := st_hT_t F_1133 (hdj_b rfl) hT_1131
      have hM_1133 := st_hM_t F_1133 (hdj_b rfl) hM_1131
      have hR_1133 := st_hR_t F_1133 (hdj_b rfl) hR_1131
      have hL_1133 := st_hL_t F_1133 (hdj_b rfl) hL_1131
      have hI_1133 := st_hI_t F_1133 (hdj_b rfl) hI_1131
      intro C_ k_
      exact k_ tn fp pl mi sd ka pa fa kb pb fb xa xb r n0 n1 ga0 gm0 gd_0 gs0 g00 g01 g02 g03 g04 g05 gx0 gy0 ga1 gm1 gd_1 gs1 g10 g11 g12 g13 g14 g15 gx1 gy1 s T cn go ch wg wc we rp rt lr ci0 ci1 cnr gor chr T2 im f_pl f_s f_st f_cb f_cr f_rw f_al f_wy f_k f_p f_x (by first | exact st_m f_m | omega) f_sd f_r f_rr f_n f_l0 f_l1 f_tn f_t (st_I_K f_i0) (st_I_K f_i1) ⟨g_1133_0, g_1133_18, g_1133_57⟩ gT_1133 ⟨g_1133_7, g_1133_8, n8, g_1133_9, n9, g_1133_10, n10, g_1133_11, n11, g_1133_12, n12, g_1133_13, n13⟩ ⟨g_1133_14, g_1133_15, g_1133_16⟩ gS_1133 gV_1133 gW_1133 gM_1133 gR_1133 gL_1133 gI_1133 gJ_1133 ⟨sc0, sc1, sc2, sc3, sc4, sc5, w24, sb, wa, g_1133_66⟩ ⟨g_1133_67, n67, g_1133_68, n68, g_1133_69, n69⟩ ⟨g_1133_70, g_1133_71⟩ hT_1133 ⟨gt, gdd, xs, ys, r1, r2, g_1133_77, m_1133_77, g_1133_78, m_1133_78, g_1133_79, n79, g_1133_80, n80, g_1133_81, n81, g_1133_82, n82⟩ hM_1133 hR_1133 hL_1133 hI_1133 k_1133

set_option maxRecDepth 100000 in
theorem lk_drift {K : Nat} {h : List ik_E} (E : st_S K h) (hK : K ≤ 600) {n : Int} (z_n : -2147483648 ≤ n ∧ n < 2147483648)  : ik_F 111 [.ref 0, fI n] h (fun rv h_q => ∃ o_ : Int, rv = [fI o_] ∧ (h_q.length = (94 : Nat) ∧ ∃ fs, h_q[66]? = some (.inr (10, fs))) ∧ ik_F 199 [.ref 66, fI n] h_q (fun rv' h'' => rv' = [fI o_] ∧ st_S (K + 1) h'')) := by
  refine E _ ?_
  intro tn fp pl mi sd ka pa fa kb pb fb xa xb r n0 n1 ga0 gm0 gd_0 gs0 g00 g01 g02 g03 g04 g05 gx0 gy0 ga1 gm1 gd_1 gs1 g10 g11 g12 g13 g14 g15 gx1 gy1 s T cn go ch wg wc we rp rt lr ci0 ci1 cnr gor chr T2 im f_pl f_s f_st f_cb f_cr f_rw f_al f_wy f_k f_p f_x f_m f_sd f_r f_rr f_n f_l0 f_l1 f_tn f_t f_i0 f_i1 gA gT gB gC gS gV gW gM gR gL gI gJ hO hB hC hT hS hM hR hL hI hl
  replace f_cb := ik_hid_i f_cb
  replace f_cr := ik_hid_i f_cr
  replace f_p := ik_hid_i f_p
  replace f_x := ik_hid_i f_x
  obtain ⟨h0, h18, h57⟩ := gA
  obtain ⟨h7, h8, n8, h9, n9, h10, n10, h11, n11, h12, n12, h13, n13⟩ := gB
  obtain ⟨h14, h15, h16⟩ := gC
  obtain ⟨sc0, sc1, sc2, sc3, sc4, sc5, w24, sb, wa, h66⟩ := hO
  obtain ⟨h67, n67, h68, n68, h69, n69⟩ := hB
  obtain ⟨h70, h71⟩ := hC
  obtain ⟨gt, gdd, xs, ys, r1, r2, h77, n77, h78, n78, h79, n79, h80, n80, h81, n81, h82, n82⟩ := hS
  have hq3 : 0 ≤ mi ∧ mi < 1999999000 := by omega
  refine ik_F_mono (cp_drift (pl := pl) (mi := mi) (sd := sd) (ka := ka) (pa := pa) (fa := fa) (kb := kb) (pb := pb) (fb := fb) (xa := xa) (xb := xb) (s := s) (cn := cnr) (go := gor) (ch := chr) (n := n) (lo := ((mj_lost pl cn go : Nat) : Int)) (wg := wg) (wc := wc) (we := we) f_pl f_s f_sd (by omega) (fun x h0 h1 => by have e := mx_al_w f_rw f_al s x h0 h1; exact e.symm ▸ f_wy x h0 h1) (mx_rw_ok (mx_al_rw f_rw f_al) _) f_k.1 f_k.2.1 f_k.2.2.1 f_k.2.2.2.1 (fun w => (f_p w).1) (fun w => (f_p w).2) f_x z_n h0 h7 h11 n11 h12 n12 h13 n13 h14 h15 h16 hl) ?_
  rintro v_1134 h_1134 (⟨er_1134, e_1134_14, e_1134_16, p_1134_0, F_1134⟩ | ⟨er_1134, e_1134_14, e_1134_16, p_1134_0, F_1134⟩) <;> subst er_1134
  · have k_1134 : cL h_1134 := F_1134.1.trans hl
    have g_1134_0 := (hfr_g F_1134 0 rfl).trans h0
    have g_1134_7 := (hfr_g F_1134 7 rfl).trans h7
    have g_1134_8 := (hfr_g F_1134 8 rfl).trans h8
    have g_1134_9 := (hfr_g F_1134 9 rfl).trans h9
    have g_1134_10 := (hfr_g F_1134 10 rfl).trans h10
    have g_1134_11 := (hfr_g F_1134 11 rfl).trans h11
    have g_1134_12 := (hfr_g F_1134 12 rfl).trans h12
    have g_1134_13 := (hfr_g F_1134 13 rfl).trans h13
    have g_1134_15 := (hfr_g F_1134 15 rfl).trans h15
    have g_1134_18 := (hfr_g F_1134 18 rfl).trans h18
    have g_1134_57 := (hfr_g F_1134 57 rfl).trans h57
    have g_1134_66 := (hfr_g F_1134 66 rfl).trans h66
    have g_1134_67 := (hfr_g F_1134 67 rfl).trans h67
    have g_1134_68 := (hfr_g F_1134 68 rfl).trans h68
    have g_1134_69 := (hfr_g F_1134 69 rfl).trans h69
    have g_1134_70 := (hfr_g F_1134 70 rfl).trans h70
    have g_1134_71 := (hfr_g F_1134 71 rfl).trans h71
    have g_1134_77 := (hfr_g F_1134 77 rfl).trans h77
    have g_1134_78 := (hfr_g F_1134 78 rfl).trans h78
    have g_1134_79 := (hfr_g F_1134 79 rfl).trans h79
    have g_1134_80 := (hfr_g F_1134 80 rfl).trans h80
    have g_1134_81 := (hfr_g F_1134 81 rfl).trans h81
    have g_1134_82 := (hfr_g F_1134 82 rfl).trans h82
    have g_1134_14 : cE h_1134 14 (.inr (1, [.ref 7, .ref 15, .ref 16, fI ((mx_dr (fun x => mx_w cnr gor chr s x) (pl - 1) ka pa fa kb pb fb n.toNat xa xb mi sd).2.2.1), fJ ((mx_dr (fun x => mx_w cnr gor chr s x) (pl - 1) ka pa fa kb pb fb n.toNat xa xb mi sd).2.2.2)])) := e_1134_14
    have g_1134_16 : cE h_1134 16 (.inl (.int, fA [(mx_dr (fun x => mx_w cnr gor chr s x) (pl - 1) ka pa fa kb pb fb n.toNat xa xb mi sd).1, (mx_dr (fun x => mx_w cnr gor chr s x) (pl - 1) ka pa fa kb pb fb n.toNat xa xb mi sd).2.1])) := e_1134_16
    refine ⟨mx_en (pl - 1) (mx_dr (fun x => mx_w cnr gor chr s x) (pl - 1) ka pa fa kb pb fb n.toNat xa xb mi sd).1 (mx_dr (fun x => mx_w cnr gor chr s x) (pl - 1) ka pa fa kb pb fb n.toNat xa xb mi sd).2.1, rfl, ⟨k_1134, _, g_1134_66⟩, ?_⟩
    have gT_1134 := st_gT_t F_1134 (hdj_b rfl) gT
    have gS_1134 := st_gS_t F_1134 (hdj_b rfl) gS
    have gV_1134 := st_gV_t F_1134 (hdj_b rfl) gV
    have gW_1134 := st_gW_t F_1134 (hdj_b rfl) gW
    have gM_1134 := st_gM_t F_1134 (hdj_b rfl) gM
    have gR_1134 := st_gR_t F_1134 (hdj_b rfl) gR
    have gL_1134 := st_gL_t F_1134 (hdj_b rfl) gL
    have gI_1134 := st_gI_t F_1134 (hdj_b rfl) gI
    have gJ_1134 := st_gJ_t F_1134 (hdj_b rfl) gJ
    have hT_1134 := st_hT_t F_1134 (hdj_b rfl) hT
    have hM_1134 := st_hM_t F_1134 (hdj_b rfl) hM
    have hR_1134 := st_hR_t F_1134 (hdj_b rfl) hR
    have hL_1134 := st_hL_t F_1134 (hdj_b rfl) hL
    have hI_1134 := st_hI_t F_1134 (hdj_b rfl) hI
    refine ik_F_mono (rp_drift (pl := pl) (mi := mi) (sd := sd) (ka := ka) (pa := pa) (fa := fa) (kb := kb) (pb := pb) (fb := fb) (xa := xa) (xb := xb) (s := s) (cn := cnr) (go := gor) (ch := chr) (n := n) (f := fun j => ((0 :: 0 :: 0 :: 0 :: 0 :: 0 :: 0 :: 0 :: 0 :: 0 :: tn :: fp :: sc0 :: sc1 :: sc2 :: sc3 :: sc4 :: sc5 :: 0 :: 0 :: 0 :: 0 :: 0 :: 0 :: w24 :: 0 :: 0 :: 0 :: 0 :: 0 :: 0 :: 0 :: sb :: wa :: 0 :: 0 :: r :: 0 :: 0 :: 0 :: 0 :: 0 :: 0 :: []) : List Int).getD j 0) (gt := gt) (gd := gdd) f_pl f_s f_sd (by omega) (mx_rw_ch (mx_al_rw f_rw f_al)) (st_cn (mx_al_rw f_rw f_al) f_cr) (mx_rw_ok (mx_al_rw f_rw f_al) _) f_k.1 f_k.2.1 f_k.2.2.1 f_k.2.2.2.1 (fun w => (f_p w).1) (fun w => (f_p w).2) f_x z_n g_1134_66 g_1134_67 n67 g_1134_68 n68 g_1134_69 n69 g_1134_70 g_1134_71 g_1134_77 n77 g_1134_78 n78 k_1134) ?_
    rintro v_1135 h_1135 (⟨w'_1135, gt'_1135, gd'_1135, er_1135, e_1135_66, e_1135_71, e_1135_77, m_1135_77, e_1135_78, m_1135_78, p_1135_0, F_1135⟩ | ⟨er_1135, e_1135_66, e_1135_71, e_1135_77, m_1135_77, e_1135_78, m_1135_78, p_1135_0, F_1135⟩) <;> subst er_1135
    · have k_1135 : cL h_1135 := F_1135.1.trans k_1134
      have g_1135_0 := (hfr_g F_1135 0 rfl).trans g_1134_0
      have g_1135_7 := (hfr_g F_1135 7 rfl).trans g_1134_7
      have g_1135_8 := (hfr_g F_1135 8 rfl).trans g_1134_8
      have g_1135_9 := (hfr_g F_1135 9 rfl).trans g_1134_9
      have g_1135_10 := (hfr_g F_1135 10 rfl).trans g_1134_10
      have g_1135_11 := (hfr_g F_1135 11 rfl).trans g_1134_11
      have g_1135_12 := (hfr_g F_1135 12 rfl).trans g_1134_12
      have g_1135_13 := (hfr_g F_1135 13 rfl).trans g_1134_13
      have g_1135_14 := (hfr_g F_1135 14 rfl).trans g_1134_14
      have g_1135_15 := (hfr_g F_1135 15 rfl).trans g_1134_15
      have g_1135_16 := (hfr_g F_1135 16 rfl).trans g_1134_16
      have g_1135_18 := (hfr_g F_1135 18 rfl).trans g_1134_18
      have g_1135_57 := (hfr_g F_1135 57 rfl).trans g_1134_57
      have g_1135_67 := (hfr_g F_1135 67 rfl).trans g_1134_67
      have g_1135_68 := (hfr_g F_1135 68 rfl).trans g_1134_68
      have g_1135_69 := (hfr_g F_1135 69 rfl).trans g_1134_69
      have g_1135_70 := (hfr_g F_1135 70 rfl).trans g_1134_70
      have g_1135_79 := (hfr_g F_1135 79 rfl).trans g_1134_79
      have g_1135_80 := (hfr_g F_1135 80 rfl).trans g_1134_80
      have g_1135_81 := (hfr_g F_1135 81 rfl).trans g_1134_81
      have g_1135_82 := (hfr_g F_1135 82 rfl).trans g_1134_82
      have g_1135_66 : cE h_1135 66 (.inr (10, (fI pl :: .ref 67 :: .ref 68 :: .ref 69 :: fI ((s : Nat) : Int) :: .ref 70 :: .ref 71 :: fI ((mx_dr (fun x => mx_w cnr gor chr s x) (pl - 1) ka pa fa kb pb fb n.toNat xa xb mi sd).2.2.1) :: fI ((mx_dr (fun x => mx_w cnr gor chr s x) (pl - 1) ka pa fa kb pb fb n.toNat xa xb mi sd).2.2.2) :: .ref 72 :: fI tn :: fI fp :: fI sc0 :: fJ sc1 :: fI sc2 :: fI sc3 :: fI sc4 :: fI sc5 :: .ref 73 :: .ref 74 :: .ref 75 :: .ref 76 :: .ref 77 :: .ref 78 :: fI w'_1135 :: .ref 79 :: .ref 80 :: .ref 81 :: .ref 82 :: .ref 83 :: .ref 84 :: .ref 85 :: fJ sb :: fJ wa :: .ref 86 :: .ref 87 :: fI r :: .ref 88 :: .ref 89 :: .ref 90 :: .ref 91 :: .ref 92 :: .ref 93 :: []))) := e_1135_66
      have g_1135_71 : cE h_1135 71 (.inl (.int, fA [(mx_dr (fun x => mx_w cnr gor chr s x) (pl - 1) ka pa fa kb pb fb n.toNat xa xb mi sd).1, (mx_dr (fun x => mx_w cnr gor chr s x) (pl - 1) ka pa fa kb pb fb n.toNat xa xb mi sd).2.1])) := e_1135_71
      have g_1135_77 : cE h_1135 77 (.inl (.int, fA gt'_1135)) := e_1135_77
      have g_1135_78 : cE h_1135 78 (.inl (.int, fA gd'_1135)) := e_1135_78
      refine ⟨rfl, ?_⟩
      have hp := f_p p_1134_0.2
      have hx := f_x p_1134_0.2
      have hz := mx_dr_in (W := (fun x => mx_w cnr gor chr s x)) (pl := pl) (ka := ka) (pa := pa) (fa := fa) (kb := kb) (pb := pb) (fb := fb) (mx_rw_ok (mx_al_rw f_rw f_al) _) (by omega) (by omega) n.toNat xa xb mi sd hx.1 hx.2.1 hx.2.2.1 hx.2.2.2 f_sd
      have gT_1135 := st_gT_t F_1135 (hdj_b rfl) gT_1134
      have gS_1135 := st_gS_t F_1135 (hdj_b rfl) gS_1134
      have gV_1135 := st_gV_t F_1135 (hdj_b rfl) gV_1134
      have gW_1135 := st_gW_t F_1135 (hdj_b rfl) gW_1134
      have gM_1135 := st_gM_t F_1135 (hdj_b rfl) gM_1134
      have gR_1135 := st_gR_t F_1135 (hdj_b rfl) gR_1134
      have gL_1135 := st_gL_t F_1135 (hdj_b rfl) gL_1134
      have gI_1135 := st_gI_t F_1135 (hdj_b rfl) gI_1134
      have gJ_1135 := st_gJ_t F_1135 (hdj_b rfl) gJ_1134
      have hT_1135 := st_hT_t F_1135 (hdj_b rfl) hT_1134
      have hM_1135 := st_hM_t F_1135 (hdj_b rfl) hM_1134
      have hR_1135 := st_hR_t F_1135 (hdj_b rfl) hR_1134
      have hL_1135 := st_hL_t F_1135 (hdj_b rfl) hL_1134
      have hI_1135 := st_hI_t F_1135 (hdj_b rfl) hI_1134
      intro C_ k_
      exact k_ tn fp pl ((mx_dr (fun x => mx_w cnr gor chr s x) (pl - 1) ka pa fa kb pb fb n.toNat xa xb mi sd).2.2.1) ((mx_dr (fun x => mx_w cnr gor chr s x) (pl - 1) ka pa fa kb pb fb n.toNat xa xb mi sd).2.2.2) ka pa fa kb pb fb ((mx_dr (fun x => mx_w cnr gor chr s x) (pl - 1) ka pa fa kb pb fb n.toNat xa xb mi sd).1) ((mx_dr (fun x => mx_w cnr gor chr s x) (pl - 1) ka pa fa kb pb fb n.toNat xa xb mi sd).2.1) r n0 n1 ga0 gm0 gd_0 gs0 g00 g01 g02 g03 g04 g05 gx0 gy0 ga1 gm1 gd_1 gs1 g10 g11 g12 g13 g14 g15 gx1 gy1 s T cn go ch wg wc we rp rt lr ci0 ci1 cnr gor chr T2 im f_pl f_s f_st f_cb f_cr f_rw f_al f_wy f_k f_p (fun _ => ⟨hz.1, hz.2.1, hz.2.2.1, hz.2.2.2.1⟩) (by have a := hz.2.2.2.2.2; omega) hz.2.2.2.2.1 f_r f_rr f_n f_l0 f_l1 f_tn f_t (st_I_K f_i0) (st_I_K f_i1) ⟨g_1135_0, g_1135_18, g_1135_57⟩ gT_1135 ⟨g_1135_7, g_1135_8, n8, g_1135_9, n9, g_1135_10, n10, g_1135_11, n11, g_1135_12, n12, g_1135_13, n13⟩ ⟨g_1135_14, g_1135_15, g_1135_16⟩ gS_1135 gV_1135 gW_1135 gM_1135 gR_1135 gL_1135 gI_1135 gJ_1135 ⟨sc0, sc1, sc2, sc3, sc4, sc5, w'_1135, sb, wa, g_1135_66⟩ ⟨g_1135_67, n67, g_1135_68, n68, g_1135_69, n69⟩ ⟨g_1135_70, g_1135_71⟩ hT_1135 ⟨gt'_1135, gd'_1135, xs, ys, r1, r2, g_1135_77, m_1135_77, g_1135_78, m_1135_78, g_1135_79, n79, g_1135_80, n80, g_1135_81, n81, g_1135_82, n82⟩ hM_1135 hR_1135 hL_1135 hI_1135 k_1135
    · have k_1135 : cL h_1135 := F_1135.1.trans k_1134
      have g_1135_0 := (hfr_g F_1135 0 rfl).trans g_1134_0
      have g_1135_7 := (hfr_g F_1135 7 rfl).trans g_1134_7
      have g_1135_8 := (hfr_g F_1135 8 rfl).trans g_1134_8
      have g_1135_9 := (hfr_g F_1135 9 rfl).trans g_1134_9
      have g_1135_10 := (hfr_g F_1135 10 rfl).trans g_1134_10
      have g_1135_11 := (hfr_g F_1135 11 rfl).trans g_1134_11
      have g_1135_12 := (hfr_g F_1135 12 rfl).trans g_1134_12
      have g_1135_13 := (hfr_g F_1135 13 rfl).trans g_1134_13
      have g_1135_14 := (hfr_g F_1135 14 rfl).trans g_1134_14
      have g_1135_15 := (hfr_g F_1135 15 rfl).trans g_1134_15
      have g_1135_16 := (hfr_g F_1135 16 rfl).trans g_1134_16
      have g_1135_18 := (hfr_g F_1135 18 rfl).trans g_1134_18
      have g_1135_57 := (hfr_g F_1135 57 rfl).trans g_1134_57
      have g_1135_67 := (hfr_g F_1135 67 rfl).trans g_1134_67
      have g_1135_68 := (hfr_g F_1135 68 rfl).trans g_1134_68
      have g_1135_69 := (hfr_g F_1135 69 rfl).trans g_1134_69
      have g_1135_70 := (hfr_g F_1135 70 rfl).trans g_1134_70
      have g_1135_79 := (hfr_g F_1135 79 rfl).trans g_1134_79
      have g_1135_80 := (hfr_g F_1135 80 rfl).trans g_1134_80
      have g_1135_81 := (hfr_g F_1135 81 rfl).trans g_1134_81
      have g_1135_82 := (hfr_g F_1135 82 rfl).trans g_1134_82
      have g_1135_66 : cE h_1135 66 (.inr (10, (fI pl :: .ref 67 :: .ref 68 :: .ref 69 :: fI ((s : Nat) : Int) :: .ref 70 :: .ref 71 :: fI mi :: fI sd :: .ref 72 :: fI tn :: fI fp :: fI sc0 :: fJ sc1 :: fI sc2 :: fI sc3 :: fI sc4 :: fI sc5 :: .ref 73 :: .ref 74 :: .ref 75 :: .ref 76 :: .ref 77 :: .ref 78 :: fI w24 :: .ref 79 :: .ref 80 :: .ref 81 :: .ref 82 :: .ref 83 :: .ref 84 :: .ref 85 :: fJ sb :: fJ wa :: .ref 86 :: .ref 87 :: fI r :: .ref 88 :: .ref 89 :: .ref 90 :: .ref 91 :: .ref 92 :: .ref 93 :: []))) := e_1135_66
      have g_1135_71 : cE h_1135 71 (.inl (.int, fA [xa, xb])) := e_1135_71
      have g_1135_77 : cE h_1135 77 (.inl (.int, fA gt)) := e_1135_77
      have g_1135_78 : cE h_1135 78 (.inl (.int, fA gdd)) := e_1135_78
      exact absurd p_1134_0 p_1135_0
  · have k_1134 : cL h_1134 := F_1134.1.trans hl
    have g_1134_0 := (hfr_g F_1134 0 rfl).trans h0
    have g_1134_7 := (hfr_g F_1134 7 rfl).trans h7
    have g_1134_8 := (hfr_g F_1134 8 rfl).trans h8
    have g_1134_9 := (hfr_g F_1134 9 rfl).trans h9
    have g_1134_10 := (hfr_g F_1134 10 rfl).trans h10
    have g_1134_11 := (hfr_g F_1134 11 rfl).trans h11
    have g_1134_12 := (hfr_g F_1134 12 rfl).trans h12
    have g_1134_13 := (hfr_g F_1134 13 rfl).trans h13
    have g_1134_15 := (hfr_g F_1134 15 rfl).trans h15
    have g_1134_18 := (hfr_g F_1134 18 rfl).trans h18
    have g_1134_57 := (hfr_g F_1134 57 rfl).trans h57
    have g_1134_66 := (hfr_g F_1134 66 rfl).trans h66
    have g_1134_67 := (hfr_g F_1134 67 rfl).trans h67
    have g_1134_68 := (hfr_g F_1134 68 rfl).trans h68
    have g_1134_69 := (hfr_g F_1134 69 rfl).trans h69
    have g_1134_70 := (hfr_g F_1134 70 rfl).trans h70
    have g_1134_71 := (hfr_g F_1134 71 rfl).trans h71
    have g_1134_77 := (hfr_g F_1134 77 rfl).trans h77
    have g_1134_78 := (hfr_g F_1134 78 rfl).trans h78
    have g_1134_79 := (hfr_g F_1134 79 rfl).trans h79
    have g_1134_80 := (hfr_g F_1134 80 rfl).trans h80
    have g_1134_81 := (hfr_g F_1134 81 rfl).trans h81
    have g_1134_82 := (hfr_g F_1134 82 rfl).trans h82
    have g_1134_14 : cE h_1134 14 (.inr (1, [.ref 7, .ref 15, .ref 16, fI mi, fJ sd])) := e_1134_14
    have g_1134_16 : cE h_1134 16 (.inl (.int, fA [xa, xb])) := e_1134_16
    refine ⟨an_n 200 n, rfl, ⟨k_1134, _, g_1134_66⟩, ?_⟩
    have gT_1134 := st_gT_t F_1134 (hdj_b rfl) gT
    have gS_1134 := st_gS_t F_1134 (hdj_b rfl) gS
    have gV_1134 := st_gV_t F_1134 (hdj_b rfl) gV
    have gW_1134 := st_gW_t F_1134 (hdj_b rfl) gW
    have gM_1134 := st_gM_t F_1134 (hdj_b rfl) gM
    have gR_1134 := st_gR_t F_1134 (hdj_b rfl) gR
    have gL_1134 := st_gL_t F_1134 (hdj_b rfl) gL
    have gI_1134 := st_gI_t F_1134 (hdj_b rfl) gI
    have gJ_1134 := st_gJ_t F_1134 (hdj_b rfl) gJ
    have hT_1134 := st_hT_t F_1134 (hdj_b rfl) hT
    have hM_1134 := st_hM_t F_1134 (hdj_b rfl) hM
    have hR_1134 := st_hR_t F_1134 (hdj_b rfl) hR
    have hL_1134 := st_hL_t F_1134 (hdj_b rfl) hL
    have hI_1134 := st_hI_t F_1134 (hdj_b rfl) hI
    refine ik_F_mono (rp_drift (pl := pl) (mi := mi) (sd := sd) (ka := ka) (pa := pa) (fa := fa) (kb := kb) (pb := pb) (fb := fb) (xa := xa) (xb := xb) (s := s) (cn := cnr) (go := gor) (ch := chr) (n := n) (f := fun j => ((0 :: 0 :: 0 :: 0 :: 0 :: 0 :: 0 :: 0 :: 0 :: 0 :: tn :: fp :: sc0 :: sc1 :: sc2 :: sc3 :: sc4 :: sc5 :: 0 :: 0 :: 0 :: 0 :: 0 :: 0 :: w24 :: 0 :: 0 :: 0 :: 0 :: 0 :: 0 :: 0 :: sb :: wa :: 0 :: 0 :: r :: 0 :: 0 :: 0 :: 0 :: 0 :: 0 :: []) : List Int).getD j 0) (gt := gt) (gd := gdd) f_pl f_s f_sd (by omega) (mx_rw_ch (mx_al_rw f_rw f_al)) (st_cn (mx_al_rw f_rw f_al) f_cr) (mx_rw_ok (mx_al_rw f_rw f_al) _) f_k.1 f_k.2.1 f_k.2.2.1 f_k.2.2.2.1 (fun w => (f_p w).1) (fun w => (f_p w).2) f_x z_n g_1134_66 g_1134_67 n67 g_1134_68 n68 g_1134_69 n69 g_1134_70 g_1134_71 g_1134_77 n77 g_1134_78 n78 k_1134) ?_
    rintro v_1136 h_1136 (⟨w'_1136, gt'_1136, gd'_1136, er_1136, e_1136_66, e_1136_71, e_1136_77, m_1136_77, e_1136_78, m_1136_78, p_1136_0, F_1136⟩ | ⟨er_1136, e_1136_66, e_1136_71, e_1136_77, m_1136_77, e_1136_78, m_1136_78, p_1136_0, F_1136⟩) <;> subst er_1136
    · have k_1136 : cL h_1136 := F_1136.1.trans k_1134
      have g_1136_0 := (hfr_g F_1136 0 rfl).trans g_1134_0
      have g_1136_7 := (hfr_g F_1136 7 rfl).trans g_1134_7
      have g_1136_8 := (hfr_g F_1136 8 rfl).trans g_1134_8
      have g_1136_9 := (hfr_g F_1136 9 rfl).trans g_1134_9
      have g_1136_10 := (hfr_g F_1136 10 rfl).trans g_1134_10
      have g_1136_11 := (hfr_g F_1136 11 rfl).trans g_1134_11
      have g_1136_12 := (hfr_g F_1136 12 rfl).trans g_1134_12
      have g_1136_13 := (hfr_g F_1136 13 rfl).trans g_1134_13
      have g_1136_14 := (hfr_g F_1136 14 rfl).trans g_1134_14
      have g_1136_15 := (hfr_g F_1136 15 rfl).trans g_1134_15
      have g_1136_16 := (hfr_g F_1136 16 rfl).trans g_1134_16
      have g_1136_18 := (hfr_g F_1136 18 rfl).trans g_1134_18
      have g_1136_57 := (hfr_g F_1136 57 rfl).trans g_1134_57
      have g_1136_67 := (hfr_g F_1136 67 rfl).trans g_1134_67
      have g_1136_68 := (hfr_g F_1136 68 rfl).trans g_1134_68
      have g_1136_69 := (hfr_g F_1136 69 rfl).trans g_1134_69
      have g_1136_70 := (hfr_g F_1136 70 rfl).trans g_1134_70
      have g_1136_79 := (hfr_g F_1136 79 rfl).trans g_1134_79
      have g_1136_80 := (hfr_g F_1136 80 rfl).trans g_1134_80
      have g_1136_81 := (hfr_g F_1136 81 rfl).trans g_1134_81
      have g_1136_82 := (hfr_g F_1136 82 rfl).trans g_1134_82
      have g_1136_66 : cE h_1136 66 (.inr (10, (fI pl :: .ref 67 :: .ref 68 :: .ref 69 :: fI ((s : Nat) : Int) :: .ref 70 :: .ref 71 :: fI ((mx_dr (fun x => mx_w cnr gor chr s x) (pl - 1) ka pa fa kb pb fb n.toNat xa xb mi sd).2.2.1) :: fI ((mx_dr (fun x => mx_w cnr gor chr s x) (pl - 1) ka pa fa kb pb fb n.toNat xa xb mi sd).2.2.2) :: .ref 72 :: fI tn :: fI fp :: fI sc0 :: fJ sc1 :: fI sc2 :: fI sc3 :: fI sc4 :: fI sc5 :: .ref 73 :: .ref 74 :: .ref 75 :: .ref 76 :: .ref 77 :: .ref 78 :: fI w'_1136 :: .ref 79 :: .ref 80 :: .ref 81 :: .ref 82 :: .ref 83 :: .ref 84 :: .ref 85 :: fJ sb :: fJ wa :: .ref 86 :: .ref 87 :: fI r :: .ref 88 :: .ref 89 :: .ref 90 :: .ref 91 :: .ref 92 :: .ref 93 :: []))) := e_1136_66
      have g_1136_71 : cE h_1136 71 (.inl (.int, fA [(mx_dr (fun x => mx_w cnr gor chr s x) (pl - 1) ka pa fa kb pb fb n.toNat xa xb mi sd).1, (mx_dr (fun x => mx_w cnr gor chr s x) (pl - 1) ka pa fa kb pb fb n.toNat xa xb mi sd).2.1])) := e_1136_71
      have g_1136_77 : cE h_1136 77 (.inl (.int, fA gt'_1136)) := e_1136_77
      have g_1136_78 : cE h_1136 78 (.inl (.int, fA gd'_1136)) := e_1136_78
      exact absurd p_1136_0 p_1134_0
    · have k_1136 : cL h_1136 := F_1136.1.trans k_1134
      have g_1136_0 := (hfr_g F_1136 0 rfl).trans g_1134_0
      have g_1136_7 := (hfr_g F_1136 7 rfl).trans g_1134_7
      have g_1136_8 := (hfr_g F_1136 8 rfl).trans g_1134_8
      have g_1136_9 := (hfr_g F_1136 9 rfl).trans g_1134_9
      have g_1136_10 := (hfr_g F_1136 10 rfl).trans g_1134_10
      have g_1136_11 := (hfr_g F_1136 11 rfl).trans g_1134_11
      have g_1136_12 := (hfr_g F_1136 12 rfl).trans g_1134_12
      have g_1136_13 := (hfr_g F_1136 13 rfl).trans g_1134_13
      have g_1136_14 := (hfr_g F_1136 14 rfl).trans g_1134_14
      have g_1136_15 := (hfr_g F_1136 15 rfl).trans g_1134_15
      have g_1136_16 := (hfr_g F_1136 16 rfl).trans g_1134_16
      have g_1136_18 := (hfr_g F_1136 18 rfl).trans g_1134_18
      have g_1136_57 := (hfr_g F_1136 57 rfl).trans g_1134_57
      have g_1136_67 := (hfr_g F_1136 67 rfl).trans g_1134_67
      have g_1136_68 := (hfr_g F_1136 68 rfl).trans g_1134_68
      have g_1136_69 := (hfr_g F_1136 69 rfl).trans g_1134_69
      have g_1136_70 := (hfr_g F_1136 70 rfl).trans g_1134_70
      have g_1136_79 := (hfr_g F_1136 79 rfl).trans g_1134_79
      have g_1136_80 := (hfr_g F_1136 80 rfl).trans g_1134_80
      have g_1136_81 := (hfr_g F_1136 81 rfl).trans g_1134_81
      have g_1136_82 := (hfr_g F_1136 82 rfl).trans g_1134_82
      have g_1136_66 : cE h_1136 66 (.inr (10, (fI pl :: .ref 67 :: .ref 68 :: .ref 69 :: fI ((s : Nat) : Int) :: .ref 70 :: .ref 71 :: fI mi :: fI sd :: .ref 72 :: fI tn :: fI fp :: fI sc0 :: fJ sc1 :: fI sc2 :: fI sc3 :: fI sc4 :: fI sc5 :: .ref 73 :: .ref 74 :: .ref 75 :: .ref 76 :: .ref 77 :: .ref 78 :: fI w24 :: .ref 79 :: .ref 80 :: .ref 81 :: .ref 82 :: .ref 83 :: .ref 84 :: .ref 85 :: fJ sb :: fJ wa :: .ref 86 :: .ref 87 :: fI r :: .ref 88 :: .ref 89 :: .ref 90 :: .ref 91 :: .ref 92 :: .ref 93 :: []))) := e_1136_66
      have g_1136_71 : cE h_1136 71 (.inl (.int, fA [xa, xb])) := e_1136_71
      have g_1136_77 : cE h_1136 77 (.inl (.int, fA gt)) := e_1136_77
      have g_1136_78 : cE h_1136 78 (.inl (.int, fA gdd)) := e_1136_78
      refine ⟨rfl, ?_⟩
      have gT_1136 := st_gT_t F_1136 (hdj_b rfl) gT_1134
      have gS_1136 := st_gS_t F_1136 (hdj_b rfl) gS_1134
      have gV_1136 := st_gV_t F_1136 (hdj_b rfl) gV_1134
      have gW_1136 := st_gW_t F_1136 (hdj_b rfl) gW_1134
      have gM_1136 := st_gM_t F_1136 (hdj_b rfl) gM_1134
      have gR_1136 := st_gR_t F_1136 (hdj_b rfl) gR_1134
      have gL_1136 := st_gL_t F_1136 (hdj_b rfl) gL_1134
      have gI_1136 := st_gI_t F_1136 (hdj_b rfl) gI_1134
      have gJ_1136 := st_gJ_t F_1136 (hdj_b rfl) gJ_1134
      have hT_1136 := st_hT_t F_1136 (hdj_b rfl) hT_1134
      have hM_1136 := st_hM_t F_1136 (hdj_b rfl) hM_1134
      have hR_1136 := st_hR_t F_1136 (hdj_b rfl) hR_1134
      have hL_1136 := st_hL_t F_1136 (hdj_b rfl) hL_1134
      have hI_1136 := st_hI_t F_1136 (hdj_b rfl) hI_1134
      intro C_ k_
      exact k_ tn fp pl mi sd ka pa fa kb pb fb xa xb r n0 n1 ga0 gm0 gd_0 gs0 g00 g01 g02 g03 g04 g05 gx0 gy0 ga1 gm1 gd_1 gs1 g10 g11 g12 g13 g14 g15 gx1 gy1 s T cn go ch wg wc we rp rt lr ci0 ci1 cnr gor chr T2 im f_pl f_s f_st f_cb f_cr f_rw f_al f_wy f_k f_p f_x (by first | exact st_m f_m | omega) f_sd f_r f_rr f_n f_l0 f_l1 f_tn f_t (st_I_K f_i0) (st_I_K f_i1) ⟨g_1136_0, g_1136_18, g_1136_57⟩ gT_1136 ⟨g_1136_7, g_1136_8, n8, g_1136_9, n9, g_1136_10, n10, g_1136_11, n11, g_1136_12, n12, g_1136_13, n13⟩ ⟨g_1136_14, g_1136_15, g_1136_16⟩ gS_1136 gV_1136 gW_1136 gM_1136 gR_1136 gL_1136 gI_1136 gJ_1136 ⟨sc0, sc1, sc2, sc3, sc4, sc5, w24, sb, wa, g_1136_66⟩ ⟨g_1136_67, n67, g_1136_68, n68, g_1136_69, n69⟩ ⟨g_1136_70, g_1136_71⟩ hT_1136 ⟨gt, gdd, xs, ys, r1, r2, g_1136_77, m_1136_77, g_1136_78, m_1136_78, g_1136_79, n79, g_1136_80, n80, g_1136_81, n81, g_1136_82, n82⟩ hM_1136 hR_1136 hL_1136 hI_1136 k_1136

end

/-! 38zzz5.pairs -/
noncomputable section
set_option maxRecDepth 100000 in
theorem lk_keep0 {K : Nat} {h : List ik_E} (E : st_S K h) (hK : K ≤ 600)    : ik_F 119 [.ref 0, fI 0] h (fun rv h_q => ∃ o_ : Int, rv = [fI o_] ∧ (h_q.length = (94 : Nat) ∧ ∃ fs, h_q[66]? = some (.inr (10, fs))) ∧ ik_F 209 [.ref 66, fI 0] h_q (fun rv' h'' => rv' = [fI o_] ∧ st_S (K + 1) h'')) := by
  refine E _ ?_
  intro tn fp pl mi sd ka pa fa kb pb fb xa xb r n0 n1 ga0 gm0 gd_0 gs0 g00 g01 g02 g03 g04 g05 gx0 gy0 ga1 gm1 gd_1 gs1 g10 g11 g12 g13 g14 g15 gx1 gy1 s T cn go ch wg wc we rp rt lr ci0 ci1 cnr gor chr T2 im f_pl f_s f_st f_cb f_cr f_rw f_al f_wy f_k f_p f_x f_m f_sd f_r f_rr f_n f_l0 f_l1 f_tn f_t f_i0 f_i1 gA gT gB gC gS gV gW gM gR gL gI gJ hO hB hC hT hS hM hR hL hI hl
  replace f_cb := ik_hid_i f_cb
  replace f_cr := ik_hid_i f_cr
  replace f_p := ik_hid_i f_p
  replace f_x := ik_hid_i f_x
  obtain ⟨h0, h18, h57⟩ := gA
  obtain ⟨h7, h8, n8, h9, n9, h10, n10, h11, n11, h12, n12, h13, n13⟩ := gB
  obtain ⟨h14, h15, h16⟩ := gC
  obtain ⟨h58, h59, h60, h61, n61⟩ := gI
  obtain ⟨sc0, sc1, sc2, sc3, sc4, sc5, w24, sb, wa, h66⟩ := hO
  obtain ⟨h67, n67, h68, n68, h69, n69⟩ := hB
  obtain ⟨h70, h71⟩ := hC
  obtain ⟨h92, n92, h93⟩ := hI
  refine ik_F_mono (cp_keep0 (pl := pl) (st := ((s : Nat) : Int)) (lo := ((mj_lost pl cn go : Nat) : Int)) (it := ga0) (im_ := gm0) (id_ := gd_0) (is_ := gs0) (e0 := g00) (e1 := g01) (e2 := g02) (e3 := g03) (e4 := g04) (e5 := g05) (y0 := gx0) (y1 := gy0) (ci := ci0) (ka := ka) (pa := pa) (fa := fa) (kb := kb) (pb := pb) (fb := fb) (xa := xa) (xb := xb) (mi := mi) (dr := sd) (ch := ch)  h0 h7 h10 n10 h14 h15 h16 h57 h58 h59 h60 h61 n61 hl) ?_
  rintro v_1137 h_1137 ⟨er_1137, e_1137_58, e_1137_59, e_1137_60, e_1137_61, m_1137_61, F_1137⟩ <;> subst er_1137
  have k_1137 : cL h_1137 := F_1137.1.trans hl
  have g_1137_0 := (hfr_g F_1137 0 rfl).trans h0
  have g_1137_7 := (hfr_g F_1137 7 rfl).trans h7
  have g_1137_8 := (hfr_g F_1137 8 rfl).trans h8
  have g_1137_9 := (hfr_g F_1137 9 rfl).trans h9
  have g_1137_10 := (hfr_g F_1137 10 rfl).trans h10
  have g_1137_11 := (hfr_g F_1137 11 rfl).trans h11
  have g_1137_12 := (hfr_g F_1137 12 rfl).trans h12
  have g_1137_13 := (hfr_g F_1137 13 rfl).trans h13
  have g_1137_14 := (hfr_g F_1137 14 rfl).trans h14
  have g_1137_15 := (hfr_g F_1137 15 rfl).trans h15
  have g_1137_16 := (hfr_g F_1137 16 rfl).trans h16
  have g_1137_18 := (hfr_g F_1137 18 rfl).trans h18
  have g_1137_57 := (hfr_g F_1137 57 rfl).trans h57
  have g_1137_66 := (hfr_g F_1137 66 rfl).trans h66
  have g_1137_67 := (hfr_g F_1137 67 rfl).trans h67
  have g_1137_68 := (hfr_g F_1137 68 rfl).trans h68
  have g_1137_69 := (hfr_g F_1137 69 rfl).trans h69
  have g_1137_70 := (hfr_g F_1137 70 rfl).trans h70
  have g_1137_71 := (hfr_g F_1137 71 rfl).trans h71
  have g_1137_92 := (hfr_g F_1137 92 rfl).trans h92
  have g_1137_93 := (hfr_g F_1137 93 rfl).trans h93
  have g_1137_58 : cE h_1137 58 (.inr (3, [fI 1, .ref 59, .ref 60, fI mi, fJ sd, fI ((s : Nat) : Int), .ref 61])) := e_1137_58
  have g_1137_59 : cE h_1137 59 (.inl (.int, fA [ka, pa, fa, kb, pb, fb])) := e_1137_59
  have g_1137_60 : cE h_1137 60 (.inl (.int, fA [xa, xb])) := e_1137_60
  have g_1137_61 : cE h_1137 61 (.inl (.int, fA ch)) := e_1137_61
  refine ⟨1, rfl, ⟨k_1137, _, g_1137_66⟩, ?_⟩
  have gT_1137 := st_gT_t F_1137 (hdj_b rfl) gT
  have gS_1137 := st_gS_t F_1137 (hdj_b rfl) gS
  have gV_1137 := st_gV_t F_1137 (hdj_b rfl) gV
  have gW_1137 := st_gW_t F_1137 (hdj_b rfl) gW
  have gM_1137 := st_gM_t F_1137 (hdj_b rfl) gM
  have gR_1137 := st_gR_t F_1137 (hdj_b rfl) gR
  have gL_1137 := st_gL_t F_1137 (hdj_b rfl) gL
  have gJ_1137 := st_gJ_t F_1137 (hdj_b rfl) gJ
  have hT_1137 := st_hT_t F_1137 (hdj_b rfl) hT
  have hS_1137 := st_hS_t F_1137 (hdj_b rfl) hS
  have hM_1137 := st_hM_t F_1137 (hdj_b rfl) hM
  have hR_1137 := st_hR_t F_1137 (hdj_b rfl) hR
  have hL_1137 := st_hL_t F_1137 (hdj_b rfl) hL
  refine ik_F_mono (rp_keep0 (f := fun j => ((pl :: 0 :: 0 :: 0 :: 0 :: 0 :: 0 :: 0 :: 0 :: 0 :: tn :: fp :: sc0 :: sc1 :: sc2 :: sc3 :: sc4 :: sc5 :: 0 :: 0 :: 0 :: 0 :: 0 :: 0 :: w24 :: 0 :: 0 :: 0 :: 0 :: 0 :: 0 :: 0 :: sb :: wa :: 0 :: 0 :: r :: 0 :: 0 :: 0 :: 0 :: 0 :: 0 :: []) : List Int).getD j 0) (s := s) (t0 := ga0) (t1 := ga1) (ka := ka) (pa := pa) (fa := fa) (kb := kb) (pb := pb) (fb := fb) (xa := xa) (xb := xb) (mi := mi) (sd := sd) (ch := chr) (im := im)  g_1137_66 g_1137_69 n69 g_1137_70 g_1137_71 g_1137_92 n92 g_1137_93 k_1137) ?_
  rintro v_1138 h_1138 ⟨im'_1138, er_1138, e_1138_92, m_1138_92, e_1138_93, p_1138_0, p_1138_1, F_1138⟩ <;> subst er_1138
  have k_1138 : cL h_1138 := F_1138.1.trans k_1137
  have g_1138_0 := (hfr_g F_1138 0 rfl).trans g_1137_0
  have g_1138_7 := (hfr_g F_1138 7 rfl).trans g_1137_7
  have g_1138_8 := (hfr_g F_1138 8 rfl).trans g_1137_8
  have g_1138_9 := (hfr_g F_1138 9 rfl).trans g_1137_9
  have g_1138_10 := (hfr_g F_1138 10 rfl).trans g_1137_10
  have g_1138_11 := (hfr_g F_1138 11 rfl).trans g_1137_11
  have g_1138_12 := (hfr_g F_1138 12 rfl).trans g_1137_12
  have g_1138_13 := (hfr_g F_1138 13 rfl).trans g_1137_13
  have g_1138_14 := (hfr_g F_1138 14 rfl).trans g_1137_14
  have g_1138_15 := (hfr_g F_1138 15 rfl).trans g_1137_15
  have g_1138_16 := (hfr_g F_1138 16 rfl).trans g_1137_16
  have g_1138_18 := (hfr_g F_1138 18 rfl).trans g_1137_18
  have g_1138_57 := (hfr_g F_1138 57 rfl).trans g_1137_57
  have g_1138_58 := (hfr_g F_1138 58 rfl).trans g_1137_58
  have g_1138_59 := (hfr_g F_1138 59 rfl).trans g_1137_59
  have g_1138_60 := (hfr_g F_1138 60 rfl).trans g_1137_60
  have g_1138_61 := (hfr_g F_1138 61 rfl).trans g_1137_61
  have g_1138_66 := (hfr_g F_1138 66 rfl).trans g_1137_66
  have g_1138_67 := (hfr_g F_1138 67 rfl).trans g_1137_67
  have g_1138_68 := (hfr_g F_1138 68 rfl).trans g_1137_68
  have g_1138_69 := (hfr_g F_1138 69 rfl).trans g_1137_69
  have g_1138_70 := (hfr_g F_1138 70 rfl).trans g_1137_70
  have g_1138_71 := (hfr_g F_1138 71 rfl).trans g_1137_71
  have g_1138_92 : cE h_1138 92 (.inl (.int, fA im'_1138)) := e_1138_92
  have g_1138_93 : cE h_1138 93 (.inl (.boolean, fA [1, ga1])) := e_1138_93
  refine ⟨rfl, ?_⟩
  have gT_1138 := st_gT_t F_1138 (hdj_b rfl) gT_1137
  have gS_1138 := st_gS_t F_1138 (hdj_b rfl) gS_1137
  have gV_1138 := st_gV_t F_1138 (hdj_b rfl) gV_1137
  have gW_1138 := st_gW_t F_1138 (hdj_b rfl) gW_1137
  have gM_1138 := st_gM_t F_1138 (hdj_b rfl) gM_1137
  have gR_1138 := st_gR_t F_1138 (hdj_b rfl) gR_1137
  have gL_1138 := st_gL_t F_1138 (hdj_b rfl) gL_1137
  have gJ_1138 := st_gJ_t F_1138 (hdj_b rfl) gJ_1137
  have hT_1138 := st_hT_t F_1138 (hdj_b rfl) hT_1137
  have hS_1138 := st_hS_t F_1138 (hdj_b rfl) hS_1137
  have hM_1138 := st_hM_t F_1138 (hdj_b rfl) hM_1137
  have hR_1138 := st_hR_t F_1138 (hdj_b rfl) hR_1137
  have hL_1138 := st_hL_t F_1138 (hdj_b rfl) hL_1137
  intro C_ k_
  exact k_ tn fp pl mi sd ka pa fa kb pb fb xa xb r n0 n1 1 mi sd ((s : Nat) : Int) ka pa fa kb pb fb xa xb ga1 gm1 gd_1 gs1 g10 g11 g12 g13 g14 g15 gx1 gy1 s T cn go ch wg wc we rp rt lr ch ci1 cnr gor chr T2 im'_1138 f_pl f_s f_st f_cb f_cr f_rw f_al f_wy f_k f_p f_x (by first | exact st_m f_m | omega) f_sd f_r f_rr f_n f_l0 f_l1 f_tn f_t (Or.inr ⟨rfl, s, chr, rfl, f_s, f_st, f_rw, n69, p_1138_0, f_al, f_k, f_p, f_x, by omega, f_sd⟩) (st_I_K (st_I_o f_i1 p_1138_1 (by omega))) ⟨g_1138_0, g_1138_18, g_1138_57⟩ gT_1138 ⟨g_1138_7, g_1138_8, n8, g_1138_9, n9, g_1138_10, n10, g_1138_11, n11, g_1138_12, n12, g_1138_13, n13⟩ ⟨g_1138_14, g_1138_15, g_1138_16⟩ gS_1138 gV_1138 gW_1138 gM_1138 gR_1138 gL_1138 ⟨g_1138_58, g_1138_59, g_1138_60, g_1138_61, m_1137_61⟩ gJ_1138 ⟨sc0, sc1, sc2, sc3, sc4, sc5, w24, sb, wa, g_1138_66⟩ ⟨g_1138_67, n67, g_1138_68, n68, g_1138_69, n69⟩ ⟨g_1138_70, g_1138_71⟩ hT_1138 hS_1138 hM_1138 hR_1138 hL_1138 ⟨g_1138_92, m_1138_92, g_1138_93⟩ k_1138

set_option maxRecDepth 100000 in
theorem lk_keep1 {K : Nat} {h : List ik_E} (E : st_S K h) (hK : K ≤ 600)    : ik_F 119 [.ref 0, fI 1] h (fun rv h_q => ∃ o_ : Int, rv = [fI o_] ∧ (h_q.length = (94 : Nat) ∧ ∃ fs, h_q[66]? = some (.inr (10, fs))) ∧ ik_F 209 [.ref 66, fI 1] h_q (fun rv' h'' => rv' = [fI o_] ∧ st_S (K + 1) h'')) := by
  refine E _ ?_
  intro tn fp pl mi sd ka pa fa kb pb fb xa xb r n0 n1 ga0 gm0 gd_0 gs0 g00 g01 g02 g03 g04 g05 gx0 gy0 ga1 gm1 gd_1 gs1 g10 g11 g12 g13 g14 g15 gx1 gy1 s T cn go ch wg wc we rp rt lr ci0 ci1 cnr gor chr T2 im f_pl f_s f_st f_cb f_cr f_rw f_al f_wy f_k f_p f_x f_m f_sd f_r f_rr f_n f_l0 f_l1 f_tn f_t f_i0 f_i1 gA gT gB gC gS gV gW gM gR gL gI gJ hO hB hC hT hS hM hR hL hI hl
  replace f_cb := ik_hid_i f_cb
  replace f_cr := ik_hid_i f_cr
  replace f_p := ik_hid_i f_p
  replace f_x := ik_hid_i f_x
  obtain ⟨h0, h18, h57⟩ := gA
  obtain ⟨h7, h8, n8, h9, n9, h10, n10, h11, n11, h12, n12, h13, n13⟩ := gB
  obtain ⟨h14, h15, h16⟩ := gC
  obtain ⟨h62, h63, h64, h65, n65⟩ := gJ
  obtain ⟨sc0, sc1, sc2, sc3, sc4, sc5, w24, sb, wa, h66⟩ := hO
  obtain ⟨h67, n67, h68, n68, h69, n69⟩ := hB
  obtain ⟨h70, h71⟩ := hC
  obtain ⟨h92, n92, h93⟩ := hI
  refine ik_F_mono (cp_keep1 (pl := pl) (st := ((s : Nat) : Int)) (lo := ((mj_lost pl cn go : Nat) : Int)) (it := ga1) (im_ := gm1) (id_ := gd_1) (is_ := gs1) (e0 := g10) (e1 := g11) (e2 := g12) (e3 := g13) (e4 := g14) (e5 := g15) (y0 := gx1) (y1 := gy1) (ci := ci1) (ka := ka) (pa := pa) (fa := fa) (kb := kb) (pb := pb) (fb := fb) (xa := xa) (xb := xb) (mi := mi) (dr := sd) (ch := ch)  h0 h7 h10 n10 h14 h15 h16 h57 h62 h63 h64 h65 n65 hl) ?_
  rintro v_1139 h_1139 ⟨er_1139, e_1139_62, e_1139_63, e_1139_64, e_1139_65, m_1139_65, F_1139⟩ <;> subst er_1139
  have k_1139 : cL h_1139 := F_1139.1.trans hl
  have g_1139_0 := (hfr_g F_1139 0 rfl).trans h0
  have g_1139_7 := (hfr_g F_1139 7 rfl).trans h7
  have g_1139_8 := (hfr_g F_1139 8 rfl).trans h8
  have g_1139_9 := (hfr_g F_1139 9 rfl).trans h9
  have g_1139_10 := (hfr_g F_1139 10 rfl).trans h10
  have g_1139_11 := (hfr_g F_1139 11 rfl).trans h11
  have g_1139_12 := (hfr_g F_1139 12 rfl).trans h12
  have g_1139_13 := (hfr_g F_1139 13 rfl).trans h13
  have g_1139_14 := (hfr_g F_1139 14 rfl).trans h14
  have g_1139_15 := (hfr_g F_1139 15 rfl).trans h15
  have g_1139_16 := (hfr_g F_1139 16 rfl).trans h16
  have g_1139_18 := (hfr_g F_1139 18 rfl).trans h18
  have g_1139_57 := (hfr_g F_1139 57 rfl).trans h57
  have g_1139_66 := (hfr_g F_1139 66 rfl).trans h66
  have g_1139_67 := (hfr_g F_1139 67 rfl).trans h67
  have g_1139_68 := (hfr_g F_1139 68 rfl).trans h68
  have g_1139_69 := (hfr_g F_1139 69 rfl).trans h69
  have g_1139_70 := (hfr_g F_1139 70 rfl).trans h70
  have g_1139_71 := (hfr_g F_1139 71 rfl).trans h71
  have g_1139_92 := (hfr_g F_1139 92 rfl).trans h92
  have g_1139_93 := (hfr_g F_1139 93 rfl).trans h93
  have g_1139_62 : cE h_1139 62 (.inr (3, [fI 1, .ref 63, .ref 64, fI mi, fJ sd, fI ((s : Nat) : Int), .ref 65])) := e_1139_62
  have g_1139_63 : cE h_1139 63 (.inl (.int, fA [ka, pa, fa, kb, pb, fb])) := e_1139_63
  have g_1139_64 : cE h_1139 64 (.inl (.int, fA [xa, xb])) := e_1139_64
  have g_1139_65 : cE h_1139 65 (.inl (.int, fA ch)) := e_1139_65
  refine ⟨1, rfl, ⟨k_1139, _, g_1139_66⟩, ?_⟩
  have gT_1139 := st_gT_t F_1139 (hdj_b rfl) gT
  have gS_1139 := st_gS_t F_1139 (hdj_b rfl) gS
  have gV_1139 := st_gV_t F_1139 (hdj_b rfl) gV
  have gW_1139 := st_gW_t F_1139 (hdj_b rfl) gW
  have gM_1139 := st_gM_t F_1139 (hdj_b rfl) gM
  have gR_1139 := st_gR_t F_1139 (hdj_b rfl) gR
  have gL_1139 := st_gL_t F_1139 (hdj_b rfl) gL
  have gI_1139 := st_gI_t F_1139 (hdj_b rfl) gI
  have hT_1139 := st_hT_t F_1139 (hdj_b rfl) hT
  have hS_1139 := st_hS_t F_1139 (hdj_b rfl) hS
  have hM_1139 := st_hM_t F_1139 (hdj_b rfl) hM
  have hR_1139 := st_hR_t F_1139 (hdj_b rfl) hR
  have hL_1139 := st_hL_t F_1139 (hdj_b rfl) hL
  refine ik_F_mono (rp_keep1 (f := fun j => ((pl :: 0 :: 0 :: 0 :: 0 :: 0 :: 0 :: 0 :: 0 :: 0 :: tn :: fp :: sc0 :: sc1 :: sc2 :: sc3 :: sc4 :: sc5 :: 0 :: 0 :: 0 :: 0 :: 0 :: 0 :: w24 :: 0 :: 0 :: 0 :: 0 :: 0 :: 0 :: 0 :: sb :: wa :: 0 :: 0 :: r :: 0 :: 0 :: 0 :: 0 :: 0 :: 0 :: []) : List Int).getD j 0) (s := s) (t0 := ga0) (t1 := ga1) (ka := ka) (pa := pa) (fa := fa) (kb := kb) (pb := pb) (fb := fb) (xa := xa) (xb := xb) (mi := mi) (sd := sd) (ch := chr) (im := im)  g_1139_66 g_1139_69 n69 g_1139_70 g_1139_71 g_1139_92 n92 g_1139_93 k_1139) ?_
  rintro v_1140 h_1140 ⟨im'_1140, er_1140, e_1140_92, m_1140_92, e_1140_93, p_1140_0, p_1140_1, F_1140⟩ <;> subst er_1140
  have k_1140 : cL h_1140 := F_1140.1.trans k_1139
  have g_1140_0 := (hfr_g F_1140 0 rfl).trans g_1139_0
  have g_1140_7 := (hfr_g F_1140 7 rfl).trans g_1139_7
  have g_1140_8 := (hfr_g F_1140 8 rfl).trans g_1139_8
  have g_1140_9 := (hfr_g F_1140 9 rfl).trans g_1139_9
  have g_1140_10 := (hfr_g F_1140 10 rfl).trans g_1139_10
  have g_1140_11 := (hfr_g F_1140 11 rfl).trans g_1139_11
  have g_1140_12 := (hfr_g F_1140 12 rfl).trans g_1139_12
  have g_1140_13 := (hfr_g F_1140 13 rfl).trans g_1139_13
  have g_1140_14 := (hfr_g F_1140 14 rfl).trans g_1139_14
  have g_1140_15 := (hfr_g F_1140 15 rfl).trans g_1139_15
  have g_1140_16 := (hfr_g F_1140 16 rfl).trans g_1139_16
  have g_1140_18 := (hfr_g F_1140 18 rfl).trans g_1139_18
  have g_1140_57 := (hfr_g F_1140 57 rfl).trans g_1139_57
  have g_1140_62 := (hfr_g F_1140 62 rfl).trans g_1139_62
  have g_1140_63 := (hfr_g F_1140 63 rfl).trans g_1139_63
  have g_1140_64 := (hfr_g F_1140 64 rfl).trans g_1139_64
  have g_1140_65 := (hfr_g F_1140 65 rfl).trans g_1139_65
  have g_1140_66 := (hfr_g F_1140 66 rfl).trans g_1139_66
  have g_1140_67 := (hfr_g F_1140 67 rfl).trans g_1139_67
  have g_1140_68 := (hfr_g F_1140 68 rfl).trans g_1139_68
  have g_1140_69 := (hfr_g F_1140 69 rfl).trans g_1139_69
  have g_1140_70 := (hfr_g F_1140 70 rfl).trans g_1139_70
  have g_1140_71 := (hfr_g F_1140 71 rfl).trans g_1139_71
  have g_1140_92 : cE h_1140 92 (.inl (.int, fA im'_1140)) := e_1140_92
  have g_1140_93 : cE h_1140 93 (.inl (.boolean, fA [ga0, 1])) := e_1140_93
  refine ⟨rfl, ?_⟩
  have gT_1140 := st_gT_t F_1140 (hdj_b rfl) gT_1139
  have gS_1140 := st_gS_t F_1140 (hdj_b rfl) gS_1139
  have gV_1140 := st_gV_t F_1140 (hdj_b rfl) gV_1139
  have gW_1140 := st_gW_t F_1140 (hdj_b rfl) gW_1139
  have gM_1140 := st_gM_t F_1140 (hdj_b rfl) gM_1139
  have gR_1140 := st_gR_t F_1140 (hdj_b rfl) gR_1139
  have gL_1140 := st_gL_t F_1140 (hdj_b rfl) gL_1139
  have gI_1140 := st_gI_t F_1140 (hdj_b rfl) gI_1139
  have hT_1140 := st_hT_t F_1140 (hdj_b rfl) hT_1139
  have hS_1140 := st_hS_t F_1140 (hdj_b rfl) hS_1139
  have hM_1140 := st_hM_t F_1140 (hdj_b rfl) hM_1139
  have hR_1140 := st_hR_t F_1140 (hdj_b rfl) hR_1139
  have hL_1140 := st_hL_t F_1140 (hdj_b rfl) hL_1139
  intro C_ k_
  exact k_ tn fp pl mi sd ka pa fa kb pb fb xa xb r n0 n1 ga0 gm0 gd_0 gs0 g00 g01 g02 g03 g04 g05 gx0 gy0 1 mi sd ((s : Nat) : Int) ka pa fa kb pb fb xa xb s T cn go ch wg wc we rp rt lr ci0 ch cnr gor chr T2 im'_1140 f_pl f_s f_st f_cb f_cr f_rw f_al f_wy f_k f_p f_x (by first | exact st_m f_m | omega) f_sd f_r f_rr f_n f_l0 f_l1 f_tn f_t (st_I_K (st_I_o f_i0 p_1140_1 (by omega))) (Or.inr ⟨rfl, s, chr, rfl, f_s, f_st, f_rw, n69, p_1140_0, f_al, f_k, f_p, f_x, by omega, f_sd⟩) ⟨g_1140_0, g_1140_18, g_1140_57⟩ gT_1140 ⟨g_1140_7, g_1140_8, n8, g_1140_9, n9, g_1140_10, n10, g_1140_11, n11, g_1140_12, n12, g_1140_13, n13⟩ ⟨g_1140_14, g_1140_15, g_1140_16⟩ gS_1140 gV_1140 gW_1140 gM_1140 gR_1140 gL_1140 gI_1140 ⟨g_1140_62, g_1140_63, g_1140_64, g_1140_65, m_1139_65⟩ ⟨sc0, sc1, sc2, sc3, sc4, sc5, w24, sb, wa, g_1140_66⟩ ⟨g_1140_67, n67, g_1140_68, n68, g_1140_69, n69⟩ ⟨g_1140_70, g_1140_71⟩ hT_1140 hS_1140 hM_1140 hR_1140 hL_1140 ⟨g_1140_92, m_1140_92, g_1140_93⟩ k_1140

set_option maxRecDepth 100000 in
theorem lk_keepE {K : Nat} {h : List ik_E} (E : st_S K h) (hK : K ≤ 600) {i : Int} (z_i : -2147483648 ≤ i ∧ i < 2147483648) (q1 : i < 0 ∨ 1 < i) : ik_F 119 [.ref 0, fI i] h (fun rv h_q => ∃ o_ : Int, rv = [fI o_] ∧ (h_q.length = (94 : Nat) ∧ ∃ fs, h_q[66]? = some (.inr (10, fs))) ∧ ik_F 209 [.ref 66, fI i] h_q (fun rv' h'' => rv' = [fI o_] ∧ st_S (K + 1) h'')) := by
  refine E _ ?_
  intro tn fp pl mi sd ka pa fa kb pb fb xa xb r n0 n1 ga0 gm0 gd_0 gs0 g00 g01 g02 g03 g04 g05 gx0 gy0 ga1 gm1 gd_1 gs1 g10 g11 g12 g13 g14 g15 gx1 gy1 s T cn go ch wg wc we rp rt lr ci0 ci1 cnr gor chr T2 im f_pl f_s f_st f_cb f_cr f_rw f_al f_wy f_k f_p f_x f_m f_sd f_r f_rr f_n f_l0 f_l1 f_tn f_t f_i0 f_i1 gA gT gB gC gS gV gW gM gR gL gI gJ hO hB hC hT hS hM hR hL hI hl
  replace f_cb := ik_hid_i f_cb
  replace f_cr := ik_hid_i f_cr
  replace f_p := ik_hid_i f_p
  replace f_x := ik_hid_i f_x
  obtain ⟨h0, h18, h57⟩ := gA
  obtain ⟨sc0, sc1, sc2, sc3, sc4, sc5, w24, sb, wa, h66⟩ := hO
  refine ik_F_mono (cp_keepE (i := i) z_i q1 h0 h57 hl) ?_
  rintro v_1141 h_1141 ⟨er_1141, F_1141⟩ <;> subst er_1141
  have k_1141 : cL h_1141 := F_1141.1.trans hl
  have g_1141_0 := (hfr_g F_1141 0 rfl).trans h0
  have g_1141_18 := (hfr_g F_1141 18 rfl).trans h18
  have g_1141_57 := (hfr_g F_1141 57 rfl).trans h57
  have g_1141_66 := (hfr_g F_1141 66 rfl).trans h66
  refine ⟨-1000000001, rfl, ⟨k_1141, _, g_1141_66⟩, ?_⟩
  have gT_1141 := st_gT_t F_1141 (hdj_b rfl) gT
  have gB_1141 := st_gB_t F_1141 (hdj_b rfl) gB
  have gC_1141 := st_gC_t F_1141 (hdj_b rfl) gC
  have gS_1141 := st_gS_t F_1141 (hdj_b rfl) gS
  have gV_1141 := st_gV_t F_1141 (hdj_b rfl) gV
  have gW_1141 := st_gW_t F_1141 (hdj_b rfl) gW
  have gM_1141 := st_gM_t F_1141 (hdj_b rfl) gM
  have gR_1141 := st_gR_t F_1141 (hdj_b rfl) gR
  have gL_1141 := st_gL_t F_1141 (hdj_b rfl) gL
  have gI_1141 := st_gI_t F_1141 (hdj_b rfl) gI
  have gJ_1141 := st_gJ_t F_1141 (hdj_b rfl) gJ
  have hB_1141 := st_hB_t F_1141 (hdj_b rfl) hB
  have hC_1141 := st_hC_t F_1141 (hdj_b rfl) hC
  have hT_1141 := st_hT_t F_1141 (hdj_b rfl) hT
  have hS_1141 := st_hS_t F_1141 (hdj_b rfl) hS
  have hM_1141 := st_hM_t F_1141 (hdj_b rfl) hM
  have hR_1141 := st_hR_t F_1141 (hdj_b rfl) hR
  have hL_1141 := st_hL_t F_1141 (hdj_b rfl) hL
  have hI_1141 := st_hI_t F_1141 (hdj_b rfl) hI
  refine ik_F_mono (rp_keepE (f := fun j => ((pl :: 0 :: 0 :: 0 :: (((s : Nat) : Int)) :: 0 :: 0 :: mi :: sd :: 0 :: tn :: fp :: sc0 :: sc1 :: sc2 :: sc3 :: sc4 :: sc5 :: 0 :: 0 :: 0 :: 0 :: 0 :: 0 :: w24 :: 0 :: 0 :: 0 :: 0 :: 0 :: 0 :: 0 :: sb :: wa :: 0 :: 0 :: r :: 0 :: 0 :: 0 :: 0 :: 0 :: 0 :: []) : List Int).getD j 0) (i := i) z_i q1 g_1141_66 k_1141) ?_
  rintro v_1142 h_1142 ⟨er_1142, F_1142⟩ <;> subst er_1142
  have k_1142 : cL h_1142 := F_1142.1.trans k_1141
  have g_1142_0 := (hfr_g F_1142 0 rfl).trans g_1141_0
  have g_1142_18 := (hfr_g F_1142 18 rfl).trans g_1141_18
  have g_1142_57 := (hfr_g F_1142 57 rfl).trans g_1141_57
  have g_1142_66 := (hfr_g F_1142 66 rfl).trans g_1141_66
  refine ⟨rfl, ?_⟩
  have gT_1142 := st_gT_t F_1142 (hdj_b rfl) gT_1141
  have gB_1142 := st_gB_t F_1142 (hdj_b rfl) gB_1141
  have gC_1142 := st_gC_t F_1142 (hdj_b rfl) gC_1141
  have gS_1142 := st_gS_t F_1142 (hdj_b rfl) gS_1141
  have gV_1142 := st_gV_t F_1142 (hdj_b rfl) gV_1141
  have gW_1142 := st_gW_t F_1142 (hdj_b rfl) gW_1141
  have gM_1142 := st_gM_t F_1142 (hdj_b rfl) gM_1141
  have gR_1142 := st_gR_t F_1142 (hdj_b rfl) gR_1141
  have gL_1142 := st_gL_t F_1142 (hdj_b rfl) gL_1141
  have gI_1142 := st_gI_t F_1142 (hdj_b rfl) gI_1141
  have gJ_1142 := st_gJ_t F_1142 (hdj_b rfl) gJ_1141
  have hB_1142 := st_hB_t F_1142 (hdj_b rfl) hB_1141
  have hC_1142 := st_hC_t F_1142 (hdj_b rfl) hC_1141
  have hT_1142 := st_hT_t F_1142 (hdj_b rfl) hT_1141
  have hS_1142 := st_hS_t F_1142 (hdj_b rfl) hS_1141
  have hM_1142 := st_hM_t F_1142 (hdj_b rfl) hM_1141
  have hR_1142 := st_hR_t F_1142 (hdj_b rfl) hR_1141
  have hL_1142 := st_hL_t F_1142 (hdj_b rfl) hL_1141
  have hI_1142 := st_hI_t F_1142 (hdj_b rfl) hI_1141
  intro C_ k_
  exact k_ tn fp pl mi sd ka pa fa kb pb fb xa xb r n0 n1 ga0 gm0 gd_0 gs0 g00 g01 g02 g03 g04 g05 gx0 gy0 ga1 gm1 gd_1 gs1 g10 g11 g12 g13 g14 g15 gx1 gy1 s T cn go ch wg wc we rp rt lr ci0 ci1 cnr gor chr T2 im f_pl f_s f_st f_cb f_cr f_rw f_al f_wy f_k f_p f_x (by first | exact st_m f_m | omega) f_sd f_r f_rr f_n f_l0 f_l1 f_tn f_t (st_I_K f_i0) (st_I_K f_i1) ⟨g_1142_0, g_1142_18, g_1142_57⟩ gT_1142 gB_1142 gC_1142 gS_1142 gV_1142 gW_1142 gM_1142 gR_1142 gL_1142 gI_1142 gJ_1142 ⟨sc0, sc1, sc2, sc3, sc4, sc5, w24, sb, wa, g_1142_66⟩ hB_1142 hC_1142 hT_1142 hS_1142 hM_1142 hR_1142 hL_1142 hI_1142 k_1142

set_option maxRecDepth 100000 in
theorem lk_goBackE {K : Nat} {h : List ik_E} (E : st_S K h) (hK : K ≤ 600) {i : Int} (z_i : -2147483648 ≤ i ∧ i < 2147483648) (q1 : i < 0 ∨ 1 < i) : ik_F 120 [.ref 0, fI i] h (fun rv h_q => ∃ o_ : Int, rv = [fI o_] ∧ (h_q.length = (94 : Nat) ∧ ∃ fs, h_q[66]? = some (.inr (10, fs))) ∧ ik_F 210 [.ref 66, fI i] h_q (fun rv' h'' => rv' = [fI o_] ∧ st_S (K + 1) h'')) := by
  refine E _ ?_
  intro tn fp pl mi sd ka pa fa kb pb fb xa xb r n0 n1 ga0 gm0 gd_0 gs0 g00 g01 g02 g03 g04 g05 gx0 gy0 ga1 gm1 gd_1 gs1 g10 g11 g12 g13 g14 g15 gx1 gy1 s T cn go ch wg wc we rp rt lr ci0 ci1 cnr gor chr T2 im f_pl f_s f_st f_cb f_cr f_rw f_al f_wy f_k f_p f_x f_m f_sd f_r f_rr f_n f_l0 f_l1 f_tn f_t f_i0 f_i1 gA gT gB gC gS gV gW gM gR gL gI gJ hO hB hC hT hS hM hR hL hI hl
  replace f_cb := ik_hid_i f_cb
  replace f_cr := ik_hid_i f_cr
  replace f_p := ik_hid_i f_p
  replace f_x := ik_hid_i f_x
  obtain ⟨h0, h18, h57⟩ := gA
  obtain ⟨sc0, sc1, sc2, sc3, sc4, sc5, w24, sb, wa, h66⟩ := hO
  refine ik_F_mono (cp_goBackE (i := i) z_i q1 h0 h57 hl) ?_
  rintro v_1143 h_1143 ⟨er_1143, F_1143⟩ <;> subst er_1143
  have k_1143 : cL h_1143 := F_1143.1.trans hl
  have g_1143_0 := (hfr_g F_1143 0 rfl).trans h0
  have g_1143_18 := (hfr_g F_1143 18 rfl).trans h18
  have g_1143_57 := (hfr_g F_1143 57 rfl).trans h57
  have g_1143_66 := (hfr_g F_1143 66 rfl).trans h66
  refine ⟨-1000000001, rfl, ⟨k_1143, _, g_1143_66⟩, ?_⟩
  have gT_1143 := st_gT_t F_1143 (hdj_b rfl) gT
  have gB_1143 := st_gB_t F_1143 (hdj_b rfl) gB
  have gC_1143 := st_gC_t F_1143 (hdj_b rfl) gC
  have gS_1143 := st_gS_t F_1143 (hdj_b rfl) gS
  have gV_1143 := st_gV_t F_1143 (hdj_b rfl) gV
  have gW_1143 := st_gW_t F_1143 (hdj_b rfl) gW
  have gM_1143 := st_gM_t F_1143 (hdj_b rfl) gM
  have gR_1143 := st_gR_t F_1143 (hdj_b rfl) gR
  have gL_1143 := st_gL_t F_1143 (hdj_b rfl) gL
  have gI_1143 := st_gI_t F_1143 (hdj_b rfl) gI
  have gJ_1143 := st_gJ_t F_1143 (hdj_b rfl) gJ
  have hB_1143 := st_hB_t F_1143 (hdj_b rfl) hB
  have hC_1143 := st_hC_t F_1143 (hdj_b rfl) hC
  have hT_1143 := st_hT_t F_1143 (hdj_b rfl) hT
  have hS_1143 := st_hS_t F_1143 (hdj_b rfl) hS
  have hM_1143 := st_hM_t F_1143 (hdj_b rfl) hM
  have hR_1143 := st_hR_t F_1143 (hdj_b rfl) hR
  have hL_1143 := st_hL_t F_1143 (hdj_b rfl) hL
  have hI_1143 := st_hI_t F_1143 (hdj_b rfl) hI
  refine ik_F_mono (rp_goBackE (f := fun j => ((pl :: 0 :: 0 :: 0 :: (((s : Nat) : Int)) :: 0 :: 0 :: mi :: sd :: 0 :: tn :: fp :: sc0 :: sc1 :: sc2 :: sc3 :: sc4 :: sc5 :: 0 :: 0 :: 0 :: 0 :: 0 :: 0 :: w24 :: 0 :: 0 :: 0 :: 0 :: 0 :: 0 :: 0 :: sb :: wa :: 0 :: 0 :: r :: 0 :: 0 :: 0 :: 0 :: 0 :: 0 :: []) : List Int).getD j 0) (i := i) z_i q1 g_1143_66 k_1143) ?_
  rintro v_1144 h_1144 ⟨er_1144, F_1144⟩ <;> subst er_1144
  have k_1144 : cL h_1144 := F_1144.1.trans k_1143
  have g_1144_0 := (hfr_g F_1144 0 rfl).trans g_1143_0
  have g_1144_18 := (hfr_g F_1144 18 rfl).trans g_1143_18
  have g_1144_57 := (hfr_g F_1144 57 rfl).trans g_1143_57
  have g_1144_66 := (hfr_g F_1144 66 rfl).trans g_1143_66
  refine ⟨rfl, ?_⟩
  have gT_1144 := st_gT_t F_1144 (hdj_b rfl) gT_1143
  have gB_1144 := st_gB_t F_1144 (hdj_b rfl) gB_1143
  have gC_1144 := st_gC_t F_1144 (hdj_b rfl) gC_1143
  have gS_1144 := st_gS_t F_1144 (hdj_b rfl) gS_1143
  have gV_1144 := st_gV_t F_1144 (hdj_b rfl) gV_1143
  have gW_1144 := st_gW_t F_1144 (hdj_b rfl) gW_1143
  have gM_1144 := st_gM_t F_1144 (hdj_b rfl) gM_1143
  have gR_1144 := st_gR_t F_1144 (hdj_b rfl) gR_1143
  have gL_1144 := st_gL_t F_1144 (hdj_b rfl) gL_1143
  have gI_1144 := st_gI_t F_1144 (hdj_b rfl) gI_1143
  have gJ_1144 := st_gJ_t F_1144 (hdj_b rfl) gJ_1143
  have hB_1144 := st_hB_t F_1144 (hdj_b rfl) hB_1143
  have hC_1144 := st_hC_t F_1144 (hdj_b rfl) hC_1143
  have hT_1144 := st_hT_t F_1144 (hdj_b rfl) hT_1143
  have hS_1144 := st_hS_t F_1144 (hdj_b rfl) hS_1143
  have hM_1144 := st_hM_t F_1144 (hdj_b rfl) hM_1143
  have hR_1144 := st_hR_t F_1144 (hdj_b rfl) hR_1143
  have hL_1144 := st_hL_t F_1144 (hdj_b rfl) hL_1143
  have hI_1144 := st_hI_t F_1144 (hdj_b rfl) hI_1143
  intro C_ k_
  exact k_ tn fp pl mi sd ka pa fa kb pb fb xa xb r n0 n1 ga0 gm0 gd_0 gs0 g00 g01 g02 g03 g04 g05 gx0 gy0 ga1 gm1 gd_1 gs1 g10 g11 g12 g13 g14 g15 gx1 gy1 s T cn go ch wg wc we rp rt lr ci0 ci1 cnr gor chr T2 im f_pl f_s f_st f_cb f_cr f_rw f_al f_wy f_k f_p f_x (by first | exact st_m f_m | omega) f_sd f_r f_rr f_n f_l0 f_l1 f_tn f_t (st_I_K f_i0) (st_I_K f_i1) ⟨g_1144_0, g_1144_18, g_1144_57⟩ gT_1144 gB_1144 gC_1144 gS_1144 gV_1144 gW_1144 gM_1144 gR_1144 gL_1144 gI_1144 gJ_1144 ⟨sc0, sc1, sc2, sc3, sc4, sc5, w24, sb, wa, g_1144_66⟩ hB_1144 hC_1144 hT_1144 hS_1144 hM_1144 hR_1144 hL_1144 hI_1144 k_1144

set_option maxRecDepth 100000 in
theorem lk_goBack0 {K : Nat} {h : List ik_E} (E : st_S K h) (hK : K ≤ 600) : ik_F 120 [.ref 0, fI 0] h (fun rv h_q => ∃ o_ : Int, rv = [fI o_] ∧ (h_q.length = (94 : Nat) ∧ ∃ fs, h_q[66]? = some (.inr (10, fs))) ∧ ik_F 210 [.ref 66, fI 0] h_q (fun rv' h'' => rv' = [fI o_] ∧ st_S (K + 1) h'')) := by
  refine E _ ?_
  intro tn fp pl mi sd ka pa fa kb pb fb xa xb r n0 n1 ga0 gm0 gd_0 gs0 g00 g01 g02 g03 g04 g05 gx0 gy0 ga1 gm1 gd_1 gs1 g10 g11 g12 g13 g14 g15 gx1 gy1 s T cn go ch wg wc we rp rt lr ci0 ci1 cnr gor chr T2 im f_pl f_s f_st f_cb f_cr f_rw f_al f_wy f_k f_p f_x f_m f_sd f_r f_rr f_n f_l0 f_l1 f_tn f_t f_i0 f_i1 gA gT gB gC gS gV gW gM gR gL gI gJ hO hB hC hT hS hM hR hL hI hl
  replace f_cb := ik_hid_i f_cb
  replace f_cr := ik_hid_i f_cr
  replace f_p := ik_hid_i f_p
  replace f_x := ik_hid_i f_x
  obtain ⟨h0, h18, h57⟩ := gA
  obtain ⟨h7, h8, n8, h9, n9, h10, n10, h11, n11, h12, n12, h13, n13⟩ := gB
  obtain ⟨h14, h15, h16⟩ := gC
  obtain ⟨h58, h59, h60, h61, n61⟩ := gI
  obtain ⟨sc0, sc1, sc2, sc3, sc4, sc5, w24, sb, wa, h66⟩ := hO
  obtain ⟨h67, n67, h68, n68, h69, n69⟩ := hB
  obtain ⟨h70, h71⟩ := hC
  obtain ⟨h92, n92, h93⟩ := hI
  have fi := f_i0
  rcases fi with fi | ⟨fi, s2, di, a1, a2, a3, a4, a5, a6, a7, a8, a9, a10, a11, a12⟩
  · subst fi
    refine ik_F_mono (cp_goBack0N (im_ := gm0) (id_ := gd_0) (is_ := gs0)  h0 h57 h58 hl) ?_
    rintro v_1145 h_1145 ⟨er_1145, F_1145⟩ <;> subst er_1145
    have k_1145 : cL h_1145 := F_1145.1.trans hl
    have g_1145_0 := (hfr_g F_1145 0 rfl).trans h0
    have g_1145_7 := (hfr_g F_1145 7 rfl).trans h7
    have g_1145_8 := (hfr_g F_1145 8 rfl).trans h8
    have g_1145_9 := (hfr_g F_1145 9 rfl).trans h9
    have g_1145_10 := (hfr_g F_1145 10 rfl).trans h10
    have g_1145_11 := (hfr_g F_1145 11 rfl).trans h11
    have g_1145_12 := (hfr_g F_1145 12 rfl).trans h12
    have g_1145_13 := (hfr_g F_1145 13 rfl).trans h13
    have g_1145_14 := (hfr_g F_1145 14 rfl).trans h14
    have g_1145_15 := (hfr_g F_1145 15 rfl).trans h15
    have g_1145_16 := (hfr_g F_1145 16 rfl).trans h16
    have g_1145_18 := (hfr_g F_1145 18 rfl).trans h18
    have g_1145_57 := (hfr_g F_1145 57 rfl).trans h57
    have g_1145_58 := (hfr_g F_1145 58 rfl).trans h58
    have g_1145_59 := (hfr_g F_1145 59 rfl).trans h59
    have g_1145_60 := (hfr_g F_1145 60 rfl).trans h60
    have g_1145_61 := (hfr_g F_1145 61 rfl).trans h61
    have g_1145_66 := (hfr_g F_1145 66 rfl).trans h66
    have g_1145_67 := (hfr_g F_1145 67 rfl).trans h67
    have g_1145_68 := (hfr_g F_1145 68 rfl).trans h68
    have g_1145_69 := (hfr_g F_1145 69 rfl).trans h69
    have g_1145_70 := (hfr_g F_1145 70 rfl).trans h70
    have g_1145_71 := (hfr_g F_1145 71 rfl).trans h71
    have g_1145_92 := (hfr_g F_1145 92 rfl).trans h92
    have g_1145_93 := (hfr_g F_1145 93 rfl).trans h93
    refine ⟨-1000000003, rfl, ⟨k_1145, _, g_1145_66⟩, ?_⟩
    have gT_1145 := st_gT_t F_1145 (hdj_b rfl) gT
    have gS_1145 := st_gS_t F_1145 (hdj_b rfl) gS
    have gV_1145 := st_gV_t F_1145 (hdj_b rfl) gV
    have gW_1145 := st_gW_t F_1145 (hdj_b rfl) gW
    have gM_1145 := st_gM_t F_1145 (hdj_b rfl) gM
    have gR_1145 := st_gR_t F_1145 (hdj_b rfl) gR
    have gL_1145 := st_gL_t F_1145 (hdj_b rfl) gL
    have gJ_1145 := st_gJ_t F_1145 (hdj_b rfl) gJ
    have hT_1145 := st_hT_t F_1145 (hdj_b rfl) hT
    have hS_1145 := st_hS_t F_1145 (hdj_b rfl) hS
    have hM_1145 := st_hM_t F_1145 (hdj_b rfl) hM
    have hR_1145 := st_hR_t F_1145 (hdj_b rfl) hR
    have hL_1145 := st_hL_t F_1145 (hdj_b rfl) hL
    refine ik_F_mono (rp_goBack0N (t0 := 0) (f := fun j => ((pl :: 0 :: 0 :: 0 :: (((s : Nat) : Int)) :: 0 :: 0 :: mi :: sd :: 0 :: tn :: fp :: sc0 :: sc1 :: sc2 :: sc3 :: sc4 :: sc5 :: 0 :: 0 :: 0 :: 0 :: 0 :: 0 :: w24 :: 0 :: 0 :: 0 :: 0 :: 0 :: 0 :: 0 :: sb :: wa :: 0 :: 0 :: r :: 0 :: 0 :: 0 :: 0 :: 0 :: 0 :: []) : List Int).getD j 0) (t1 := ga1)  g_1145_66 g_1145_93 k_1145) ?_
    rintro v_1146 h_1146 ⟨er_1146, F_1146⟩ <;> subst er_1146
    have k_1146 : cL h_1146 := F_1146.1.trans k_1145
    have g_1146_0 := (hfr_g F_1146 0 rfl).trans g_1145_0
    have g_1146_7 := (hfr_g F_1146 7 rfl).trans g_1145_7
    have g_1146_8 := (hfr_g F_1146 8 rfl).trans g_1145_8
    have g_1146_9 := (hfr_g F_1146 9 rfl).trans g_1145_9
    have g_1146_10 := (hfr_g F_1146 10 rfl).trans g_1145_10
    have g_1146_11 := (hfr_g F_1146 11 rfl).trans g_1145_11
    have g_1146_12 := (hfr_g F_1146 12 rfl).trans g_1145_12
    have g_1146_13 := (hfr_g F_1146 13 rfl).trans g_1145_13
    have g_1146_14 := (hfr_g F_1146 14 rfl).trans g_1145_14
    have g_1146_15 := (hfr_g F_1146 15 rfl).trans g_1145_15
    have g_1146_16 := (hfr_g F_1146 16 rfl).trans g_1145_16
    have g_1146_18 := (hfr_g F_1146 18 rfl).trans g_1145_18
    have g_1146_57 := (hfr_g F_1146 57 rfl).trans g_1145_57
    have g_1146_58 := (hfr_g F_1146 58 rfl).trans g_1145_58
    have g_1146_59 := (hfr_g F_1146 59 rfl).trans g_1145_59
    have g_1146_60 := (hfr_g F_1146 60 rfl).trans g_1145_60
    have g_1146_61 := (hfr_g F_1146 61 rfl).trans g_1145_61
    have g_1146_66 := (hfr_g F_1146 66 rfl).trans g_1145_66
    have g_1146_67 := (hfr_g F_1146 67 rfl).trans g_1145_67
    have g_1146_68 := (hfr_g F_1146 68 rfl).trans g_1145_68
    have g_1146_69 := (hfr_g F_1146 69 rfl).trans g_1145_69
    have g_1146_70 := (hfr_g F_1146 70 rfl).trans g_1145_70
    have g_1146_71 := (hfr_g F_1146 71 rfl).trans g_1145_71
    have g_1146_92 := (hfr_g F_1146 92 rfl).trans g_1145_92
    have g_1146_93 := (hfr_g F_1146 93 rfl).trans g_1145_93
    refine ⟨rfl, ?_⟩
    have gT_1146 := st_gT_t F_1146 (hdj_b rfl) gT_1145
    have gS_1146 := st_gS_t F_1146 (hdj_b rfl) gS_1145
    have gV_1146 := st_gV_t F_1146 (hdj_b rfl) gV_1145
    have gW_1146 := st_gW_t F_1146 (hdj_b rfl) gW_1145
    have gM_1146 := st_gM_t F_1146 (hdj_b rfl) gM_1145
    have gR_1146 := st_gR_t F_1146 (hdj_b rfl) gR_1145
    have gL_1146 := st_gL_t F_1146 (hdj_b rfl) gL_1145
    have gJ_1146 := st_gJ_t F_1146 (hdj_b rfl) gJ_1145
    have hT_1146 := st_hT_t F_1146 (hdj_b rfl) hT_1145
    have hS_1146 := st_hS_t F_1146 (hdj_b rfl) hS_1145
    have hM_1146 := st_hM_t F_1146 (hdj_b rfl) hM_1145
    have hR_1146 := st_hR_t F_1146 (hdj_b rfl) hR_1145
    have hL_1146 := st_hL_t F_1146 (hdj_b rfl) hL_1145
    intro C_ k_
    exact k_ tn fp pl mi sd ka pa fa kb pb fb xa xb r n0 n1 0 gm0 gd_0 gs0 g00 g01 g02 g03 g04 g05 gx0 gy0 ga1 gm1 gd_1 gs1 g10 g11 g12 g13 g14 g15 gx1 gy1 s T cn go ch wg wc we rp rt lr ci0 ci1 cnr gor chr T2 im f_pl f_s f_st f_cb f_cr f_rw f_al f_wy f_k f_p f_x (by first | exact st_m f_m | omega) f_sd f_r f_rr f_n f_l0 f_l1 f_tn f_t (Or.inl rfl) (st_I_K f_i1) ⟨g_1146_0, g_1146_18, g_1146_57⟩ gT_1146 ⟨g_1146_7, g_1146_8, n8, g_1146_9, n9, g_1146_10, n10, g_1146_11, n11, g_1146_12, n12, g_1146_13, n13⟩ ⟨g_1146_14, g_1146_15, g_1146_16⟩ gS_1146 gV_1146 gW_1146 gM_1146 gR_1146 gL_1146 ⟨g_1146_58, g_1146_59, g_1146_60, g_1146_61, n61⟩ gJ_1146 ⟨sc0, sc1, sc2, sc3, sc4, sc5, w24, sb, wa, g_1146_66⟩ ⟨g_1146_67, n67, g_1146_68, n68, g_1146_69, n69⟩ ⟨g_1146_70, g_1146_71⟩ hT_1146 hS_1146 hM_1146 hR_1146 hL_1146 ⟨g_1146_92, n92, g_1146_93⟩ k_1146
  · subst fi
    subst a1
    refine ik_F_mono (cp_goBack0T (pl := pl) (s := s) (lo := ((mj_lost pl cn go : Nat) : Int)) (im_ := gm0) (id_ := gd_0) (s2 := s2) (e0 := g00) (e1 := g01) (e2 := g02) (e3 := g03) (e4 := g04) (e5 := g05) (y0 := gx0) (y1 := gy0) (ci := ci0) (ka := ka) (pa := pa) (fa := fa) (kb := kb) (pb := pb) (fb := fb) (xa := xa) (xb := xb) (mi := mi) (dr := sd) (cn := cn) (go := go) (ch := ch) (wg := wg) (wc := wc) (we := we) f_pl a2 a4 f_cb a3 h0 h7 h8 n8 h9 n9 h10 n10 h11 n11 h12 n12 h13 n13 h14 h15 h16 h57 h58 h59 h60 h61 n61 hl) ?_
    rintro v_1147 h_1147 ⟨wg'_1147, wc'_1147, we'_1147, er_1147, e_1147_7, e_1147_10, m_1147_10, e_1147_11, m_1147_11, e_1147_12, m_1147_12, e_1147_13, m_1147_13, e_1147_14, e_1147_15, e_1147_16, p_1147_0, F_1147⟩ <;> subst er_1147
    have k_1147 : cL h_1147 := F_1147.1.trans hl
    have g_1147_0 := (hfr_g F_1147 0 rfl).trans h0
    have g_1147_8 := (hfr_g F_1147 8 rfl).trans h8
    have g_1147_9 := (hfr_g F_1147 9 rfl).trans h9
    have g_1147_18 := (hfr_g F_1147 18 rfl).trans h18
    have g_1147_57 := (hfr_g F_1147 57 rfl).trans h57
    have g_1147_58 := (hfr_g F_1147 58 rfl).trans h58
    have g_1147_59 := (hfr_g F_1147 59 rfl).trans h59
    have g_1147_60 := (hfr_g F_1147 60 rfl).trans h60
    have g_1147_61 := (hfr_g F_1147 61 rfl).trans h61
    have g_1147_66 := (hfr_g F_1147 66 rfl).trans h66
    have g_1147_67 := (hfr_g F_1147 67 rfl).trans h67
    have g_1147_68 := (hfr_g F_1147 68 rfl).trans h68
    have g_1147_69 := (hfr_g F_1147 69 rfl).trans h69
    have g_1147_70 := (hfr_g F_1147 70 rfl).trans h70
    have g_1147_71 := (hfr_g F_1147 71 rfl).trans h71
    have g_1147_92 := (hfr_g F_1147 92 rfl).trans h92
    have g_1147_93 := (hfr_g F_1147 93 rfl).trans h93
    have g_1147_7 : cE h_1147 7 (.inr (0, [fI pl, fI ((s2 : Nat) : Int), fI ((mj_lost pl cn go : Nat) : Int), .ref 8, .ref 9, .ref 10, .ref 11, .ref 12, .ref 13])) := e_1147_7
    have g_1147_10 : cE h_1147 10 (.inl (.int, fA ci0)) := e_1147_10
    have g_1147_11 : cE h_1147 11 (.inl (.int, fA wg'_1147)) := e_1147_11
    have g_1147_12 : cE h_1147 12 (.inl (.int, fA wc'_1147)) := e_1147_12
    have g_1147_13 : cE h_1147 13 (.inl (.int, fA we'_1147)) := e_1147_13
    have g_1147_14 : cE h_1147 14 (.inr (1, [.ref 7, .ref 15, .ref 16, fI gm0, fJ gd_0])) := e_1147_14
    have g_1147_15 : cE h_1147 15 (.inl (.int, fA [g00, g01, g02, g03, g04, g05])) := e_1147_15
    have g_1147_16 : cE h_1147 16 (.inl (.int, fA [gx0, gy0])) := e_1147_16
    refine ⟨1, rfl, ⟨k_1147, _, g_1147_66⟩, ?_⟩
    have gT_1147 := st_gT_t F_1147 (hdj_b rfl) gT
    have gS_1147 := st_gS_t F_1147 (hdj_b rfl) gS
    have gV_1147 := st_gV_t F_1147 (hdj_b rfl) gV
    have gW_1147 := st_gW_t F_1147 (hdj_b rfl) gW
    have gM_1147 := st_gM_t F_1147 (hdj_b rfl) gM
    have gR_1147 := st_gR_t F_1147 (hdj_b rfl) gR
    have gL_1147 := st_gL_t F_1147 (hdj_b rfl) gL
    have gJ_1147 := st_gJ_t F_1147 (hdj_b rfl) gJ
    have hT_1147 := st_hT_t F_1147 (hdj_b rfl) hT
    have hS_1147 := st_hS_t F_1147 (hdj_b rfl) hS
    have hM_1147 := st_hM_t F_1147 (hdj_b rfl) hM
    have hR_1147 := st_hR_t F_1147 (hdj_b rfl) hR
    have hL_1147 := st_hL_t F_1147 (hdj_b rfl) hL
    refine ik_F_mono (rp_goBack0T (t0 := 0) (f := fun j => ((pl :: 0 :: 0 :: 0 :: 0 :: 0 :: 0 :: 0 :: 0 :: 0 :: tn :: fp :: sc0 :: sc1 :: sc2 :: sc3 :: sc4 :: sc5 :: 0 :: 0 :: 0 :: 0 :: 0 :: 0 :: w24 :: 0 :: 0 :: 0 :: 0 :: 0 :: 0 :: 0 :: sb :: wa :: 0 :: 0 :: r :: 0 :: 0 :: 0 :: 0 :: 0 :: 0 :: []) : List Int).getD j 0) (s := s) (s2 := s2) (t1 := ga1) (e0 := g00) (e1 := g01) (e2 := g02) (e3 := g03) (e4 := g04) (e5 := g05) (y0 := gx0) (y1 := gy0) (m2 := gm0) (d2 := gd_0) (ka := ka) (pa := pa) (fa := fa) (kb := kb) (pb := pb) (fb := fb) (xa := xa) (xb := xb) (mi := mi) (sd := sd) (ch := chr) (im := im) (ci := di) a6 a5 g_1147_66 g_1147_69 n69 g_1147_70 g_1147_71 g_1147_92 n92 g_1147_93 k_1147) ?_
    rintro v_1148 h_1148 ⟨er_1148, e_1148_66, e_1148_69, m_1148_69, e_1148_70, e_1148_71, F_1148⟩ <;> subst er_1148
    have k_1148 : cL h_1148 := F_1148.1.trans k_1147
    have g_1148_0 := (hfr_g F_1148 0 rfl).trans g_1147_0
    have g_1148_7 := (hfr_g F_1148 7 rfl).trans g_1147_7
    have g_1148_8 := (hfr_g F_1148 8 rfl).trans g_1147_8
    have g_1148_9 := (hfr_g F_1148 9 rfl).trans g_1147_9
    have g_1148_10 := (hfr_g F_1148 10 rfl).trans g_1147_10
    have g_1148_11 := (hfr_g F_1148 11 rfl).trans g_1147_11
    have g_1148_12 := (hfr_g F_1148 12 rfl).trans g_1147_12
    have g_1148_13 := (hfr_g F_1148 13 rfl).trans g_1147_13
    have g_1148_14 := (hfr_g F_1148 14 rfl).trans g_1147_14
    have g_1148_15 := (hfr_g F_1148 15 rfl).trans g_1147_15
    have g_1148_16 := (hfr_g F_1148 16 rfl).trans g_1147_16
    have g_1148_18 := (hfr_g F_1148 18 rfl).trans g_1147_18
    have g_1148_57 := (hfr_g F_1148 57 rfl).trans g_1147_57
    have g_1148_58 := (hfr_g F_1148 58 rfl).trans g_1147_58
    have g_1148_59 := (hfr_g F_1148 59 rfl).trans g_1147_59
    have g_1148_60 := (hfr_g F_1148 60 rfl).trans g_1147_60
    have g_1148_61 := (hfr_g F_1148 61 rfl).trans g_1147_61
    have g_1148_67 := (hfr_g F_1148 67 rfl).trans g_1147_67
    have g_1148_68 := (hfr_g F_1148 68 rfl).trans g_1147_68
    have g_1148_92 := (hfr_g F_1148 92 rfl).trans g_1147_92
    have g_1148_93 := (hfr_g F_1148 93 rfl).trans g_1147_93
    have g_1148_66 : cE h_1148 66 (.inr (10, (fI pl :: .ref 67 :: .ref 68 :: .ref 69 :: fI ((s2 : Nat) : Int) :: .ref 70 :: .ref 71 :: fI gm0 :: fI gd_0 :: .ref 72 :: fI tn :: fI fp :: fI sc0 :: fJ sc1 :: fI sc2 :: fI sc3 :: fI sc4 :: fI sc5 :: .ref 73 :: .ref 74 :: .ref 75 :: .ref 76 :: .ref 77 :: .ref 78 :: fI w24 :: .ref 79 :: .ref 80 :: .ref 81 :: .ref 82 :: .ref 83 :: .ref 84 :: .ref 85 :: fJ sb :: fJ wa :: .ref 86 :: .ref 87 :: fI r :: .ref 88 :: .ref 89 :: .ref 90 :: .ref 91 :: .ref 92 :: .ref 93 :: []))) := e_1148_66
    have g_1148_69 : cE h_1148 69 (.inl (.int, fA di)) := e_1148_69
    have g_1148_70 : cE h_1148 70 (.inl (.int, fA [g00, g01, g02, g03, g04, g05])) := e_1148_70
    have g_1148_71 : cE h_1148 71 (.inl (.int, fA [gx0, gy0])) := e_1148_71
    refine ⟨rfl, ?_⟩
    have gT_1148 := st_gT_t F_1148 (hdj_b rfl) gT_1147
    have gS_1148 := st_gS_t F_1148 (hdj_b rfl) gS_1147
    have gV_1148 := st_gV_t F_1148 (hdj_b rfl) gV_1147
    have gW_1148 := st_gW_t F_1148 (hdj_b rfl) gW_1147
    have gM_1148 := st_gM_t F_1148 (hdj_b rfl) gM_1147
    have gR_1148 := st_gR_t F_1148 (hdj_b rfl) gR_1147
    have gL_1148 := st_gL_t F_1148 (hdj_b rfl) gL_1147
    have gJ_1148 := st_gJ_t F_1148 (hdj_b rfl) gJ_1147
    have hT_1148 := st_hT_t F_1148 (hdj_b rfl) hT_1147
    have hS_1148 := st_hS_t F_1148 (hdj_b rfl) hS_1147
    have hM_1148 := st_hM_t F_1148 (hdj_b rfl) hM_1147
    have hR_1148 := st_hR_t F_1148 (hdj_b rfl) hR_1147
    have hL_1148 := st_hL_t F_1148 (hdj_b rfl) hL_1147
    intro C_ k_
    exact k_ tn fp pl gm0 gd_0 g00 g01 g02 g03 g04 g05 gx0 gy0 r n0 n1 1 gm0 gd_0 ((s2 : Nat) : Int) g00 g01 g02 g03 g04 g05 gx0 gy0 ga1 gm1 gd_1 gs1 g10 g11 g12 g13 g14 g15 gx1 gy1 s2 T cn go ci0 wg'_1147 wc'_1147 we'_1147 rp rt lr ci0 ci1 cnr gor di T2 im f_pl a2 a3 f_cb f_cr a4 a7 p_1147_0 a8 a9 a10 (by omega) a12 f_r f_rr f_n f_l0 f_l1 f_tn f_t (Or.inr ⟨rfl, s2, di, rfl, a2, a3, a4, a5, a6, a7, a8, a9, a10, by omega, a12⟩) (st_I_K f_i1) ⟨g_1148_0, g_1148_18, g_1148_57⟩ gT_1148 ⟨g_1148_7, g_1148_8, n8, g_1148_9, n9, g_1148_10, m_1147_10, g_1148_11, m_1147_11, g_1148_12, m_1147_12, g_1148_13, m_1147_13⟩ ⟨g_1148_14, g_1148_15, g_1148_16⟩ gS_1148 gV_1148 gW_1148 gM_1148 gR_1148 gL_1148 ⟨g_1148_58, g_1148_59, g_1148_60, g_1148_61, n61⟩ gJ_1148 ⟨sc0, sc1, sc2, sc3, sc4, sc5, w24, sb, wa, g_1148_66⟩ ⟨g_1148_67, n67, g_1148_68, n68, g_1148_69, m_1148_69⟩ ⟨g_1148_70, g_1148_71⟩ hT_1148 hS_1148 hM_1148 hR_1148 hL_1148 ⟨g_1148_92, n92, g_1148_93⟩ k_1148

set_option maxRecDepth 100000 in
theorem lk_goBack1 {K : Nat} {h : List ik_E} (E : st_S K h) (hK : K ≤ 600) : ik_F 120 [.ref 0, fI 1] h (fun rv h_q => ∃ o_ : Int, rv = [fI o_] ∧ (h_q.length = (94 : Nat) ∧ ∃ fs, h_q[66]? = some (.inr (10, fs))) ∧ ik_F 210 [.ref 66, fI 1] h_q (fun rv' h'' => rv' = [fI o_] ∧ st_S (K + 1) h'')) := by
  refine E _ ?_
  intro tn fp pl mi sd ka pa fa kb pb fb xa xb r n0 n1 ga0 gm0 gd_0 gs0 g00 g01 g02 g03 g04 g05 gx0 gy0 ga1 gm1 gd_1 gs1 g10 g11 g12 g13 g14 g15 gx1 gy1 s T cn go ch wg wc we rp rt lr ci0 ci1 cnr gor chr T2 im f_pl f_s f_st f_cb f_cr f_rw f_al f_wy f_k f_p f_x f_m f_sd f_r f_rr f_n f_l0 f_l1 f_tn f_t f_i0 f_i1 gA gT gB gC gS gV gW gM gR gL gI gJ hO hB hC hT hS hM hR hL hI hl
  replace f_cb := ik_hid_i f_cb
  replace f_cr := ik_hid_i f_cr
  replace f_p := ik_hid_i f_p
  replace f_x := ik_hid_i f_x
  obtain ⟨h0, h18, h57⟩ := gA
  obtain ⟨h7, h8, n8, h9, n9, h10, n10, h11, n11, h12, n12, h13, n13⟩ := gB
  obtain ⟨h14, h15, h16⟩ := gC
  obtain ⟨h62, h63, h64, h65, n65⟩ := gJ
  obtain ⟨sc0, sc1, sc2, sc3, sc4, sc5, w24, sb, wa, h66⟩ := hO
  obtain ⟨h67, n67, h68, n68, h69, n69⟩ := hB
  obtain ⟨h70, h71⟩ := hC
  obtain ⟨h92, n92, h93⟩ := hI
  have fi := f_i1
  rcases fi with fi | ⟨fi, s2, di, a1, a2, a3, a4, a5, a6, a7, a8, a9, a10, a11, a12⟩
  · subst fi
    refine ik_F_mono (cp_goBack1N (im_ := gm1) (id_ := gd_1) (is_ := gs1)  h0 h57 h62 hl) ?_
    rintro v_1149 h_1149 ⟨er_1149, F_1149⟩ <;> subst er_1149
    have k_1149 : cL h_1149 := F_1149.1.trans hl
    have g_1149_0 := (hfr_g F_1149 0 rfl).trans h0
    have g_1149_7 := (hfr_g F_1149 7 rfl).trans h7
    have g_1149_8 := (hfr_g F_1149 8 rfl).trans h8
    have g_1149_9 := (hfr_g F_1149 9 rfl).trans h9
    have g_1149_10 := (hfr_g F_1149 10 rfl).trans h10
    have g_1149_11 := (hfr_g F_1149 11 rfl).trans h11
    have g_1149_12 := (hfr_g F_1149 12 rfl).trans h12
    have g_1149_13 := (hfr_g F_1149 13 rfl).trans h13
    have g_1149_14 := (hfr_g F_1149 14 rfl).trans h14
    have g_1149_15 := (hfr_g F_1149 15 rfl).trans h15
    have g_1149_16 := (hfr_g F_1149 16 rfl).trans h16
    have g_1149_18 := (hfr_g F_1149 18 rfl).trans h18
    have g_1149_57 := (hfr_g F_1149 57 rfl).trans h57
    have g_1149_62 := (hfr_g F_1149 62 rfl).trans h62
    have g_1149_63 := (hfr_g F_1149 63 rfl).trans h63
    have g_1149_64 := (hfr_g F_1149 64 rfl).trans h64
    have g_1149_65 := (hfr_g F_1149 65 rfl).trans h65
    have g_1149_66 := (hfr_g F_1149 66 rfl).trans h66
    have g_1149_67 := (hfr_g F_1149 67 rfl).trans h67
    have g_1149_68 := (hfr_g F_1149 68 rfl).trans h68
    have g_1149_69 := (hfr_g F_1149 69 rfl).trans h69
    have g_1149_70 := (hfr_g F_1149 70 rfl).trans h70
    have g_1149_71 := (hfr_g F_1149 71 rfl).trans h71
    have g_1149_92 := (hfr_g F_1149 92 rfl).trans h92
    have g_1149_93 := (hfr_g F_1149 93 rfl).trans h93
    refine ⟨-1000000003, rfl, ⟨k_1149, _, g_1149_66⟩, ?_⟩
    have gT_1149 := st_gT_t F_1149 (hdj_b rfl) gT
    have gS_1149 := st_gS_t F_1149 (hdj_b rfl) gS
    have gV_1149 := st_gV_t F_1149 (hdj_b rfl) gV
    have gW_1149 := st_gW_t F_1149 (hdj_b rfl) gW
    have gM_1149 := st_gM_t F_1149 (hdj_b rfl) gM
    have gR_1149 := st_gR_t F_1149 (hdj_b rfl) gR
    have gL_1149 := st_gL_t F_1149 (hdj_b rfl) gL
    have gI_1149 := st_gI_t F_1149 (hdj_b rfl) gI
    have hT_1149 := st_hT_t F_1149 (hdj_b rfl) hT
    have hS_1149 := st_hS_t F_1149 (hdj_b rfl) hS
    have hM_1149 := st_hM_t F_1149 (hdj_b rfl) hM
    have hR_1149 := st_hR_t F_1149 (hdj_b rfl) hR
    have hL_1149 := st_hL_t F_1149 (hdj_b rfl) hL
    refine ik_F_mono (rp_goBack1N (t1 := 0) (f := fun j => ((pl :: 0 :: 0 :: 0 :: (((s : Nat) : Int)) :: 0 :: 0 :: mi :: sd :: 0 :: tn :: fp :: sc0 :: sc1 :: sc2 :: sc3 :: sc4 :: sc5 :: 0 :: 0 :: 0 :: 0 :: 0 :: 0 :: w24 :: 0 :: 0 :: 0 :: 0 :: 0 :: 0 :: 0 :: sb :: wa :: 0 :: 0 :: r :: 0 :: 0 :: 0 :: 0 :: 0 :: 0 :: []) : List Int).getD j 0) (t0 := ga0)  g_1149_66 g_1149_93 k_1149) ?_
    rintro v_1150 h_1150 ⟨er_1150, F_1150⟩ <;> subst er_1150
    have k_1150 : cL h_1150 := F_1150.1.trans k_1149
    have g_1150_0 := (hfr_g F_1150 0 rfl).trans g_1149_0
    have g_1150_7 := (hfr_g F_1150 7 rfl).trans g_1149_7
    have g_1150_8 := (hfr_g F_1150 8 rfl).trans g_1149_8
    have g_1150_9 := (hfr_g F_1150 9 rfl).trans g_1149_9
    have g_1150_10 := (hfr_g F_1150 10 rfl).trans g_1149_10
    have g_1150_11 := (hfr_g F_1150 11 rfl).trans g_1149_11
    have g_1150_12 := (hfr_g F_1150 12 rfl).trans g_1149_12
    have g_1150_13 := (hfr_g F_1150 13 rfl).trans g_1149_13
    have g_1150_14 := (hfr_g F_1150 14 rfl).trans g_1149_14
    have g_1150_15 := (hfr_g F_1150 15 rfl).trans g_1149_15
    have g_1150_16 := (hfr_g F_1150 16 rfl).trans g_1149_16
    have g_1150_18 := (hfr_g F_1150 18 rfl).trans g_1149_18
    have g_1150_57 := (hfr_g F_1150 57 rfl).trans g_1149_57
    have g_1150_62 := (hfr_g F_1150 62 rfl).trans g_1149_62
    have g_1150_63 := (hfr_g F_1150 63 rfl).trans g_1149_63
    have g_1150_64 := (hfr_g F_1150 64 rfl).trans g_1149_64
    have g_1150_65 := (hfr_g F_1150 65 rfl).trans g_1149_65
    have g_1150_66 := (hfr_g F_1150 66 rfl).trans g_1149_66
    have g_1150_67 := (hfr_g F_1150 67 rfl).trans g_1149_67
    have g_1150_68 := (hfr_g F_1150 68 rfl).trans g_1149_68
    have g_1150_69 := (hfr_g F_1150 69 rfl).trans g_1149_69
    have g_1150_70 := (hfr_g F_1150 70 rfl).trans g_1149_70
    have g_1150_71 := (hfr_g F_1150 71 rfl).trans g_1149_71
    have g_1150_92 := (hfr_g F_1150 92 rfl).trans g_1149_92
    have g_1150_93 := (hfr_g F_1150 93 rfl).trans g_1149_93
    refine ⟨rfl, ?_⟩
    have gT_1150 := st_gT_t F_1150 (hdj_b rfl) gT_1149
    have gS_1150 := st_gS_t F_1150 (hdj_b rfl) gS_1149
    have gV_1150 := st_gV_t F_1150 (hdj_b rfl) gV_1149
    have gW_1150 := st_gW_t F_1150 (hdj_b rfl) gW_1149
    have gM_1150 := st_gM_t F_1150 (hdj_b rfl) gM_1149
    have gR_1150 := st_gR_t F_1150 (hdj_b rfl) gR_1149
    have gL_1150 := st_gL_t F_1150 (hdj_b rfl) gL_1149
    have gI_1150 := st_gI_t F_1150 (hdj_b rfl) gI_1149
    have hT_1150 := st_hT_t F_1150 (hdj_b rfl) hT_1149
    have hS_1150 := st_hS_t F_1150 (hdj_b rfl) hS_1149
    have hM_1150 := st_hM_t F_1150 (hdj_b rfl) hM_1149
    have hR_1150 := st_hR_t F_1150 (hdj_b rfl) hR_1149
    have hL_1150 := st_hL_t F_1150 (hdj_b rfl) hL_1149
    intro C_ k_
    exact k_ tn fp pl mi sd ka pa fa kb pb fb xa xb r n0 n1 ga0 gm0 gd_0 gs0 g00 g01 g02 g03 g04 g05 gx0 gy0 0 gm1 gd_1 gs1 g10 g11 g12 g13 g14 g15 gx1 gy1 s T cn go ch wg wc we rp rt lr ci0 ci1 cnr gor chr T2 im f_pl f_s f_st f_cb f_cr f_rw f_al f_wy f_k f_p f_x (by first | exact st_m f_m | omega) f_sd f_r f_rr f_n f_l0 f_l1 f_tn f_t (st_I_K f_i0) (Or.inl rfl) ⟨g_1150_0, g_1150_18, g_1150_57⟩ gT_1150 ⟨g_1150_7, g_1150_8, n8, g_1150_9, n9, g_1150_10, n10, g_1150_11, n11, g_1150_12, n12, g_1150_13, n13⟩ ⟨g_1150_14, g_1150_15, g_1150_16⟩ gS_1150 gV_1150 gW_1150 gM_1150 gR_1150 gL_1150 gI_1150 ⟨g_1150_62, g_1150_63, g_1150_64, g_1150_65, n65⟩ ⟨sc0, sc1, sc2, sc3, sc4, sc5, w24, sb, wa, g_1150_66⟩ ⟨g_1150_67, n67, g_1150_68, n68, g_1150_69, n69⟩ ⟨g_1150_70, g_1150_71⟩ hT_1150 hS_1150 hM_1150 hR_1150 hL_1150 ⟨g_1150_92, n92, g_1150_93⟩ k_1150
  · subst fi
    subst a1
    refine ik_F_mono (cp_goBack1T (pl := pl) (s := s) (lo := ((mj_lost pl cn go : Nat) : Int)) (im_ := gm1) (id_ := gd_1) (s2 := s2) (e0 := g10) (e1 := g11) (e2 := g12) (e3 := g13) (e4 := g14) (e5 := g15) (y0 := gx1) (y1 := gy1) (ci := ci1) (ka := ka) (pa := pa) (fa := fa) (kb := kb) (pb := pb) (fb := fb) (xa := xa) (xb := xb) (mi := mi) (dr := sd) (cn := cn) (go := go) (ch := ch) (wg := wg) (wc := wc) (we := we) f_pl a2 a4 f_cb a3 h0 h7 h8 n8 h9 n9 h10 n10 h11 n11 h12 n12 h13 n13 h14 h15 h16 h57 h62 h63 h64 h65 n65 hl) ?_
    rintro v_1151 h_1151 ⟨wg'_1151, wc'_1151, we'_1151, er_1151, e_1151_7, e_1151_10, m_1151_10, e_1151_11, m_1151_11, e_1151_12, m_1151_12, e_1151_13, m_1151_13, e_1151_14, e_1151_15, e_1151_16, p_1151_0, F_1151⟩ <;> subst er_1151
    have k_1151 : cL h_1151 := F_1151.1.trans hl
    have g_1151_0 := (hfr_g F_1151 0 rfl).trans h0
    have g_1151_8 := (hfr_g F_1151 8 rfl).trans h8
    have g_1151_9 := (hfr_g F_1151 9 rfl).trans h9
    have g_1151_18 := (hfr_g F_1151 18 rfl).trans h18
    have g_1151_57 := (hfr_g F_1151 57 rfl).trans h57
    have g_1151_62 := (hfr_g F_1151 62 rfl).trans h62
    have g_1151_63 := (hfr_g F_1151 63 rfl).trans h63
    have g_1151_64 := (hfr_g F_1151 64 rfl).trans h64
    have g_1151_65 := (hfr_g F_1151 65 rfl).trans h65
    have g_1151_66 := (hfr_g F_1151 66 rfl).trans h66
    have g_1151_67 := (hfr_g F_1151 67 rfl).trans h67
    have g_1151_68 := (hfr_g F_1151 68 rfl).trans h68
    have g_1151_69 := (hfr_g F_1151 69 rfl).trans h69
    have g_1151_70 := (hfr_g F_1151 70 rfl).trans h70
    have g_1151_71 := (hfr_g F_1151 71 rfl).trans h71
    have g_1151_92 := (hfr_g F_1151 92 rfl).trans h92
    have g_1151_93 := (hfr_g F_1151 93 rfl).trans h93
    have g_1151_7 : cE h_1151 7 (.inr (0, [fI pl, fI ((s2 : Nat) : Int), fI ((mj_lost pl cn go : Nat) : Int), .ref 8, .ref 9, .ref 10, .ref 11, .ref 12, .ref 13])) := e_1151_7
    have g_1151_10 : cE h_1151 10 (.inl (.int, fA ci1)) := e_1151_10
    have g_1151_11 : cE h_1151 11 (.inl (.int, fA wg'_1151)) := e_1151_11
    have g_1151_12 : cE h_1151 12 (.inl (.int, fA wc'_1151)) := e_1151_12
    have g_1151_13 : cE h_1151 13 (.inl (.int, fA we'_1151)) := e_1151_13
    have g_1151_14 : cE h_1151 14 (.inr (1, [.ref 7, .ref 15, .ref 16, fI gm1, fJ gd_1])) := e_1151_14
    have g_1151_15 : cE h_1151 15 (.inl (.int, fA [g10, g11, g12, g13, g14, g15])) := e_1151_15
    have g_1151_16 : cE h_1151 16 (.inl (.int, fA [gx1, gy1])) := e_1151_16
    refine ⟨1, rfl, ⟨k_1151, _, g_1151_66⟩, ?_⟩
    have gT_1151 := st_gT_t F_1151 (hdj_b rfl) gT
    have gS_1151 := st_gS_t F_1151 (hdj_b rfl) gS
    have gV_1151 := st_gV_t F_1151 (hdj_b rfl) gV
    have gW_1151 := st_gW_t F_1151 (hdj_b rfl) gW
    have gM_1151 := st_gM_t F_1151 (hdj_b rfl) gM
    have gR_1151 := st_gR_t F_1151 (hdj_b rfl) gR
    have gL_1151 := st_gL_t F_1151 (hdj_b rfl) gL
    have gI_1151 := st_gI_t F_1151 (hdj_b rfl) gI
    have hT_1151 := st_hT_t F_1151 (hdj_b rfl) hT
    have hS_1151 := st_hS_t F_1151 (hdj_b rfl) hS
    have hM_1151 := st_hM_t F_1151 (hdj_b rfl) hM
    have hR_1151 := st_hR_t F_1151 (hdj_b rfl) hR
    have hL_1151 := st_hL_t F_1151 (hdj_b rfl) hL
    refine ik_F_mono (rp_goBack1T (t1 := 0) (f := fun j => ((pl :: 0 :: 0 :: 0 :: 0 :: 0 :: 0 :: 0 :: 0 :: 0 :: tn :: fp :: sc0 :: sc1 :: sc2 :: sc3 :: sc4 :: sc5 :: 0 :: 0 :: 0 :: 0 :: 0 :: 0 :: w24 :: 0 :: 0 :: 0 :: 0 :: 0 :: 0 :: 0 :: sb :: wa :: 0 :: 0 :: r :: 0 :: 0 :: 0 :: 0 :: 0 :: 0 :: []) : List Int).getD j 0) (s := s) (s2 := s2) (t0 := ga0) (e0 := g10) (e1 := g11) (e2 := g12) (e3 := g13) (e4 := g14) (e5 := g15) (y0 := gx1) (y1 := gy1) (m2 := gm1) (d2 := gd_1) (ka := ka) (pa := pa) (fa := fa) (kb := kb) (pb := pb) (fb := fb) (xa := xa) (xb := xb) (mi := mi) (sd := sd) (ch := chr) (im := im) (ci := di) a6 a5 g_1151_66 g_1151_69 n69 g_1151_70 g_1151_71 g_1151_92 n92 g_1151_93 k_1151) ?_
    rintro v_1152 h_1152 ⟨er_1152, e_1152_66, e_1152_69, m_1152_69, e_1152_70, e_1152_71, F_1152⟩ <;> subst er_1152
    have k_1152 : cL h_1152 := F_1152.1.trans k_1151
    have g_1152_0 := (hfr_g F_1152 0 rfl).trans g_1151_0
    have g_1152_7 := (hfr_g F_1152 7 rfl).trans g_1151_7
    have g_1152_8 := (hfr_g F_1152 8 rfl).trans g_1151_8
    have g_1152_9 := (hfr_g F_1152 9 rfl).trans g_1151_9
    have g_1152_10 := (hfr_g F_1152 10 rfl).trans g_1151_10
    have g_1152_11 := (hfr_g F_1152 11 rfl).trans g_1151_11
    have g_1152_12 := (hfr_g F_1152 12 rfl).trans g_1151_12
    have g_1152_13 := (hfr_g F_1152 13 rfl).trans g_1151_13
    have g_1152_14 := (hfr_g F_1152 14 rfl).trans g_1151_14
    have g_1152_15 := (hfr_g F_1152 15 rfl).trans g_1151_15
    have g_1152_16 := (hfr_g F_1152 16 rfl).trans g_1151_16
    have g_1152_18 := (hfr_g F_1152 18 rfl).trans g_1151_18
    have g_1152_57 := (hfr_g F_1152 57 rfl).trans g_1151_57
    have g_1152_62 := (hfr_g F_1152 62 rfl).trans g_1151_62
    have g_1152_63 := (hfr_g F_1152 63 rfl).trans g_1151_63
    have g_1152_64 := (hfr_g F_1152 64 rfl).trans g_1151_64
    have g_1152_65 := (hfr_g F_1152 65 rfl).trans g_1151_65
    have g_1152_67 := (hfr_g F_1152 67 rfl).trans g_1151_67
    have g_1152_68 := (hfr_g F_1152 68 rfl).trans g_1151_68
    have g_1152_92 := (hfr_g F_1152 92 rfl).trans g_1151_92
    have g_1152_93 := (hfr_g F_1152 93 rfl).trans g_1151_93
    have g_1152_66 : cE h_1152 66 (.inr (10, (fI pl :: .ref 67 :: .ref 68 :: .ref 69 :: fI ((s2 : Nat) : Int) :: .ref 70 :: .ref 71 :: fI gm1 :: fI gd_1 :: .ref 72 :: fI tn :: fI fp :: fI sc0 :: fJ sc1 :: fI sc2 :: fI sc3 :: fI sc4 :: fI sc5 :: .ref 73 :: .ref 74 :: .ref 75 :: .ref 76 :: .ref 77 :: .ref 78 :: fI w24 :: .ref 79 :: .ref 80 :: .ref 81 :: .ref 82 :: .ref 83 :: .ref 84 :: .ref 85 :: fJ sb :: fJ wa :: .ref 86 :: .ref 87 :: fI r :: .ref 88 :: .ref 89 :: .ref 90 :: .ref 91 :: .ref 92 :: .ref 93 :: []))) := e_1152_66
    have g_1152_69 : cE h_1152 69 (.inl (.int, fA di)) := e_1152_69
    have g_1152_70 : cE h_1152 70 (.inl (.int, fA [g10, g11, g12, g13, g14, g15])) := e_1152_70
    have g_1152_71 : cE h_1152 71 (.inl (.int, fA [gx1, gy1])) := e_1152_71
    refine ⟨rfl, ?_⟩
    have gT_1152 := st_gT_t F_1152 (hdj_b rfl) gT_1151
    have gS_1152 := st_gS_t F_1152 (hdj_b rfl) gS_1151
    have gV_1152 := st_gV_t F_1152 (hdj_b rfl) gV_1151
    have gW_1152 := st_gW_t F_1152 (hdj_b rfl) gW_1151
    have gM_1152 := st_gM_t F_1152 (hdj_b rfl) gM_1151
    have gR_1152 := st_gR_t F_1152 (hdj_b rfl) gR_1151
    have gL_1152 := st_gL_t F_1152 (hdj_b rfl) gL_1151
    have gI_1152 := st_gI_t F_1152 (hdj_b rfl) gI_1151
    have hT_1152 := st_hT_t F_1152 (hdj_b rfl) hT_1151
    have hS_1152 := st_hS_t F_1152 (hdj_b rfl) hS_1151
    have hM_1152 := st_hM_t F_1152 (hdj_b rfl) hM_1151
    have hR_1152 := st_hR_t F_1152 (hdj_b rfl) hR_1151
    have hL_1152 := st_hL_t F_1152 (hdj_b rfl) hL_1151
    intro C_ k_
    exact k_ tn fp pl gm1 gd_1 g10 g11 g12 g13 g14 g15 gx1 gy1 r n0 n1 ga0 gm0 gd_0 gs0 g00 g01 g02 g03 g04 g05 gx0 gy0 1 gm1 gd_1 ((s2 : Nat) : Int) g10 g11 g12 g13 g14 g15 gx1 gy1 s2 T cn go ci1 wg'_1151 wc'_1151 we'_1151 rp rt lr ci0 ci1 cnr gor di T2 im f_pl a2 a3 f_cb f_cr a4 a7 p_1151_0 a8 a9 a10 (by omega) a12 f_r f_rr f_n f_l0 f_l1 f_tn f_t (st_I_K f_i0) (Or.inr ⟨rfl, s2, di, rfl, a2, a3, a4, a5, a6, a7, a8, a9, a10, by omega, a12⟩) ⟨g_1152_0, g_1152_18, g_1152_57⟩ gT_1152 ⟨g_1152_7, g_1152_8, n8, g_1152_9, n9, g_1152_10, m_1151_10, g_1152_11, m_1151_11, g_1152_12, m_1151_12, g_1152_13, m_1151_13⟩ ⟨g_1152_14, g_1152_15, g_1152_16⟩ gS_1152 gV_1152 gW_1152 gM_1152 gR_1152 gL_1152 gI_1152 ⟨g_1152_62, g_1152_63, g_1152_64, g_1152_65, n65⟩ ⟨sc0, sc1, sc2, sc3, sc4, sc5, w24, sb, wa, g_1152_66⟩ ⟨g_1152_67, n67, g_1152_68, n68, g_1152_69, m_1152_69⟩ ⟨g_1152_70, g_1152_71⟩ hT_1152 hS_1152 hM_1152 hR_1152 hL_1152 ⟨g_1152_92, n92, g_1152_93⟩ k_1152

set_option maxRecDepth 100000 in
theorem lk_mixed1 {K : Nat} {h : List ik_E} (E : st_S K h) (hK : K ≤ 600) {p : Int} {what : Int} (z_p : -2147483648 ≤ p ∧ p < 2147483648) (z_what : -2147483648 ≤ what ∧ what < 2147483648)  : ik_F 102 [.ref 0, fI p, fI 1, fI what] h (fun rv h_q => ∃ o_ : Int, rv = [fI o_] ∧ (h_q.length = (94 : Nat) ∧ ∃ fs, h_q[66]? = some (.inr (10, fs))) ∧ ik_F 180 [.ref 66, fI p, fI 1, fI what] h_q (fun rv' h'' => (∃ v' : Int, rv' = [fI v']) ∧ st_S (K + 1) h'')) := by
  refine E _ ?_
  intro tn fp pl mi sd ka pa fa kb pb fb xa xb r n0 n1 ga0 gm0 gd_0 gs0 g00 g01 g02 g03 g04 g05 gx0 gy0 ga1 gm1 gd_1 gs1 g10 g11 g12 g13 g14 g15 gx1 gy1 s T cn go ch wg wc we rp rt lr ci0 ci1 cnr gor chr T2 im f_pl f_s f_st f_cb f_cr f_rw f_al f_wy f_k f_p f_x f_m f_sd f_r f_rr f_n f_l0 f_l1 f_tn f_t f_i0 f_i1 gA gT gB gC gS gV gW gM gR gL gI gJ hO hB hC hT hS hM hR hL hI hl
  replace f_cb := ik_hid_i f_cb
  replace f_cr := ik_hid_i f_cr
  replace f_p := ik_hid_i f_p
  replace f_x := ik_hid_i f_x
  obtain ⟨h0, h18, h57⟩ := gA
  obtain ⟨h7, h8, n8, h9, n9, h10, n10, h11, n11, h12, n12, h13, n13⟩ := gB
  obtain ⟨h14, h15, h16⟩ := gC
  obtain ⟨bo, la, lb, t0, t1, t2, t3, h17, h19, h20⟩ := gS
  obtain ⟨h21, h33⟩ := gV
  obtain ⟨h25, h29, h37, h41⟩ := gW
  obtain ⟨fe, bo_, sh, wh, wo, f_fe, h45, h46, n46, h47, n47, h48, n48, h49, n49, h50, n50⟩ := gM
  obtain ⟨sc0, sc1, sc2, sc3, sc4, sc5, w24, sb, wa, h66⟩ := hO
  obtain ⟨h67, n67, h68, n68, h69, n69⟩ := hB
  obtain ⟨h70, h71⟩ := hC
  obtain ⟨gt, gdd, xs, ys, r1, r2, h77, n77, h78, n78, h79, n79, h80, n80, h81, n81, h82, n82⟩ := hS
  obtain ⟨fr, so, sw, ro, cl, f_ro, f_cl, h83, n83, h84, n84, h85, n85, h86, n86, h87, n87⟩ := hM
  refine ik_F_mono (cp_mixed1 (pl := pl) (lo := ((mj_lost pl cn go : Nat) : Int)) (s := s) (ka := ka) (pa := pa) (fa := fa) (kb := kb) (pb := pb) (fb := fb) (bo := bo) (la := la) (lb := lb) (wg := wg) (wc := wc) (we := we) (W := (fun x => mx_w cnr gor chr s x)) (fe := fe) (bo_ := bo_) (sh := sh) (wh := wh) (wo := wo) (p := p) (what := what) f_pl (fun _ => ⟨f_k.1.1, f_k.1.2, f_k.2.1.1, f_k.2.1.2⟩) (fun x h0 h1 => by have e := mx_al_w f_rw f_al s x h0 h1; exact e.symm ▸ f_wy x h0 h1) (mx_rw_ok (mx_al_rw f_rw f_al) _) f_fe z_p z_what h0 h7 h11 n11 h12 n12 h13 n13 h15 h17 h18 h19 h21 h25 h29 h33 h37 h41 h46 n46 h45 h47 n47 h48 n48 h49 n49 h50 n50 hl) ?_
  rintro v_1153 h_1153 ⟨l0_1153, l1_1153, l2_1153, fe'_1153, bo'_1153, sh'_1153, wh'_1153, wo'_1153, v_1153, er_1153, e_1153_17, e_1153_19, e_1153_21, e_1153_25, e_1153_29, e_1153_33, e_1153_37, e_1153_41, e_1153_46, m_1153_46, e_1153_47, m_1153_47, e_1153_48, m_1153_48, e_1153_49, m_1153_49, e_1153_50, m_1153_50, p_1153_0, F_1153⟩ <;> subst er_1153
  have k_1153 : cL h_1153 := F_1153.1.trans hl
  have g_1153_0 := (hfr_g F_1153 0 rfl).trans h0
  have g_1153_7 := (hfr_g F_1153 7 rfl).trans h7
  have g_1153_8 := (hfr_g F_1153 8 rfl).trans h8
  have g_1153_9 := (hfr_g F_1153 9 rfl).trans h9
  have g_1153_10 := (hfr_g F_1153 10 rfl).trans h10
  have g_1153_11 := (hfr_g F_1153 11 rfl).trans h11
  have g_1153_12 := (hfr_g F_1153 12 rfl).trans h12
  have g_1153_13 := (hfr_g F_1153 13 rfl).trans h13
  have g_1153_14 := (hfr_g F_1153 14 rfl).trans h14
  have g_1153_15 := (hfr_g F_1153 15 rfl).trans h15
  have g_1153_16 := (hfr_g F_1153 16 rfl).trans h16
  have g_1153_18 := (hfr_g F_1153 18 rfl).trans h18
  have g_1153_20 := (hfr_g F_1153 20 rfl).trans h20
  have g_1153_45 := (hfr_g F_1153 45 rfl).trans h45
  have g_1153_57 := (hfr_g F_1153 57 rfl).trans h57
  have g_1153_66 := (hfr_g F_1153 66 rfl).trans h66
  have g_1153_67 := (hfr_g F_1153 67 rfl).trans h67
  have g_1153_68 := (hfr_g F_1153 68 rfl).trans h68
  have g_1153_69 := (hfr_g F_1153 69 rfl).trans h69
  have g_1153_70 := (hfr_g F_1153 70 rfl).trans h70
  have g_1153_71 := (hfr_g F_1153 71 rfl).trans h71
  have g_1153_77 := (hfr_g F_1153 77 rfl).trans h77
  have g_1153_78 := (hfr_g F_1153 78 rfl).trans h78
  have g_1153_79 := (hfr_g F_1153 79 rfl).trans h79
  have g_1153_80 := (hfr_g F_1153 80 rfl).trans h80
  have g_1153_81 := (hfr_g F_1153 81 rfl).trans h81
  have g_1153_82 := (hfr_g F_1153 82 rfl).trans h82
  have g_1153_83 := (hfr_g F_1153 83 rfl).trans h83
  have g_1153_84 := (hfr_g F_1153 84 rfl).trans h84
  have g_1153_85 := (hfr_g F_1153 85 rfl).trans h85
  have g_1153_86 := (hfr_g F_1153 86 rfl).trans h86
  have g_1153_87 := (hfr_g F_1153 87 rfl).trans h87
  have g_1153_17 : cE h_1153 17 (.inr (8, [.ref 7, .ref 15, .ref 18, .ref 19, fJ l2_1153, .ref 20])) := e_1153_17
  have g_1153_19 : cE h_1153 19 (.inl (.long, fL [l0_1153, l1_1153])) := e_1153_19
  have g_1153_21 : mf_cr h_1153 21  := e_1153_21
  have g_1153_25 : mf_cr h_1153 25  := e_1153_25
  have g_1153_29 : mf_cr h_1153 29  := e_1153_29
  have g_1153_33 : mf_cr h_1153 33  := e_1153_33
  have g_1153_37 : mf_cr h_1153 37  := e_1153_37
  have g_1153_41 : mf_cr h_1153 41  := e_1153_41
  have g_1153_46 : cE h_1153 46 (.inl (.int, fA fe'_1153)) := e_1153_46
  have g_1153_47 : cE h_1153 47 (.inl (.long, fL bo'_1153)) := e_1153_47
  have g_1153_48 : cE h_1153 48 (.inl (.long, fL sh'_1153)) := e_1153_48
  have g_1153_49 : cE h_1153 49 (.inl (.long, fL wh'_1153)) := e_1153_49
  have g_1153_50 : cE h_1153 50 (.inl (.long, fL wo'_1153)) := e_1153_50
  refine ⟨v_1153, rfl, ⟨k_1153, _, g_1153_66⟩, ?_⟩
  have gT_1153 := st_gT_t F_1153 (hdj_b rfl) gT
  have gR_1153 := st_gR_t F_1153 (hdj_b rfl) gR
  have gL_1153 := st_gL_t F_1153 (hdj_b rfl) gL
  have gI_1153 := st_gI_t F_1153 (hdj_b rfl) gI
  have gJ_1153 := st_gJ_t F_1153 (hdj_b rfl) gJ
  have hT_1153 := st_hT_t F_1153 (hdj_b rfl) hT
  have hR_1153 := st_hR_t F_1153 (hdj_b rfl) hR
  have hL_1153 := st_hL_t F_1153 (hdj_b rfl) hL
  have hI_1153 := st_hI_t F_1153 (hdj_b rfl) hI
  refine ik_F_mono (rp_mixed1 (pl := pl) (f := fun j => ((0 :: 0 :: 0 :: 0 :: 0 :: 0 :: 0 :: mi :: sd :: 0 :: tn :: fp :: sc0 :: sc1 :: sc2 :: sc3 :: sc4 :: sc5 :: 0 :: 0 :: 0 :: 0 :: 0 :: 0 :: w24 :: 0 :: 0 :: 0 :: 0 :: 0 :: 0 :: 0 :: sb :: wa :: 0 :: 0 :: r :: 0 :: 0 :: 0 :: 0 :: 0 :: 0 :: []) : List Int).getD j 0) (s := s) (cn := cnr) (go := gor) (ch := chr) (gt := gt) (gd := gdd) (xs := xs) (ys := ys) (ka := ka) (pa := pa) (fa := fa) (kb := kb) (pb := pb) (fb := fb) (r1 := r1) (r2 := r2) (p := p) (what := what) (fr := fr) (so := so) (sw := sw) (ro := ro) (cl := cl) f_pl f_s (fun x h0 h1 => by have := ((mx_al_rw f_rw f_al) x h0 h1).1; omega) (mx_rw_ch (mx_al_rw f_rw f_al)) (mx_rw_ok (mx_al_rw f_rw f_al) _) (fun _ => f_k.1) (fun _ => f_k.2.1) f_ro f_cl z_p z_what g_1153_66 g_1153_67 n67 g_1153_68 n68 g_1153_69 n69 g_1153_77 n77 g_1153_78 n78 g_1153_79 n79 g_1153_80 n80 g_1153_70 g_1153_81 n81 g_1153_82 n82 g_1153_83 n83 g_1153_84 n84 g_1153_85 n85 g_1153_86 n86 g_1153_87 n87 k_1153) ?_
  rintro v_1154 h_1154 ⟨w'_1154, gt'_1154, gd'_1154, xs'_1154, ys'_1154, r1'_1154, r2'_1154, fr'_1154, sb'_1154, wa'_1154, so'_1154, sw'_1154, ro'_1154, cl'_1154, v_1154, er_1154, e_1154_77, m_1154_77, e_1154_78, m_1154_78, e_1154_79, m_1154_79, e_1154_80, m_1154_80, e_1154_81, m_1154_81, e_1154_82, m_1154_82, e_1154_66, e_1154_70, e_1154_83, m_1154_83, e_1154_84, m_1154_84, e_1154_85, m_1154_85, e_1154_86, m_1154_86, e_1154_87, m_1154_87, p_1154_0, p_1154_1, F_1154⟩ <;> subst er_1154
  have k_1154 : cL h_1154 := F_1154.1.trans k_1153
  have g_1154_0 := (hfr_g F_1154 0 rfl).trans g_1153_0
  have g_1154_7 := (hfr_g F_1154 7 rfl).trans g_1153_7
  have g_1154_8 := (hfr_g F_1154 8 rfl).trans g_1153_8
  have g_1154_9 := (hfr_g F_1154 9 rfl).trans g_1153_9
  have g_1154_10 := (hfr_g F_1154 10 rfl).trans g_1153_10
  have g_1154_11 := (hfr_g F_1154 11 rfl).trans g_1153_11
  have g_1154_12 := (hfr_g F_1154 12 rfl).trans g_1153_12
  have g_1154_13 := (hfr_g F_1154 13 rfl).trans g_1153_13
  have g_1154_14 := (hfr_g F_1154 14 rfl).trans g_1153_14
  have g_1154_15 := (hfr_g F_1154 15 rfl).trans g_1153_15
  have g_1154_16 := (hfr_g F_1154 16 rfl).trans g_1153_16
  have g_1154_17 := (hfr_g F_1154 17 rfl).trans g_1153_17
  have g_1154_18 := (hfr_g F_1154 18 rfl).trans g_1153_18
  have g_1154_19 := (hfr_g F_1154 19 rfl).trans g_1153_19
  have g_1154_20 := (hfr_g F_1154 20 rfl).trans g_1153_20
  have g_1154_21 := mf_cr_f g_1153_21 (hfr_g F_1154 21 rfl) (hfr_g F_1154 22 rfl) (hfr_g F_1154 23 rfl) (hfr_g F_1154 24 rfl)
  have g_1154_25 := mf_cr_f g_1153_25 (hfr_g F_1154 25 rfl) (hfr_g F_1154 26 rfl) (hfr_g F_1154 27 rfl) (hfr_g F_1154 28 rfl)
  have g_1154_29 := mf_cr_f g_1153_29 (hfr_g F_1154 29 rfl) (hfr_g F_1154 30 rfl) (hfr_g F_1154 31 rfl) (hfr_g F_1154 32 rfl)
  have g_1154_33 := mf_cr_f g_1153_33 (hfr_g F_1154 33 rfl) (hfr_g F_1154 34 rfl) (hfr_g F_1154 35 rfl) (hfr_g F_1154 36 rfl)
  have g_1154_37 := mf_cr_f g_1153_37 (hfr_g F_1154 37 rfl) (hfr_g F_1154 38 rfl) (hfr_g F_1154 39 rfl) (hfr_g F_1154 40 rfl)
  have g_1154_41 := mf_cr_f g_1153_41 (hfr_g F_1154 41 rfl) (hfr_g F_1154 42 rfl) (hfr_g F_1154 43 rfl) (hfr_g F_1154 44 rfl)
  have g_1154_45 := (hfr_g F_1154 45 rfl).trans g_1153_45
  have g_1154_46 := (hfr_g F_1154 46 rfl).trans g_1153_46
  have g_1154_47 := (hfr_g F_1154 47 rfl).trans g_1153_47
  have g_1154_48 := (hfr_g F_1154 48 rfl).trans g_1153_48
  have g_1154_49 := (hfr_g F_1154 49 rfl).trans g_1153_49
  have g_1154_50 := (hfr_g F_1154 50 rfl).trans g_1153_50
  have g_1154_57 := (hfr_g F_1154 57 rfl).trans g_1153_57
  have g_1154_67 := (hfr_g F_1154 67 rfl).trans g_1153_67
  have g_1154_68 := (hfr_g F_1154 68 rfl).trans g_1153_68
  have g_1154_69 := (hfr_g F_1154 69 rfl).trans g_1153_69
  have g_1154_71 := (hfr_g F_1154 71 rfl).trans g_1153_71
  have g_1154_77 : cE h_1154 77 (.inl (.int, fA gt'_1154)) := e_1154_77
  have g_1154_78 : cE h_1154 78 (.inl (.int, fA gd'_1154)) := e_1154_78
  have g_1154_79 : cE h_1154 79 (.inl (.long, fL xs'_1154)) := e_1154_79
  have g_1154_80 : cE h_1154 80 (.inl (.long, fL ys'_1154)) := e_1154_80
  have g_1154_81 : cE h_1154 81 (.inl (.long, fL r1'_1154)) := e_1154_81
  have g_1154_82 : cE h_1154 82 (.inl (.long, fL r2'_1154)) := e_1154_82
  have g_1154_66 : cE h_1154 66 (.inr (10, (fI pl :: .ref 67 :: .ref 68 :: .ref 69 :: fI ((s : Nat) : Int) :: .ref 70 :: .ref 71 :: fI mi :: fI sd :: .ref 72 :: fI tn :: fI fp :: fI sc0 :: fJ sc1 :: fI sc2 :: fI sc3 :: fI sc4 :: fI sc5 :: .ref 73 :: .ref 74 :: .ref 75 :: .ref 76 :: .ref 77 :: .ref 78 :: fI w'_1154 :: .ref 79 :: .ref 80 :: .ref 81 :: .ref 82 :: .ref 83 :: .ref 84 :: .ref 85 :: fJ sb'_1154 :: fJ wa'_1154 :: .ref 86 :: .ref 87 :: fI r :: .ref 88 :: .ref 89 :: .ref 90 :: .ref 91 :: .ref 92 :: .ref 93 :: []))) := e_1154_66
  have g_1154_70 : cE h_1154 70 (.inl (.int, fA [ka, pa, fa, kb, pb, fb])) := e_1154_70
  have g_1154_83 : cE h_1154 83 (.inl (.long, fL fr'_1154)) := e_1154_83
  have g_1154_84 : cE h_1154 84 (.inl (.long, fL so'_1154)) := e_1154_84
  have g_1154_85 : cE h_1154 85 (.inl (.long, fL sw'_1154)) := e_1154_85
  have g_1154_86 : cE h_1154 86 (.inl (.int, fA ro'_1154)) := e_1154_86
  have g_1154_87 : cE h_1154 87 (.inl (.int, fA cl'_1154)) := e_1154_87
  refine ⟨⟨_, rfl⟩, ?_⟩
  have gT_1154 := st_gT_t F_1154 (hdj_b rfl) gT_1153
  have gR_1154 := st_gR_t F_1154 (hdj_b rfl) gR_1153
  have gL_1154 := st_gL_t F_1154 (hdj_b rfl) gL_1153
  have gI_1154 := st_gI_t F_1154 (hdj_b rfl) gI_1153
  have gJ_1154 := st_gJ_t F_1154 (hdj_b rfl) gJ_1153
  have hT_1154 := st_hT_t F_1154 (hdj_b rfl) hT_1153
  have hR_1154 := st_hR_t F_1154 (hdj_b rfl) hR_1153
  have hL_1154 := st_hL_t F_1154 (hdj_b rfl) hL_1153
  have hI_1154 := st_hI_t F_1154 (hdj_b rfl) hI_1153
  intro C_ k_
  exact k_ tn fp pl mi sd ka pa fa kb pb fb xa xb r n0 n1 ga0 gm0 gd_0 gs0 g00 g01 g02 g03 g04 g05 gx0 gy0 ga1 gm1 gd_1 gs1 g10 g11 g12 g13 g14 g15 gx1 gy1 s T cn go ch wg wc we rp rt lr ci0 ci1 cnr gor chr T2 im f_pl f_s f_st f_cb f_cr f_rw f_al f_wy f_k f_p f_x (by first | exact st_m f_m | omega) f_sd f_r f_rr f_n f_l0 f_l1 f_tn f_t (st_I_K f_i0) (st_I_K f_i1) ⟨g_1154_0, g_1154_18, g_1154_57⟩ gT_1154 ⟨g_1154_7, g_1154_8, n8, g_1154_9, n9, g_1154_10, n10, g_1154_11, n11, g_1154_12, n12, g_1154_13, n13⟩ ⟨g_1154_14, g_1154_15, g_1154_16⟩ ⟨l2_1153, l0_1153, l1_1153, t0, t1, t2, t3, g_1154_17, g_1154_19, g_1154_20⟩ ⟨g_1154_21, g_1154_33⟩ ⟨g_1154_25, g_1154_29, g_1154_37, g_1154_41⟩ ⟨fe'_1153, bo'_1153, sh'_1153, wh'_1153, wo'_1153, p_1153_0, g_1154_45, g_1154_46, m_1153_46, g_1154_47, m_1153_47, g_1154_48, m_1153_48, g_1154_49, m_1153_49, g_1154_50, m_1153_50⟩ gR_1154 gL_1154 gI_1154 gJ_1154 ⟨sc0, sc1, sc2, sc3, sc4, sc5, w'_1154, sb'_1154, wa'_1154, g_1154_66⟩ ⟨g_1154_67, n67, g_1154_68, n68, g_1154_69, n69⟩ ⟨g_1154_70, g_1154_71⟩ hT_1154 ⟨gt'_1154, gd'_1154, xs'_1154, ys'_1154, r1'_1154, r2'_1154, g_1154_77, m_1154_77, g_1154_78, m_1154_78, g_1154_79, m_1154_79, g_1154_80, m_1154_80, g_1154_81, m_1154_81, g_1154_82, m_1154_82⟩ ⟨fr'_1154, so'_1154, sw'_1154, ro'_1154, cl'_1154, p_1154_0, p_1154_1, g_1154_83, m_1154_83, g_1154_84, m_1154_84, g_1154_85, m_1154_85, g_1154_86, m_1154_86, g_1154_87, m_1154_87⟩ hR_1154 hL_1154 hI_1154 k_1154

set_option maxRecDepth 100000 in
theorem lk_mixed2 {K : Nat} {h : List ik_E} (E : st_S K h) (hK : K ≤ 600) {p : Int} {what : Int} (z_p : -2147483648 ≤ p ∧ p < 2147483648) (z_what : -2147483648 ≤ what ∧ what < 2147483648)  : ik_F 102 [.ref 0, fI p, fI 2, fI what] h (fun rv h_q => ∃ o_ : Int, rv = [fI o_] ∧ (h_q.length = (94 : Nat) ∧ ∃ fs, h_q[66]? = some (.inr (10, fs))) ∧ ik_F 180 [.ref 66, fI p, fI 2, fI what] h_q (fun rv' h'' => (∃ v' : Int, rv' = [fI v']) ∧ st_S (K + 1) h'')) := by
  refine E _ ?_
  intro tn fp pl mi sd ka pa fa kb pb fb xa xb r n0 n1 ga0 gm0 gd_0 gs0 g00 g01 g02 g03 g04 g05 gx0 gy0 ga1 gm1 gd_1 gs1 g10 g11 g12 g13 g14 g15 gx1 gy1 s T cn go ch wg wc we rp rt lr ci0 ci1 cnr gor chr T2 im f_pl f_s f_st f_cb f_cr f_rw f_al f_wy f_k f_p f_x f_m f_sd f_r f_rr f_n f_l0 f_l1 f_tn f_t f_i0 f_i1 gA gT gB gC gS gV gW gM gR gL gI gJ hO hB hC hT hS hM hR hL hI hl
  replace f_cb := ik_hid_i f_cb
  replace f_cr := ik_hid_i f_cr
  replace f_p := ik_hid_i f_p
  replace f_x := ik_hid_i f_x
  obtain ⟨h0, h18, h57⟩ := gA
  obtain ⟨h7, h8, n8, h9, n9, h10, n10, h11, n11, h12, n12, h13, n13⟩ := gB
  obtain ⟨h14, h15, h16⟩ := gC
  obtain ⟨bo, la, lb, t0, t1, t2, t3, h17, h19, h20⟩ := gS
  obtain ⟨h21, h33⟩ := gV
  obtain ⟨h25, h29, h37, h41⟩ := gW
  obtain ⟨fe, bo_, sh, wh, wo, f_fe, h45, h46, n46, h47, n47, h48, n48, h49, n49, h50, n50⟩ := gM
  obtain ⟨sc0, sc1, sc2, sc3, sc4, sc5, w24, sb, wa, h66⟩ := hO
  obtain ⟨h67, n67, h68, n68, h69, n69⟩ := hB
  obtain ⟨h70, h71⟩ := hC
  obtain ⟨gt, gdd, xs, ys, r1, r2, h77, n77, h78, n78, h79, n79, h80, n80, h81, n81, h82, n82⟩ := hS
  obtain ⟨fr, so, sw, ro, cl, f_ro, f_cl, h83, n83, h84, n84, h85, n85, h86, n86, h87, n87⟩ := hM
  refine ik_F_mono (cp_mixed2 (pl := pl) (lo := ((mj_lost pl cn go : Nat) : Int)) (s := s) (ka := ka) (pa := pa) (fa := fa) (kb := kb) (pb := pb) (fb := fb) (bo := bo) (la := la) (lb := lb) (wg := wg) (wc := wc) (we := we) (W := (fun x => mx_w cnr gor chr s x)) (fe := fe) (bo_ := bo_) (sh := sh) (wh := wh) (wo := wo) (p := p) (what := what) f_pl (fun _ => ⟨f_k.1.1, f_k.1.2, f_k.2.1.1, f_k.2.1.2⟩) (fun x h0 h1 => by have e := mx_al_w f_rw f_al s x h0 h1; exact e.symm ▸ f_wy x h0 h1) (mx_rw_ok (mx_al_rw f_rw f_al) _) f_fe z_p z_what h0 h7 h11 n11 h12 n12 h13 n13 h15 h17 h18 h19 h21 h25 h29 h33 h37 h41 h46 n46 h45 h47 n47 h48 n48 h49 n49 h50 n50 hl) ?_
  rintro v_1155 h_1155 ⟨l0_1155, l1_1155, l2_1155, fe'_1155, bo'_1155, sh'_1155, wh'_1155, wo'_1155, v_1155, er_1155, e_1155_17, e_1155_19, e_1155_21, e_1155_25, e_1155_29, e_1155_33, e_1155_37, e_1155_41, e_1155_46, m_1155_46, e_1155_47, m_1155_47, e_1155_48, m_1155_48, e_1155_49, m_1155_49, e_1155_50, m_1155_50, p_1155_0, F_1155⟩ <;> subst er_1155
  have k_1155 : cL h_1155 := F_1155.1.trans hl
  have g_1155_0 := (hfr_g F_1155 0 rfl).trans h0
  have g_1155_7 := (hfr_g F_1155 7 rfl).trans h7
  have g_1155_8 := (hfr_g F_1155 8 rfl).trans h8
  have g_1155_9 := (hfr_g F_1155 9 rfl).trans h9
  have g_1155_10 := (hfr_g F_1155 10 rfl).trans h10
  have g_1155_11 := (hfr_g F_1155 11 rfl).trans h11
  have g_1155_12 := (hfr_g F_1155 12 rfl).trans h12
  have g_1155_13 := (hfr_g F_1155 13 rfl).trans h13
  have g_1155_14 := (hfr_g F_1155 14 rfl).trans h14
  have g_1155_15 := (hfr_g F_1155 15 rfl).trans h15
  have g_1155_16 := (hfr_g F_1155 16 rfl).trans h16
  have g_1155_18 := (hfr_g F_1155 18 rfl).trans h18
  have g_1155_20 := (hfr_g F_1155 20 rfl).trans h20
  have g_1155_45 := (hfr_g F_1155 45 rfl).trans h45
  have g_1155_57 := (hfr_g F_1155 57 rfl).trans h57
  have g_1155_66 := (hfr_g F_1155 66 rfl).trans h66
  have g_1155_67 := (hfr_g F_1155 67 rfl).trans h67
  have g_1155_68 := (hfr_g F_1155 68 rfl).trans h68
  have g_1155_69 := (hfr_g F_1155 69 rfl).trans h69
  have g_1155_70 := (hfr_g F_1155 70 rfl).trans h70
  have g_1155_71 := (hfr_g F_1155 71 rfl).trans h71
  have g_1155_77 := (hfr_g F_1155 77 rfl).trans h77
  have g_1155_78 := (hfr_g F_1155 78 rfl).trans h78
  have g_1155_79 := (hfr_g F_1155 79 rfl).trans h79
  have g_1155_80 := (hfr_g F_1155 80 rfl).trans h80
  have g_1155_81 := (hfr_g F_1155 81 rfl).trans h81
  have g_1155_82 := (hfr_g F_1155 82 rfl).trans h82
  have g_1155_83 := (hfr_g F_1155 83 rfl).trans h83
  have g_1155_84 := (hfr_g F_1155 84 rfl).trans h84
  have g_1155_85 := (hfr_g F_1155 85 rfl).trans h85
  have g_1155_86 := (hfr_g F_1155 86 rfl).trans h86
  have g_1155_87 := (hfr_g F_1155 87 rfl).trans h87
  have g_1155_17 : cE h_1155 17 (.inr (8, [.ref 7, .ref 15, .ref 18, .ref 19, fJ l2_1155, .ref 20])) := e_1155_17
  have g_1155_19 : cE h_1155 19 (.inl (.long, fL [l0_1155, l1_1155])) := e_1155_19
  have g_1155_21 : mf_cr h_1155 21  := e_1155_21
  have g_1155_25 : mf_cr h_1155 25  := e_1155_25
  have g_1155_29 : mf_cr h_1155 29  := e_1155_29
  have g_1155_33 : mf_cr h_1155 33  := e_1155_33
  have g_1155_37 : mf_cr h_1155 37  := e_1155_37
  have g_1155_41 : mf_cr h_1155 41  := e_1155_41
  have g_1155_46 : cE h_1155 46 (.inl (.int, fA fe'_1155)) := e_1155_46
  have g_1155_47 : cE h_1155 47 (.inl (.long, fL bo'_1155)) := e_1155_47
  have g_1155_48 : cE h_1155 48 (.inl (.long, fL sh'_1155)) := e_1155_48
  have g_1155_49 : cE h_1155 49 (.inl (.long, fL wh'_1155)) := e_1155_49
  have g_1155_50 : cE h_1155 50 (.inl (.long, fL wo'_1155)) := e_1155_50
  refine ⟨v_1155, rfl, ⟨k_1155, _, g_1155_66⟩, ?_⟩
  have gT_1155 := st_gT_t F_1155 (hdj_b rfl) gT
  have gR_1155 := st_gR_t F_1155 (hdj_b rfl) gR
  have gL_1155 := st_gL_t F_1155 (hdj_b rfl) gL
  have gI_1155 := st_gI_t F_1155 (hdj_b rfl) gI
  have gJ_1155 := st_gJ_t F_1155 (hdj_b rfl) gJ
  have hT_1155 := st_hT_t F_1155 (hdj_b rfl) hT
  have hR_1155 := st_hR_t F_1155 (hdj_b rfl) hR
  have hL_1155 := st_hL_t F_1155 (hdj_b rfl) hL
  have hI_1155 := st_hI_t F_1155 (hdj_b rfl) hI
  refine ik_F_mono (rp_mixed2 (pl := pl) (f := fun j => ((0 :: 0 :: 0 :: 0 :: 0 :: 0 :: 0 :: mi :: sd :: 0 :: tn :: fp :: sc0 :: sc1 :: sc2 :: sc3 :: sc4 :: sc5 :: 0 :: 0 :: 0 :: 0 :: 0 :: 0 :: w24 :: 0 :: 0 :: 0 :: 0 :: 0 :: 0 :: 0 :: sb :: wa :: 0 :: 0 :: r :: 0 :: 0 :: 0 :: 0 :: 0 :: 0 :: []) : List Int).getD j 0) (s := s) (cn := cnr) (go := gor) (ch := chr) (gt := gt) (gd := gdd) (xs := xs) (ys := ys) (ka := ka) (pa := pa) (fa := fa) (kb := kb) (pb := pb) (fb := fb) (r1 := r1) (r2 := r2) (p := p) (what := what) (fr := fr) (so := so) (sw := sw) (ro := ro) (cl := cl) f_pl f_s (fun x h0 h1 => by have := ((mx_al_rw f_rw f_al) x h0 h1).1; omega) (mx_rw_ch (mx_al_rw f_rw f_al)) (mx_rw_ok (mx_al_rw f_rw f_al) _) (fun _ => f_k.1) (fun _ => f_k.2.1) f_ro f_cl z_p z_what g_1155_66 g_1155_67 n67 g_1155_68 n68 g_1155_69 n69 g_1155_77 n77 g_1155_78 n78 g_1155_79 n79 g_1155_80 n80 g_1155_70 g_1155_81 n81 g_1155_82 n82 g_1155_83 n83 g_1155_84 n84 g_1155_85 n85 g_1155_86 n86 g_1155_87 n87 k_1155) ?_
  rintro v_1156 h_1156 ⟨w'_1156, gt'_1156, gd'_1156, xs'_1156, ys'_1156, r1'_1156, r2'_1156, fr'_1156, sb'_1156, wa'_1156, so'_1156, sw'_1156, ro'_1156, cl'_1156, v_1156, er_1156, e_1156_77, m_1156_77, e_1156_78, m_1156_78, e_1156_79, m_1156_79, e_1156_80, m_1156_80, e_1156_81, m_1156_81, e_1156_82, m_1156_82, e_1156_66, e_1156_70, e_1156_83, m_1156_83, e_1156_84, m_1156_84, e_1156_85, m_1156_85, e_1156_86, m_1156_86, e_1156_87, m_1156_87, p_1156_0, p_1156_1, F_1156⟩ <;> subst er_1156
  have k_1156 : cL h_1156 := F_1156.1.trans k_1155
  have g_1156_0 := (hfr_g F_1156 0 rfl).trans g_1155_0
  have g_1156_7 := (hfr_g F_1156 7 rfl).trans g_1155_7
  have g_1156_8 := (hfr_g F_1156 8 rfl).trans g_1155_8
  have g_1156_9 := (hfr_g F_1156 9 rfl).trans g_1155_9
  have g_1156_10 := (hfr_g F_1156 10 rfl).trans g_1155_10
  have g_1156_11 := (hfr_g F_1156 11 rfl).trans g_1155_11
  have g_1156_12 := (hfr_g F_1156 12 rfl).trans g_1155_12
  have g_1156_13 := (hfr_g F_1156 13 rfl).trans g_1155_13
  have g_1156_14 := (hfr_g F_1156 14 rfl).trans g_1155_14
  have g_1156_15 := (hfr_g F_1156 15 rfl).trans g_1155_15
  have g_1156_16 := (hfr_g F_1156 16 rfl).trans g_1155_16
  have g_1156_17 := (hfr_g F_1156 17 rfl).trans g_1155_17
  have g_1156_18 := (hfr_g F_1156 18 rfl).trans g_1155_18
  have g_1156_19 := (hfr_g F_1156 19 rfl).trans g_1155_19
  have g_1156_20 := (hfr_g F_1156 20 rfl).trans g_1155_20
  have g_1156_21 := mf_cr_f g_1155_21 (hfr_g F_1156 21 rfl) (hfr_g F_1156 22 rfl) (hfr_g F_1156 23 rfl) (hfr_g F_1156 24 rfl)
  have g_1156_25 := mf_cr_f g_1155_25 (hfr_g F_1156 25 rfl) (hfr_g F_1156 26 rfl) (hfr_g F_1156 27 rfl) (hfr_g F_1156 28 rfl)
  have g_1156_29 := mf_cr_f g_1155_29 (hfr_g F_1156 29 rfl) (hfr_g F_1156 30 rfl) (hfr_g F_1156 31 rfl) (hfr_g F_1156 32 rfl)
  have g_1156_33 := mf_cr_f g_1155_33 (hfr_g F_1156 33 rfl) (hfr_g F_1156 34 rfl) (hfr_g F_1156 35 rfl) (hfr_g F_1156 36 rfl)
  have g_1156_37 := mf_cr_f g_1155_37 (hfr_g F_1156 37 rfl) (hfr_g F_1156 38 rfl) (hfr_g F_1156 39 rfl) (hfr_g F_1156 40 rfl)
  have g_1156_41 := mf_cr_f g_1155_41 (hfr_g F_1156 41 rfl) (hfr_g F_1156 42 rfl) (hfr_g F_1156 43 rfl) (hfr_g F_1156 44 rfl)
  have g_1156_45 := (hfr_g F_1156 45 rfl).trans g_1155_45
  have g_1156_46 := (hfr_g F_1156 46 rfl).trans g_1155_46
  have g_1156_47 := (hfr_g F_1156 47 rfl).trans g_1155_47
  have g_1156_48 := (hfr_g F_1156 48 rfl).trans g_1155_48
  have g_1156_49 := (hfr_g F_1156 49 rfl).trans g_1155_49
  have g_1156_50 := (hfr_g F_1156 50 rfl).trans g_1155_50
  have g_1156_57 := (hfr_g F_1156 57 rfl).trans g_1155_57
  have g_1156_67 := (hfr_g F_1156 67 rfl).trans g_1155_67
  have g_1156_68 := (hfr_g F_1156 68 rfl).trans g_1155_68
  have g_1156_69 := (hfr_g F_1156 69 rfl).trans g_1155_69
  have g_1156_71 := (hfr_g F_1156 71 rfl).trans g_1155_71
  have g_1156_77 : cE h_1156 77 (.inl (.int, fA gt'_1156)) := e_1156_77
  have g_1156_78 : cE h_1156 78 (.inl (.int, fA gd'_1156)) := e_1156_78
  have g_1156_79 : cE h_1156 79 (.inl (.long, fL xs'_1156)) := e_1156_79
  have g_1156_80 : cE h_1156 80 (.inl (.long, fL ys'_1156)) := e_1156_80
  have g_1156_81 : cE h_1156 81 (.inl (.long, fL r1'_1156)) := e_1156_81
  have g_1156_82 : cE h_1156 82 (.inl (.long, fL r2'_1156)) := e_1156_82
  have g_1156_66 : cE h_1156 66 (.inr (10, (fI pl :: .ref 67 :: .ref 68 :: .ref 69 :: fI ((s : Nat) : Int) :: .ref 70 :: .ref 71 :: fI mi :: fI sd :: .ref 72 :: fI tn :: fI fp :: fI sc0 :: fJ sc1 :: fI sc2 :: fI sc3 :: fI sc4 :: fI sc5 :: .ref 73 :: .ref 74 :: .ref 75 :: .ref 76 :: .ref 77 :: .ref 78 :: fI w'_1156 :: .ref 79 :: .ref 80 :: .ref 81 :: .ref 82 :: .ref 83 :: .ref 84 :: .ref 85 :: fJ sb'_1156 :: fJ wa'_1156 :: .ref 86 :: .ref 87 :: fI r :: .ref 88 :: .ref 89 :: .ref 90 :: .ref 91 :: .ref 92 :: .ref 93 :: []))) := e_1156_66
  have g_1156_70 : cE h_1156 70 (.inl (.int, fA [ka, pa, fa, kb, pb, fb])) := e_1156_70
  have g_1156_83 : cE h_1156 83 (.inl (.long, fL fr'_1156)) := e_1156_83
  have g_1156_84 : cE h_1156 84 (.inl (.long, fL so'_1156)) := e_1156_84
  have g_1156_85 : cE h_1156 85 (.inl (.long, fL sw'_1156)) := e_1156_85
  have g_1156_86 : cE h_1156 86 (.inl (.int, fA ro'_1156)) := e_1156_86
  have g_1156_87 : cE h_1156 87 (.inl (.int, fA cl'_1156)) := e_1156_87
  refine ⟨⟨_, rfl⟩, ?_⟩
  have gT_1156 := st_gT_t F_1156 (hdj_b rfl) gT_1155
  have gR_1156 := st_gR_t F_1156 (hdj_b rfl) gR_1155
  have gL_1156 := st_gL_t F_1156 (hdj_b rfl) gL_1155
  have gI_1156 := st_gI_t F_1156 (hdj_b rfl) gI_1155
  have gJ_1156 := st_gJ_t F_1156 (hdj_b rfl) gJ_1155
  have hT_1156 := st_hT_t F_1156 (hdj_b rfl) hT_1155
  have hR_1156 := st_hR_t F_1156 (hdj_b rfl) hR_1155
  have hL_1156 := st_hL_t F_1156 (hdj_b rfl) hL_1155
  have hI_1156 := st_hI_t F_1156 (hdj_b rfl) hI_1155
  intro C_ k_
  exact k_ tn fp pl mi sd ka pa fa kb pb fb xa xb r n0 n1 ga0 gm0 gd_0 gs0 g00 g01 g02 g03 g04 g05 gx0 gy0 ga1 gm1 gd_1 gs1 g10 g11 g12 g13 g14 g15 gx1 gy1 s T cn go ch wg wc we rp rt lr ci0 ci1 cnr gor chr T2 im f_pl f_s f_st f_cb f_cr f_rw f_al f_wy f_k f_p f_x (by first | exact st_m f_m | omega) f_sd f_r f_rr f_n f_l0 f_l1 f_tn f_t (st_I_K f_i0) (st_I_K f_i1) ⟨g_1156_0, g_1156_18, g_1156_57⟩ gT_1156 ⟨g_1156_7, g_1156_8, n8, g_1156_9, n9, g_1156_10, n10, g_1156_11, n11, g_1156_12, n12, g_1156_13, n13⟩ ⟨g_1156_14, g_1156_15, g_1156_16⟩ ⟨l2_1155, l0_1155, l1_1155, t0, t1, t2, t3, g_1156_17, g_1156_19, g_1156_20⟩ ⟨g_1156_21, g_1156_33⟩ ⟨g_1156_25, g_1156_29, g_1156_37, g_1156_41⟩ ⟨fe'_1155, bo'_1155, sh'_1155, wh'_1155, wo'_1155, p_1155_0, g_1156_45, g_1156_46, m_1155_46, g_1156_47, m_1155_47, g_1156_48, m_1155_48, g_1156_49, m_1155_49, g_1156_50, m_1155_50⟩ gR_1156 gL_1156 gI_1156 gJ_1156 ⟨sc0, sc1, sc2, sc3, sc4, sc5, w'_1156, sb'_1156, wa'_1156, g_1156_66⟩ ⟨g_1156_67, n67, g_1156_68, n68, g_1156_69, n69⟩ ⟨g_1156_70, g_1156_71⟩ hT_1156 ⟨gt'_1156, gd'_1156, xs'_1156, ys'_1156, r1'_1156, r2'_1156, g_1156_77, m_1156_77, g_1156_78, m_1156_78, g_1156_79, m_1156_79, g_1156_80, m_1156_80, g_1156_81, m_1156_81, g_1156_82, m_1156_82⟩ ⟨fr'_1156, so'_1156, sw'_1156, ro'_1156, cl'_1156, p_1156_0, p_1156_1, g_1156_83, m_1156_83, g_1156_84, m_1156_84, g_1156_85, m_1156_85, g_1156_86, m_1156_86, g_1156_87, m_1156_87⟩ hR_1156 hL_1156 hI_1156 k_1156

set_option maxRecDepth 100000 in
theorem lk_mixed3 {K : Nat} {h : List ik_E} (E : st_S K h) (hK : K ≤ 600) {p : Int} {what : Int} (z_p : -2147483648 ≤ p ∧ p < 2147483648) (z_what : -2147483648 ≤ what ∧ what < 2147483648)  : ik_F 102 [.ref 0, fI p, fI 3, fI what] h (fun rv h_q => ∃ o_ : Int, rv = [fI o_] ∧ (h_q.length = (94 : Nat) ∧ ∃ fs, h_q[66]? = some (.inr (10, fs))) ∧ ik_F 180 [.ref 66, fI p, fI 3, fI what] h_q (fun rv' h'' => (∃ v' : Int, rv' = [fI v']) ∧ st_S (K + 1) h'')) := by
  refine E _ ?_
  intro tn fp pl mi sd ka pa fa kb pb fb xa xb r n0 n1 ga0 gm0 gd_0 gs0 g00 g01 g02 g03 g04 g05 gx0 gy0 ga1 gm1 gd_1 gs1 g10 g11 g12 g13 g14 g15 gx1 gy1 s T cn go ch wg wc we rp rt lr ci0 ci1 cnr gor chr T2 im f_pl f_s f_st f_cb f_cr f_rw f_al f_wy f_k f_p f_x f_m f_sd f_r f_rr f_n f_l0 f_l1 f_tn f_t f_i0 f_i1 gA gT gB gC gS gV gW gM gR gL gI gJ hO hB hC hT hS hM hR hL hI hl
  replace f_cb := ik_hid_i f_cb
  replace f_cr := ik_hid_i f_cr
  replace f_p := ik_hid_i f_p
  replace f_x := ik_hid_i f_x
  obtain ⟨h0, h18, h57⟩ := gA
  obtain ⟨h7, h8, n8, h9, n9, h10, n10, h11, n11, h12, n12, h13, n13⟩ := gB
  obtain ⟨h14, h15, h16⟩ := gC
  obtain ⟨bo, la, lb, t0, t1, t2, t3, h17, h19, h20⟩ := gS
  obtain ⟨h21, h33⟩ := gV
  obtain ⟨h25, h29, h37, h41⟩ := gW
  obtain ⟨fe, bo_, sh, wh, wo, f_fe, h45, h46, n46, h47, n47, h48, n48, h49, n49, h50, n50⟩ := gM
  obtain ⟨sc0, sc1, sc2, sc3, sc4, sc5, w24, sb, wa, h66⟩ := hO
  obtain ⟨h67, n67, h68, n68, h69, n69⟩ := hB
  obtain ⟨h70, h71⟩ := hC
  obtain ⟨gt, gdd, xs, ys, r1, r2, h77, n77, h78, n78, h79, n79, h80, n80, h81, n81, h82, n82⟩ := hS
  obtain ⟨fr, so, sw, ro, cl, f_ro, f_cl, h83, n83, h84, n84, h85, n85, h86, n86, h87, n87⟩ := hM
  refine ik_F_mono (cp_mixed3 (pl := pl) (lo := ((mj_lost pl cn go : Nat) : Int)) (s := s) (ka := ka) (pa := pa) (fa := fa) (kb := kb) (pb := pb) (fb := fb) (bo := bo) (la := la) (lb := lb) (wg := wg) (wc := wc) (we := we) (W := (fun x => mx_w cnr gor chr s x)) (fe := fe) (bo_ := bo_) (sh := sh) (wh := wh) (wo := wo) (p := p) (what := what) f_pl (fun _ => ⟨f_k.1.1, f_k.1.2, f_k.2.1.1, f_k.2.1.2⟩) (fun x h0 h1 => by have e := mx_al_w f_rw f_al s x h0 h1; exact e.symm ▸ f_wy x h0 h1) (mx_rw_ok (mx_al_rw f_rw f_al) _) f_fe z_p z_what h0 h7 h11 n11 h12 n12 h13 n13 h15 h17 h18 h19 h21 h25 h29 h33 h37 h41 h46 n46 h45 h47 n47 h48 n48 h49 n49 h50 n50 hl) ?_
  rintro v_1157 h_1157 ⟨l0_1157, l1_1157, l2_1157, fe'_1157, bo'_1157, sh'_1157, wh'_1157, wo'_1157, v_1157, er_1157, e_1157_17, e_1157_19, e_1157_21, e_1157_25, e_1157_29, e_1157_33, e_1157_37, e_1157_41, e_1157_46, m_1157_46, e_1157_47, m_1157_47, e_1157_48, m_1157_48, e_1157_49, m_1157_49, e_1157_50, m_1157_50, p_1157_0, F_1157⟩ <;> subst er_1157
  have k_1157 : cL h_1157 := F_1157.1.trans hl
  have g_1157_0 := (hfr_g F_1157 0 rfl).trans h0
  have g_1157_7 := (hfr_g F_1157 7 rfl).trans h7
  have g_1157_8 := (hfr_g F_1157 8 rfl).trans h8
  have g_1157_9 := (hfr_g F_1157 9 rfl).trans h9
  have g_1157_10 := (hfr_g F_1157 10 rfl).trans h10
  have g_1157_11 := (hfr_g F_1157 11 rfl).trans h11
  have g_1157_12 := (hfr_g F_1157 12 rfl).trans h12
  have g_1157_13 := (hfr_g F_1157 13 rfl).trans h13
  have g_1157_14 := (hfr_g F_1157 14 rfl).trans h14
  have g_1157_15 := (hfr_g F_1157 15 rfl).trans h15
  have g_1157_16 := (hfr_g F_1157 16 rfl).trans h16
  have g_1157_18 := (hfr_g F_1157 18 rfl).trans h18
  have g_1157_20 := (hfr_g F_1157 20 rfl).trans h20
  have g_1157_45 := (hfr_g F_1157 45 rfl).trans h45
  have g_1157_57 := (hfr_g F_1157 57 rfl).trans h57
  have g_1157_66 := (hfr_g F_1157 66 rfl).trans h66
  have g_1157_67 := (hfr_g F_1157 67 rfl).trans h67
  have g_1157_68 := (hfr_g F_1157 68 rfl).trans h68
  have g_1157_69 := (hfr_g F_1157 69 rfl).trans h69
  have g_1157_70 := (hfr_g F_1157 70 rfl).trans h70
  have g_1157_71 := (hfr_g F_1157 71 rfl).trans h71
  have g_1157_77 := (hfr_g F_1157 77 rfl).trans h77
  have g_1157_78 := (hfr_g F_1157 78 rfl).trans h78
  have g_1157_79 := (hfr_g F_1157 79 rfl).trans h79
  have g_1157_80 := (hfr_g F_1157 80 rfl).trans h80
  have g_1157_81 := (hfr_g F_1157 81 rfl).trans h81
  have g_1157_82 := (hfr_g F_1157 82 rfl).trans h82
  have g_1157_83 := (hfr_g F_1157 83 rfl).trans h83
  have g_1157_84 := (hfr_g F_1157 84 rfl).trans h84
  have g_1157_85 := (hfr_g F_1157 85 rfl).trans h85
  have g_1157_86 := (hfr_g F_1157 86 rfl).trans h86
  have g_1157_87 := (hfr_g F_1157 87 rfl).trans h87
  have g_1157_17 : cE h_1157 17 (.inr (8, [.ref 7, .ref 15, .ref 18, .ref 19, fJ l2_1157, .ref 20])) := e_1157_17
  have g_1157_19 : cE h_1157 19 (.inl (.long, fL [l0_1157, l1_1157])) := e_1157_19
  have g_1157_21 : mf_cr h_1157 21  := e_1157_21
  have g_1157_25 : mf_cr h_1157 25  := e_1157_25
  have g_1157_29 : mf_cr h_1157 29  := e_1157_29
  have g_1157_33 : mf_cr h_1157 33  := e_1157_33
  have g_1157_37 : mf_cr h_1157 37  := e_1157_37
  have g_1157_41 : mf_cr h_1157 41  := e_1157_41
  have g_1157_46 : cE h_1157 46 (.inl (.int, fA fe'_1157)) := e_1157_46
  have g_1157_47 : cE h_1157 47 (.inl (.long, fL bo'_1157)) := e_1157_47
  have g_1157_48 : cE h_1157 48 (.inl (.long, fL sh'_1157)) := e_1157_48
  have g_1157_49 : cE h_1157 49 (.inl (.long, fL wh'_1157)) := e_1157_49
  have g_1157_50 : cE h_1157 50 (.inl (.long, fL wo'_1157)) := e_1157_50
  refine ⟨v_1157, rfl, ⟨k_1157, _, g_1157_66⟩, ?_⟩
  have gT_1157 := st_gT_t F_1157 (hdj_b rfl) gT
  have gR_1157 := st_gR_t F_1157 (hdj_b rfl) gR
  have gL_1157 := st_gL_t F_1157 (hdj_b rfl) gL
  have gI_1157 := st_gI_t F_1157 (hdj_b rfl) gI
  have gJ_1157 := st_gJ_t F_1157 (hdj_b rfl) gJ
  have hT_1157 := st_hT_t F_1157 (hdj_b rfl) hT
  have hR_1157 := st_hR_t F_1157 (hdj_b rfl) hR
  have hL_1157 := st_hL_t F_1157 (hdj_b rfl) hL
  have hI_1157 := st_hI_t F_1157 (hdj_b rfl) hI
  refine ik_F_mono (rp_mixed3 (pl := pl) (f := fun j => ((0 :: 0 :: 0 :: 0 :: 0 :: 0 :: 0 :: mi :: sd :: 0 :: tn :: fp :: sc0 :: sc1 :: sc2 :: sc3 :: sc4 :: sc5 :: 0 :: 0 :: 0 :: 0 :: 0 :: 0 :: w24 :: 0 :: 0 :: 0 :: 0 :: 0 :: 0 :: 0 :: sb :: wa :: 0 :: 0 :: r :: 0 :: 0 :: 0 :: 0 :: 0 :: 0 :: []) : List Int).getD j 0) (s := s) (cn := cnr) (go := gor) (ch := chr) (gt := gt) (gd := gdd) (xs := xs) (ys := ys) (ka := ka) (pa := pa) (fa := fa) (kb := kb) (pb := pb) (fb := fb) (r1 := r1) (r2 := r2) (p := p) (what := what) (fr := fr) (so := so) (sw := sw) (ro := ro) (cl := cl) f_pl f_s (fun x h0 h1 => by have := ((mx_al_rw f_rw f_al) x h0 h1).1; omega) (mx_rw_ch (mx_al_rw f_rw f_al)) (mx_rw_ok (mx_al_rw f_rw f_al) _) (fun _ => f_k.1) (fun _ => f_k.2.1) f_ro f_cl z_p z_what g_1157_66 g_1157_67 n67 g_1157_68 n68 g_1157_69 n69 g_1157_77 n77 g_1157_78 n78 g_1157_79 n79 g_1157_80 n80 g_1157_70 g_1157_81 n81 g_1157_82 n82 g_1157_83 n83 g_1157_84 n84 g_1157_85 n85 g_1157_86 n86 g_1157_87 n87 k_1157) ?_
  rintro v_1158 h_1158 ⟨w'_1158, gt'_1158, gd'_1158, xs'_1158, ys'_1158, r1'_1158, r2'_1158, fr'_1158, sb'_1158, wa'_1158, so'_1158, sw'_1158, ro'_1158, cl'_1158, v_1158, er_1158, e_1158_77, m_1158_77, e_1158_78, m_1158_78, e_1158_79, m_1158_79, e_1158_80, m_1158_80, e_1158_81, m_1158_81, e_1158_82, m_1158_82, e_1158_66, e_1158_70, e_1158_83, m_1158_83, e_1158_84, m_1158_84, e_1158_85, m_1158_85, e_1158_86, m_1158_86, e_1158_87, m_1158_87, p_1158_0, p_1158_1, F_1158⟩ <;> subst er_1158
  have k_1158 : cL h_1158 := F_1158.1.trans k_1157
  have g_1158_0 := (hfr_g F_1158 0 rfl).trans g_1157_0
  have g_1158_7 := (hfr_g F_1158 7 rfl).trans g_1157_7
  have g_1158_8 := (hfr_g F_1158 8 rfl).trans g_1157_8
  have g_1158_9 := (hfr_g F_1158 9 rfl).trans g_1157_9
  have g_1158_10 := (hfr_g F_1158 10 rfl).trans g_1157_10
  have g_1158_11 := (hfr_g F_1158 11 rfl).trans g_1157_11
  have g_1158_12 := (hfr_g F_1158 12 rfl).trans g_1157_12
  have g_1158_13 := (hfr_g F_1158 13 rfl).trans g_1157_13
  have g_1158_14 := (hfr_g F_1158 14 rfl).trans g_1157_14
  have g_1158_15 := (hfr_g F_1158 15 rfl).trans g_1157_15
  have g_1158_16 := (hfr_g F_1158 16 rfl).trans g_1157_16
  have g_1158_17 := (hfr_g F_1158 17 rfl).trans g_1157_17
  have g_1158_18 := (hfr_g F_1158 18 rfl).trans g_1157_18
  have g_1158_19 := (hfr_g F_1158 19 rfl).trans g_1157_19
  have g_1158_20 := (hfr_g F_1158 20 rfl).trans g_1157_20
  have g_1158_21 := mf_cr_f g_1157_21 (hfr_g F_1158 21 rfl) (hfr_g F_1158 22 rfl) (hfr_g F_1158 23 rfl) (hfr_g F_1158 24 rfl)
  have g_1158_25 := mf_cr_f g_1157_25 (hfr_g F_1158 25 rfl) (hfr_g F_1158 26 rfl) (hfr_g F_1158 27 rfl) (hfr_g F_1158 28 rfl)
  have g_1158_29 := mf_cr_f g_1157_29 (hfr_g F_1158 29 rfl) (hfr_g F_1158 30 rfl) (hfr_g F_1158 31 rfl) (hfr_g F_1158 32 rfl)
  have g_1158_33 := mf_cr_f g_1157_33 (hfr_g F_1158 33 rfl) (hfr_g F_1158 34 rfl) (hfr_g F_1158 35 rfl) (hfr_g F_1158 36 rfl)
  have g_1158_37 := mf_cr_f g_1157_37 (hfr_g F_1158 37 rfl) (hfr_g F_1158 38 rfl) (hfr_g F_1158 39 rfl) (hfr_g F_1158 40 rfl)
  have g_1158_41 := mf_cr_f g_1157_41 (hfr_g F_1158 41 rfl) (hfr_g F_1158 42 rfl) (hfr_g F_1158 43 rfl) (hfr_g F_1158 44 rfl)
  have g_1158_45 := (hfr_g F_1158 45 rfl).trans g_1157_45
  have g_1158_46 := (hfr_g F_1158 46 rfl).trans g_1157_46
  have g_1158_47 := (hfr_g F_1158 47 rfl).trans g_1157_47
  have g_1158_48 := (hfr_g F_1158 48 rfl).trans g_1157_48
  have g_1158_49 := (hfr_g F_1158 49 rfl).trans g_1157_49
  have g_1158_50 := (hfr_g F_1158 50 rfl).trans g_1157_50
  have g_1158_57 := (hfr_g F_1158 57 rfl).trans g_1157_57
  have g_1158_67 := (hfr_g F_1158 67 rfl).trans g_1157_67
  have g_1158_68 := (hfr_g F_1158 68 rfl).trans g_1157_68
  have g_1158_69 := (hfr_g F_1158 69 rfl).trans g_1157_69
  have g_1158_71 := (hfr_g F_1158 71 rfl).trans g_1157_71
  have g_1158_77 : cE h_1158 77 (.inl (.int, fA gt'_1158)) := e_1158_77
  have g_1158_78 : cE h_1158 78 (.inl (.int, fA gd'_1158)) := e_1158_78
  have g_1158_79 : cE h_1158 79 (.inl (.long, fL xs'_1158)) := e_1158_79
  have g_1158_80 : cE h_1158 80 (.inl (.long, fL ys'_1158)) := e_1158_80
  have g_1158_81 : cE h_1158 81 (.inl (.long, fL r1'_1158)) := e_1158_81
  have g_1158_82 : cE h_1158 82 (.inl (.long, fL r2'_1158)) := e_1158_82
  have g_1158_66 : cE h_1158 66 (.inr (10, (fI pl :: .ref 67 :: .ref 68 :: .ref 69 :: fI ((s : Nat) : Int) :: .ref 70 :: .ref 71 :: fI mi :: fI sd :: .ref 72 :: fI tn :: fI fp :: fI sc0 :: fJ sc1 :: fI sc2 :: fI sc3 :: fI sc4 :: fI sc5 :: .ref 73 :: .ref 74 :: .ref 75 :: .ref 76 :: .ref 77 :: .ref 78 :: fI w'_1158 :: .ref 79 :: .ref 80 :: .ref 81 :: .ref 82 :: .ref 83 :: .ref 84 :: .ref 85 :: fJ sb'_1158 :: fJ wa'_1158 :: .ref 86 :: .ref 87 :: fI r :: .ref 88 :: .ref 89 :: .ref 90 :: .ref 91 :: .ref 92 :: .ref 93 :: []))) := e_1158_66
  have g_1158_70 : cE h_1158 70 (.inl (.int, fA [ka, pa, fa, kb, pb, fb])) := e_1158_70
  have g_1158_83 : cE h_1158 83 (.inl (.long, fL fr'_1158)) := e_1158_83
  have g_1158_84 : cE h_1158 84 (.inl (.long, fL so'_1158)) := e_1158_84
  have g_1158_85 : cE h_1158 85 (.inl (.long, fL sw'_1158)) := e_1158_85
  have g_1158_86 : cE h_1158 86 (.inl (.int, fA ro'_1158)) := e_1158_86
  have g_1158_87 : cE h_1158 87 (.inl (.int, fA cl'_1158)) := e_1158_87
  refine ⟨⟨_, rfl⟩, ?_⟩
  have gT_1158 := st_gT_t F_1158 (hdj_b rfl) gT_1157
  have gR_1158 := st_gR_t F_1158 (hdj_b rfl) gR_1157
  have gL_1158 := st_gL_t F_1158 (hdj_b rfl) gL_1157
  have gI_1158 := st_gI_t F_1158 (hdj_b rfl) gI_1157
  have gJ_1158 := st_gJ_t F_1158 (hdj_b rfl) gJ_1157
  have hT_1158 := st_hT_t F_1158 (hdj_b rfl) hT_1157
  have hR_1158 := st_hR_t F_1158 (hdj_b rfl) hR_1157
  have hL_1158 := st_hL_t F_1158 (hdj_b rfl) hL_1157
  have hI_1158 := st_hI_t F_1158 (hdj_b rfl) hI_1157
  intro C_ k_
  exact k_ tn fp pl mi sd ka pa fa kb pb fb xa xb r n0 n1 ga0 gm0 gd_0 gs0 g00 g01 g02 g03 g04 g05 gx0 gy0 ga1 gm1 gd_1 gs1 g10 g11 g12 g13 g14 g15 gx1 gy1 s T cn go ch wg wc we rp rt lr ci0 ci1 cnr gor chr T2 im f_pl f_s f_st f_cb f_cr f_rw f_al f_wy f_k f_p f_x (by first | exact st_m f_m | omega) f_sd f_r f_rr f_n f_l0 f_l1 f_tn f_t (st_I_K f_i0) (st_I_K f_i1) ⟨g_1158_0, g_1158_18, g_1158_57⟩ gT_1158 ⟨g_1158_7, g_1158_8, n8, g_1158_9, n9, g_1158_10, n10, g_1158_11, n11, g_1158_12, n12, g_1158_13, n13⟩ ⟨g_1158_14, g_1158_15, g_1158_16⟩ ⟨l2_1157, l0_1157, l1_1157, t0, t1, t2, t3, g_1158_17, g_1158_19, g_1158_20⟩ ⟨g_1158_21, g_1158_33⟩ ⟨g_1158_25, g_1158_29, g_1158_37, g_1158_41⟩ ⟨fe'_1157, bo'_1157, sh'_1157, wh'_1157, wo'_1157, p_1157_0, g_1158_45, g_1158_46, m_1157_46, g_1158_47, m_1157_47, g_1158_48, m_1157_48, g_1158_49, m_1157_49, g_1158_50, m_1157_50⟩ gR_1158 gL_1158 gI_1158 gJ_1158 ⟨sc0, sc1, sc2, sc3, sc4, sc5, w'_1158, sb'_1158, wa'_1158, g_1158_66⟩ ⟨g_1158_67, n67, g_1158_68, n68, g_1158_69, n69⟩ ⟨g_1158_70, g_1158_71⟩ hT_1158 ⟨gt'_1158, gd'_1158, xs'_1158, ys'_1158, r1'_1158, r2'_1158, g_1158_77, m_1158_77, g_1158_78, m_1158_78, g_1158_79, m_1158_79, g_1158_80, m_1158_80, g_1158_81, m_1158_81, g_1158_82, m_1158_82⟩ ⟨fr'_1158, so'_1158, sw'_1158, ro'_1158, cl'_1158, p_1158_0, p_1158_1, g_1158_83, m_1158_83, g_1158_84, m_1158_84, g_1158_85, m_1158_85, g_1158_86, m_1158_86, g_1158_87, m_1158_87⟩ hR_1158 hL_1158 hI_1158 k_1158

set_option maxRecDepth 100000 in
theorem lk_mixedE {K : Nat} {h : List ik_E} (E : st_S K h) (hK : K ≤ 600) {p : Int} {n : Int} {what : Int} (z_p : -2147483648 ≤ p ∧ p < 2147483648) (z_n : -2147483648 ≤ n ∧ n < 2147483648) (z_what : -2147483648 ≤ what ∧ what < 2147483648) (q4 : n < 1 ∨ 3 < n) : ik_F 102 [.ref 0, fI p, fI n, fI what] h (fun rv h_q => ∃ o_ : Int, rv = [fI o_] ∧ (h_q.length = (94 : Nat) ∧ ∃ fs, h_q[66]? = some (.inr (10, fs))) ∧ ik_F 180 [.ref 66, fI p, fI n, fI what] h_q (fun rv' h'' => (∃ v' : Int, rv' = [fI v']) ∧ st_S (K + 1) h'')) := by
  refine E _ ?_
  intro tn fp pl mi sd ka pa fa kb pb fb xa xb r n0 n1 ga0 gm0 gd_0 gs0 g00 g01 g02 g03 g04 g05 gx0 gy0 ga1 gm1 gd_1 gs1 g10 g11 g12 g13 g14 g15 gx1 gy1 s T cn go ch wg wc we rp rt lr ci0 ci1 cnr gor chr T2 im f_pl f_s f_st f_cb f_cr f_rw f_al f_wy f_k f_p f_x f_m f_sd f_r f_rr f_n f_l0 f_l1 f_tn f_t f_i0 f_i1 gA gT gB gC gS gV gW gM gR gL gI gJ hO hB hC hT hS hM hR hL hI hl
  replace f_cb := ik_hid_i f_cb
  replace f_cr := ik_hid_i f_cr
  replace f_p := ik_hid_i f_p
  replace f_x := ik_hid_i f_x
  obtain ⟨h0, h18, h57⟩ := gA
  obtain ⟨h7, h8, n8, h9, n9, h10, n10, h11, n11, h12, n12, h13, n13⟩ := gB
  obtain ⟨sc0, sc1, sc2, sc3, sc4, sc5, w24, sb, wa, h66⟩ := hO
  refine ik_F_mono (cp_mixedE (pl := pl) (st := ((s : Nat) : Int)) (lo := ((mj_lost pl cn go : Nat) : Int)) (p := p) (n := n) (what := what) f_pl z_p z_n z_what q4 h0 h7 hl) ?_
  rintro v_1159 h_1159 ⟨v_1159, er_1159, F_1159⟩ <;> subst er_1159
  have k_1159 : cL h_1159 := F_1159.1.trans hl
  have g_1159_0 := (hfr_g F_1159 0 rfl).trans h0
  have g_1159_7 := (hfr_g F_1159 7 rfl).trans h7
  have g_1159_8 := (hfr_g F_1159 8 rfl).trans h8
  have g_1159_9 := (hfr_g F_1159 9 rfl).trans h9
  have g_1159_10 := (hfr_g F_1159 10 rfl).trans h10
  have g_1159_11 := (hfr_g F_1159 11 rfl).trans h11
  have g_1159_12 := (hfr_g F_1159 12 rfl).trans h12
  have g_1159_13 := (hfr_g F_1159 13 rfl).trans h13
  have g_1159_18 := (hfr_g F_1159 18 rfl).trans h18
  have g_1159_57 := (hfr_g F_1159 57 rfl).trans h57
  have g_1159_66 := (hfr_g F_1159 66 rfl).trans h66
  refine ⟨v_1159, rfl, ⟨k_1159, _, g_1159_66⟩, ?_⟩
  have gT_1159 := st_gT_t F_1159 (hdj_b rfl) gT
  have gC_1159 := st_gC_t F_1159 (hdj_b rfl) gC
  have gS_1159 := st_gS_t F_1159 (hdj_b rfl) gS
  have gV_1159 := st_gV_t F_1159 (hdj_b rfl) gV
  have gW_1159 := st_gW_t F_1159 (hdj_b rfl) gW
  have gM_1159 := st_gM_t F_1159 (hdj_b rfl) gM
  have gR_1159 := st_gR_t F_1159 (hdj_b rfl) gR
  have gL_1159 := st_gL_t F_1159 (hdj_b rfl) gL
  have gI_1159 := st_gI_t F_1159 (hdj_b rfl) gI
  have gJ_1159 := st_gJ_t F_1159 (hdj_b rfl) gJ
  have hB_1159 := st_hB_t F_1159 (hdj_b rfl) hB
  have hC_1159 := st_hC_t F_1159 (hdj_b rfl) hC
  have hT_1159 := st_hT_t F_1159 (hdj_b rfl) hT
  have hS_1159 := st_hS_t F_1159 (hdj_b rfl) hS
  have hM_1159 := st_hM_t F_1159 (hdj_b rfl) hM
  have hR_1159 := st_hR_t F_1159 (hdj_b rfl) hR
  have hL_1159 := st_hL_t F_1159 (hdj_b rfl) hL
  have hI_1159 := st_hI_t F_1159 (hdj_b rfl) hI
  refine ik_F_mono (rp_mixedE (pl := pl) (f := fun j => ((0 :: 0 :: 0 :: 0 :: (((s : Nat) : Int)) :: 0 :: 0 :: mi :: sd :: 0 :: tn :: fp :: sc0 :: sc1 :: sc2 :: sc3 :: sc4 :: sc5 :: 0 :: 0 :: 0 :: 0 :: 0 :: 0 :: w24 :: 0 :: 0 :: 0 :: 0 :: 0 :: 0 :: 0 :: sb :: wa :: 0 :: 0 :: r :: 0 :: 0 :: 0 :: 0 :: 0 :: 0 :: []) : List Int).getD j 0) (p := p) (n := n) (what := what) f_pl z_p z_n z_what q4 g_1159_66 k_1159) ?_
  rintro v_1160 h_1160 ⟨v_1160, er_1160, F_1160⟩ <;> subst er_1160
  have k_1160 : cL h_1160 := F_1160.1.trans k_1159
  have g_1160_0 := (hfr_g F_1160 0 rfl).trans g_1159_0
  have g_1160_7 := (hfr_g F_1160 7 rfl).trans g_1159_7
  have g_1160_8 := (hfr_g F_1160 8 rfl).trans g_1159_8
  have g_1160_9 := (hfr_g F_1160 9 rfl).trans g_1159_9
  have g_1160_10 := (hfr_g F_1160 10 rfl).trans g_1159_10
  have g_1160_11 := (hfr_g F_1160 11 rfl).trans g_1159_11
  have g_1160_12 := (hfr_g F_1160 12 rfl).trans g_1159_12
  have g_1160_13 := (hfr_g F_1160 13 rfl).trans g_1159_13
  have g_1160_18 := (hfr_g F_1160 18 rfl).trans g_1159_18
  have g_1160_57 := (hfr_g F_1160 57 rfl).trans g_1159_57
  have g_1160_66 := (hfr_g F_1160 66 rfl).trans g_1159_66
  refine ⟨⟨_, rfl⟩, ?_⟩
  have gT_1160 := st_gT_t F_1160 (hdj_b rfl) gT_1159
  have gC_1160 := st_gC_t F_1160 (hdj_b rfl) gC_1159
  have gS_1160 := st_gS_t F_1160 (hdj_b rfl) gS_1159
  have gV_1160 := st_gV_t F_1160 (hdj_b rfl) gV_1159
  have gW_1160 := st_gW_t F_1160 (hdj_b rfl) gW_1159
  have gM_1160 := st_gM_t F_1160 (hdj_b rfl) gM_1159
  have gR_1160 := st_gR_t F_1160 (hdj_b rfl) gR_1159
  have gL_1160 := st_gL_t F_1160 (hdj_b rfl) gL_1159
  have gI_1160 := st_gI_t F_1160 (hdj_b rfl) gI_1159
  have gJ_1160 := st_gJ_t F_1160 (hdj_b rfl) gJ_1159
  have hB_1160 := st_hB_t F_1160 (hdj_b rfl) hB_1159
  have hC_1160 := st_hC_t F_1160 (hdj_b rfl) hC_1159
  have hT_1160 := st_hT_t F_1160 (hdj_b rfl) hT_1159
  have hS_1160 := st_hS_t F_1160 (hdj_b rfl) hS_1159
  have hM_1160 := st_hM_t F_1160 (hdj_b rfl) hM_1159
  have hR_1160 := st_hR_t F_1160 (hdj_b rfl) hR_1159
  have hL_1160 := st_hL_t F_1160 (hdj_b rfl) hL_1159
  have hI_1160 := st_hI_t F_1160 (hdj_b rfl) hI_1159
  intro C_ k_
  exact k_ tn fp pl mi sd ka pa fa kb pb fb xa xb r n0 n1 ga0 gm0 gd_0 gs0 g00 g01 g02 g03 g04 g05 gx0 gy0 ga1 gm1 gd_1 gs1 g10 g11 g12 g13 g14 g15 gx1 gy1 s T cn go ch wg wc we rp rt lr ci0 ci1 cnr gor chr T2 im f_pl f_s f_st f_cb f_cr f_rw f_al f_wy f_k f_p f_x (by first | exact st_m f_m | omega) f_sd f_r f_rr f_n f_l0 f_l1 f_tn f_t (st_I_K f_i0) (st_I_K f_i1) ⟨g_1160_0, g_1160_18, g_1160_57⟩ gT_1160 ⟨g_1160_7, g_1160_8, n8, g_1160_9, n9, g_1160_10, n10, g_1160_11, n11, g_1160_12, n12, g_1160_13, n13⟩ gC_1160 gS_1160 gV_1160 gW_1160 gM_1160 gR_1160 gL_1160 gI_1160 gJ_1160 ⟨sc0, sc1, sc2, sc3, sc4, sc5, w24, sb, wa, g_1160_66⟩ hB_1160 hC_1160 hT_1160 hS_1160 hM_1160 hR_1160 hL_1160 hI_1160 k_1160

end

/-! 38zzz6.all -/
noncomputable section
theorem la_told {K : Nat} {h : List ik_E} (E : st_S K h) (hK : K ≤ 600) {what : Int} (z_what : -2147483648 ≤ what ∧ what < 2147483648) : ik_F 93 [.ref 0, fI what] h (fun rv h_q => ∃ o_ : Int, rv = [fI o_] ∧ (h_q.length = (94 : Nat) ∧ ∃ fs, h_q[66]? = some (.inr (10, fs))) ∧ ik_F 150 [.ref 66, fI what] h_q (fun rv' h'' => rv' = [fI o_] ∧ st_S (K + 1) h'')) := by
  rcases (by omega : what = 0 ∨ what = 1 ∨ what = 2 ∨ what = 3 ∨ what = 4 ∨ what = 5 ∨ what = 6 ∨ what = 7 ∨ (what < 0 ∨ 7 < what)) with rfl | rfl | rfl | rfl | rfl | rfl | rfl | rfl | w
  · exact lk_told0 E hK
  · exact lk_told1 E hK
  · exact lk_told2 E hK
  · exact lk_told3 E hK
  · exact lk_told4 E hK
  · exact lk_told5 E hK
  · exact lk_told6 E hK
  · exact lk_told7 E hK
  · exact lk_toldE E hK z_what w
theorem la_cork {K : Nat} {h : List ik_E} (E : st_S K h) (hK : K ≤ 600) {side : Int} {what : Int} {v : Int} (z_side : -2147483648 ≤ side ∧ side < 2147483648) (z_what : -2147483648 ≤ what ∧ what < 2147483648) (z_v : -2147483648 ≤ v ∧ v < 2147483648) : ik_F 95 [.ref 0, fI side, fI what, fI v] h (fun rv h_q => ∃ o_ : Int, rv = [fI o_] ∧ (h_q.length = (94 : Nat) ∧ ∃ fs, h_q[66]? = some (.inr (10, fs))) ∧ ik_F 158 [.ref 66, fI side, fI what, fI v] h_q (fun rv' h'' => rv' = [fI o_] ∧ st_S (K + 1) h'')) := by
  by_cases a0 : side = 0
  · subst a0
    rcases (by omega : what = 0 ∨ what = 1 ∨ what = 2 ∨ (what < 0 ∨ 2 < what)) with rfl | rfl | rfl | w
    · exact lk_cork00 E hK z_v
    · exact lk_cork01 E hK z_v
    · exact lk_cork02 E hK z_v
    · exact lk_cork0E E hK z_what z_v w
  · by_cases a1 : side = 1
    · subst a1
      rcases (by omega : what = 0 ∨ what = 1 ∨ what = 2 ∨ (what < 0 ∨ 2 < what)) with rfl | rfl | rfl | w
      · exact lk_cork10 E hK z_v
      · exact lk_cork11 E hK z_v
      · exact lk_cork12 E hK z_v
      · exact lk_cork1E E hK z_what z_v w
    · exact lk_corkE E hK z_side z_what z_v a0 a1
theorem la_later {K : Nat} {h : List ik_E} (E : st_S K h) (hK : K ≤ 600) {what : Int} (z_what : -2147483648 ≤ what ∧ what < 2147483648) : ik_F 100 [.ref 0, fI what] h (fun rv h_q => ∃ o_ : Int, rv = [fI o_] ∧ (h_q.length = (94 : Nat) ∧ ∃ fs, h_q[66]? = some (.inr (10, fs))) ∧ ik_F 170 [.ref 66, fI what] h_q (fun rv' h'' => rv' = [fI o_] ∧ st_S (K + 1) h'')) := by
  rcases (by omega : what = 0 ∨ what = 1 ∨ what = 2 ∨ (what < 0 ∨ 2 < what)) with rfl | rfl | rfl | w
  · exact lk_later0 E hK
  · exact lk_later1 E hK
  · exact lk_later2 E hK
  · exact lk_laterE E hK z_what w
theorem la_best {K : Nat} {h : List ik_E} (E : st_S K h) (hK : K ≤ 600) {side : Int} {m : Int} {what : Int} (z_side : -2147483648 ≤ side ∧ side < 2147483648) (z_m : -2147483648 ≤ m ∧ m < 2147483648) (z_what : -2147483648 ≤ what ∧ what < 2147483648) : ik_F 101 [.ref 0, fI side, fI m, fI what] h (fun rv h_q => ∃ o_ : Int, rv = [fI o_] ∧ (h_q.length = (94 : Nat) ∧ ∃ fs, h_q[66]? = some (.inr (10, fs))) ∧ ik_F 171 [.ref 66, fI side, fI m, fI what] h_q (fun rv' h'' => rv' = [fI o_] ∧ st_S (K + 1) h'')) := by
  by_cases a0 : side = 0
  · subst a0
    exact lk_best0 E hK z_m z_what
  · by_cases a1 : side = 1
    · subst a1
      exact lk_best1 E hK z_m z_what
    · exact lk_bestE E hK z_side z_m z_what a0 a1
theorem la_most {K : Nat} {h : List ik_E} (E : st_S K h) (hK : K ≤ 600) {side : Int} {what : Int} (z_side : -2147483648 ≤ side ∧ side < 2147483648) (z_what : -2147483648 ≤ what ∧ what < 2147483648) : ik_F 104 [.ref 0, fI side, fI what] h (fun rv h_q => ∃ o_ : Int, rv = [fI o_] ∧ (h_q.length = (94 : Nat) ∧ ∃ fs, h_q[66]? = some (.inr (10, fs))) ∧ ik_F 182 [.ref 66, fI side, fI what] h_q (fun rv' h'' => rv' = [fI o_] ∧ st_S (K + 1) h'')) := by
  by_cases a0 : side = 0
  · subst a0
    exact lk_most0 E hK z_what
  · by_cases a1 : side = 1
    · subst a1
      exact lk_most1 E hK z_what
    · exact lk_mostE E hK z_side z_what a0 a1
theorem la_judge {K : Nat} {h : List ik_E} (E : st_S K h) (hK : K ≤ 600) {side : Int} (z_side : -2147483648 ≤ side ∧ side < 2147483648) : ik_F 117 [.ref 0, fI side] h (fun rv h_q => ∃ o_ : Int, rv = [fI o_] ∧ (h_q.length = (94 : Nat) ∧ ∃ fs, h_q[66]? = some (.inr (10, fs))) ∧ ik_F 207 [.ref 66, fI side] h_q (fun rv' h'' => rv' = [fI o_] ∧ st_S (K + 1) h'')) := by
  by_cases a0 : side = 0
  · subst a0
    exact lk_judge0 E hK
  · by_cases a1 : side = 1
    · subst a1
      exact lk_judge1 E hK
    · exact lk_judgeE E hK z_side a0 a1
theorem la_where {K : Nat} {h : List ik_E} (E : st_S K h) (hK : K ≤ 600) {side : Int} (z_side : -2147483648 ≤ side ∧ side < 2147483648) : ik_F 112 [.ref 0, fI side] h (fun rv h_q => ∃ o_ : Int, rv = [fI o_] ∧ (h_q.length = (94 : Nat) ∧ ∃ fs, h_q[66]? = some (.inr (10, fs))) ∧ ik_F 200 [.ref 66, fI side] h_q (fun rv' h'' => rv' = [fI o_] ∧ st_S (K + 1) h'')) := by
  by_cases a0 : side = 0
  · subst a0
    exact lk_where0 E hK
  · by_cases a1 : side = 1
    · subst a1
      exact lk_where1 E hK
    · exact lk_whereE E hK z_side a0 a1
theorem la_log {K : Nat} {h : List ik_E} (E : st_S K h) (hK : K ≤ 600) {side : Int} {p : Int} (z_side : -2147483648 ≤ side ∧ side < 2147483648) (z_p : -2147483648 ≤ p ∧ p < 2147483648) : ik_F 115 [.ref 0, fI side, fI p] h (fun rv h_q => ∃ o_ : Int, rv = [fI o_] ∧ (h_q.length = (94 : Nat) ∧ ∃ fs, h_q[66]? = some (.inr (10, fs))) ∧ ik_F 203 [.ref 66, fI side, fI p] h_q (fun rv' h'' => rv' = [fI o_] ∧ st_S (K + 1) h'')) := by
  by_cases a0 : side = 0
  · subst a0
    exact lk_log0 E hK z_p
  · by_cases a1 : side = 1
    · subst a1
      exact lk_log1 E hK z_p
    · exact lk_logE E hK z_side z_p a0 a1
theorem la_keep {K : Nat} {h : List ik_E} (E : st_S K h) (hK : K ≤ 600) {i : Int} (z_i : -2147483648 ≤ i ∧ i < 2147483648) : ik_F 119 [.ref 0, fI i] h (fun rv h_q => ∃ o_ : Int, rv = [fI o_] ∧ (h_q.length = (94 : Nat) ∧ ∃ fs, h_q[66]? = some (.inr (10, fs))) ∧ ik_F 209 [.ref 66, fI i] h_q (fun rv' h'' => rv' = [fI o_] ∧ st_S (K + 1) h'')) := by
  rcases (by omega : i = 0 ∨ i = 1 ∨ (i < 0 ∨ 1 < i)) with rfl | rfl | w
  · exact lk_keep0 E hK
  · exact lk_keep1 E hK
  · exact lk_keepE E hK z_i w
theorem la_goBack {K : Nat} {h : List ik_E} (E : st_S K h) (hK : K ≤ 600) {i : Int} (z_i : -2147483648 ≤ i ∧ i < 2147483648) : ik_F 120 [.ref 0, fI i] h (fun rv h_q => ∃ o_ : Int, rv = [fI o_] ∧ (h_q.length = (94 : Nat) ∧ ∃ fs, h_q[66]? = some (.inr (10, fs))) ∧ ik_F 210 [.ref 66, fI i] h_q (fun rv' h'' => rv' = [fI o_] ∧ st_S (K + 1) h'')) := by
  rcases (by omega : i = 0 ∨ i = 1 ∨ (i < 0 ∨ 1 < i)) with rfl | rfl | w
  · exact lk_goBack0 E hK
  · exact lk_goBack1 E hK
  · exact lk_goBackE E hK z_i w
theorem la_mixed {K : Nat} {h : List ik_E} (E : st_S K h) (hK : K ≤ 600) {p : Int} {n : Int} {what : Int} (z_p : -2147483648 ≤ p ∧ p < 2147483648) (z_n : -2147483648 ≤ n ∧ n < 2147483648) (z_what : -2147483648 ≤ what ∧ what < 2147483648) : ik_F 102 [.ref 0, fI p, fI n, fI what] h (fun rv h_q => ∃ o_ : Int, rv = [fI o_] ∧ (h_q.length = (94 : Nat) ∧ ∃ fs, h_q[66]? = some (.inr (10, fs))) ∧ ik_F 180 [.ref 66, fI p, fI n, fI what] h_q (fun rv' h'' => (∃ v' : Int, rv' = [fI v']) ∧ st_S (K + 1) h'')) := by
  rcases (by omega : n = 1 ∨ n = 2 ∨ n = 3 ∨ (n < 1 ∨ 3 < n)) with rfl | rfl | rfl | w
  · exact lk_mixed1 E hK z_p z_what
  · exact lk_mixed2 E hK z_p z_what
  · exact lk_mixed3 E hK z_p z_what
  · exact lk_mixedE E hK z_p z_n z_what w
set_option maxRecDepth 100000 in
theorem st_K {K : Nat} {h : List ik_E} (E : st_S K h) : st_S (K + 1) h := by
  refine E _ ?_
  intro tn fp pl mi sd ka pa fa kb pb fb xa xb r n0 n1 ga0 gm0 gd_0 gs0 g00 g01 g02 g03 g04 g05 gx0 gy0 ga1 gm1 gd_1 gs1 g10 g11 g12 g13 g14 g15 gx1 gy1 s T cn go ch wg wc we rp rt lr ci0 ci1 cnr gor chr T2 im f_pl f_s f_st f_cb f_cr f_rw f_al f_wy f_k f_p f_x f_m f_sd f_r f_rr f_n f_l0 f_l1 f_tn f_t f_i0 f_i1 gA gT gB gC gS gV gW gM gR gL gI gJ hO hB hC hT hS hM hR hL hI hl
  intro C_ k_
  exact k_ tn fp pl mi sd ka pa fa kb pb fb xa xb r n0 n1 ga0 gm0 gd_0 gs0 g00 g01 g02 g03 g04 g05 gx0 gy0 ga1 gm1 gd_1 gs1 g10 g11 g12 g13 g14 g15 gx1 gy1 s T cn go ch wg wc we rp rt lr ci0 ci1 cnr gor chr T2 im f_pl f_s f_st f_cb f_cr f_rw f_al f_wy f_k f_p f_x (by omega) f_sd f_r f_rr f_n f_l0 f_l1 f_tn f_t (st_I_K f_i0) (st_I_K f_i1) gA gT gB gC gS gV gW gM gR gL gI gJ hO hB hC hT hS hM hR hL hI hl
theorem st_0 {K : Nat} {h : List ik_E} (E : st_S K h) : h.length = (94 : Nat) ∧ ∃ fs, h[0]? = some (.inr (9, fs)) := by
  refine E _ ?_
  intro tn fp pl mi sd ka pa fa kb pb fb xa xb r n0 n1 ga0 gm0 gd_0 gs0 g00 g01 g02 g03 g04 g05 gx0 gy0 ga1 gm1 gd_1 gs1 g10 g11 g12 g13 g14 g15 gx1 gy1 s T cn go ch wg wc we rp rt lr ci0 ci1 cnr gor chr T2 im f_pl f_s f_st f_cb f_cr f_rw f_al f_wy f_k f_p f_x f_m f_sd f_r f_rr f_n f_l0 f_l1 f_tn f_t f_i0 f_i1 gA gT gB gC gS gV gW gM gR gL gI gJ hO hB hC hT hS hM hR hL hI hl
  exact ⟨hl, _, gA.1⟩
end
