noncomputable section
set_option maxRecDepth 100000 in
theorem lk_feed {K : Nat} {h : List ik_E} (E : st_S K h) (hK : K ≤ 600) {n : Int} {b : Int} (z_n : -2147483648 ≤ n ∧ n < 2147483648)  : ik_F 90 [.ref 0, fI n, fJ b] h (fun rv h_q => ∃ o_ : Int, rv = [fI o_] ∧ (h_q.length = (94 : Nat) ∧ ∃ fs, h_q[66]? = some (.inr (10, fs))) ∧ ik_F 135 [.ref 66, fI n, fJ b] h_q (fun rv' h'' => rv' = [fI o_] ∧ st_S (K + 1) h'')) := by
  refine E _ ?_
  intro tn fp pl mi sd ka pa fa kb pb fb xa xb r n0 n1 ga0 gm0 gd_0 gs0 g00 g01 g02 g03 g04 g05 gx0 gy0 ga1 gm1 gd_1 gs1 g10 g11 g12 g13 g14 g15 gx1 gy1 s T cn go ch wg wc we rp rt lr ci0 ci1 cnr gor chr T2 im f_pl f_s f_st f_cb f_cr f_rw f_al f_wy f_k f_p f_x f_m f_sd f_r f_rr f_n f_l0 f_l1 f_tn f_t f_i0 f_i1 gA gT gB gC gS gV gW gM gR gL gI gJ hO hB hC hT hS hM hR hL hI hl
  replace f_cb := ik_hid_i f_cb
  replace f_cr := ik_hid_i f_cr
  replace f_p := ik_hid_i f_p
  replace f_x := ik_hid_i f_x
  obtain ⟨h0, h18, h57⟩ := gA
  obtain ⟨cu, fl, rpl, C, G, P, B, h1, h2, n2, h3, n3, h4, n4, h5, n5, h6, n6⟩ := gT
  obtain ⟨sc0, sc1, sc2, sc3, sc4, sc5, w24, sb, wa, h66⟩ := hO
  obtain ⟨h67, n67, h68, n68, h69, n69⟩ := hB
  obtain ⟨h70, h71⟩ := hC
  obtain ⟨M, R, O, Ax, h72, n72, h73, n73, h74, n74, h75, n75, h76, n76⟩ := hT
  refine ik_F_mono (cp_feed (tn := tn) (cu := cu) (fl := fl) (fp := fp) (rpl := rpl) (T := T) (C := C) (G := G) (P := P) (B := B) (n := n) (b := b) f_tn z_n h0 h1 h2 n2 h3 n3 h4 n4 h5 n5 h6 n6 hl) ?_
  rintro v_1002 h_1002 (⟨er_1002, e_1002_1, e_1002_2, m_1002_2, e_1002_3, m_1002_3, e_1002_4, m_1002_4, e_1002_5, m_1002_5, e_1002_6, m_1002_6, p_1002_0, F_1002⟩ | ⟨er_1002, e_1002_1, e_1002_2, m_1002_2, e_1002_3, m_1002_3, e_1002_4, m_1002_4, e_1002_5, m_1002_5, e_1002_6, m_1002_6, p_1002_0, F_1002⟩) <;> subst er_1002
  · have k_1002 : cL h_1002 := F_1002.1.trans hl
    have g_1002_0 := (hfr_g F_1002 0 rfl).trans h0
    have g_1002_18 := (hfr_g F_1002 18 rfl).trans h18
    have g_1002_57 := (hfr_g F_1002 57 rfl).trans h57
    have g_1002_66 := (hfr_g F_1002 66 rfl).trans h66
    have g_1002_67 := (hfr_g F_1002 67 rfl).trans h67
    have g_1002_68 := (hfr_g F_1002 68 rfl).trans h68
    have g_1002_69 := (hfr_g F_1002 69 rfl).trans h69
    have g_1002_70 := (hfr_g F_1002 70 rfl).trans h70
    have g_1002_71 := (hfr_g F_1002 71 rfl).trans h71
    have g_1002_72 := (hfr_g F_1002 72 rfl).trans h72
    have g_1002_73 := (hfr_g F_1002 73 rfl).trans h73
    have g_1002_74 := (hfr_g F_1002 74 rfl).trans h74
    have g_1002_75 := (hfr_g F_1002 75 rfl).trans h75
    have g_1002_76 := (hfr_g F_1002 76 rfl).trans h76
    have g_1002_1 : cE h_1002 1 (.inr (6, [.ref 2, fI (tn + n), fI cu, fI fl, fI fp, fI rpl, .ref 3, .ref 4, .ref 5, .ref 6])) := e_1002_1
    have g_1002_2 : cE h_1002 2 (.inl (.byte, fA (fd_w (fd_c (Int64.ofInt b)) n.toNat tn T))) := e_1002_2
    have g_1002_3 : cE h_1002 3 (.inl (.int, fA C)) := e_1002_3
    have g_1002_4 : cE h_1002 4 (.inl (.int, fA G)) := e_1002_4
    have g_1002_5 : cE h_1002 5 (.inl (.int, fA P)) := e_1002_5
    have g_1002_6 : cE h_1002 6 (.inl (.int, fA B)) := e_1002_6
    refine ⟨tn + n, rfl, ⟨k_1002, _, g_1002_66⟩, ?_⟩
    have gB_1002 := st_gB_t F_1002 (hdj_b rfl) gB
    have gC_1002 := st_gC_t F_1002 (hdj_b rfl) gC
    have gS_1002 := st_gS_t F_1002 (hdj_b rfl) gS
    have gV_1002 := st_gV_t F_1002 (hdj_b rfl) gV
    have gW_1002 := st_gW_t F_1002 (hdj_b rfl) gW
    have gM_1002 := st_gM_t F_1002 (hdj_b rfl) gM
    have gR_1002 := st_gR_t F_1002 (hdj_b rfl) gR
    have gL_1002 := st_gL_t F_1002 (hdj_b rfl) gL
    have gI_1002 := st_gI_t F_1002 (hdj_b rfl) gI
    have gJ_1002 := st_gJ_t F_1002 (hdj_b rfl) gJ
    have hS_1002 := st_hS_t F_1002 (hdj_b rfl) hS
    have hM_1002 := st_hM_t F_1002 (hdj_b rfl) hM
    have hR_1002 := st_hR_t F_1002 (hdj_b rfl) hR
    have hL_1002 := st_hL_t F_1002 (hdj_b rfl) hL
    have hI_1002 := st_hI_t F_1002 (hdj_b rfl) hI
    refine ik_F_mono (rp_feed (f := fun j => ((pl :: 0 :: 0 :: 0 :: (((s : Nat) : Int)) :: 0 :: 0 :: mi :: sd :: 0 :: 0 :: 0 :: 0 :: 0 :: 0 :: 0 :: 0 :: 0 :: 0 :: 0 :: 0 :: 0 :: 0 :: 0 :: w24 :: 0 :: 0 :: 0 :: 0 :: 0 :: 0 :: 0 :: sb :: wa :: 0 :: 0 :: r :: 0 :: 0 :: 0 :: 0 :: 0 :: 0 :: []) : List Int).getD j 0) (tn := tn) (fp := fp) (a0 := sc0) (sd := sc1) (we := sc2) (nu := sc3) (na := sc4) (rp := sc5) (ka := ka) (pa := pa) (fa := fa) (kb := kb) (pb := pb) (fb := fb) (xa := xa) (xb := xb) (cn := cnr) (go := gor) (ch := chr) (T := T2) (M := M) (R := R) (O := O) (A := Ax) (n := n) (b := b) f_tn z_n g_1002_66 g_1002_67 n67 g_1002_68 n68 g_1002_69 n69 g_1002_70 g_1002_71 g_1002_72 n72 g_1002_73 n73 g_1002_74 n74 g_1002_75 n75 g_1002_76 n76 k_1002) ?_
    rintro v_1003 h_1003 (⟨er_1003, e_1003_66, e_1003_72, m_1003_72, e_1003_73, m_1003_73, e_1003_74, m_1003_74, e_1003_75, m_1003_75, e_1003_76, m_1003_76, p_1003_0, F_1003⟩ | ⟨er_1003, e_1003_66, e_1003_72, m_1003_72, e_1003_73, m_1003_73, e_1003_74, m_1003_74, e_1003_75, m_1003_75, e_1003_76, m_1003_76, p_1003_0, F_1003⟩) <;> subst er_1003
    · have k_1003 : cL h_1003 := F_1003.1.trans k_1002
      have g_1003_0 := (hfr_g F_1003 0 rfl).trans g_1002_0
      have g_1003_1 := (hfr_g F_1003 1 rfl).trans g_1002_1
      have g_1003_2 := (hfr_g F_1003 2 rfl).trans g_1002_2
      have g_1003_3 := (hfr_g F_1003 3 rfl).trans g_1002_3
      have g_1003_4 := (hfr_g F_1003 4 rfl).trans g_1002_4
      have g_1003_5 := (hfr_g F_1003 5 rfl).trans g_1002_5
      have g_1003_6 := (hfr_g F_1003 6 rfl).trans g_1002_6
      have g_1003_18 := (hfr_g F_1003 18 rfl).trans g_1002_18
      have g_1003_57 := (hfr_g F_1003 57 rfl).trans g_1002_57
      have g_1003_67 := (hfr_g F_1003 67 rfl).trans g_1002_67
      have g_1003_68 := (hfr_g F_1003 68 rfl).trans g_1002_68
      have g_1003_69 := (hfr_g F_1003 69 rfl).trans g_1002_69
      have g_1003_70 := (hfr_g F_1003 70 rfl).trans g_1002_70
      have g_1003_71 := (hfr_g F_1003 71 rfl).trans g_1002_71
      have g_1003_66 : cE h_1003 66 (.inr (10, (fI pl :: .ref 67 :: .ref 68 :: .ref 69 :: fI ((s : Nat) : Int) :: .ref 70 :: .ref 71 :: fI mi :: fI sd :: .ref 72 :: fI (tn + n) :: fI fp :: fI sc0 :: fJ sc1 :: fI sc2 :: fI sc3 :: fI sc4 :: fI sc5 :: .ref 73 :: .ref 74 :: .ref 75 :: .ref 76 :: .ref 77 :: .ref 78 :: fI w24 :: .ref 79 :: .ref 80 :: .ref 81 :: .ref 82 :: .ref 83 :: .ref 84 :: .ref 85 :: fJ sb :: fJ wa :: .ref 86 :: .ref 87 :: fI r :: .ref 88 :: .ref 89 :: .ref 90 :: .ref 91 :: .ref 92 :: .ref 93 :: []))) := e_1003_66
      have g_1003_72 : cE h_1003 72 (.inl (.int, fA (fd_w (fd_r (Int64.ofInt b)) n.toNat tn T2))) := e_1003_72
      have g_1003_73 : cE h_1003 73 (.inl (.int, fA M)) := e_1003_73
      have g_1003_74 : cE h_1003 74 (.inl (.int, fA R)) := e_1003_74
      have g_1003_75 : cE h_1003 75 (.inl (.int, fA O)) := e_1003_75
      have g_1003_76 : cE h_1003 76 (.inl (.int, fA Ax)) := e_1003_76
      refine ⟨rfl, ?_⟩
      have gB_1003 := st_gB_t F_1003 (hdj_b rfl) gB_1002
      have gC_1003 := st_gC_t F_1003 (hdj_b rfl) gC_1002
      have gS_1003 := st_gS_t F_1003 (hdj_b rfl) gS_1002
      have gV_1003 := st_gV_t F_1003 (hdj_b rfl) gV_1002
      have gW_1003 := st_gW_t F_1003 (hdj_b rfl) gW_1002
      have gM_1003 := st_gM_t F_1003 (hdj_b rfl) gM_1002
      have gR_1003 := st_gR_t F_1003 (hdj_b rfl) gR_1002
      have gL_1003 := st_gL_t F_1003 (hdj_b rfl) gL_1002
      have gI_1003 := st_gI_t F_1003 (hdj_b rfl) gI_1002
      have gJ_1003 := st_gJ_t F_1003 (hdj_b rfl) gJ_1002
      have hS_1003 := st_hS_t F_1003 (hdj_b rfl) hS_1002
      have hM_1003 := st_hM_t F_1003 (hdj_b rfl) hM_1002
      have hR_1003 := st_hR_t F_1003 (hdj_b rfl) hR_1002
      have hL_1003 := st_hL_t F_1003 (hdj_b rfl) hL_1002
      have hI_1003 := st_hI_t F_1003 (hdj_b rfl) hI_1002
      intro C_ k_
      exact k_ (tn + n) fp pl mi sd ka pa fa kb pb fb xa xb r n0 n1 ga0 gm0 gd_0 gs0 g00 g01 g02 g03 g04 g05 gx0 gy0 ga1 gm1 gd_1 gs1 g10 g11 g12 g13 g14 g15 gx1 gy1 s (fd_w (fd_c (Int64.ofInt b)) n.toNat tn T) cn go ch wg wc we rp rt lr ci0 ci1 cnr gor chr (fd_w (fd_r (Int64.ofInt b)) n.toNat tn T2) im f_pl f_s f_st f_cb f_cr f_rw f_al f_wy f_k f_p f_x (by first | exact st_m f_m | omega) f_sd f_r f_rr f_n f_l0 f_l1 (by omega) (fun i i0 i1 => by rw [fd_wg n.toNat tn T i.toNat (by omega) (by omega), fd_wg n.toNat tn T2 i.toNat (by omega) (by omega)]; by_cases q : tn ≤ (i.toNat : Int) ∧ (i.toNat : Int) < tn + (n.toNat : Int); { rw [if_pos q, if_pos q]; have c := fd_cr (Int64.ofInt b) (tn + (n.toNat : Int) - 1 - (i.toNat : Int)); exact ⟨⟨c.1, c.2.1⟩, c.2.2.symm⟩ }; { rw [if_neg q, if_neg q]; exact f_t i i0 (by omega) }) (st_I_K f_i0) (st_I_K f_i1) ⟨g_1003_0, g_1003_18, g_1003_57⟩ ⟨cu, fl, rpl, C, G, P, B, g_1003_1, g_1003_2, m_1002_2, g_1003_3, m_1002_3, g_1003_4, m_1002_4, g_1003_5, m_1002_5, g_1003_6, m_1002_6⟩ gB_1003 gC_1003 gS_1003 gV_1003 gW_1003 gM_1003 gR_1003 gL_1003 gI_1003 gJ_1003 ⟨sc0, sc1, sc2, sc3, sc4, sc5, w24, sb, wa, g_1003_66⟩ ⟨g_1003_67, n67, g_1003_68, n68, g_1003_69, n69⟩ ⟨g_1003_70, g_1003_71⟩ ⟨M, R, O, Ax, g_1003_72, m_1003_72, g_1003_73, m_1003_73, g_1003_74, m_1003_74, g_1003_75, m_1003_75, g_1003_76, m_1003_76⟩ hS_1003 hM_1003 hR_1003 hL_1003 hI_1003 k_1003
    · have k_1003 : cL h_1003 := F_1003.1.trans k_1002
      have g_1003_0 := (hfr_g F_1003 0 rfl).trans g_1002_0
      have g_1003_1 := (hfr_g F_1003 1 rfl).trans g_1002_1
      have g_1003_2 := (hfr_g F_1003 2 rfl).trans g_1002_2
      have g_1003_3 := (hfr_g F_1003 3 rfl).trans g_1002_3
      have g_1003_4 := (hfr_g F_1003 4 rfl).trans g_1002_4
      have g_1003_5 := (hfr_g F_1003 5 rfl).trans g_1002_5
      have g_1003_6 := (hfr_g F_1003 6 rfl).trans g_1002_6
      have g_1003_18 := (hfr_g F_1003 18 rfl).trans g_1002_18
      have g_1003_57 := (hfr_g F_1003 57 rfl).trans g_1002_57
      have g_1003_67 := (hfr_g F_1003 67 rfl).trans g_1002_67
      have g_1003_68 := (hfr_g F_1003 68 rfl).trans g_1002_68
      have g_1003_69 := (hfr_g F_1003 69 rfl).trans g_1002_69
      have g_1003_70 := (hfr_g F_1003 70 rfl).trans g_1002_70
      have g_1003_71 := (hfr_g F_1003 71 rfl).trans g_1002_71
      have g_1003_66 : cE h_1003 66 (.inr (10, (fI pl :: .ref 67 :: .ref 68 :: .ref 69 :: fI ((s : Nat) : Int) :: .ref 70 :: .ref 71 :: fI mi :: fI sd :: .ref 72 :: fI tn :: fI fp :: fI sc0 :: fJ sc1 :: fI sc2 :: fI sc3 :: fI sc4 :: fI sc5 :: .ref 73 :: .ref 74 :: .ref 75 :: .ref 76 :: .ref 77 :: .ref 78 :: fI w24 :: .ref 79 :: .ref 80 :: .ref 81 :: .ref 82 :: .ref 83 :: .ref 84 :: .ref 85 :: fJ sb :: fJ wa :: .ref 86 :: .ref 87 :: fI r :: .ref 88 :: .ref 89 :: .ref 90 :: .ref 91 :: .ref 92 :: .ref 93 :: []))) := e_1003_66
      have g_1003_72 : cE h_1003 72 (.inl (.int, fA T2)) := e_1003_72
      have g_1003_73 : cE h_1003 73 (.inl (.int, fA M)) := e_1003_73
      have g_1003_74 : cE h_1003 74 (.inl (.int, fA R)) := e_1003_74
      have g_1003_75 : cE h_1003 75 (.inl (.int, fA O)) := e_1003_75
      have g_1003_76 : cE h_1003 76 (.inl (.int, fA Ax)) := e_1003_76
      exact absurd p_1002_0 p_1003_0
  · have k_1002 : cL h_1002 := F_1002.1.trans hl
    have g_1002_0 := (hfr_g F_1002 0 rfl).trans h0
    have g_1002_18 := (hfr_g F_1002 18 rfl).trans h18
    have g_1002_57 := (hfr_g F_1002 57 rfl).trans h57
    have g_1002_66 := (hfr_g F_1002 66 rfl).trans h66
    have g_1002_67 := (hfr_g F_1002 67 rfl).trans h67
    have g_1002_68 := (hfr_g F_1002 68 rfl).trans h68
    have g_1002_69 := (hfr_g F_1002 69 rfl).trans h69
    have g_1002_70 := (hfr_g F_1002 70 rfl).trans h70
    have g_1002_71 := (hfr_g F_1002 71 rfl).trans h71
    have g_1002_72 := (hfr_g F_1002 72 rfl).trans h72
    have g_1002_73 := (hfr_g F_1002 73 rfl).trans h73
    have g_1002_74 := (hfr_g F_1002 74 rfl).trans h74
    have g_1002_75 := (hfr_g F_1002 75 rfl).trans h75
    have g_1002_76 := (hfr_g F_1002 76 rfl).trans h76
    have g_1002_1 : cE h_1002 1 (.inr (6, [.ref 2, fI tn, fI cu, fI fl, fI fp, fI rpl, .ref 3, .ref 4, .ref 5, .ref 6])) := e_1002_1
    have g_1002_2 : cE h_1002 2 (.inl (.byte, fA T)) := e_1002_2
    have g_1002_3 : cE h_1002 3 (.inl (.int, fA C)) := e_1002_3
    have g_1002_4 : cE h_1002 4 (.inl (.int, fA G)) := e_1002_4
    have g_1002_5 : cE h_1002 5 (.inl (.int, fA P)) := e_1002_5
    have g_1002_6 : cE h_1002 6 (.inl (.int, fA B)) := e_1002_6
    refine ⟨if 1 ≤ n ∧ n ≤ 8 then -1000000004 else -1000000002, rfl, ⟨k_1002, _, g_1002_66⟩, ?_⟩
    have gB_1002 := st_gB_t F_1002 (hdj_b rfl) gB
    have gC_1002 := st_gC_t F_1002 (hdj_b rfl) gC
    have gS_1002 := st_gS_t F_1002 (hdj_b rfl) gS
    have gV_1002 := st_gV_t F_1002 (hdj_b rfl) gV
    have gW_1002 := st_gW_t F_1002 (hdj_b rfl) gW
    have gM_1002 := st_gM_t F_1002 (hdj_b rfl) gM
    have gR_1002 := st_gR_t F_1002 (hdj_b rfl) gR
    have gL_1002 := st_gL_t F_1002 (hdj_b rfl) gL
    have gI_1002 := st_gI_t F_1002 (hdj_b rfl) gI
    have gJ_1002 := st_gJ_t F_1002 (hdj_b rfl) gJ
    have hS_1002 := st_hS_t F_1002 (hdj_b rfl) hS
    have hM_1002 := st_hM_t F_1002 (hdj_b rfl) hM
    have hR_1002 := st_hR_t F_1002 (hdj_b rfl) hR
    have hL_1002 := st_hL_t F_1002 (hdj_b rfl) hL
    have hI_1002 := st_hI_t F_1002 (hdj_b rfl) hI
    refine ik_F_mono (rp_feed (f := fun j => ((pl :: 0 :: 0 :: 0 :: (((s : Nat) : Int)) :: 0 :: 0 :: mi :: sd :: 0 :: 0 :: 0 :: 0 :: 0 :: 0 :: 0 :: 0 :: 0 :: 0 :: 0 :: 0 :: 0 :: 0 :: 0 :: w24 :: 0 :: 0 :: 0 :: 0 :: 0 :: 0 :: 0 :: sb :: wa :: 0 :: 0 :: r :: 0 :: 0 :: 0 :: 0 :: 0 :: 0 :: []) : List Int).getD j 0) (tn := tn) (fp := fp) (a0 := sc0) (sd := sc1) (we := sc2) (nu := sc3) (na := sc4) (rp := sc5) (ka := ka) (pa := pa) (fa := fa) (kb := kb) (pb := pb) (fb := fb) (xa := xa) (xb := xb) (cn := cnr) (go := gor) (ch := chr) (T := T2) (M := M) (R := R) (O := O) (A := Ax) (n := n) (b := b) f_tn z_n g_1002_66 g_1002_67 n67 g_1002_68 n68 g_1002_69 n69 g_1002_70 g_1002_71 g_1002_72 n72 g_1002_73 n73 g_1002_74 n74 g_1002_75 n75 g_1002_76 n76 k_1002) ?_
    rintro v_1004 h_1004 (⟨er_1004, e_1004_66, e_1004_72, m_1004_72, e_1004_73, m_1004_73, e_1004_74, m_1004_74, e_1004_75, m_1004_75, e_1004_76, m_1004_76, p_1004_0, F_1004⟩ | ⟨er_1004, e_1004_66, e_1004_72, m_1004_72, e_1004_73, m_1004_73, e_1004_74, m_1004_74, e_1004_75, m_1004_75, e_1004_76, m_1004_76, p_1004_0, F_1004⟩) <;> subst er_1004
    · have k_1004 : cL h_1004 := F_1004.1.trans k_1002
      have g_1004_0 := (hfr_g F_1004 0 rfl).trans g_1002_0
      have g_1004_1 := (hfr_g F_1004 1 rfl).trans g_1002_1
      have g_1004_2 := (hfr_g F_1004 2 rfl).trans g_1002_2
      have g_1004_3 := (hfr_g F_1004 3 rfl).trans g_1002_3
      have g_1004_4 := (hfr_g F_1004 4 rfl).trans g_1002_4
      have g_1004_5 := (hfr_g F_1004 5 rfl).trans g_1002_5
      have g_1004_6 := (hfr_g F_1004 6 rfl).trans g_1002_6
      have g_1004_18 := (hfr_g F_1004 18 rfl).trans g_1002_18
      have g_1004_57 := (hfr_g F_1004 57 rfl).trans g_1002_57
      have g_1004_67 := (hfr_g F_1004 67 rfl).trans g_1002_67
      have g_1004_68 := (hfr_g F_1004 68 rfl).trans g_1002_68
      have g_1004_69 := (hfr_g F_1004 69 rfl).trans g_1002_69
      have g_1004_70 := (hfr_g F_1004 70 rfl).trans g_1002_70
      have g_1004_71 := (hfr_g F_1004 71 rfl).trans g_1002_71
      have g_1004_66 : cE h_1004 66 (.inr (10, (fI pl :: .ref 67 :: .ref 68 :: .ref 69 :: fI ((s : Nat) : Int) :: .ref 70 :: .ref 71 :: fI mi :: fI sd :: .ref 72 :: fI (tn + n) :: fI fp :: fI sc0 :: fJ sc1 :: fI sc2 :: fI sc3 :: fI sc4 :: fI sc5 :: .ref 73 :: .ref 74 :: .ref 75 :: .ref 76 :: .ref 77 :: .ref 78 :: fI w24 :: .ref 79 :: .ref 80 :: .ref 81 :: .ref 82 :: .ref 83 :: .ref 84 :: .ref 85 :: fJ sb :: fJ wa :: .ref 86 :: .ref 87 :: fI r :: .ref 88 :: .ref 89 :: .ref 90 :: .ref 91 :: .ref 92 :: .ref 93 :: []))) := e_1004_66
      have g_1004_72 : cE h_1004 72 (.inl (.int, fA (fd_w (fd_r (Int64.ofInt b)) n.toNat tn T2))) := e_1004_72
      have g_1004_73 : cE h_1004 73 (.inl (.int, fA M)) := e_1004_73
      have g_1004_74 : cE h_1004 74 (.inl (.int, fA R)) := e_1004_74
      have g_1004_75 : cE h_1004 75 (.inl (.int, fA O)) := e_1004_75
      have g_1004_76 : cE h_1004 76 (.inl (.int, fA Ax)) := e_1004_76
      exact absurd p_1004_0 p_1002_0
    · have k_1004 : cL h_1004 := F_1004.1.trans k_1002
      have g_1004_0 := (hfr_g F_1004 0 rfl).trans g_1002_0
      have g_1004_1 := (hfr_g F_1004 1 rfl).trans g_1002_1
      have g_1004_2 := (hfr_g F_1004 2 rfl).trans g_1002_2
      have g_1004_3 := (hfr_g F_1004 3 rfl).trans g_1002_3
      have g_1004_4 := (hfr_g F_1004 4 rfl).trans g_1002_4
      have g_1004_5 := (hfr_g F_1004 5 rfl).trans g_1002_5
      have g_1004_6 := (hfr_g F_1004 6 rfl).trans g_1002_6
      have g_1004_18 := (hfr_g F_1004 18 rfl).trans g_1002_18
      have g_1004_57 := (hfr_g F_1004 57 rfl).trans g_1002_57
      have g_1004_67 := (hfr_g F_1004 67 rfl).trans g_1002_67
      have g_1004_68 := (hfr_g F_1004 68 rfl).trans g_1002_68
      have g_1004_69 := (hfr_g F_1004 69 rfl).trans g_1002_69
      have g_1004_70 := (hfr_g F_1004 70 rfl).trans g_1002_70
      have g_1004_71 := (hfr_g F_1004 71 rfl).trans g_1002_71
      have g_1004_66 : cE h_1004 66 (.inr (10, (fI pl :: .ref 67 :: .ref 68 :: .ref 69 :: fI ((s : Nat) : Int) :: .ref 70 :: .ref 71 :: fI mi :: fI sd :: .ref 72 :: fI tn :: fI fp :: fI sc0 :: fJ sc1 :: fI sc2 :: fI sc3 :: fI sc4 :: fI sc5 :: .ref 73 :: .ref 74 :: .ref 75 :: .ref 76 :: .ref 77 :: .ref 78 :: fI w24 :: .ref 79 :: .ref 80 :: .ref 81 :: .ref 82 :: .ref 83 :: .ref 84 :: .ref 85 :: fJ sb :: fJ wa :: .ref 86 :: .ref 87 :: fI r :: .ref 88 :: .ref 89 :: .ref 90 :: .ref 91 :: .ref 92 :: .ref 93 :: []))) := e_1004_66
      have g_1004_72 : cE h_1004 72 (.inl (.int, fA T2)) := e_1004_72
      have g_1004_73 : cE h_1004 73 (.inl (.int, fA M)) := e_1004_73
      have g_1004_74 : cE h_1004 74 (.inl (.int, fA R)) := e_1004_74
      have g_1004_75 : cE h_1004 75 (.inl (.int, fA O)) := e_1004_75
      have g_1004_76 : cE h_1004 76 (.inl (.int, fA Ax)) := e_1004_76
      refine ⟨rfl, ?_⟩
      have gB_1004 := st_gB_t F_1004 (hdj_b rfl) gB_1002
      have gC_1004 := st_gC_t F_1004 (hdj_b rfl) gC_1002
      have gS_1004 := st_gS_t F_1004 (hdj_b rfl) gS_1002
      have gV_1004 := st_gV_t F_1004 (hdj_b rfl) gV_1002
      have gW_1004 := st_gW_t F_1004 (hdj_b rfl) gW_1002
      have gM_1004 := st_gM_t F_1004 (hdj_b rfl) gM_1002
      have gR_1004 := st_gR_t F_1004 (hdj_b rfl) gR_1002
      have gL_1004 := st_gL_t F_1004 (hdj_b rfl) gL_1002
      have gI_1004 := st_gI_t F_1004 (hdj_b rfl) gI_1002
      have gJ_1004 := st_gJ_t F_1004 (hdj_b rfl) gJ_1002
      have hS_1004 := st_hS_t F_1004 (hdj_b rfl) hS_1002
      have hM_1004 := st_hM_t F_1004 (hdj_b rfl) hM_1002
      have hR_1004 := st_hR_t F_1004 (hdj_b rfl) hR_1002
      have hL_1004 := st_hL_t F_1004 (hdj_b rfl) hL_1002
      have hI_1004 := st_hI_t F_1004 (hdj_b rfl) hI_1002
      intro C_ k_
      exact k_ tn fp pl mi sd ka pa fa kb pb fb xa xb r n0 n1 ga0 gm0 gd_0 gs0 g00 g01 g02 g03 g04 g05 gx0 gy0 ga1 gm1 gd_1 gs1 g10 g11 g12 g13 g14 g15 gx1 gy1 s T cn go ch wg wc we rp rt lr ci0 ci1 cnr gor chr T2 im f_pl f_s f_st f_cb f_cr f_rw f_al f_wy f_k f_p f_x (by first | exact st_m f_m | omega) f_sd f_r f_rr f_n f_l0 f_l1 f_tn f_t (st_I_K f_i0) (st_I_K f_i1) ⟨g_1004_0, g_1004_18, g_1004_57⟩ ⟨cu, fl, rpl, C, G, P, B, g_1004_1, g_1004_2, m_1002_2, g_1004_3, m_1002_3, g_1004_4, m_1002_4, g_1004_5, m_1002_5, g_1004_6, m_1002_6⟩ gB_1004 gC_1004 gS_1004 gV_1004 gW_1004 gM_1004 gR_1004 gL_1004 gI_1004 gJ_1004 ⟨sc0, sc1, sc2, sc3, sc4, sc5, w24, sb, wa, g_1004_66⟩ ⟨g_1004_67, n67, g_1004_68, n68, g_1004_69, n69⟩ ⟨g_1004_70, g_1004_71⟩ ⟨M, R, O, Ax, g_1004_72, m_1004_72, g_1004_73, m_1004_73, g_1004_74, m_1004_74, g_1004_75, m_1004_75, g_1004_76, m_1004_76⟩ hS_1004 hM_1004 hR_1004 hL_1004 hI_1004 k_1004

set_option maxRecDepth 100000 in
theorem lk_stream {K : Nat} {h : List ik_E} (E : st_S K h) (hK : K ≤ 600) : ik_F 91 [.ref 0] h (fun rv h_q => ∃ o_ : Int, rv = [fI o_] ∧ (h_q.length = (94 : Nat) ∧ ∃ fs, h_q[66]? = some (.inr (10, fs))) ∧ ik_F 147 [.ref 66] h_q (fun rv' h'' => rv' = [fI o_] ∧ st_S (K + 1) h'')) := by
  refine E _ ?_
  intro tn fp pl mi sd ka pa fa kb pb fb xa xb r n0 n1 ga0 gm0 gd_0 gs0 g00 g01 g02 g03 g04 g05 gx0 gy0 ga1 gm1 gd_1 gs1 g10 g11 g12 g13 g14 g15 gx1 gy1 s T cn go ch wg wc we rp rt lr ci0 ci1 cnr gor chr T2 im f_pl f_s f_st f_cb f_cr f_rw f_al f_wy f_k f_p f_x f_m f_sd f_r f_rr f_n f_l0 f_l1 f_tn f_t f_i0 f_i1 gA gT gB gC gS gV gW gM gR gL gI gJ hO hB hC hT hS hM hR hL hI hl
  replace f_cb := ik_hid_i f_cb
  replace f_cr := ik_hid_i f_cr
  replace f_p := ik_hid_i f_p
  replace f_x := ik_hid_i f_x
  obtain ⟨h0, h18, h57⟩ := gA
  obtain ⟨cu, fl, rpl, C, G, P, B, h1, h2, n2, h3, n3, h4, n4, h5, n5, h6, n6⟩ := gT
  obtain ⟨h7, h8, n8, h9, n9, h10, n10, h11, n11, h12, n12, h13, n13⟩ := gB
  obtain ⟨h14, h15, h16⟩ := gC
  obtain ⟨h51, h52, n52, h53, n53⟩ := gR
  obtain ⟨h54, h55, n55, h56⟩ := gL
  obtain ⟨h58, h59, h60, h61, n61⟩ := gI
  obtain ⟨h62, h63, h64, h65, n65⟩ := gJ
  obtain ⟨sc0, sc1, sc2, sc3, sc4, sc5, w24, sb, wa, h66⟩ := hO
  obtain ⟨h67, n67, h68, n68, h69, n69⟩ := hB
  obtain ⟨h70, h71⟩ := hC
  obtain ⟨M, R, O, Ax, h72, n72, h73, n73, h74, n74, h75, n75, h76, n76⟩ := hT
  obtain ⟨h90, h91, n91⟩ := hL
  obtain ⟨h92, n92, h93⟩ := hI
  refine ik_F_mono (cp_stream (tn := tn) (cu := cu) (fl := fl) (fp := fp) (rpl := rpl) (T := T) (C := C) (G := G) (P := P) (B := B) (y := (fun i => T2.getD i.toNat 0)) (pl := pl) (st := ((s : Nat) : Int)) (lo := ((mj_lost pl cn go : Nat) : Int)) (mi := mi) (dr := sd) (r := r) (n0 := n0) (n1 := n1) (ka := ka) (pa := pa) (fa := fa) (kb := kb) (pb := pb) (fb := fb) (xa := xa) (xb := xb) (cn := cn) (go := go) (ch := ch) (wg := wg) (wc := wc) (we := we) (ta0 := ga0) (tm0 := gm0) (td0 := gd_0) (ts0 := gs0) (ta1 := ga1) (tm1 := gm1) (td1 := gd_1) (ts1 := gs1) (fun i i0 i1 => (f_t i i0 i1).1) f_tn (fun i i0 i1 => (f_t i i0 i1).2) h0 h1 h2 n2 h3 n3 h4 n4 h5 n5 h6 n6 h7 h8 n8 h9 n9 h10 n10 h11 n11 h12 n12 h13 n13 h14 h15 h16 h51 h54 h56 h57 h58 h62 hl) ?_
  rintro v_1005 h_1005 (⟨e_1005, cu'_1005, rpl'_1005, C'_1005, G'_1005, P'_1005, B'_1005, er_1005, e_1005_1, e_1005_2, m_1005_2, e_1005_3, m_1005_3, e_1005_4, m_1005_4, e_1005_5, m_1005_5, e_1005_6, m_1005_6, e_1005_7, e_1005_8, m_1005_8, e_1005_9, m_1005_9, e_1005_10, m_1005_10, e_1005_11, m_1005_11, e_1005_12, m_1005_12, e_1005_13, m_1005_13, e_1005_14, e_1005_15, e_1005_16, e_1005_51, e_1005_56, e_1005_58, e_1005_62, p_1005_0, F_1005⟩ | ⟨q_1005, cu'_1005, C'_1005, G'_1005, P'_1005, B'_1005, wg'_1005, wc'_1005, we'_1005, er_1005, e_1005_1, e_1005_2, m_1005_2, e_1005_3, m_1005_3, e_1005_4, m_1005_4, e_1005_5, m_1005_5, e_1005_6, m_1005_6, e_1005_7, e_1005_8, m_1005_8, e_1005_9, m_1005_9, e_1005_10, m_1005_10, e_1005_11, m_1005_11, e_1005_12, m_1005_12, e_1005_13, m_1005_13, e_1005_14, e_1005_15, e_1005_16, e_1005_51, e_1005_56, e_1005_58, e_1005_62, p_1005_0, p_1005_1, p_1005_2, p_1005_3, p_1005_4, F_1005⟩) <;> subst er_1005
  · have k_1005 : cL h_1005 := F_1005.1.trans hl
    have g_1005_0 := (hfr_g F_1005 0 rfl).trans h0
    have g_1005_18 := (hfr_g F_1005 18 rfl).trans h18
    have g_1005_52 := (hfr_g F_1005 52 rfl).trans h52
    have g_1005_53 := (hfr_g F_1005 53 rfl).trans h53
    have g_1005_54 := (hfr_g F_1005 54 rfl).trans h54
    have g_1005_55 := (hfr_g F_1005 55 rfl).trans h55
    have g_1005_57 := (hfr_g F_1005 57 rfl).trans h57
    have g_1005_59 := (hfr_g F_1005 59 rfl).trans h59
    have g_1005_60 := (hfr_g F_1005 60 rfl).trans h60
    have g_1005_61 := (hfr_g F_1005 61 rfl).trans h61
    have g_1005_63 := (hfr_g F_1005 63 rfl).trans h63
    have g_1005_64 := (hfr_g F_1005 64 rfl).trans h64
    have g_1005_65 := (hfr_g F_1005 65 rfl).trans h65
    have g_1005_66 := (hfr_g F_1005 66 rfl).trans h66
    have g_1005_67 := (hfr_g F_1005 67 rfl).trans h67
    have g_1005_68 := (hfr_g F_1005 68 rfl).trans h68
    have g_1005_69 := (hfr_g F_1005 69 rfl).trans h69
    have g_1005_70 := (hfr_g F_1005 70 rfl).trans h70
    have g_1005_71 := (hfr_g F_1005 71 rfl).trans h71
    have g_1005_72 := (hfr_g F_1005 72 rfl).trans h72
    have g_1005_73 := (hfr_g F_1005 73 rfl).trans h73
    have g_1005_74 := (hfr_g F_1005 74 rfl).trans h74
    have g_1005_75 := (hfr_g F_1005 75 rfl).trans h75
    have g_1005_76 := (hfr_g F_1005 76 rfl).trans h76
    have g_1005_90 := (hfr_g F_1005 90 rfl).trans h90
    have g_1005_91 := (hfr_g F_1005 91 rfl).trans h91
    have g_1005_92 := (hfr_g F_1005 92 rfl).trans h92
    have g_1005_93 := (hfr_g F_1005 93 rfl).trans h93
    have g_1005_1 : cE h_1005 1 (.inr (6, [.ref 2, fI 0, fI cu'_1005, fI e_1005.1, fI e_1005.2, fI rpl'_1005, .ref 3, .ref 4, .ref 5, .ref 6])) := e_1005_1
    have g_1005_2 : cE h_1005 2 (.inl (.byte, fA T)) := e_1005_2
    have g_1005_3 : cE h_1005 3 (.inl (.int, fA C'_1005)) := e_1005_3
    have g_1005_4 : cE h_1005 4 (.inl (.int, fA G'_1005)) := e_1005_4
    have g_1005_5 : cE h_1005 5 (.inl (.int, fA P'_1005)) := e_1005_5
    have g_1005_6 : cE h_1005 6 (.inl (.int, fA B'_1005)) := e_1005_6
    have g_1005_7 : cE h_1005 7 (.inr (0, [fI pl, fI ((s : Nat) : Int), fI ((mj_lost pl cn go : Nat) : Int), .ref 8, .ref 9, .ref 10, .ref 11, .ref 12, .ref 13])) := e_1005_7
    have g_1005_8 : cE h_1005 8 (.inl (.int, fA cn)) := e_1005_8
    have g_1005_9 : cE h_1005 9 (.inl (.int, fA go)) := e_1005_9
    have g_1005_10 : cE h_1005 10 (.inl (.int, fA ch)) := e_1005_10
    have g_1005_11 : cE h_1005 11 (.inl (.int, fA wg)) := e_1005_11
    have g_1005_12 : cE h_1005 12 (.inl (.int, fA wc)) := e_1005_12
    have g_1005_13 : cE h_1005 13 (.inl (.int, fA we)) := e_1005_13
    have g_1005_14 : cE h_1005 14 (.inr (1, [.ref 7, .ref 15, .ref 16, fI mi, fJ sd])) := e_1005_14
    have g_1005_15 : cE h_1005 15 (.inl (.int, fA [ka, pa, fa, kb, pb, fb])) := e_1005_15
    have g_1005_16 : cE h_1005 16 (.inl (.int, fA [xa, xb])) := e_1005_16
    have g_1005_51 : cE h_1005 51 (.inr (7, [.ref 7, fI r, .ref 52, .ref 53])) := e_1005_51
    have g_1005_56 : cE h_1005 56 (.inl (.int, fA [n0, n1])) := e_1005_56
    have g_1005_58 : cE h_1005 58 (.inr (3, [fI ga0, .ref 59, .ref 60, fI gm0, fJ gd_0, fI gs0, .ref 61])) := e_1005_58
    have g_1005_62 : cE h_1005 62 (.inr (3, [fI ga1, .ref 63, .ref 64, fI gm1, fJ gd_1, fI gs1, .ref 65])) := e_1005_62
    refine ⟨-10 - e_1005.1, rfl, ⟨k_1005, _, g_1005_66⟩, ?_⟩
    have gS_1005 := st_gS_t F_1005 (hdj_b rfl) gS
    have gV_1005 := st_gV_t F_1005 (hdj_b rfl) gV
    have gW_1005 := st_gW_t F_1005 (hdj_b rfl) gW
    have gM_1005 := st_gM_t F_1005 (hdj_b rfl) gM
    have hS_1005 := st_hS_t F_1005 (hdj_b rfl) hS
    have hM_1005 := st_hM_t F_1005 (hdj_b rfl) hM
    have hR_1005 := st_hR_t F_1005 (hdj_b rfl) hR
    refine ik_F_mono (rp_stream (f := fun j => ((pl :: 0 :: 0 :: 0 :: (((s : Nat) : Int)) :: 0 :: 0 :: mi :: sd :: 0 :: 0 :: 0 :: 0 :: 0 :: 0 :: 0 :: 0 :: 0 :: 0 :: 0 :: 0 :: 0 :: 0 :: 0 :: w24 :: 0 :: 0 :: 0 :: 0 :: 0 :: 0 :: 0 :: sb :: wa :: 0 :: 0 :: r :: 0 :: 0 :: 0 :: 0 :: 0 :: 0 :: []) : List Int).getD j 0) (tn := tn) (fp := fp) (a0 := sc0) (sd := sc1) (we := sc2) (nu := sc3) (na := sc4) (rp := sc5) (ka := ka) (pa := pa) (fa := fa) (kb := kb) (pb := pb) (fb := fb) (xa := xa) (xb := xb) (cn := cnr) (go := gor) (ch := chr) (T := T2) (M := M) (Rq := R) (O := O) (A := Ax) (y := (fun i => T2.getD i.toNat 0)) (n0 := n0) (n1 := n1) (t0 := ga0) (t1 := ga1) (fun i i0 i1 => by have := f_t i i0 i1; omega) f_tn (fun i i0 i1 => rfl) g_1005_66 g_1005_67 n67 g_1005_68 n68 g_1005_69 n69 g_1005_70 g_1005_71 g_1005_72 n72 g_1005_73 n73 g_1005_74 n74 g_1005_75 n75 g_1005_76 n76 g_1005_90 g_1005_93 k_1005) ?_
    rintro v_1006 h_1006 (⟨e_1006, a0'_1006, sd'_1006, we'_1006, nu'_1006, na'_1006, rp'_1006, M'_1006, R'_1006, O'_1006, A'_1006, er_1006, e_1006_66, e_1006_72, m_1006_72, e_1006_73, m_1006_73, e_1006_74, m_1006_74, e_1006_75, m_1006_75, e_1006_76, m_1006_76, e_1006_67, m_1006_67, e_1006_68, m_1006_68, e_1006_69, m_1006_69, e_1006_70, e_1006_71, e_1006_90, e_1006_93, p_1006_0, F_1006⟩ | ⟨q_1006, a0'_1006, sd'_1006, we'_1006, nu'_1006, na'_1006, M'_1006, R'_1006, O'_1006, A'_1006, cn'_1006, er_1006, e_1006_66, e_1006_72, m_1006_72, e_1006_73, m_1006_73, e_1006_74, m_1006_74, e_1006_75, m_1006_75, e_1006_76, m_1006_76, e_1006_67, m_1006_67, e_1006_68, m_1006_68, e_1006_69, m_1006_69, e_1006_70, e_1006_71, e_1006_90, e_1006_93, p_1006_0, p_1006_1, p_1006_2, p_1006_3, p_1006_4, F_1006⟩) <;> subst er_1006
    · have k_1006 : cL h_1006 := F_1006.1.trans k_1005
      have g_1006_0 := (hfr_g F_1006 0 rfl).trans g_1005_0
      have g_1006_1 := (hfr_g F_1006 1 rfl).trans g_1005_1
      have g_1006_2 := (hfr_g F_1006 2 rfl).trans g_1005_2
      have g_1006_3 := (hfr_g F_1006 3 rfl).trans g_1005_3
      have g_1006_4 := (hfr_g F_1006 4 rfl).trans g_1005_4
      have g_1006_5 := (hfr_g F_1006 5 rfl).trans g_1005_5
      have g_1006_6 := (hfr_g F_1006 6 rfl).trans g_1005_6
      have g_1006_7 := (hfr_g F_1006 7 rfl).trans g_1005_7
      have g_1006_8 := (hfr_g F_1006 8 rfl).trans g_1005_8
      have g_1006_9 := (hfr_g F_1006 9 rfl).trans g_1005_9
      have g_1006_10 := (hfr_g F_1006 10 rfl).trans g_1005_10
      have g_1006_11 := (hfr_g F_1006 11 rfl).trans g_1005_11
      have g_1006_12 := (hfr_g F_1006 12 rfl).trans g_1005_12
      have g_1006_13 := (hfr_g F_1006 13 rfl).trans g_1005_13
      have g_1006_14 := (hfr_g F_1006 14 rfl).trans g_1005_14
      have g_1006_15 := (hfr_g F_1006 15 rfl).trans g_1005_15
      have g_1006_16 := (hfr_g F_1006 16 rfl).trans g_1005_16
      have g_1006_18 := (hfr_g F_1006 18 rfl).trans g_1005_18
      have g_1006_51 := (hfr_g F_1006 51 rfl).trans g_1005_51
      have g_1006_52 := (hfr_g F_1006 52 rfl).trans g_1005_52
      have g_1006_53 := (hfr_g F_1006 53 rfl).trans g_1005_53
      have g_1006_54 := (hfr_g F_1006 54 rfl).trans g_1005_54
      have g_1006_55 := (hfr_g F_1006 55 rfl).trans g_1005_55
      have g_1006_56 := (hfr_g F_1006 56 rfl).trans g_1005_56
      have g_1006_57 := (hfr_g F_1006 57 rfl).trans g_1005_57
      have g_1006_58 := (hfr_g F_1006 58 rfl).trans g_1005_58
      have g_1006_59 := (hfr_g F_1006 59 rfl).trans g_1005_59
      have g_1006_60 := (hfr_g F_1006 60 rfl).trans g_1005_60
      have g_1006_61 := (hfr_g F_1006 61 rfl).trans g_1005_61
      have g_1006_62 := (hfr_g F_1006 62 rfl).trans g_1005_62
      have g_1006_63 := (hfr_g F_1006 63 rfl).trans g_1005_63
      have g_1006_64 := (hfr_g F_1006 64 rfl).trans g_1005_64
      have g_1006_65 := (hfr_g F_1006 65 rfl).trans g_1005_65
      have g_1006_91 := (hfr_g F_1006 91 rfl).trans g_1005_91
      have g_1006_92 := (hfr_g F_1006 92 rfl).trans g_1005_92
      have g_1006_66 : cE h_1006 66 (.inr (10, (fI pl :: .ref 67 :: .ref 68 :: .ref 69 :: fI ((s : Nat) : Int) :: .ref 70 :: .ref 71 :: fI mi :: fI sd :: .ref 72 :: fI 0 :: fI e_1006.2 :: fI a0'_1006 :: fJ sd'_1006 :: fI we'_1006 :: fI nu'_1006 :: fI na'_1006 :: fI rp'_1006 :: .ref 73 :: .ref 74 :: .ref 75 :: .ref 76 :: .ref 77 :: .ref 78 :: fI w24 :: .ref 79 :: .ref 80 :: .ref 81 :: .ref 82 :: .ref 83 :: .ref 84 :: .ref 85 :: fJ sb :: fJ wa :: .ref 86 :: .ref 87 :: fI r :: .ref 88 :: .ref 89 :: .ref 90 :: .ref 91 :: .ref 92 :: .ref 93 :: []))) := e_1006_66
      have g_1006_72 : cE h_1006 72 (.inl (.int, fA T2)) := e_1006_72
      have g_1006_73 : cE h_1006 73 (.inl (.int, fA M'_1006)) := e_1006_73
      have g_1006_74 : cE h_1006 74 (.inl (.int, fA R'_1006)) := e_1006_74
      have g_1006_75 : cE h_1006 75 (.inl (.int, fA O'_1006)) := e_1006_75
      have g_1006_76 : cE h_1006 76 (.inl (.int, fA A'_1006)) := e_1006_76
      have g_1006_67 : cE h_1006 67 (.inl (.int, fA cnr)) := e_1006_67
      have g_1006_68 : cE h_1006 68 (.inl (.int, fA gor)) := e_1006_68
      have g_1006_69 : cE h_1006 69 (.inl (.int, fA chr)) := e_1006_69
      have g_1006_70 : cE h_1006 70 (.inl (.int, fA [ka, pa, fa, kb, pb, fb])) := e_1006_70
      have g_1006_71 : cE h_1006 71 (.inl (.int, fA [xa, xb])) := e_1006_71
      have g_1006_90 : cE h_1006 90 (.inl (.int, fA [n0, n1])) := e_1006_90
      have g_1006_93 : cE h_1006 93 (.inl (.boolean, fA [ga0, ga1])) := e_1006_93
      have eq_ : e_1005 = e_1006 := Sum.inl.inj (p_1005_0.symm.trans p_1006_0)
      subst eq_
      refine ⟨rfl, ?_⟩
      have gS_1006 := st_gS_t F_1006 (hdj_b rfl) gS_1005
      have gV_1006 := st_gV_t F_1006 (hdj_b rfl) gV_1005
      have gW_1006 := st_gW_t F_1006 (hdj_b rfl) gW_1005
      have gM_1006 := st_gM_t F_1006 (hdj_b rfl) gM_1005
      have hS_1006 := st_hS_t F_1006 (hdj_b rfl) hS_1005
      have hM_1006 := st_hM_t F_1006 (hdj_b rfl) hM_1005
      have hR_1006 := st_hR_t F_1006 (hdj_b rfl) hR_1005
      intro C_ k_
      exact k_ 0 e_1005.2 pl mi sd ka pa fa kb pb fb xa xb r n0 n1 ga0 gm0 gd_0 gs0 g00 g01 g02 g03 g04 g05 gx0 gy0 ga1 gm1 gd_1 gs1 g10 g11 g12 g13 g14 g15 gx1 gy1 s T cn go ch wg wc we rp rt lr ci0 ci1 cnr gor chr T2 im f_pl f_s f_st f_cb f_cr f_rw f_al f_wy f_k f_p f_x (by first | exact st_m f_m | omega) f_sd f_r f_rr f_n f_l0 f_l1 (by decide +kernel) (fun i i0 i1 => absurd i1 (by omega)) (st_I_K f_i0) (st_I_K f_i1) ⟨g_1006_0, g_1006_18, g_1006_57⟩ ⟨cu'_1005, e_1005.1, rpl'_1005, C'_1005, G'_1005, P'_1005, B'_1005, g_1006_1, g_1006_2, m_1005_2, g_1006_3, m_1005_3, g_1006_4, m_1005_4, g_1006_5, m_1005_5, g_1006_6, m_1005_6⟩ ⟨g_1006_7, g_1006_8, m_1005_8, g_1006_9, m_1005_9, g_1006_10, m_1005_10, g_1006_11, m_1005_11, g_1006_12, m_1005_12, g_1006_13, m_1005_13⟩ ⟨g_1006_14, g_1006_15, g_1006_16⟩ gS_1006 gV_1006 gW_1006 gM_1006 ⟨g_1006_51, g_1006_52, n52, g_1006_53, n53⟩ ⟨g_1006_54, g_1006_55, n55, g_1006_56⟩ ⟨g_1006_58, g_1006_59, g_1006_60, g_1006_61, n61⟩ ⟨g_1006_62, g_1006_63, g_1006_64, g_1006_65, n65⟩ ⟨a0'_1006, sd'_1006, we'_1006, nu'_1006, na'_1006, rp'_1006, w24, sb, wa, g_1006_66⟩ ⟨g_1006_67, m_1006_67, g_1006_68, m_1006_68, g_1006_69, m_1006_69⟩ ⟨g_1006_70, g_1006_71⟩ ⟨M'_1006, R'_1006, O'_1006, A'_1006, g_1006_72, m_1006_72, g_1006_73, m_1006_73, g_1006_74, m_1006_74, g_1006_75, m_1006_75, g_1006_76, m_1006_76⟩ hS_1006 hM_1006 hR_1006 ⟨g_1006_90, g_1006_91, n91⟩ ⟨g_1006_92, n92, g_1006_93⟩ k_1006
    · have k_1006 : cL h_1006 := F_1006.1.trans k_1005
      have g_1006_0 := (hfr_g F_1006 0 rfl).trans g_1005_0
      have g_1006_1 := (hfr_g F_1006 1 rfl).trans g_1005_1
      have g_1006_2 := (hfr_g F_1006 2 rfl).trans g_1005_2
      have g_1006_3 := (hfr_g F_1006 3 rfl).trans g_1005_3
      have g_1006_4 := (hfr_g F_1006 4 rfl).trans g_1005_4
      have g_1006_5 := (hfr_g F_1006 5 rfl).trans g_1005_5
      have g_1006_6 := (hfr_g F_1006 6 rfl).trans g_1005_6
      have g_1006_7 := (hfr_g F_1006 7 rfl).trans g_1005_7
      have g_1006_8 := (hfr_g F_1006 8 rfl).trans g_1005_8
      have g_1006_9 := (hfr_g F_1006 9 rfl).trans g_1005_9
      have g_1006_10 := (hfr_g F_1006 10 rfl).trans g_1005_10
      have g_1006_11 := (hfr_g F_1006 11 rfl).trans g_1005_11
      have g_1006_12 := (hfr_g F_1006 12 rfl).trans g_1005_12
      have g_1006_13 := (hfr_g F_1006 13 rfl).trans g_1005_13
      have g_1006_14 := (hfr_g F_1006 14 rfl).trans g_1005_14
      have g_1006_15 := (hfr_g F_1006 15 rfl).trans g_1005_15
      have g_1006_16 := (hfr_g F_1006 16 rfl).trans g_1005_16
      have g_1006_18 := (hfr_g F_1006 18 rfl).trans g_1005_18
      have g_1006_51 := (hfr_g F_1006 51 rfl).trans g_1005_51
      have g_1006_52 := (hfr_g F_1006 52 rfl).trans g_1005_52
      have g_1006_53 := (hfr_g F_1006 53 rfl).trans g_1005_53
      have g_1006_54 := (hfr_g F_1006 54 rfl).trans g_1005_54
      have g_1006_55 := (hfr_g F_1006 55 rfl).trans g_1005_55
      have g_1006_56 := (hfr_g F_1006 56 rfl).trans g_1005_56
      have g_1006_57 := (hfr_g F_1006 57 rfl).trans g_1005_57
      have g_1006_58 := (hfr_g F_1006 58 rfl).trans g_1005_58
      have g_1006_59 := (hfr_g F_1006 59 rfl).trans g_1005_59
      have g_1006_60 := (hfr_g F_1006 60 rfl).trans g_1005_60
      have g_1006_61 := (hfr_g F_1006 61 rfl).trans g_1005_61
      have g_1006_62 := (hfr_g F_1006 62 rfl).trans g_1005_62
      have g_1006_63 := (hfr_g F_1006 63 rfl).trans g_1005_63
      have g_1006_64 := (hfr_g F_1006 64 rfl).trans g_1005_64
      have g_1006_65 := (hfr_g F_1006 65 rfl).trans g_1005_65
      have g_1006_91 := (hfr_g F_1006 91 rfl).trans g_1005_91
      have g_1006_92 := (hfr_g F_1006 92 rfl).trans g_1005_92
      have g_1006_66 : cE h_1006 66 (.inr (10, (fI q_1006.1 :: .ref 67 :: .ref 68 :: .ref 69 :: fI 0 :: .ref 70 :: .ref 71 :: fI 0 :: fI sd :: .ref 72 :: fI 0 :: fI (-1) :: fI a0'_1006 :: fJ sd'_1006 :: fI we'_1006 :: fI nu'_1006 :: fI na'_1006 :: fI q_1006.1 :: .ref 73 :: .ref 74 :: .ref 75 :: .ref 76 :: .ref 77 :: .ref 78 :: fI w24 :: .ref 79 :: .ref 80 :: .ref 81 :: .ref 82 :: .ref 83 :: .ref 84 :: .ref 85 :: fJ sb :: fJ wa :: .ref 86 :: .ref 87 :: fI 0 :: .ref 88 :: .ref 89 :: .ref 90 :: .ref 91 :: .ref 92 :: .ref 93 :: []))) := e_1006_66
      have g_1006_72 : cE h_1006 72 (.inl (.int, fA T2)) := e_1006_72
      have g_1006_73 : cE h_1006 73 (.inl (.int, fA M'_1006)) := e_1006_73
      have g_1006_74 : cE h_1006 74 (.inl (.int, fA R'_1006)) := e_1006_74
      have g_1006_75 : cE h_1006 75 (.inl (.int, fA O'_1006)) := e_1006_75
      have g_1006_76 : cE h_1006 76 (.inl (.int, fA A'_1006)) := e_1006_76
      have g_1006_67 : cE h_1006 67 (.inl (.int, fA cn'_1006)) := e_1006_67
      have g_1006_68 : cE h_1006 68 (.inl (.int, fA R'_1006)) := e_1006_68
      have g_1006_69 : cE h_1006 69 (.inl (.int, fA O'_1006)) := e_1006_69
      have g_1006_70 : cE h_1006 70 (.inl (.int, fA [0, 0, 0, 0, 0, 0])) := e_1006_70
      have g_1006_71 : cE h_1006 71 (.inl (.int, fA [0, 0])) := e_1006_71
      have g_1006_90 : cE h_1006 90 (.inl (.int, fA [0, 0])) := e_1006_90
      have g_1006_93 : cE h_1006 93 (.inl (.boolean, fA [0, 0])) := e_1006_93
      cases (p_1005_0.symm.trans p_1006_0)
  · have k_1005 : cL h_1005 := F_1005.1.trans hl
    have g_1005_0 := (hfr_g F_1005 0 rfl).trans h0
    have g_1005_18 := (hfr_g F_1005 18 rfl).trans h18
    have g_1005_52 := (hfr_g F_1005 52 rfl).trans h52
    have g_1005_53 := (hfr_g F_1005 53 rfl).trans h53
    have g_1005_54 := (hfr_g F_1005 54 rfl).trans h54
    have g_1005_55 := (hfr_g F_1005 55 rfl).trans h55
    have g_1005_57 := (hfr_g F_1005 57 rfl).trans h57
    have g_1005_59 := (hfr_g F_1005 59 rfl).trans h59
    have g_1005_60 := (hfr_g F_1005 60 rfl).trans h60
    have g_1005_61 := (hfr_g F_1005 61 rfl).trans h61
    have g_1005_63 := (hfr_g F_1005 63 rfl).trans h63
    have g_1005_64 := (hfr_g F_1005 64 rfl).trans h64
    have g_1005_65 := (hfr_g F_1005 65 rfl).trans h65
    have g_1005_66 := (hfr_g F_1005 66 rfl).trans h66
    have g_1005_67 := (hfr_g F_1005 67 rfl).trans h67
    have g_1005_68 := (hfr_g F_1005 68 rfl).trans h68
    have g_1005_69 := (hfr_g F_1005 69 rfl).trans h69
    have g_1005_70 := (hfr_g F_1005 70 rfl).trans h70
    have g_1005_71 := (hfr_g F_1005 71 rfl).trans h71
    have g_1005_72 := (hfr_g F_1005 72 rfl).trans h72
    have g_1005_73 := (hfr_g F_1005 73 rfl).trans h73
    have g_1005_74 := (hfr_g F_1005 74 rfl).trans h74
    have g_1005_75 := (hfr_g F_1005 75 rfl).trans h75
    have g_1005_76 := (hfr_g F_1005 76 rfl).trans h76
    have g_1005_90 := (hfr_g F_1005 90 rfl).trans h90
    have g_1005_91 := (hfr_g F_1005 91 rfl).trans h91
    have g_1005_92 := (hfr_g F_1005 92 rfl).trans h92
    have g_1005_93 := (hfr_g F_1005 93 rfl).trans h93
    have g_1005_1 : cE h_1005 1 (.inr (6, [.ref 2, fI 0, fI cu'_1005, fI 0, fI (-1), fI q_1005.1, .ref 3, .ref 4, .ref 5, .ref 6])) := e_1005_1
    have g_1005_2 : cE h_1005 2 (.inl (.byte, fA T)) := e_1005_2
    have g_1005_3 : cE h_1005 3 (.inl (.int, fA C'_1005)) := e_1005_3
    have g_1005_4 : cE h_1005 4 (.inl (.int, fA G'_1005)) := e_1005_4
    have g_1005_5 : cE h_1005 5 (.inl (.int, fA P'_1005)) := e_1005_5
    have g_1005_6 : cE h_1005 6 (.inl (.int, fA B'_1005)) := e_1005_6
    have g_1005_7 : cE h_1005 7 (.inr (0, [fI q_1005.1, fI 0, fI ((mj_lost q_1005.1 C'_1005 G'_1005 : Nat) : Int), .ref 8, .ref 9, .ref 10, .ref 11, .ref 12, .ref 13])) := e_1005_7
    have g_1005_8 : cE h_1005 8 (.inl (.int, fA C'_1005)) := e_1005_8
    have g_1005_9 : cE h_1005 9 (.inl (.int, fA G'_1005)) := e_1005_9
    have g_1005_10 : cE h_1005 10 (.inl (.int, fA P'_1005)) := e_1005_10
    have g_1005_11 : cE h_1005 11 (.inl (.int, fA wg'_1005)) := e_1005_11
    have g_1005_12 : cE h_1005 12 (.inl (.int, fA wc'_1005)) := e_1005_12
    have g_1005_13 : cE h_1005 13 (.inl (.int, fA we'_1005)) := e_1005_13
    have g_1005_14 : cE h_1005 14 (.inr (1, [.ref 7, .ref 15, .ref 16, fI 0, fJ sd])) := e_1005_14
    have g_1005_15 : cE h_1005 15 (.inl (.int, fA [0, 0, 0, 0, 0, 0])) := e_1005_15
    have g_1005_16 : cE h_1005 16 (.inl (.int, fA [0, 0])) := e_1005_16
    have g_1005_51 : cE h_1005 51 (.inr (7, [.ref 7, fI 0, .ref 52, .ref 53])) := e_1005_51
    have g_1005_56 : cE h_1005 56 (.inl (.int, fA [0, 0])) := e_1005_56
    have g_1005_58 : cE h_1005 58 (.inr (3, [fI 0, .ref 59, .ref 60, fI gm0, fJ gd_0, fI gs0, .ref 61])) := e_1005_58
    have g_1005_62 : cE h_1005 62 (.inr (3, [fI 0, .ref 63, .ref 64, fI gm1, fJ gd_1, fI gs1, .ref 65])) := e_1005_62
    refine ⟨q_1005.1, rfl, ⟨k_1005, _, g_1005_66⟩, ?_⟩
    have gS_1005 := st_gS_t F_1005 (hdj_b rfl) gS
    have gV_1005 := st_gV_t F_1005 (hdj_b rfl) gV
    have gW_1005 := st_gW_t F_1005 (hdj_b rfl) gW
    have gM_1005 := st_gM_t F_1005 (hdj_b rfl) gM
    have hS_1005 := st_hS_t F_1005 (hdj_b rfl) hS
    have hM_1005 := st_hM_t F_1005 (hdj_b rfl) hM
    have hR_1005 := st_hR_t F_1005 (hdj_b rfl) hR
    refine ik_F_mono (rp_stream (f := fun j => ((pl :: 0 :: 0 :: 0 :: (((s : Nat) : Int)) :: 0 :: 0 :: mi :: sd :: 0 :: 0 :: 0 :: 0 :: 0 :: 0 :: 0 :: 0 :: 0 :: 0 :: 0 :: 0 :: 0 :: 0 :: 0 :: w24 :: 0 :: 0 :: 0 :: 0 :: 0 :: 0 :: 0 :: sb :: wa :: 0 :: 0 :: r :: 0 :: 0 :: 0 :: 0 :: 0 :: 0 :: []) : List Int).getD j 0) (tn := tn) (fp := fp) (a0 := sc0) (sd := sc1) (we := sc2) (nu := sc3) (na := sc4) (rp := sc5) (ka := ka) (pa := pa) (fa := fa) (kb := kb) (pb := pb) (fb := fb) (xa := xa) (xb := xb) (cn := cnr) (go := gor) (ch := chr) (T := T2) (M := M) (Rq := R) (O := O) (A := Ax) (y := (fun i => T2.getD i.toNat 0)) (n0 := n0) (n1 := n1) (t0 := ga0) (t1 := ga1) (fun i i0 i1 => by have := f_t i i0 i1; omega) f_tn (fun i i0 i1 => rfl) g_1005_66 g_1005_67 n67 g_1005_68 n68 g_1005_69 n69 g_1005_70 g_1005_71 g_1005_72 n72 g_1005_73 n73 g_1005_74 n74 g_1005_75 n75 g_1005_76 n76 g_1005_90 g_1005_93 k_1005) ?_
    rintro v_1007 h_1007 (⟨e_1007, a0'_1007, sd'_1007, we'_1007, nu'_1007, na'_1007, rp'_1007, M'_1007, R'_1007, O'_1007, A'_1007, er_1007, e_1007_66, e_1007_72, m_1007_72, e_1007_73, m_1007_73, e_1007_74, m_1007_74, e_1007_75, m_1007_75, e_1007_76, m_1007_76, e_1007_67, m_1007_67, e_1007_68, m_1007_68, e_1007_69, m_1007_69, e_1007_70, e_1007_71, e_1007_90, e_1007_93, p_1007_0, F_1007⟩ | ⟨q_1007, a0'_1007, sd'_1007, we'_1007, nu'_1007, na'_1007, M'_1007, R'_1007, O'_1007, A'_1007, cn'_1007, er_1007, e_1007_66, e_1007_72, m_1007_72, e_1007_73, m_1007_73, e_1007_74, m_1007_74, e_1007_75, m_1007_75, e_1007_76, m_1007_76, e_1007_67, m_1007_67, e_1007_68, m_1007_68, e_1007_69, m_1007_69, e_1007_70, e_1007_71, e_1007_90, e_1007_93, p_1007_0, p_1007_1, p_1007_2, p_1007_3, p_1007_4, F_1007⟩) <;> subst er_1007
    · have k_1007 : cL h_1007 := F_1007.1.trans k_1005
      have g_1007_0 := (hfr_g F_1007 0 rfl).trans g_1005_0
      have g_1007_1 := (hfr_g F_1007 1 rfl).trans g_1005_1
      have g_1007_2 := (hfr_g F_1007 2 rfl).trans g_1005_2
      have g_1007_3 := (hfr_g F_1007 3 rfl).trans g_1005_3
      have g_1007_4 := (hfr_g F_1007 4 rfl).trans g_1005_4
      have g_1007_5 := (hfr_g F_1007 5 rfl).trans g_1005_5
      have g_1007_6 := (hfr_g F_1007 6 rfl).trans g_1005_6
      have g_1007_7 := (hfr_g F_1007 7 rfl).trans g_1005_7
      have g_1007_8 := (hfr_g F_1007 8 rfl).trans g_1005_8
      have g_1007_9 := (hfr_g F_1007 9 rfl).trans g_1005_9
      have g_1007_10 := (hfr_g F_1007 10 rfl).trans g_1005_10
      have g_1007_11 := (hfr_g F_1007 11 rfl).trans g_1005_11
      have g_1007_12 := (hfr_g F_1007 12 rfl).trans g_1005_12
      have g_1007_13 := (hfr_g F_1007 13 rfl).trans g_1005_13
      have g_1007_14 := (hfr_g F_1007 14 rfl).trans g_1005_14
      have g_1007_15 := (hfr_g F_1007 15 rfl).trans g_1005_15
      have g_1007_16 := (hfr_g F_1007 16 rfl).trans g_1005_16
      have g_1007_18 := (hfr_g F_1007 18 rfl).trans g_1005_18
      have g_1007_51 := (hfr_g F_1007 51 rfl).trans g_1005_51
      have g_1007_52 := (hfr_g F_1007 52 rfl).trans g_1005_52
      have g_1007_53 := (hfr_g F_1007 53 rfl).trans g_1005_53
      have g_1007_54 := (hfr_g F_1007 54 rfl).trans g_1005_54
      have g_1007_55 := (hfr_g F_1007 55 rfl).trans g_1005_55
      have g_1007_56 := (hfr_g F_1007 56 rfl).trans g_1005_56
      have g_1007_57 := (hfr_g F_1007 57 rfl).trans g_1005_57
      have g_1007_58 := (hfr_g F_1007 58 rfl).trans g_1005_58
      have g_1007_59 := (hfr_g F_1007 59 rfl).trans g_1005_59
      have g_1007_60 := (hfr_g F_1007 60 rfl).trans g_1005_60
      have g_1007_61 := (hfr_g F_1007 61 rfl).trans g_1005_61
      have g_1007_62 := (hfr_g F_1007 62 rfl).trans g_1005_62
      have g_1007_63 := (hfr_g F_1007 63 rfl).trans g_1005_63
      have g_1007_64 := (hfr_g F_1007 64 rfl).trans g_1005_64
      have g_1007_65 := (hfr_g F_1007 65 rfl).trans g_1005_65
      have g_1007_91 := (hfr_g F_1007 91 rfl).trans g_1005_91
      have g_1007_92 := (hfr_g F_1007 92 rfl).trans g_1005_92
      have g_1007_66 : cE h_1007 66 (.inr (10, (fI pl :: .ref 67 :: .ref 68 :: .ref 69 :: fI ((s : Nat) : Int) :: .ref 70 :: .ref 71 :: fI mi :: fI sd :: .ref 72 :: fI 0 :: fI e_1007.2 :: fI a0'_1007 :: fJ sd'_1007 :: fI we'_1007 :: fI nu'_1007 :: fI na'_1007 :: fI rp'_1007 :: .ref 73 :: .ref 74 :: .ref 75 :: .ref 76 :: .ref 77 :: .ref 78 :: fI w24 :: .ref 79 :: .ref 80 :: .ref 81 :: .ref 82 :: .ref 83 :: .ref 84 :: .ref 85 :: fJ sb :: fJ wa :: .ref 86 :: .ref 87 :: fI r :: .ref 88 :: .ref 89 :: .ref 90 :: .ref 91 :: .ref 92 :: .ref 93 :: []))) := e_1007_66
      have g_1007_72 : cE h_1007 72 (.inl (.int, fA T2)) := e_1007_72
      have g_1007_73 : cE h_1007 73 (.inl (.int, fA M'_1007)) := e_1007_73
      have g_1007_74 : cE h_1007 74 (.inl (.int, fA R'_1007)) := e_1007_74
      have g_1007_75 : cE h_1007 75 (.inl (.int, fA O'_1007)) := e_1007_75
      have g_1007_76 : cE h_1007 76 (.inl (.int, fA A'_1007)) := e_1007_76
      have g_1007_67 : cE h_1007 67 (.inl (.int, fA cnr)) := e_1007_67
      have g_1007_68 : cE h_1007 68 (.inl (.int, fA gor)) := e_1007_68
      have g_1007_69 : cE h_1007 69 (.inl (.int, fA chr)) := e_1007_69
      have g_1007_70 : cE h_1007 70 (.inl (.int, fA [ka, pa, fa, kb, pb, fb])) := e_1007_70
      have g_1007_71 : cE h_1007 71 (.inl (.int, fA [xa, xb])) := e_1007_71
      have g_1007_90 : cE h_1007 90 (.inl (.int, fA [n0, n1])) := e_1007_90
      have g_1007_93 : cE h_1007 93 (.inl (.boolean, fA [ga0, ga1])) := e_1007_93
      cases (p_1005_0.symm.trans p_1007_0)
    · have k_1007 : cL h_1007 := F_1007.1.trans k_1005
      have g_1007_0 := (hfr_g F_1007 0 rfl).trans g_1005_0
      have g_1007_1 := (hfr_g F_1007 1 rfl).trans g_1005_1
      have g_1007_2 := (hfr_g F_1007 2 rfl).trans g_1005_2
      have g_1007_3 := (hfr_g F_1007 3 rfl).trans g_1005_3
      have g_1007_4 := (hfr_g F_1007 4 rfl).trans g_1005_4
      have g_1007_5 := (hfr_g F_1007 5 rfl).trans g_1005_5
      have g_1007_6 := (hfr_g F_1007 6 rfl).trans g_1005_6
      have g_1007_7 := (hfr_g F_1007 7 rfl).trans g_1005_7
      have g_1007_8 := (hfr_g F_1007 8 rfl).trans g_1005_8
      have g_1007_9 := (hfr_g F_1007 9 rfl).trans g_1005_9
      have g_1007_10 := (hfr_g F_1007 10 rfl).trans g_1005_10
      have g_1007_11 := (hfr_g F_1007 11 rfl).trans g_1005_11
      have g_1007_12 := (hfr_g F_1007 12 rfl).trans g_1005_12
      have g_1007_13 := (hfr_g F_1007 13 rfl).trans g_1005_13
      have g_1007_14 := (hfr_g F_1007 14 rfl).trans g_1005_14
      have g_1007_15 := (hfr_g F_1007 15 rfl).trans g_1005_15
      have g_1007_16 := (hfr_g F_1007 16 rfl).trans g_1005_16
      have g_1007_18 := (hfr_g F_1007 18 rfl).trans g_1005_18
      have g_1007_51 := (hfr_g F_1007 51 rfl).trans g_1005_51
      have g_1007_52 := (hfr_g F_1007 52 rfl).trans g_1005_52
      have g_1007_53 := (hfr_g F_1007 53 rfl).trans g_1005_53
      have g_1007_54 := (hfr_g F_1007 54 rfl).trans g_1005_54
      have g_1007_55 := (hfr_g F_1007 55 rfl).trans g_1005_55
      have g_1007_56 := (hfr_g F_1007 56 rfl).trans g_1005_56
      have g_1007_57 := (hfr_g F_1007 57 rfl).trans g_1005_57
      have g_1007_58 := (hfr_g F_1007 58 rfl).trans g_1005_58
      have g_1007_59 := (hfr_g F_1007 59 rfl).trans g_1005_59
      have g_1007_60 := (hfr_g F_1007 60 rfl).trans g_1005_60
      have g_1007_61 := (hfr_g F_1007 61 rfl).trans g_1005_61
      have g_1007_62 := (hfr_g F_1007 62 rfl).trans g_1005_62
      have g_1007_63 := (hfr_g F_1007 63 rfl).trans g_1005_63
      have g_1007_64 := (hfr_g F_1007 64 rfl).trans g_1005_64
      have g_1007_65 := (hfr_g F_1007 65 rfl).trans g_1005_65
      have g_1007_91 := (hfr_g F_1007 91 rfl).trans g_1005_91
      have g_1007_92 := (hfr_g F_1007 92 rfl).trans g_1005_92
      have g_1007_66 : cE h_1007 66 (.inr (10, (fI q_1007.1 :: .ref 67 :: .ref 68 :: .ref 69 :: fI 0 :: .ref 70 :: .ref 71 :: fI 0 :: fI sd :: .ref 72 :: fI 0 :: fI (-1) :: fI a0'_1007 :: fJ sd'_1007 :: fI we'_1007 :: fI nu'_1007 :: fI na'_1007 :: fI q_1007.1 :: .ref 73 :: .ref 74 :: .ref 75 :: .ref 76 :: .ref 77 :: .ref 78 :: fI w24 :: .ref 79 :: .ref 80 :: .ref 81 :: .ref 82 :: .ref 83 :: .ref 84 :: .ref 85 :: fJ sb :: fJ wa :: .ref 86 :: .ref 87 :: fI 0 :: .ref 88 :: .ref 89 :: .ref 90 :: .ref 91 :: .ref 92 :: .ref 93 :: []))) := e_1007_66
      have g_1007_72 : cE h_1007 72 (.inl (.int, fA T2)) := e_1007_72
      have g_1007_73 : cE h_1007 73 (.inl (.int, fA M'_1007)) := e_1007_73
      have g_1007_74 : cE h_1007 74 (.inl (.int, fA R'_1007)) := e_1007_74
      have g_1007_75 : cE h_1007 75 (.inl (.int, fA O'_1007)) := e_1007_75
      have g_1007_76 : cE h_1007 76 (.inl (.int, fA A'_1007)) := e_1007_76
      have g_1007_67 : cE h_1007 67 (.inl (.int, fA cn'_1007)) := e_1007_67
      have g_1007_68 : cE h_1007 68 (.inl (.int, fA R'_1007)) := e_1007_68
      have g_1007_69 : cE h_1007 69 (.inl (.int, fA O'_1007)) := e_1007_69
      have g_1007_70 : cE h_1007 70 (.inl (.int, fA [0, 0, 0, 0, 0, 0])) := e_1007_70
      have g_1007_71 : cE h_1007 71 (.inl (.int, fA [0, 0])) := e_1007_71
      have g_1007_90 : cE h_1007 90 (.inl (.int, fA [0, 0])) := e_1007_90
      have g_1007_93 : cE h_1007 93 (.inl (.boolean, fA [0, 0])) := e_1007_93
      have eq_ : q_1005 = q_1007 := Sum.inr.inj (p_1005_0.symm.trans p_1007_0)
      subst eq_
      refine ⟨rfl, ?_⟩
      have gS_1007 := st_gS_t F_1007 (hdj_b rfl) gS_1005
      have gV_1007 := st_gV_t F_1007 (hdj_b rfl) gV_1005
      have gW_1007 := st_gW_t F_1007 (hdj_b rfl) gW_1005
      have gM_1007 := st_gM_t F_1007 (hdj_b rfl) gM_1005
      have hS_1007 := st_hS_t F_1007 (hdj_b rfl) hS_1005
      have hM_1007 := st_hM_t F_1007 (hdj_b rfl) hM_1005
      have hR_1007 := st_hR_t F_1007 (hdj_b rfl) hR_1005
      have hq := zq_pl p_1005_2 p_1007_3
      have hw := mx_rw_z p_1005_0 p_1005_2 p_1005_1
      have ha : mx_al q_1005.1 C'_1005 G'_1005 P'_1005 cn'_1007 R'_1007 O'_1007 := by
        intro x h0 h1
        rcases p_1007_3 with w | w
        · omega
        · have z := mx_al_z w p_1005_1 p_1007_1 x h0 h1
          rw [p_1007_4.1 x h0 h1]
          exact z
      intro C_ k_
      exact k_ 0 (-1) q_1005.1 0 sd 0 0 0 0 0 0 0 0 0 0 0 0 gm0 gd_0 gs0 g00 g01 g02 g03 g04 g05 gx0 gy0 0 gm1 gd_1 gs1 g10 g11 g12 g13 g14 g15 gx1 gy1 0 T C'_1005 G'_1005 P'_1005 wg'_1005 wc'_1005 we'_1005 rp rt lr ci0 ci1 cn'_1007 R'_1007 O'_1007 T2 im hq (by decide +kernel) (fun _ => Nat.zero_testBit _) (fun w => zq_c p_1005_3 w) (fun w => p_1007_4.2 _ (by omega)) hw ha p_1005_4 (by decide +kernel) (fun w => by omega) (fun w => by omega) (by omega) f_sd (by decide +kernel) (fun i hi => absurd hi (by omega)) (by decide +kernel) (fun j hj => absurd hj (by omega)) (fun j hj => absurd hj (by omega)) (by decide +kernel) (fun i i0 i1 => absurd i1 (by omega)) (Or.inl rfl) (Or.inl rfl) ⟨g_1007_0, g_1007_18, g_1007_57⟩ ⟨cu'_1005, 0, q_1005.1, C'_1005, G'_1005, P'_1005, B'_1005, g_1007_1, g_1007_2, m_1005_2, g_1007_3, m_1005_3, g_1007_4, m_1005_4, g_1007_5, m_1005_5, g_1007_6, m_1005_6⟩ ⟨g_1007_7, g_1007_8, m_1005_8, g_1007_9, m_1005_9, g_1007_10, m_1005_10, g_1007_11, m_1005_11, g_1007_12, m_1005_12, g_1007_13, m_1005_13⟩ ⟨g_1007_14, g_1007_15, g_1007_16⟩ gS_1007 gV_1007 gW_1007 gM_1007 ⟨g_1007_51, g_1007_52, n52, g_1007_53, n53⟩ ⟨g_1007_54, g_1007_55, n55, g_1007_56⟩ ⟨g_1007_58, g_1007_59, g_1007_60, g_1007_61, n61⟩ ⟨g_1007_62, g_1007_63, g_1007_64, g_1007_65, n65⟩ ⟨a0'_1007, sd'_1007, we'_1007, nu'_1007, na'_1007, q_1005.1, w24, sb, wa, g_1007_66⟩ ⟨g_1007_67, m_1007_67, g_1007_68, m_1007_68, g_1007_69, m_1007_69⟩ ⟨g_1007_70, g_1007_71⟩ ⟨M'_1007, R'_1007, O'_1007, A'_1007, g_1007_72, m_1007_72, g_1007_73, m_1007_73, g_1007_74, m_1007_74, g_1007_75, m_1007_75, g_1007_76, m_1007_76⟩ hS_1007 hM_1007 hR_1007 ⟨g_1007_90, g_1007_91, n91⟩ ⟨g_1007_92, n92, g_1007_93⟩ k_1007

set_option maxRecDepth 100000 in
theorem lk_fault {K : Nat} {h : List ik_E} (E : st_S K h) (hK : K ≤ 600)    : ik_F 92 [.ref 0] h (fun rv h_q => ∃ o_ : Int, rv = [fI o_] ∧ (h_q.length = (94 : Nat) ∧ ∃ fs, h_q[66]? = some (.inr (10, fs))) ∧ ik_F 148 [.ref 66] h_q (fun rv' h'' => rv' = [fI o_] ∧ st_S (K + 1) h'')) := by
  refine E _ ?_
  intro tn fp pl mi sd ka pa fa kb pb fb xa xb r n0 n1 ga0 gm0 gd_0 gs0 g00 g01 g02 g03 g04 g05 gx0 gy0 ga1 gm1 gd_1 gs1 g10 g11 g12 g13 g14 g15 gx1 gy1 s T cn go ch wg wc we rp rt lr ci0 ci1 cnr gor chr T2 im f_pl f_s f_st f_cb f_cr f_rw f_al f_wy f_k f_p f_x f_m f_sd f_r f_rr f_n f_l0 f_l1 f_tn f_t f_i0 f_i1 gA gT gB gC gS gV gW gM gR gL gI gJ hO hB hC hT hS hM hR hL hI hl
  replace f_cb := ik_hid_i f_cb
  replace f_cr := ik_hid_i f_cr
  replace f_p := ik_hid_i f_p
  replace f_x := ik_hid_i f_x
  obtain ⟨h0, h18, h57⟩ := gA
  obtain ⟨cu, fl, rpl, C, G, P, B, h1, h2, n2, h3, n3, h4, n4, h5, n5, h6, n6⟩ := gT
  obtain ⟨sc0, sc1, sc2, sc3, sc4, sc5, w24, sb, wa, h66⟩ := hO
  refine ik_F_mono (cp_fault (tn := tn) (cu := cu) (fl := fl) (fp := fp) (rpl := rpl)  h0 h1 hl) ?_
  rintro v_1008 h_1008 ⟨er_1008, F_1008⟩ <;> subst er_1008
  have k_1008 : cL h_1008 := F_1008.1.trans hl
  have g_1008_0 := (hfr_g F_1008 0 rfl).trans h0
  have g_1008_1 := (hfr_g F_1008 1 rfl).trans h1
  have g_1008_2 := (hfr_g F_1008 2 rfl).trans h2
  have g_1008_3 := (hfr_g F_1008 3 rfl).trans h3
  have g_1008_4 := (hfr_g F_1008 4 rfl).trans h4
  have g_1008_5 := (hfr_g F_1008 5 rfl).trans h5
  have g_1008_6 := (hfr_g F_1008 6 rfl).trans h6
  have g_1008_18 := (hfr_g F_1008 18 rfl).trans h18
  have g_1008_57 := (hfr_g F_1008 57 rfl).trans h57
  have g_1008_66 := (hfr_g F_1008 66 rfl).trans h66
  refine ⟨fp, rfl, ⟨k_1008, _, g_1008_66⟩, ?_⟩
  have gB_1008 := st_gB_t F_1008 (hdj_b rfl) gB
  have gC_1008 := st_gC_t F_1008 (hdj_b rfl) gC
  have gS_1008 := st_gS_t F_1008 (hdj_b rfl) gS
  have gV_1008 := st_gV_t F_1008 (hdj_b rfl) gV
  have gW_1008 := st_gW_t F_1008 (hdj_b rfl) gW
  have gM_1008 := st_gM_t F_1008 (hdj_b rfl) gM
  have gR_1008 := st_gR_t F_1008 (hdj_b rfl) gR
  have gL_1008 := st_gL_t F_1008 (hdj_b rfl) gL
  have gI_1008 := st_gI_t F_1008 (hdj_b rfl) gI
  have gJ_1008 := st_gJ_t F_1008 (hdj_b rfl) gJ
  have hB_1008 := st_hB_t F_1008 (hdj_b rfl) hB
  have hC_1008 := st_hC_t F_1008 (hdj_b rfl) hC
  have hT_1008 := st_hT_t F_1008 (hdj_b rfl) hT
  have hS_1008 := st_hS_t F_1008 (hdj_b rfl) hS
  have hM_1008 := st_hM_t F_1008 (hdj_b rfl) hM
  have hR_1008 := st_hR_t F_1008 (hdj_b rfl) hR
  have hL_1008 := st_hL_t F_1008 (hdj_b rfl) hL
  have hI_1008 := st_hI_t F_1008 (hdj_b rfl) hI
  refine ik_F_mono (rp_fault (f := fun j => ((pl :: 0 :: 0 :: 0 :: (((s : Nat) : Int)) :: 0 :: 0 :: mi :: sd :: 0 :: tn :: fp :: sc0 :: sc1 :: sc2 :: sc3 :: sc4 :: sc5 :: 0 :: 0 :: 0 :: 0 :: 0 :: 0 :: w24 :: 0 :: 0 :: 0 :: 0 :: 0 :: 0 :: 0 :: sb :: wa :: 0 :: 0 :: r :: 0 :: 0 :: 0 :: 0 :: 0 :: 0 :: []) : List Int).getD j 0)  g_1008_66 k_1008) ?_
  rintro v_1009 h_1009 ⟨er_1009, F_1009⟩ <;> subst er_1009
  have k_1009 : cL h_1009 := F_1009.1.trans k_1008
  have g_1009_0 := (hfr_g F_1009 0 rfl).trans g_1008_0
  have g_1009_1 := (hfr_g F_1009 1 rfl).trans g_1008_1
  have g_1009_2 := (hfr_g F_1009 2 rfl).trans g_1008_2
  have g_1009_3 := (hfr_g F_1009 3 rfl).trans g_1008_3
  have g_1009_4 := (hfr_g F_1009 4 rfl).trans g_1008_4
  have g_1009_5 := (hfr_g F_1009 5 rfl).trans g_1008_5
  have g_1009_6 := (hfr_g F_1009 6 rfl).trans g_1008_6
  have g_1009_18 := (hfr_g F_1009 18 rfl).trans g_1008_18
  have g_1009_57 := (hfr_g F_1009 57 rfl).trans g_1008_57
  have g_1009_66 := (hfr_g F_1009 66 rfl).trans g_1008_66
  refine ⟨rfl, ?_⟩
  have gB_1009 := st_gB_t F_1009 (hdj_b rfl) gB_1008
  have gC_1009 := st_gC_t F_1009 (hdj_b rfl) gC_1008
  have gS_1009 := st_gS_t F_1009 (hdj_b rfl) gS_1008
  have gV_1009 := st_gV_t F_1009 (hdj_b rfl) gV_1008
  have gW_1009 := st_gW_t F_1009 (hdj_b rfl) gW_1008
  have gM_1009 := st_gM_t F_1009 (hdj_b rfl) gM_1008
  have gR_1009 := st_gR_t F_1009 (hdj_b rfl) gR_1008
  have gL_1009 := st_gL_t F_1009 (hdj_b rfl) gL_1008
  have gI_1009 := st_gI_t F_1009 (hdj_b rfl) gI_1008
  have gJ_1009 := st_gJ_t F_1009 (hdj_b rfl) gJ_1008
  have hB_1009 := st_hB_t F_1009 (hdj_b rfl) hB_1008
  have hC_1009 := st_hC_t F_1009 (hdj_b rfl) hC_1008
  have hT_1009 := st_hT_t F_1009 (hdj_b rfl) hT_1008
  have hS_1009 := st_hS_t F_1009 (hdj_b rfl) hS_1008
  have hM_1009 := st_hM_t F_1009 (hdj_b rfl) hM_1008
  have hR_1009 := st_hR_t F_1009 (hdj_b rfl) hR_1008
  have hL_1009 := st_hL_t F_1009 (hdj_b rfl) hL_1008
  have hI_1009 := st_hI_t F_1009 (hdj_b rfl) hI_1008
  intro C_ k_
  exact k_ tn fp pl mi sd ka pa fa kb pb fb xa xb r n0 n1 ga0 gm0 gd_0 gs0 g00 g01 g02 g03 g04 g05 gx0 gy0 ga1 gm1 gd_1 gs1 g10 g11 g12 g13 g14 g15 gx1 gy1 s T cn go ch wg wc we rp rt lr ci0 ci1 cnr gor chr T2 im f_pl f_s f_st f_cb f_cr f_rw f_al f_wy f_k f_p f_x (by first | exact st_m f_m | omega) f_sd f_r f_rr f_n f_l0 f_l1 f_tn f_t (st_I_K f_i0) (st_I_K f_i1) ⟨g_1009_0, g_1009_18, g_1009_57⟩ ⟨cu, fl, rpl, C, G, P, B, g_1009_1, g_1009_2, n2, g_1009_3, n3, g_1009_4, n4, g_1009_5, n5, g_1009_6, n6⟩ gB_1009 gC_1009 gS_1009 gV_1009 gW_1009 gM_1009 gR_1009 gL_1009 gI_1009 gJ_1009 ⟨sc0, sc1, sc2, sc3, sc4, sc5, w24, sb, wa, g_1009_66⟩ hB_1009 hC_1009 hT_1009 hS_1009 hM_1009 hR_1009 hL_1009 hI_1009 k_1009

set_option maxRecDepth 100000 in
theorem lk_told0 {K : Nat} {h : List ik_E} (E : st_S K h) (hK : K ≤ 600)    : ik_F 93 [.ref 0, fI 0] h (fun rv h_q => ∃ o_ : Int, rv = [fI o_] ∧ (h_q.length = (94 : Nat) ∧ ∃ fs, h_q[66]? = some (.inr (10, fs))) ∧ ik_F 150 [.ref 66, fI 0] h_q (fun rv' h'' => rv' = [fI o_] ∧ st_S (K + 1) h'')) := by
  refine E _ ?_
  intro tn fp pl mi sd ka pa fa kb pb fb xa xb r n0 n1 ga0 gm0 gd_0 gs0 g00 g01 g02 g03 g04 g05 gx0 gy0 ga1 gm1 gd_1 gs1 g10 g11 g12 g13 g14 g15 gx1 gy1 s T cn go ch wg wc we rp rt lr ci0 ci1 cnr gor chr T2 im f_pl f_s f_st f_cb f_cr f_rw f_al f_wy f_k f_p f_x f_m f_sd f_r f_rr f_n f_l0 f_l1 f_tn f_t f_i0 f_i1 gA gT gB gC gS gV gW gM gR gL gI gJ hO hB hC hT hS hM hR hL hI hl
  replace f_cb := ik_hid_i f_cb
  replace f_cr := ik_hid_i f_cr
  replace f_p := ik_hid_i f_p
  replace f_x := ik_hid_i f_x
  obtain ⟨h0, h18, h57⟩ := gA
  obtain ⟨h7, h8, n8, h9, n9, h10, n10, h11, n11, h12, n12, h13, n13⟩ := gB
  obtain ⟨sc0, sc1, sc2, sc3, sc4, sc5, w24, sb, wa, h66⟩ := hO
  refine ik_F_mono (cp_told0 (pl := pl) (st := ((s : Nat) : Int)) (lo := ((mj_lost pl cn go : Nat) : Int))  h0 h7 hl) ?_
  rintro v_1010 h_1010 ⟨er_1010, F_1010⟩ <;> subst er_1010
  have k_1010 : cL h_1010 := F_1010.1.trans hl
  have g_1010_0 := (hfr_g F_1010 0 rfl).trans h0
  have g_1010_7 := (hfr_g F_1010 7 rfl).trans h7
  have g_1010_8 := (hfr_g F_1010 8 rfl).trans h8
  have g_1010_9 := (hfr_g F_1010 9 rfl).trans h9
  have g_1010_10 := (hfr_g F_1010 10 rfl).trans h10
  have g_1010_11 := (hfr_g F_1010 11 rfl).trans h11
  have g_1010_12 := (hfr_g F_1010 12 rfl).trans h12
  have g_1010_13 := (hfr_g F_1010 13 rfl).trans h13
  have g_1010_18 := (hfr_g F_1010 18 rfl).trans h18
  have g_1010_57 := (hfr_g F_1010 57 rfl).trans h57
  have g_1010_66 := (hfr_g F_1010 66 rfl).trans h66
  refine ⟨pl, rfl, ⟨k_1010, _, g_1010_66⟩, ?_⟩
  have gT_1010 := st_gT_t F_1010 (hdj_b rfl) gT
  have gC_1010 := st_gC_t F_1010 (hdj_b rfl) gC
  have gS_1010 := st_gS_t F_1010 (hdj_b rfl) gS
  have gV_1010 := st_gV_t F_1010 (hdj_b rfl) gV
  have gW_1010 := st_gW_t F_1010 (hdj_b rfl) gW
  have gM_1010 := st_gM_t F_1010 (hdj_b rfl) gM
  have gR_1010 := st_gR_t F_1010 (hdj_b rfl) gR
  have gL_1010 := st_gL_t F_1010 (hdj_b rfl) gL
  have gI_1010 := st_gI_t F_1010 (hdj_b rfl) gI
  have gJ_1010 := st_gJ_t F_1010 (hdj_b rfl) gJ
  have hB_1010 := st_hB_t F_1010 (hdj_b rfl) hB
  have hC_1010 := st_hC_t F_1010 (hdj_b rfl) hC
  have hT_1010 := st_hT_t F_1010 (hdj_b rfl) hT
  have hS_1010 := st_hS_t F_1010 (hdj_b rfl) hS
  have hM_1010 := st_hM_t F_1010 (hdj_b rfl) hM
  have hR_1010 := st_hR_t F_1010 (hdj_b rfl) hR
  have hL_1010 := st_hL_t F_1010 (hdj_b rfl) hL
  have hI_1010 := st_hI_t F_1010 (hdj_b rfl) hI
  refine ik_F_mono (rp_told0 (f := fun j => ((pl :: 0 :: 0 :: 0 :: (((s : Nat) : Int)) :: 0 :: 0 :: mi :: sd :: 0 :: tn :: fp :: sc0 :: sc1 :: sc2 :: sc3 :: sc4 :: sc5 :: 0 :: 0 :: 0 :: 0 :: 0 :: 0 :: w24 :: 0 :: 0 :: 0 :: 0 :: 0 :: 0 :: 0 :: sb :: wa :: 0 :: 0 :: r :: 0 :: 0 :: 0 :: 0 :: 0 :: 0 :: []) : List Int).getD j 0)  g_1010_66 k_1010) ?_
  rintro v_1011 h_1011 ⟨er_1011, F_1011⟩ <;> subst er_1011
  have k_1011 : cL h_1011 := F_1011.1.trans k_1010
  have g_1011_0 := (hfr_g F_1011 0 rfl).trans g_1010_0
  have g_1011_7 := (hfr_g F_1011 7 rfl).trans g_1010_7
  have g_1011_8 := (hfr_g F_1011 8 rfl).trans g_1010_8
  have g_1011_9 := (hfr_g F_1011 9 rfl).trans g_1010_9
  have g_1011_10 := (hfr_g F_1011 10 rfl).trans g_1010_10
  have g_1011_11 := (hfr_g F_1011 11 rfl).trans g_1010_11
  have g_1011_12 := (hfr_g F_1011 12 rfl).trans g_1010_12
  have g_1011_13 := (hfr_g F_1011 13 rfl).trans g_1010_13
  have g_1011_18 := (hfr_g F_1011 18 rfl).trans g_1010_18
  have g_1011_57 := (hfr_g F_1011 57 rfl).trans g_1010_57
  have g_1011_66 := (hfr_g F_1011 66 rfl).trans g_1010_66
  refine ⟨rfl, ?_⟩
  have gT_1011 := st_gT_t F_1011 (hdj_b rfl) gT_1010
  have gC_1011 := st_gC_t F_1011 (hdj_b rfl) gC_1010
  have gS_1011 := st_gS_t F_1011 (hdj_b rfl) gS_1010
  have gV_1011 := st_gV_t F_1011 (hdj_b rfl) gV_1010
  have gW_1011 := st_gW_t F_1011 (hdj_b rfl) gW_1010
  have gM_1011 := st_gM_t F_1011 (hdj_b rfl) gM_1010
  have gR_1011 := st_gR_t F_1011 (hdj_b rfl) gR_1010
  have gL_1011 := st_gL_t F_1011 (hdj_b rfl) gL_1010
  have gI_1011 := st_gI_t F_1011 (hdj_b rfl) gI_1010
  have gJ_1011 := st_gJ_t F_1011 (hdj_b rfl) gJ_1010
  have hB_1011 := st_hB_t F_1011 (hdj_b rfl) hB_1010
  have hC_1011 := st_hC_t F_1011 (hdj_b rfl) hC_1010
  have hT_1011 := st_hT_t F_1011 (hdj_b rfl) hT_1010
  have hS_1011 := st_hS_t F_1011 (hdj_b rfl) hS_1010
  have hM_1011 := st_hM_t F_1011 (hdj_b rfl) hM_1010
  have hR_1011 := st_hR_t F_1011 (hdj_b rfl) hR_1010
  have hL_1011 := st_hL_t F_1011 (hdj_b rfl) hL_1010
  have hI_1011 := st_hI_t F_1011 (hdj_b rfl) hI_1010
  intro C_ k_
  exact k_ tn fp pl mi sd ka pa fa kb pb fb xa xb r n0 n1 ga0 gm0 gd_0 gs0 g00 g01 g02 g03 g04 g05 gx0 gy0 ga1 gm1 gd_1 gs1 g10 g11 g12 g13 g14 g15 gx1 gy1 s T cn go ch wg wc we rp rt lr ci0 ci1 cnr gor chr T2 im f_pl f_s f_st f_cb f_cr f_rw f_al f_wy f_k f_p f_x (by first | exact st_m f_m | omega) f_sd f_r f_rr f_n f_l0 f_l1 f_tn f_t (st_I_K f_i0) (st_I_K f_i1) ⟨g_1011_0, g_1011_18, g_1011_57⟩ gT_1011 ⟨g_1011_7, g_1011_8, n8, g_1011_9, n9, g_1011_10, n10, g_1011_11, n11, g_1011_12, n12, g_1011_13, n13⟩ gC_1011 gS_1011 gV_1011 gW_1011 gM_1011 gR_1011 gL_1011 gI_1011 gJ_1011 ⟨sc0, sc1, sc2, sc3, sc4, sc5, w24, sb, wa, g_1011_66⟩ hB_1011 hC_1011 hT_1011 hS_1011 hM_1011 hR_1011 hL_1011 hI_1011 k_1011

set_option maxRecDepth 100000 in
theorem lk_told1 {K : Nat} {h : List ik_E} (E : st_S K h) (hK : K ≤ 600)    : ik_F 93 [.ref 0, fI 1] h (fun rv h_q => ∃ o_ : Int, rv = [fI o_] ∧ (h_q.length = (94 : Nat) ∧ ∃ fs, h_q[66]? = some (.inr (10, fs))) ∧ ik_F 150 [.ref 66, fI 1] h_q (fun rv' h'' => rv' = [fI o_] ∧ st_S (K + 1) h'')) := by
  refine E _ ?_
  intro tn fp pl mi sd ka pa fa kb pb fb xa xb r n0 n1 ga0 gm0 gd_0 gs0 g00 g01 g02 g03 g04 g05 gx0 gy0 ga1 gm1 gd_1 gs1 g10 g11 g12 g13 g14 g15 gx1 gy1 s T cn go ch wg wc we rp rt lr ci0 ci1 cnr gor chr T2 im f_pl f_s f_st f_cb f_cr f_rw f_al f_wy f_k f_p f_x f_m f_sd f_r f_rr f_n f_l0 f_l1 f_tn f_t f_i0 f_i1 gA gT gB gC gS gV gW gM gR gL gI gJ hO hB hC hT hS hM hR hL hI hl
  replace f_cb := ik_hid_i f_cb
  replace f_cr := ik_hid_i f_cr
  replace f_p := ik_hid_i f_p
  replace f_x := ik_hid_i f_x
  obtain ⟨h0, h18, h57⟩ := gA
  obtain ⟨h51, h52, n52, h53, n53⟩ := gR
  obtain ⟨sc0, sc1, sc2, sc3, sc4, sc5, w24, sb, wa, h66⟩ := hO
  refine ik_F_mono (cp_told1 (r := r)  h0 h51 hl) ?_
  rintro v_1012 h_1012 ⟨er_1012, F_1012⟩ <;> subst er_1012
  have k_1012 : cL h_1012 := F_1012.1.trans hl
  have g_1012_0 := (hfr_g F_1012 0 rfl).trans h0
  have g_1012_18 := (hfr_g F_1012 18 rfl).trans h18
  have g_1012_51 := (hfr_g F_1012 51 rfl).trans h51
  have g_1012_52 := (hfr_g F_1012 52 rfl).trans h52
  have g_1012_53 := (hfr_g F_1012 53 rfl).trans h53
  have g_1012_57 := (hfr_g F_1012 57 rfl).trans h57
  have g_1012_66 := (hfr_g F_1012 66 rfl).trans h66
  refine ⟨r, rfl, ⟨k_1012, _, g_1012_66⟩, ?_⟩
  have gT_1012 := st_gT_t F_1012 (hdj_b rfl) gT
  have gB_1012 := st_gB_t F_1012 (hdj_b rfl) gB
  have gC_1012 := st_gC_t F_1012 (hdj_b rfl) gC
  have gS_1012 := st_gS_t F_1012 (hdj_b rfl) gS
  have gV_1012 := st_gV_t F_1012 (hdj_b rfl) gV
  have gW_1012 := st_gW_t F_1012 (hdj_b rfl) gW
  have gM_1012 := st_gM_t F_1012 (hdj_b rfl) gM
  have gL_1012 := st_gL_t F_1012 (hdj_b rfl) gL
  have gI_1012 := st_gI_t F_1012 (hdj_b rfl) gI
  have gJ_1012 := st_gJ_t F_1012 (hdj_b rfl) gJ
  have hB_1012 := st_hB_t F_1012 (hdj_b rfl) hB
  have hC_1012 := st_hC_t F_1012 (hdj_b rfl) hC
  have hT_1012 := st_hT_t F_1012 (hdj_b rfl) hT
  have hS_1012 := st_hS_t F_1012 (hdj_b rfl) hS
  have hM_1012 := st_hM_t F_1012 (hdj_b rfl) hM
  have hR_1012 := st_hR_t F_1012 (hdj_b rfl) hR
  have hL_1012 := st_hL_t F_1012 (hdj_b rfl) hL
  have hI_1012 := st_hI_t F_1012 (hdj_b rfl) hI
  refine ik_F_mono (rp_told1 (f := fun j => ((pl :: 0 :: 0 :: 0 :: (((s : Nat) : Int)) :: 0 :: 0 :: mi :: sd :: 0 :: tn :: fp :: sc0 :: sc1 :: sc2 :: sc3 :: sc4 :: sc5 :: 0 :: 0 :: 0 :: 0 :: 0 :: 0 :: w24 :: 0 :: 0 :: 0 :: 0 :: 0 :: 0 :: 0 :: sb :: wa :: 0 :: 0 :: r :: 0 :: 0 :: 0 :: 0 :: 0 :: 0 :: []) : List Int).getD j 0)  g_1012_66 k_1012) ?_
  rintro v_1013 h_1013 ⟨er_1013, F_1013⟩ <;> subst er_1013
  have k_1013 : cL h_1013 := F_1013.1.trans k_1012
  have g_1013_0 := (hfr_g F_1013 0 rfl).trans g_1012_0
  have g_1013_18 := (hfr_g F_1013 18 rfl).trans g_1012_18
  have g_1013_51 := (hfr_g F_1013 51 rfl).trans g_1012_51
  have g_1013_52 := (hfr_g F_1013 52 rfl).trans g_1012_52
  have g_1013_53 := (hfr_g F_1013 53 rfl).trans g_1012_53
  have g_1013_57 := (hfr_g F_1013 57 rfl).trans g_1012_57
  have g_1013_66 := (hfr_g F_1013 66 rfl).trans g_1012_66
  refine ⟨rfl, ?_⟩
  have gT_1013 := st_gT_t F_1013 (hdj_b rfl) gT_1012
  have gB_1013 := st_gB_t F_1013 (hdj_b rfl) gB_1012
  have gC_1013 := st_gC_t F_1013 (hdj_b rfl) gC_1012
  have gS_1013 := st_gS_t F_1013 (hdj_b rfl) gS_1012
  have gV_1013 := st_gV_t F_1013 (hdj_b rfl) gV_1012
  have gW_1013 := st_gW_t F_1013 (hdj_b rfl) gW_1012
  have gM_1013 := st_gM_t F_1013 (hdj_b rfl) gM_1012
  have gL_1013 := st_gL_t F_1013 (hdj_b rfl) gL_1012
  have gI_1013 := st_gI_t F_1013 (hdj_b rfl) gI_1012
  have gJ_1013 := st_gJ_t F_1013 (hdj_b rfl) gJ_1012
  have hB_1013 := st_hB_t F_1013 (hdj_b rfl) hB_1012
  have hC_1013 := st_hC_t F_1013 (hdj_b rfl) hC_1012
  have hT_1013 := st_hT_t F_1013 (hdj_b rfl) hT_1012
  have hS_1013 := st_hS_t F_1013 (hdj_b rfl) hS_1012
  have hM_1013 := st_hM_t F_1013 (hdj_b rfl) hM_1012
  have hR_1013 := st_hR_t F_1013 (hdj_b rfl) hR_1012
  have hL_1013 := st_hL_t F_1013 (hdj_b rfl) hL_1012
  have hI_1013 := st_hI_t F_1013 (hdj_b rfl) hI_1012
  intro C_ k_
  exact k_ tn fp pl mi sd ka pa fa kb pb fb xa xb r n0 n1 ga0 gm0 gd_0 gs0 g00 g01 g02 g03 g04 g05 gx0 gy0 ga1 gm1 gd_1 gs1 g10 g11 g12 g13 g14 g15 gx1 gy1 s T cn go ch wg wc we rp rt lr ci0 ci1 cnr gor chr T2 im f_pl f_s f_st f_cb f_cr f_rw f_al f_wy f_k f_p f_x (by first | exact st_m f_m | omega) f_sd f_r f_rr f_n f_l0 f_l1 f_tn f_t (st_I_K f_i0) (st_I_K f_i1) ⟨g_1013_0, g_1013_18, g_1013_57⟩ gT_1013 gB_1013 gC_1013 gS_1013 gV_1013 gW_1013 gM_1013 ⟨g_1013_51, g_1013_52, n52, g_1013_53, n53⟩ gL_1013 gI_1013 gJ_1013 ⟨sc0, sc1, sc2, sc3, sc4, sc5, w24, sb, wa, g_1013_66⟩ hB_1013 hC_1013 hT_1013 hS_1013 hM_1013 hR_1013 hL_1013 hI_1013 k_1013

set_option maxRecDepth 100000 in
theorem lk_told2 {K : Nat} {h : List ik_E} (E : st_S K h) (hK : K ≤ 600)    : ik_F 93 [.ref 0, fI 2] h (fun rv h_q => ∃ o_ : Int, rv = [fI o_] ∧ (h_q.length = (94 : Nat) ∧ ∃ fs, h_q[66]? = some (.inr (10, fs))) ∧ ik_F 150 [.ref 66, fI 2] h_q (fun rv' h'' => rv' = [fI o_] ∧ st_S (K + 1) h'')) := by
  refine E _ ?_
  intro tn fp pl mi sd ka pa fa kb pb fb xa xb r n0 n1 ga0 gm0 gd_0 gs0 g00 g01 g02 g03 g04 g05 gx0 gy0 ga1 gm1 gd_1 gs1 g10 g11 g12 g13 g14 g15 gx1 gy1 s T cn go ch wg wc we rp rt lr ci0 ci1 cnr gor chr T2 im f_pl f_s f_st f_cb f_cr f_rw f_al f_wy f_k f_p f_x f_m f_sd f_r f_rr f_n f_l0 f_l1 f_tn f_t f_i0 f_i1 gA gT gB gC gS gV gW gM gR gL gI gJ hO hB hC hT hS hM hR hL hI hl
  replace f_cb := ik_hid_i f_cb
  replace f_cr := ik_hid_i f_cr
  replace f_p := ik_hid_i f_p
  replace f_x := ik_hid_i f_x
  obtain ⟨h0, h18, h57⟩ := gA
  obtain ⟨cu, fl, rpl, C, G, P, B, h1, h2, n2, h3, n3, h4, n4, h5, n5, h6, n6⟩ := gT
  obtain ⟨sc0, sc1, sc2, sc3, sc4, sc5, w24, sb, wa, h66⟩ := hO
  refine ik_F_mono (cp_told2 (tn := tn) (cu := cu) (fl := fl) (fp := fp) (rpl := rpl)  h0 h1 hl) ?_
  rintro v_1014 h_1014 ⟨er_1014, F_1014⟩ <;> subst er_1014
  have k_1014 : cL h_1014 := F_1014.1.trans hl
  have g_1014_0 := (hfr_g F_1014 0 rfl).trans h0
  have g_1014_1 := (hfr_g F_1014 1 rfl).trans h1
  have g_1014_2 := (hfr_g F_1014 2 rfl).trans h2
  have g_1014_3 := (hfr_g F_1014 3 rfl).trans h3
  have g_1014_4 := (hfr_g F_1014 4 rfl).trans h4
  have g_1014_5 := (hfr_g F_1014 5 rfl).trans h5
  have g_1014_6 := (hfr_g F_1014 6 rfl).trans h6
  have g_1014_18 := (hfr_g F_1014 18 rfl).trans h18
  have g_1014_57 := (hfr_g F_1014 57 rfl).trans h57
  have g_1014_66 := (hfr_g F_1014 66 rfl).trans h66
  refine ⟨tn, rfl, ⟨k_1014, _, g_1014_66⟩, ?_⟩
  have gB_1014 := st_gB_t F_1014 (hdj_b rfl) gB
  have gC_1014 := st_gC_t F_1014 (hdj_b rfl) gC
  have gS_1014 := st_gS_t F_1014 (hdj_b rfl) gS
  have gV_1014 := st_gV_t F_1014 (hdj_b rfl) gV
  have gW_1014 := st_gW_t F_1014 (hdj_b rfl) gW
  have gM_1014 := st_gM_t F_1014 (hdj_b rfl) gM
  have gR_1014 := st_gR_t F_1014 (hdj_b rfl) gR
  have gL_1014 := st_gL_t F_1014 (hdj_b rfl) gL
  have gI_1014 := st_gI_t F_1014 (hdj_b rfl) gI
  have gJ_1014 := st_gJ_t F_1014 (hdj_b rfl) gJ
  have hB_1014 := st_hB_t F_1014 (hdj_b rfl) hB
  have hC_1014 := st_hC_t F_1014 (hdj_b rfl) hC
  have hT_1014 := st_hT_t F_1014 (hdj_b rfl) hT
  have hS_1014 := st_hS_t F_1014 (hdj_b rfl) hS
  have hM_1014 := st_hM_t F_1014 (hdj_b rfl) hM
  have hR_1014 := st_hR_t F_1014 (hdj_b rfl) hR
  have hL_1014 := st_hL_t F_1014 (hdj_b rfl) hL
  have hI_1014 := st_hI_t F_1014 (hdj_b rfl) hI
  refine ik_F_mono (rp_told2 (f := fun j => ((pl :: 0 :: 0 :: 0 :: (((s : Nat) : Int)) :: 0 :: 0 :: mi :: sd :: 0 :: tn :: fp :: sc0 :: sc1 :: sc2 :: sc3 :: sc4 :: sc5 :: 0 :: 0 :: 0 :: 0 :: 0 :: 0 :: w24 :: 0 :: 0 :: 0 :: 0 :: 0 :: 0 :: 0 :: sb :: wa :: 0 :: 0 :: r :: 0 :: 0 :: 0 :: 0 :: 0 :: 0 :: []) : List Int).getD j 0)  g_1014_66 k_1014) ?_
  rintro v_1015 h_1015 ⟨er_1015, F_1015⟩ <;> subst er_1015
  have k_1015 : cL h_1015 := F_1015.1.trans k_1014
  have g_1015_0 := (hfr_g F_1015 0 rfl).trans g_1014_0
  have g_1015_1 := (hfr_g F_1015 1 rfl).trans g_1014_1
  have g_1015_2 := (hfr_g F_1015 2 rfl).trans g_1014_2
  have g_1015_3 := (hfr_g F_1015 3 rfl).trans g_1014_3
  have g_1015_4 := (hfr_g F_1015 4 rfl).trans g_1014_4
  have g_1015_5 := (hfr_g F_1015 5 rfl).trans g_1014_5
  have g_1015_6 := (hfr_g F_1015 6 rfl).trans g_1014_6
  have g_1015_18 := (hfr_g F_1015 18 rfl).trans g_1014_18
  have g_1015_57 := (hfr_g F_1015 57 rfl).trans g_1014_57
  have g_1015_66 := (hfr_g F_1015 66 rfl).trans g_1014_66
  refine ⟨rfl, ?_⟩
  have gB_1015 := st_gB_t F_1015 (hdj_b rfl) gB_1014
  have gC_1015 := st_gC_t F_1015 (hdj_b rfl) gC_1014
  have gS_1015 := st_gS_t F_1015 (hdj_b rfl) gS_1014
  have gV_1015 := st_gV_t F_1015 (hdj_b rfl) gV_1014
  have gW_1015 := st_gW_t F_1015 (hdj_b rfl) gW_1014
  have gM_1015 := st_gM_t F_1015 (hdj_b rfl) gM_1014
  have gR_1015 := st_gR_t F_1015 (hdj_b rfl) gR_1014
  have gL_1015 := st_gL_t F_1015 (hdj_b rfl) gL_1014
  have gI_1015 := st_gI_t F_1015 (hdj_b rfl) gI_1014
  have gJ_1015 := st_gJ_t F_1015 (hdj_b rfl) gJ_1014
  have hB_1015 := st_hB_t F_1015 (hdj_b rfl) hB_1014
  have hC_1015 := st_hC_t F_1015 (hdj_b rfl) hC_1014
  have hT_1015 := st_hT_t F_1015 (hdj_b rfl) hT_1014
  have hS_1015 := st_hS_t F_1015 (hdj_b rfl) hS_1014
  have hM_1015 := st_hM_t F_1015 (hdj_b rfl) hM_1014
  have hR_1015 := st_hR_t F_1015 (hdj_b rfl) hR_1014
  have hL_1015 := st_hL_t F_1015 (hdj_b rfl) hL_1014
  have hI_1015 := st_hI_t F_1015 (hdj_b rfl) hI_1014
  intro C_ k_
  exact k_ tn fp pl mi sd ka pa fa kb pb fb xa xb r n0 n1 ga0 gm0 gd_0 gs0 g00 g01 g02 g03 g04 g05 gx0 gy0 ga1 gm1 gd_1 gs1 g10 g11 g12 g13 g14 g15 gx1 gy1 s T cn go ch wg wc we rp rt lr ci0 ci1 cnr gor chr T2 im f_pl f_s f_st f_cb f_cr f_rw f_al f_wy f_k f_p f_x (by first | exact st_m f_m | omega) f_sd f_r f_rr f_n f_l0 f_l1 f_tn f_t (st_I_K f_i0) (st_I_K f_i1) ⟨g_1015_0, g_1015_18, g_1015_57⟩ ⟨cu, fl, rpl, C, G, P, B, g_1015_1, g_1015_2, n2, g_1015_3, n3, g_1015_4, n4, g_1015_5, n5, g_1015_6, n6⟩ gB_1015 gC_1015 gS_1015 gV_1015 gW_1015 gM_1015 gR_1015 gL_1015 gI_1015 gJ_1015 ⟨sc0, sc1, sc2, sc3, sc4, sc5, w24, sb, wa, g_1015_66⟩ hB_1015 hC_1015 hT_1015 hS_1015 hM_1015 hR_1015 hL_1015 hI_1015 k_1015

set_option maxRecDepth 100000 in
theorem lk_told3 {K : Nat} {h : List ik_E} (E : st_S K h) (hK : K ≤ 600)    : ik_F 93 [.ref 0, fI 3] h (fun rv h_q => ∃ o_ : Int, rv = [fI o_] ∧ (h_q.length = (94 : Nat) ∧ ∃ fs, h_q[66]? = some (.inr (10, fs))) ∧ ik_F 150 [.ref 66, fI 3] h_q (fun rv' h'' => rv' = [fI o_] ∧ st_S (K + 1) h'')) := by
  refine E _ ?_
  intro tn fp pl mi sd ka pa fa kb pb fb xa xb r n0 n1 ga0 gm0 gd_0 gs0 g00 g01 g02 g03 g04 g05 gx0 gy0 ga1 gm1 gd_1 gs1 g10 g11 g12 g13 g14 g15 gx1 gy1 s T cn go ch wg wc we rp rt lr ci0 ci1 cnr gor chr T2 im f_pl f_s f_st f_cb f_cr f_rw f_al f_wy f_k f_p f_x f_m f_sd f_r f_rr f_n f_l0 f_l1 f_tn f_t f_i0 f_i1 gA gT gB gC gS gV gW gM gR gL gI gJ hO hB hC hT hS hM hR hL hI hl
  replace f_cb := ik_hid_i f_cb
  replace f_cr := ik_hid_i f_cr
  replace f_p := ik_hid_i f_p
  replace f_x := ik_hid_i f_x
  obtain ⟨h0, h18, h57⟩ := gA
  obtain ⟨h54, h55, n55, h56⟩ := gL
  obtain ⟨sc0, sc1, sc2, sc3, sc4, sc5, w24, sb, wa, h66⟩ := hO
  obtain ⟨h90, h91, n91⟩ := hL
  refine ik_F_mono (cp_told3 (n0 := n0) (n1 := n1)  h0 h54 h56 hl) ?_
  rintro v_1016 h_1016 ⟨er_1016, F_1016⟩ <;> subst er_1016
  have k_1016 : cL h_1016 := F_1016.1.trans hl
  have g_1016_0 := (hfr_g F_1016 0 rfl).trans h0
  have g_1016_18 := (hfr_g F_1016 18 rfl).trans h18
  have g_1016_54 := (hfr_g F_1016 54 rfl).trans h54
  have g_1016_55 := (hfr_g F_1016 55 rfl).trans h55
  have g_1016_56 := (hfr_g F_1016 56 rfl).trans h56
  have g_1016_57 := (hfr_g F_1016 57 rfl).trans h57
  have g_1016_66 := (hfr_g F_1016 66 rfl).trans h66
  have g_1016_90 := (hfr_g F_1016 90 rfl).trans h90
  have g_1016_91 := (hfr_g F_1016 91 rfl).trans h91
  refine ⟨n0, rfl, ⟨k_1016, _, g_1016_66⟩, ?_⟩
  have gT_1016 := st_gT_t F_1016 (hdj_b rfl) gT
  have gB_1016 := st_gB_t F_1016 (hdj_b rfl) gB
  have gC_1016 := st_gC_t F_1016 (hdj_b rfl) gC
  have gS_1016 := st_gS_t F_1016 (hdj_b rfl) gS
  have gV_1016 := st_gV_t F_1016 (hdj_b rfl) gV
  have gW_1016 := st_gW_t F_1016 (hdj_b rfl) gW
  have gM_1016 := st_gM_t F_1016 (hdj_b rfl) gM
  have gR_1016 := st_gR_t F_1016 (hdj_b rfl) gR
  have gI_1016 := st_gI_t F_1016 (hdj_b rfl) gI
  have gJ_1016 := st_gJ_t F_1016 (hdj_b rfl) gJ
  have hB_1016 := st_hB_t F_1016 (hdj_b rfl) hB
  have hC_1016 := st_hC_t F_1016 (hdj_b rfl) hC
  have hT_1016 := st_hT_t F_1016 (hdj_b rfl) hT
  have hS_1016 := st_hS_t F_1016 (hdj_b rfl) hS
  have hM_1016 := st_hM_t F_1016 (hdj_b rfl) hM
  have hR_1016 := st_hR_t F_1016 (hdj_b rfl) hR
  have hI_1016 := st_hI_t F_1016 (hdj_b rfl) hI
  refine ik_F_mono (rp_told3 (f := fun j => ((pl :: 0 :: 0 :: 0 :: (((s : Nat) : Int)) :: 0 :: 0 :: mi :: sd :: 0 :: tn :: fp :: sc0 :: sc1 :: sc2 :: sc3 :: sc4 :: sc5 :: 0 :: 0 :: 0 :: 0 :: 0 :: 0 :: w24 :: 0 :: 0 :: 0 :: 0 :: 0 :: 0 :: 0 :: sb :: wa :: 0 :: 0 :: r :: 0 :: 0 :: 0 :: 0 :: 0 :: 0 :: []) : List Int).getD j 0) (n0 := n0) (n1 := n1)  g_1016_66 g_1016_90 k_1016) ?_
  rintro v_1017 h_1017 ⟨er_1017, F_1017⟩ <;> subst er_1017
  have k_1017 : cL h_1017 := F_1017.1.trans k_1016
  have g_1017_0 := (hfr_g F_1017 0 rfl).trans g_1016_0
  have g_1017_18 := (hfr_g F_1017 18 rfl).trans g_1016_18
  have g_1017_54 := (hfr_g F_1017 54 rfl).trans g_1016_54
  have g_1017_55 := (hfr_g F_1017 55 rfl).trans g_1016_55
  have g_1017_56 := (hfr_g F_1017 56 rfl).trans g_1016_56
  have g_1017_57 := (hfr_g F_1017 57 rfl).trans g_1016_57
  have g_1017_66 := (hfr_g F_1017 66 rfl).trans g_1016_66
  have g_1017_90 := (hfr_g F_1017 90 rfl).trans g_1016_90
  have g_1017_91 := (hfr_g F_1017 91 rfl).trans g_1016_91
  refine ⟨rfl, ?_⟩
  have gT_1017 := st_gT_t F_1017 (hdj_b rfl) gT_1016
  have gB_1017 := st_gB_t F_1017 (hdj_b rfl) gB_1016
  have gC_1017 := st_gC_t F_1017 (hdj_b rfl) gC_1016
  have gS_1017 := st_gS_t F_1017 (hdj_b rfl) gS_1016
  have gV_1017 := st_gV_t F_1017 (hdj_b rfl) gV_1016
  have gW_1017 := st_gW_t F_1017 (hdj_b rfl) gW_1016
  have gM_1017 := st_gM_t F_1017 (hdj_b rfl) gM_1016
  have gR_1017 := st_gR_t F_1017 (hdj_b rfl) gR_1016
  have gI_1017 := st_gI_t F_1017 (hdj_b rfl) gI_1016
  have gJ_1017 := st_gJ_t F_1017 (hdj_b rfl) gJ_1016
  have hB_1017 := st_hB_t F_1017 (hdj_b rfl) hB_1016
  have hC_1017 := st_hC_t F_1017 (hdj_b rfl) hC_1016
  have hT_1017 := st_hT_t F_1017 (hdj_b rfl) hT_1016
  have hS_1017 := st_hS_t F_1017 (hdj_b rfl) hS_1016
  have hM_1017 := st_hM_t F_1017 (hdj_b rfl) hM_1016
  have hR_1017 := st_hR_t F_1017 (hdj_b rfl) hR_1016
  have hI_1017 := st_hI_t F_1017 (hdj_b rfl) hI_1016
  intro C_ k_
  exact k_ tn fp pl mi sd ka pa fa kb pb fb xa xb r n0 n1 ga0 gm0 gd_0 gs0 g00 g01 g02 g03 g04 g05 gx0 gy0 ga1 gm1 gd_1 gs1 g10 g11 g12 g13 g14 g15 gx1 gy1 s T cn go ch wg wc we rp rt lr ci0 ci1 cnr gor chr T2 im f_pl f_s f_st f_cb f_cr f_rw f_al f_wy f_k f_p f_x (by first | exact st_m f_m | omega) f_sd f_r f_rr f_n f_l0 f_l1 f_tn f_t (st_I_K f_i0) (st_I_K f_i1) ⟨g_1017_0, g_1017_18, g_1017_57⟩ gT_1017 gB_1017 gC_1017 gS_1017 gV_1017 gW_1017 gM_1017 gR_1017 ⟨g_1017_54, g_1017_55, n55, g_1017_56⟩ gI_1017 gJ_1017 ⟨sc0, sc1, sc2, sc3, sc4, sc5, w24, sb, wa, g_1017_66⟩ hB_1017 hC_1017 hT_1017 hS_1017 hM_1017 hR_1017 ⟨g_1017_90, g_1017_91, n91⟩ hI_1017 k_1017

set_option maxRecDepth 100000 in
theorem lk_told4 {K : Nat} {h : List ik_E} (E : st_S K h) (hK : K ≤ 600)    : ik_F 93 [.ref 0, fI 4] h (fun rv h_q => ∃ o_ : Int, rv = [fI o_] ∧ (h_q.length = (94 : Nat) ∧ ∃ fs, h_q[66]? = some (.inr (10, fs))) ∧ ik_F 150 [.ref 66, fI 4] h_q (fun rv' h'' => rv' = [fI o_] ∧ st_S (K + 1) h'')) := by
  refine E _ ?_
  intro tn fp pl mi sd ka pa fa kb pb fb xa xb r n0 n1 ga0 gm0 gd_0 gs0 g00 g01 g02 g03 g04 g05 gx0 gy0 ga1 gm1 gd_1 gs1 g10 g11 g12 g13 g14 g15 gx1 gy1 s T cn go ch wg wc we rp rt lr ci0 ci1 cnr gor chr T2 im f_pl f_s f_st f_cb f_cr f_rw f_al f_wy f_k f_p f_x f_m f_sd f_r f_rr f_n f_l0 f_l1 f_tn f_t f_i0 f_i1 gA gT gB gC gS gV gW gM gR gL gI gJ hO hB hC hT hS hM hR hL hI hl
  replace f_cb := ik_hid_i f_cb
  replace f_cr := ik_hid_i f_cr
  replace f_p := ik_hid_i f_p
  replace f_x := ik_hid_i f_x
  obtain ⟨h0, h18, h57⟩ := gA
  obtain ⟨h54, h55, n55, h56⟩ := gL
  obtain ⟨sc0, sc1, sc2, sc3, sc4, sc5, w24, sb, wa, h66⟩ := hO
  obtain ⟨h90, h91, n91⟩ := hL
  refine ik_F_mono (cp_told4 (n0 := n0) (n1 := n1)  h0 h54 h56 hl) ?_
  rintro v_1018 h_1018 ⟨er_1018, F_1018⟩ <;> subst er_1018
  have k_1018 : cL h_1018 := F_1018.1.trans hl
  have g_1018_0 := (hfr_g F_1018 0 rfl).trans h0
  have g_1018_18 := (hfr_g F_1018 18 rfl).trans h18
  have g_1018_54 := (hfr_g F_1018 54 rfl).trans h54
  have g_1018_55 := (hfr_g F_1018 55 rfl).trans h55
  have g_1018_56 := (hfr_g F_1018 56 rfl).trans h56
  have g_1018_57 := (hfr_g F_1018 57 rfl).trans h57
  have g_1018_66 := (hfr_g F_1018 66 rfl).trans h66
  have g_1018_90 := (hfr_g F_1018 90 rfl).trans h90
  have g_1018_91 := (hfr_g F_1018 91 rfl).trans h91
  refine ⟨n1, rfl, ⟨k_1018, _, g_1018_66⟩, ?_⟩
  have gT_1018 := st_gT_t F_1018 (hdj_b rfl) gT
  have gB_1018 := st_gB_t F_1018 (hdj_b rfl) gB
  have gC_1018 := st_gC_t F_1018 (hdj_b rfl) gC
  have gS_1018 := st_gS_t F_1018 (hdj_b rfl) gS
  have gV_1018 := st_gV_t F_1018 (hdj_b rfl) gV
  have gW_1018 := st_gW_t F_1018 (hdj_b rfl) gW
  have gM_1018 := st_gM_t F_1018 (hdj_b rfl) gM
  have gR_1018 := st_gR_t F_1018 (hdj_b rfl) gR
  have gI_1018 := st_gI_t F_1018 (hdj_b rfl) gI
  have gJ_1018 := st_gJ_t F_1018 (hdj_b rfl) gJ
  have hB_1018 := st_hB_t F_1018 (hdj_b rfl) hB
  have hC_1018 := st_hC_t F_1018 (hdj_b rfl) hC
  have hT_1018 := st_hT_t F_1018 (hdj_b rfl) hT
  have hS_1018 := st_hS_t F_1018 (hdj_b rfl) hS
  have hM_1018 := st_hM_t F_1018 (hdj_b rfl) hM
  have hR_1018 := st_hR_t F_1018 (hdj_b rfl) hR
  have hI_1018 := st_hI_t F_1018 (hdj_b rfl) hI
  refine ik_F_mono (rp_told4 (f := fun j => ((pl :: 0 :: 0 :: 0 :: (((s : Nat) : Int)) :: 0 :: 0 :: mi :: sd :: 0 :: tn :: fp :: sc0 :: sc1 :: sc2 :: sc3 :: sc4 :: sc5 :: 0 :: 0 :: 0 :: 0 :: 0 :: 0 :: w24 :: 0 :: 0 :: 0 :: 0 :: 0 :: 0 :: 0 :: sb :: wa :: 0 :: 0 :: r :: 0 :: 0 :: 0 :: 0 :: 0 :: 0 :: []) : List Int).getD j 0) (n0 := n0) (n1 := n1)  g_1018_66 g_1018_90 k_1018) ?_
  rintro v_1019 h_1019 ⟨er_1019, F_1019⟩ <;> subst er_1019
  have k_1019 : cL h_1019 := F_1019.1.trans k_1018
  have g_1019_0 := (hfr_g F_1019 0 rfl).trans g_1018_0
  have g_1019_18 := (hfr_g F_1019 18 rfl).trans g_1018_18
  have g_1019_54 := (hfr_g F_1019 54 rfl).trans g_1018_54
  have g_1019_55 := (hfr_g F_1019 55 rfl).trans g_1018_55
  have g_1019_56 := (hfr_g F_1019 56 rfl).trans g_1018_56
  have g_1019_57 := (hfr_g F_1019 57 rfl).trans g_1018_57
  have g_1019_66 := (hfr_g F_1019 66 rfl).trans g_1018_66
  have g_1019_90 := (hfr_g F_1019 90 rfl).trans g_1018_90
  have g_1019_91 := (hfr_g F_1019 91 rfl).trans g_1018_91
  refine ⟨rfl, ?_⟩
  have gT_1019 := st_gT_t F_1019 (hdj_b rfl) gT_1018
  have gB_1019 := st_gB_t F_1019 (hdj_b rfl) gB_1018
  have gC_1019 := st_gC_t F_1019 (hdj_b rfl) gC_1018
  have gS_1019 := st_gS_t F_1019 (hdj_b rfl) gS_1018
  have gV_1019 := st_gV_t F_1019 (hdj_b rfl) gV_1018
  have gW_1019 := st_gW_t F_1019 (hdj_b rfl) gW_1018
  have gM_1019 := st_gM_t F_1019 (hdj_b rfl) gM_1018
  have gR_1019 := st_gR_t F_1019 (hdj_b rfl) gR_1018
  have gI_1019 := st_gI_t F_1019 (hdj_b rfl) gI_1018
  have gJ_1019 := st_gJ_t F_1019 (hdj_b rfl) gJ_1018
  have hB_1019 := st_hB_t F_1019 (hdj_b rfl) hB_1018
  have hC_1019 := st_hC_t F_1019 (hdj_b rfl) hC_1018
  have hT_1019 := st_hT_t F_1019 (hdj_b rfl) hT_1018
  have hS_1019 := st_hS_t F_1019 (hdj_b rfl) hS_1018
  have hM_1019 := st_hM_t F_1019 (hdj_b rfl) hM_1018
  have hR_1019 := st_hR_t F_1019 (hdj_b rfl) hR_1018
  have hI_1019 := st_hI_t F_1019 (hdj_b rfl) hI_1018
  intro C_ k_
  exact k_ tn fp pl mi sd ka pa fa kb pb fb xa xb r n0 n1 ga0 gm0 gd_0 gs0 g00 g01 g02 g03 g04 g05 gx0 gy0 ga1 gm1 gd_1 gs1 g10 g11 g12 g13 g14 g15 gx1 gy1 s T cn go ch wg wc we rp rt lr ci0 ci1 cnr gor chr T2 im f_pl f_s f_st f_cb f_cr f_rw f_al f_wy f_k f_p f_x (by first | exact st_m f_m | omega) f_sd f_r f_rr f_n f_l0 f_l1 f_tn f_t (st_I_K f_i0) (st_I_K f_i1) ⟨g_1019_0, g_1019_18, g_1019_57⟩ gT_1019 gB_1019 gC_1019 gS_1019 gV_1019 gW_1019 gM_1019 gR_1019 ⟨g_1019_54, g_1019_55, n55, g_1019_56⟩ gI_1019 gJ_1019 ⟨sc0, sc1, sc2, sc3, sc4, sc5, w24, sb, wa, g_1019_66⟩ hB_1019 hC_1019 hT_1019 hS_1019 hM_1019 hR_1019 ⟨g_1019_90, g_1019_91, n91⟩ hI_1019 k_1019

set_option maxRecDepth 100000 in
theorem lk_told5 {K : Nat} {h : List ik_E} (E : st_S K h) (hK : K ≤ 600)    : ik_F 93 [.ref 0, fI 5] h (fun rv h_q => ∃ o_ : Int, rv = [fI o_] ∧ (h_q.length = (94 : Nat) ∧ ∃ fs, h_q[66]? = some (.inr (10, fs))) ∧ ik_F 150 [.ref 66, fI 5] h_q (fun rv' h'' => rv' = [fI o_] ∧ st_S (K + 1) h'')) := by
  refine E _ ?_
  intro tn fp pl mi sd ka pa fa kb pb fb xa xb r n0 n1 ga0 gm0 gd_0 gs0 g00 g01 g02 g03 g04 g05 gx0 gy0 ga1 gm1 gd_1 gs1 g10 g11 g12 g13 g14 g15 gx1 gy1 s T cn go ch wg wc we rp rt lr ci0 ci1 cnr gor chr T2 im f_pl f_s f_st f_cb f_cr f_rw f_al f_wy f_k f_p f_x f_m f_sd f_r f_rr f_n f_l0 f_l1 f_tn f_t f_i0 f_i1 gA gT gB gC gS gV gW gM gR gL gI gJ hO hB hC hT hS hM hR hL hI hl
  replace f_cb := ik_hid_i f_cb
  replace f_cr := ik_hid_i f_cr
  replace f_p := ik_hid_i f_p
  replace f_x := ik_hid_i f_x
  obtain ⟨h0, h18, h57⟩ := gA
  obtain ⟨h14, h15, h16⟩ := gC
  obtain ⟨sc0, sc1, sc2, sc3, sc4, sc5, w24, sb, wa, h66⟩ := hO
  refine ik_F_mono (cp_told5 (mi := mi) (dr := sd)  h0 h14 hl) ?_
  rintro v_1020 h_1020 ⟨er_1020, F_1020⟩ <;> subst er_1020
  have k_1020 : cL h_1020 := F_1020.1.trans hl
  have g_1020_0 := (hfr_g F_1020 0 rfl).trans h0
  have g_1020_14 := (hfr_g F_1020 14 rfl).trans h14
  have g_1020_15 := (hfr_g F_1020 15 rfl).trans h15
  have g_1020_16 := (hfr_g F_1020 16 rfl).trans h16
  have g_1020_18 := (hfr_g F_1020 18 rfl).trans h18
  have g_1020_57 := (hfr_g F_1020 57 rfl).trans h57
  have g_1020_66 := (hfr_g F_1020 66 rfl).trans h66
  refine ⟨mi, rfl, ⟨k_1020, _, g_1020_66⟩, ?_⟩
  have gT_1020 := st_gT_t F_1020 (hdj_b rfl) gT
  have gB_1020 := st_gB_t F_1020 (hdj_b rfl) gB
  have gS_1020 := st_gS_t F_1020 (hdj_b rfl) gS
  have gV_1020 := st_gV_t F_1020 (hdj_b rfl) gV
  have gW_1020 := st_gW_t F_1020 (hdj_b rfl) gW
  have gM_1020 := st_gM_t F_1020 (hdj_b rfl) gM
  have gR_1020 := st_gR_t F_1020 (hdj_b rfl) gR
  have gL_1020 := st_gL_t F_1020 (hdj_b rfl) gL
  have gI_1020 := st_gI_t F_1020 (hdj_b rfl) gI
  have gJ_1020 := st_gJ_t F_1020 (hdj_b rfl) gJ
  have hB_1020 := st_hB_t F_1020 (hdj_b rfl) hB
  have hC_1020 := st_hC_t F_1020 (hdj_b rfl) hC
  have hT_1020 := st_hT_t F_1020 (hdj_b rfl) hT
  have hS_1020 := st_hS_t F_1020 (hdj_b rfl) hS
  have hM_1020 := st_hM_t F_1020 (hdj_b rfl) hM
  have hR_1020 := st_hR_t F_1020 (hdj_b rfl) hR
  have hL_1020 := st_hL_t F_1020 (hdj_b rfl) hL
  have hI_1020 := st_hI_t F_1020 (hdj_b rfl) hI
  refine ik_F_mono (rp_told5 (f := fun j => ((pl :: 0 :: 0 :: 0 :: (((s : Nat) : Int)) :: 0 :: 0 :: mi :: sd :: 0 :: tn :: fp :: sc0 :: sc1 :: sc2 :: sc3 :: sc4 :: sc5 :: 0 :: 0 :: 0 :: 0 :: 0 :: 0 :: w24 :: 0 :: 0 :: 0 :: 0 :: 0 :: 0 :: 0 :: sb :: wa :: 0 :: 0 :: r :: 0 :: 0 :: 0 :: 0 :: 0 :: 0 :: []) : List Int).getD j 0)  g_1020_66 k_1020) ?_
  rintro v_1021 h_1021 ⟨er_1021, F_1021⟩ <;> subst er_1021
  have k_1021 : cL h_1021 := F_1021.1.trans k_1020
  have g_1021_0 := (hfr_g F_1021 0 rfl).trans g_1020_0
  have g_1021_14 := (hfr_g F_1021 14 rfl).trans g_1020_14
  have g_1021_15 := (hfr_g F_1021 15 rfl).trans g_1020_15
  have g_1021_16 := (hfr_g F_1021 16 rfl).trans g_1020_16
  have g_1021_18 := (hfr_g F_1021 18 rfl).trans g_1020_18
  have g_1021_57 := (hfr_g F_1021 57 rfl).trans g_1020_57
  have g_1021_66 := (hfr_g F_1021 66 rfl).trans g_1020_66
  refine ⟨rfl, ?_⟩
  have gT_1021 := st_gT_t F_1021 (hdj_b rfl) gT_1020
  have gB_1021 := st_gB_t F_1021 (hdj_b rfl) gB_1020
  have gS_1021 := st_gS_t F_1021 (hdj_b rfl) gS_1020
  have gV_1021 := st_gV_t F_1021 (hdj_b rfl) gV_1020
  have gW_1021 := st_gW_t F_1021 (hdj_b rfl) gW_1020
  have gM_1021 := st_gM_t F_1021 (hdj_b rfl) gM_1020
  have gR_1021 := st_gR_t F_1021 (hdj_b rfl) gR_1020
  have gL_1021 := st_gL_t F_1021 (hdj_b rfl) gL_1020
  have gI_1021 := st_gI_t F_1021 (hdj_b rfl) gI_1020
  have gJ_1021 := st_gJ_t F_1021 (hdj_b rfl) gJ_1020
  have hB_1021 := st_hB_t F_1021 (hdj_b rfl) hB_1020
  have hC_1021 := st_hC_t F_1021 (hdj_b rfl) hC_1020
  have hT_1021 := st_hT_t F_1021 (hdj_b rfl) hT_1020
  have hS_1021 := st_hS_t F_1021 (hdj_b rfl) hS_1020
  have hM_1021 := st_hM_t F_1021 (hdj_b rfl) hM_1020
  have hR_1021 := st_hR_t F_1021 (hdj_b rfl) hR_1020
  have hL_1021 := st_hL_t F_1021 (hdj_b rfl) hL_1020
  have hI_1021 := st_hI_t F_1021 (hdj_b rfl) hI_1020
  intro C_ k_
  exact k_ tn fp pl mi sd ka pa fa kb pb fb xa xb r n0 n1 ga0 gm0 gd_0 gs0 g00 g01 g02 g03 g04 g05 gx0 gy0 ga1 gm1 gd_1 gs1 g10 g11 g12 g13 g14 g15 gx1 gy1 s T cn go ch wg wc we rp rt lr ci0 ci1 cnr gor chr T2 im f_pl f_s f_st f_cb f_cr f_rw f_al f_wy f_k f_p f_x (by first | exact st_m f_m | omega) f_sd f_r f_rr f_n f_l0 f_l1 f_tn f_t (st_I_K f_i0) (st_I_K f_i1) ⟨g_1021_0, g_1021_18, g_1021_57⟩ gT_1021 gB_1021 ⟨g_1021_14, g_1021_15, g_1021_16⟩ gS_1021 gV_1021 gW_1021 gM_1021 gR_1021 gL_1021 gI_1021 gJ_1021 ⟨sc0, sc1, sc2, sc3, sc4, sc5, w24, sb, wa, g_1021_66⟩ hB_1021 hC_1021 hT_1021 hS_1021 hM_1021 hR_1021 hL_1021 hI_1021 k_1021

set_option maxRecDepth 100000 in
theorem lk_told6 {K : Nat} {h : List ik_E} (E : st_S K h) (hK : K ≤ 600)    : ik_F 93 [.ref 0, fI 6] h (fun rv h_q => ∃ o_ : Int, rv = [fI o_] ∧ (h_q.length = (94 : Nat) ∧ ∃ fs, h_q[66]? = some (.inr (10, fs))) ∧ ik_F 150 [.ref 66, fI 6] h_q (fun rv' h'' => rv' = [fI o_] ∧ st_S (K + 1) h'')) := by
  refine E _ ?_
  intro tn fp pl mi sd ka pa fa kb pb fb xa xb r n0 n1 ga0 gm0 gd_0 gs0 g00 g01 g02 g03 g04 g05 gx0 gy0 ga1 gm1 gd_1 gs1 g10 g11 g12 g13 g14 g15 gx1 gy1 s T cn go ch wg wc we rp rt lr ci0 ci1 cnr gor chr T2 im f_pl f_s f_st f_cb f_cr f_rw f_al f_wy f_k f_p f_x f_m f_sd f_r f_rr f_n f_l0 f_l1 f_tn f_t f_i0 f_i1 gA gT gB gC gS gV gW gM gR gL gI gJ hO hB hC hT hS hM hR hL hI hl
  replace f_cb := ik_hid_i f_cb
  replace f_cr := ik_hid_i f_cr
  replace f_p := ik_hid_i f_p
  replace f_x := ik_hid_i f_x
  obtain ⟨h0, h18, h57⟩ := gA
  obtain ⟨h7, h8, n8, h9, n9, h10, n10, h11, n11, h12, n12, h13, n13⟩ := gB
  obtain ⟨sc0, sc1, sc2, sc3, sc4, sc5, w24, sb, wa, h66⟩ := hO
  obtain ⟨h67, n67, h68, n68, h69, n69⟩ := hB
  refine ik_F_mono (cp_told6 (pl := pl) (st := ((s : Nat) : Int)) (lo := ((mj_lost pl cn go : Nat) : Int))  h0 h7 hl) ?_
  rintro v_1022 h_1022 ⟨er_1022, F_1022⟩ <;> subst er_1022
  have k_1022 : cL h_1022 := F_1022.1.trans hl
  have g_1022_0 := (hfr_g F_1022 0 rfl).trans h0
  have g_1022_7 := (hfr_g F_1022 7 rfl).trans h7
  have g_1022_8 := (hfr_g F_1022 8 rfl).trans h8
  have g_1022_9 := (hfr_g F_1022 9 rfl).trans h9
  have g_1022_10 := (hfr_g F_1022 10 rfl).trans h10
  have g_1022_11 := (hfr_g F_1022 11 rfl).trans h11
  have g_1022_12 := (hfr_g F_1022 12 rfl).trans h12
  have g_1022_13 := (hfr_g F_1022 13 rfl).trans h13
  have g_1022_18 := (hfr_g F_1022 18 rfl).trans h18
  have g_1022_57 := (hfr_g F_1022 57 rfl).trans h57
  have g_1022_66 := (hfr_g F_1022 66 rfl).trans h66
  have g_1022_67 := (hfr_g F_1022 67 rfl).trans h67
  have g_1022_68 := (hfr_g F_1022 68 rfl).trans h68
  have g_1022_69 := (hfr_g F_1022 69 rfl).trans h69
  refine ⟨((mj_lost pl cn go : Nat) : Int), rfl, ⟨k_1022, _, g_1022_66⟩, ?_⟩
  have gT_1022 := st_gT_t F_1022 (hdj_b rfl) gT
  have gC_1022 := st_gC_t F_1022 (hdj_b rfl) gC
  have gS_1022 := st_gS_t F_1022 (hdj_b rfl) gS
  have gV_1022 := st_gV_t F_1022 (hdj_b rfl) gV
  have gW_1022 := st_gW_t F_1022 (hdj_b rfl) gW
  have gM_1022 := st_gM_t F_1022 (hdj_b rfl) gM
  have gR_1022 := st_gR_t F_1022 (hdj_b rfl) gR
  have gL_1022 := st_gL_t F_1022 (hdj_b rfl) gL
  have gI_1022 := st_gI_t F_1022 (hdj_b rfl) gI
  have gJ_1022 := st_gJ_t F_1022 (hdj_b rfl) gJ
  have hC_1022 := st_hC_t F_1022 (hdj_b rfl) hC
  have hT_1022 := st_hT_t F_1022 (hdj_b rfl) hT
  have hS_1022 := st_hS_t F_1022 (hdj_b rfl) hS
  have hM_1022 := st_hM_t F_1022 (hdj_b rfl) hM
  have hR_1022 := st_hR_t F_1022 (hdj_b rfl) hR
  have hL_1022 := st_hL_t F_1022 (hdj_b rfl) hL
  have hI_1022 := st_hI_t F_1022 (hdj_b rfl) hI
  refine ik_F_mono (rp_told6 (pl := pl) (f := fun j => ((0 :: 0 :: 0 :: 0 :: (((s : Nat) : Int)) :: 0 :: 0 :: mi :: sd :: 0 :: tn :: fp :: sc0 :: sc1 :: sc2 :: sc3 :: sc4 :: sc5 :: 0 :: 0 :: 0 :: 0 :: 0 :: 0 :: w24 :: 0 :: 0 :: 0 :: 0 :: 0 :: 0 :: 0 :: sb :: wa :: 0 :: 0 :: r :: 0 :: 0 :: 0 :: 0 :: 0 :: 0 :: []) : List Int).getD j 0) (cn := cnr) (go := gor) f_pl (fun x h0 h1 => ⟨by have := ((mx_al_rw f_rw f_al) x h0 h1).1; omega, fun i i0 i1 => by have := ((mx_al_rw f_rw f_al) x h0 h1).2.1 i i0 i1; omega⟩) g_1022_66 g_1022_67 n67 g_1022_68 n68 k_1022) ?_
  rintro v_1023 h_1023 ⟨er_1023, F_1023⟩ <;> subst er_1023
  have k_1023 : cL h_1023 := F_1023.1.trans k_1022
  have g_1023_0 := (hfr_g F_1023 0 rfl).trans g_1022_0
  have g_1023_7 := (hfr_g F_1023 7 rfl).trans g_1022_7
  have g_1023_8 := (hfr_g F_1023 8 rfl).trans g_1022_8
  have g_1023_9 := (hfr_g F_1023 9 rfl).trans g_1022_9
  have g_1023_10 := (hfr_g F_1023 10 rfl).trans g_1022_10
  have g_1023_11 := (hfr_g F_1023 11 rfl).trans g_1022_11
  have g_1023_12 := (hfr_g F_1023 12 rfl).trans g_1022_12
  have g_1023_13 := (hfr_g F_1023 13 rfl).trans g_1022_13
  have g_1023_18 := (hfr_g F_1023 18 rfl).trans g_1022_18
  have g_1023_57 := (hfr_g F_1023 57 rfl).trans g_1022_57
  have g_1023_66 := (hfr_g F_1023 66 rfl).trans g_1022_66
  have g_1023_67 := (hfr_g F_1023 67 rfl).trans g_1022_67
  have g_1023_68 := (hfr_g F_1023 68 rfl).trans g_1022_68
  have g_1023_69 := (hfr_g F_1023 69 rfl).trans g_1022_69
  refine ⟨(congrArg (fun z => [fI z]) (congrArg (fun z : Nat => (z : Int)) (mj_lost_al f_rw f_al))), ?_⟩
  have gT_1023 := st_gT_t F_1023 (hdj_b rfl) gT_1022
  have gC_1023 := st_gC_t F_1023 (hdj_b rfl) gC_1022
  have gS_1023 := st_gS_t F_1023 (hdj_b rfl) gS_1022
  have gV_1023 := st_gV_t F_1023 (hdj_b rfl) gV_1022
  have gW_1023 := st_gW_t F_1023 (hdj_b rfl) gW_1022
  have gM_1023 := st_gM_t F_1023 (hdj_b rfl) gM_1022
  have gR_1023 := st_gR_t F_1023 (hdj_b rfl) gR_1022
  have gL_1023 := st_gL_t F_1023 (hdj_b rfl) gL_1022
  have gI_1023 := st_gI_t F_1023 (hdj_b rfl) gI_1022
  have gJ_1023 := st_gJ_t F_1023 (hdj_b rfl) gJ_1022
  have hC_1023 := st_hC_t F_1023 (hdj_b rfl) hC_1022
  have hT_1023 := st_hT_t F_1023 (hdj_b rfl) hT_1022
  have hS_1023 := st_hS_t F_1023 (hdj_b rfl) hS_1022
  have hM_1023 := st_hM_t F_1023 (hdj_b rfl) hM_1022
  have hR_1023 := st_hR_t F_1023 (hdj_b rfl) hR_1022
  have hL_1023 := st_hL_t F_1023 (hdj_b rfl) hL_1022
  have hI_1023 := st_hI_t F_1023 (hdj_b rfl) hI_1022
  intro C_ k_
  exact k_ tn fp pl mi sd ka pa fa kb pb fb xa xb r n0 n1 ga0 gm0 gd_0 gs0 g00 g01 g02 g03 g04 g05 gx0 gy0 ga1 gm1 gd_1 gs1 g10 g11 g12 g13 g14 g15 gx1 gy1 s T cn go ch wg wc we rp rt lr ci0 ci1 cnr gor chr T2 im f_pl f_s f_st f_cb f_cr f_rw f_al f_wy f_k f_p f_x (by first | exact st_m f_m | omega) f_sd f_r f_rr f_n f_l0 f_l1 f_tn f_t (st_I_K f_i0) (st_I_K f_i1) ⟨g_1023_0, g_1023_18, g_1023_57⟩ gT_1023 ⟨g_1023_7, g_1023_8, n8, g_1023_9, n9, g_1023_10, n10, g_1023_11, n11, g_1023_12, n12, g_1023_13, n13⟩ gC_1023 gS_1023 gV_1023 gW_1023 gM_1023 gR_1023 gL_1023 gI_1023 gJ_1023 ⟨sc0, sc1, sc2, sc3, sc4, sc5, w24, sb, wa, g_1023_66⟩ ⟨g_1023_67, n67, g_1023_68, n68, g_1023_69, n69⟩ hC_1023 hT_1023 hS_1023 hM_1023 hR_1023 hL_1023 hI_1023 k_1023

set_option maxRecDepth 100000 in
theorem lk_told7 {K : Nat} {h : List ik_E} (E : st_S K h) (hK : K ≤ 600)    : ik_F 93 [.ref 0, fI 7] h (fun rv h_q => ∃ o_ : Int, rv = [fI o_] ∧ (h_q.length = (94 : Nat) ∧ ∃ fs, h_q[66]? = some (.inr (10, fs))) ∧ ik_F 150 [.ref 66, fI 7] h_q (fun rv' h'' => rv' = [fI o_] ∧ st_S (K + 1) h'')) := by
  refine E _ ?_
  intro tn fp pl mi sd ka pa fa kb pb fb xa xb r n0 n1 ga0 gm0 gd_0 gs0 g00 g01 g02 g03 g04 g05 gx0 gy0 ga1 gm1 gd_1 gs1 g10 g11 g12 g13 g14 g15 gx1 gy1 s T cn go ch wg wc we rp rt lr ci0 ci1 cnr gor chr T2 im f_pl f_s f_st f_cb f_cr f_rw f_al f_wy f_k f_p f_x f_m f_sd f_r f_rr f_n f_l0 f_l1 f_tn f_t f_i0 f_i1 gA gT gB gC gS gV gW gM gR gL gI gJ hO hB hC hT hS hM hR hL hI hl
  replace f_cb := ik_hid_i f_cb
  replace f_cr := ik_hid_i f_cr
  replace f_p := ik_hid_i f_p
  replace f_x := ik_hid_i f_x
  obtain ⟨h0, h18, h57⟩ := gA
  obtain ⟨h7, h8, n8, h9, n9, h10, n10, h11, n11, h12, n12, h13, n13⟩ := gB
  obtain ⟨sc0, sc1, sc2, sc3, sc4, sc5, w24, sb, wa, h66⟩ := hO
  refine ik_F_mono (cp_told7 (pl := pl) (st := ((s : Nat) : Int)) (lo := ((mj_lost pl cn go : Nat) : Int))  h0 h7 hl) ?_
  rintro v_1024 h_1024 ⟨er_1024, F_1024⟩ <;> subst er_1024
  have k_1024 : cL h_1024 := F_1024.1.trans hl
  have g_1024_0 := (hfr_g F_1024 0 rfl).trans h0
  have g_1024_7 := (hfr_g F_1024 7 rfl).trans h7
  have g_1024_8 := (hfr_g F_1024 8 rfl).trans h8
  have g_1024_9 := (hfr_g F_1024 9 rfl).trans h9
  have g_1024_10 := (hfr_g F_1024 10 rfl).trans h10
  have g_1024_11 := (hfr_g F_1024 11 rfl).trans h11
  have g_1024_12 := (hfr_g F_1024 12 rfl).trans h12
  have g_1024_13 := (hfr_g F_1024 13 rfl).trans h13
  have g_1024_18 := (hfr_g F_1024 18 rfl).trans h18
  have g_1024_57 := (hfr_g F_1024 57 rfl).trans h57
  have g_1024_66 := (hfr_g F_1024 66 rfl).trans h66
  refine ⟨((s : Nat) : Int), rfl, ⟨k_1024, _, g_1024_66⟩, ?_⟩
  have gT_1024 := st_gT_t F_1024 (hdj_b rfl) gT
  have gC_1024 := st_gC_t F_1024 (hdj_b rfl) gC
  have gS_1024 := st_gS_t F_1024 (hdj_b rfl) gS
  have gV_1024 := st_gV_t F_1024 (hdj_b rfl) gV
  have gW_1024 := st_gW_t F_1024 (hdj_b rfl) gW
  have gM_1024 := st_gM_t F_1024 (hdj_b rfl) gM
  have gR_1024 := st_gR_t F_1024 (hdj_b rfl) gR
  have gL_1024 := st_gL_t F_1024 (hdj_b rfl) gL
  have gI_1024 := st_gI_t F_1024 (hdj_b rfl) gI
  have gJ_1024 := st_gJ_t F_1024 (hdj_b rfl) gJ
  have hB_1024 := st_hB_t F_1024 (hdj_b rfl) hB
  have hC_1024 := st_hC_t F_1024 (hdj_b rfl) hC
  have hT_1024 := st_hT_t F_1024 (hdj_b rfl) hT
  have hS_1024 := st_hS_t F_1024 (hdj_b rfl) hS
  have hM_1024 := st_hM_t F_1024 (hdj_b rfl) hM
  have hR_1024 := st_hR_t F_1024 (hdj_b rfl) hR
  have hL_1024 := st_hL_t F_1024 (hdj_b rfl) hL
  have hI_1024 := st_hI_t F_1024 (hdj_b rfl) hI
  refine ik_F_mono (rp_told7 (f := fun j => ((pl :: 0 :: 0 :: 0 :: (((s : Nat) : Int)) :: 0 :: 0 :: mi :: sd :: 0 :: tn :: fp :: sc0 :: sc1 :: sc2 :: sc3 :: sc4 :: sc5 :: 0 :: 0 :: 0 :: 0 :: 0 :: 0 :: w24 :: 0 :: 0 :: 0 :: 0 :: 0 :: 0 :: 0 :: sb :: wa :: 0 :: 0 :: r :: 0 :: 0 :: 0 :: 0 :: 0 :: 0 :: []) : List Int).getD j 0)  g_1024_66 k_1024) ?_
  rintro v_1025 h_1025 ⟨er_1025, F_1025⟩ <;> subst er_1025
  have k_1025 : cL h_1025 := F_1025.1.trans k_1024
  have g_1025_0 := (hfr_g F_1025 0 rfl).trans g_1024_0
  have g_1025_7 := (hfr_g F_1025 7 rfl).trans g_1024_7
  have g_1025_8 := (hfr_g F_1025 8 rfl).trans g_1024_8
  have g_1025_9 := (hfr_g F_1025 9 rfl).trans g_1024_9
  have g_1025_10 := (hfr_g F_1025 10 rfl).trans g_1024_10
  have g_1025_11 := (hfr_g F_1025 11 rfl).trans g_1024_11
  have g_1025_12 := (hfr_g F_1025 12 rfl).trans g_1024_12
  have g_1025_13 := (hfr_g F_1025 13 rfl).trans g_1024_13
  have g_1025_18 := (hfr_g F_1025 18 rfl).trans g_1024_18
  have g_1025_57 := (hfr_g F_1025 57 rfl).trans g_1024_57
  have g_1025_66 := (hfr_g F_1025 66 rfl).trans g_1024_66
  refine ⟨rfl, ?_⟩
  have gT_1025 := st_gT_t F_1025 (hdj_b rfl) gT_1024
  have gC_1025 := st_gC_t F_1025 (hdj_b rfl) gC_1024
  have gS_1025 := st_gS_t F_1025 (hdj_b rfl) gS_1024
  have gV_1025 := st_gV_t F_1025 (hdj_b rfl) gV_1024
  have gW_1025 := st_gW_t F_1025 (hdj_b rfl) gW_1024
  have gM_1025 := st_gM_t F_1025 (hdj_b rfl) gM_1024
  have gR_1025 := st_gR_t F_1025 (hdj_b rfl) gR_1024
  have gL_1025 := st_gL_t F_1025 (hdj_b rfl) gL_1024
  have gI_1025 := st_gI_t F_1025 (hdj_b rfl) gI_1024
  have gJ_1025 := st_gJ_t F_1025 (hdj_b rfl) gJ_1024
  have hB_1025 := st_hB_t F_1025 (hdj_b rfl) hB_1024
  have hC_1025 := st_hC_t F_1025 (hdj_b rfl) hC_1024
  have hT_1025 := st_hT_t F_1025 (hdj_b rfl) hT_1024
  have hS_1025 := st_hS_t F_1025 (hdj_b rfl) hS_1024
  have hM_1025 := st_hM_t F_1025 (hdj_b rfl) hM_1024
  have hR_1025 := st_hR_t F_1025 (hdj_b rfl) hR_1024
  have hL_1025 := st_hL_t F_1025 (hdj_b rfl) hL_1024
  have hI_1025 := st_hI_t F_1025 (hdj_b rfl) hI_1024
  intro C_ k_
  exact k_ tn fp pl mi sd ka pa fa kb pb fb xa xb r n0 n1 ga0 gm0 gd_0 gs0 g00 g01 g02 g03 g04 g05 gx0 gy0 ga1 gm1 gd_1 gs1 g10 g11 g12 g13 g14 g15 gx1 gy1 s T cn go ch wg wc we rp rt lr ci0 ci1 cnr gor chr T2 im f_pl f_s f_st f_cb f_cr f_rw f_al f_wy f_k f_p f_x (by first | exact st_m f_m | omega) f_sd f_r f_rr f_n f_l0 f_l1 f_tn f_t (st_I_K f_i0) (st_I_K f_i1) ⟨g_1025_0, g_1025_18, g_1025_57⟩ gT_1025 ⟨g_1025_7, g_1025_8, n8, g_1025_9, n9, g_1025_10, n10, g_1025_11, n11, g_1025_12, n12, g_1025_13, n13⟩ gC_1025 gS_1025 gV_1025 gW_1025 gM_1025 gR_1025 gL_1025 gI_1025 gJ_1025 ⟨sc0, sc1, sc2, sc3, sc4, sc5, w24, sb, wa, g_1025_66⟩ hB_1025 hC_1025 hT_1025 hS_1025 hM_1025 hR_1025 hL_1025 hI_1025 k_1025

set_option maxRecDepth 100000 in
theorem lk_toldE {K : Nat} {h : List ik_E} (E : st_S K h) (hK : K ≤ 600) {what : Int} (z_what : -2147483648 ≤ what ∧ what < 2147483648) (q1 : what < 0 ∨ 7 < what) : ik_F 93 [.ref 0, fI what] h (fun rv h_q => ∃ o_ : Int, rv = [fI o_] ∧ (h_q.length = (94 : Nat) ∧ ∃ fs, h_q[66]? = some (.inr (10, fs))) ∧ ik_F 150 [.ref 66, fI what] h_q (fun rv' h'' => rv' = [fI o_] ∧ st_S (K + 1) h'')) := by
  refine E _ ?_
  intro tn fp pl mi sd ka pa fa kb pb fb xa xb r n0 n1 ga0 gm0 gd_0 gs0 g00 g01 g02 g03 g04 g05 gx0 gy0 ga1 gm1 gd_1 gs1 g10 g11 g12 g13 g14 g15 gx1 gy1 s T cn go ch wg wc we rp rt lr ci0 ci1 cnr gor chr T2 im f_pl f_s f_st f_cb f_cr f_rw f_al f_wy f_k f_p f_x f_m f_sd f_r f_rr f_n f_l0 f_l1 f_tn f_t f_i0 f_i1 gA gT gB gC gS gV gW gM gR gL gI gJ hO hB hC hT hS hM hR hL hI hl
  replace f_cb := ik_hid_i f_cb
  replace f_cr := ik_hid_i f_cr
  replace f_p := ik_hid_i f_p
  replace f_x := ik_hid_i f_x
  obtain ⟨h0, h18, h57⟩ := gA
  obtain ⟨sc0, sc1, sc2, sc3, sc4, sc5, w24, sb, wa, h66⟩ := hO
  refine ik_F_mono (cp_toldE (what := what) z_what q1 h0 hl) ?_
  rintro v_1026 h_1026 ⟨er_1026, F_1026⟩ <;> subst er_1026
  have k_1026 : cL h_1026 := F_1026.1.trans hl
  have g_1026_0 := (hfr_g F_1026 0 rfl).trans h0
  have g_1026_18 := (hfr_g F_1026 18 rfl).trans h18
  have g_1026_57 := (hfr_g F_1026 57 rfl).trans h57
  have g_1026_66 := (hfr_g F_1026 66 rfl).trans h66
  refine ⟨-1000000002, rfl, ⟨k_1026, _, g_1026_66⟩, ?_⟩
  have gT_1026 := st_gT_t F_1026 (hdj_b rfl) gT
  have gB_1026 := st_gB_t F_1026 (hdj_b rfl) gB
  have gC_1026 := st_gC_t F_1026 (hdj_b rfl) gC
  have gS_1026 := st_gS_t F_1026 (hdj_b rfl) gS
  have gV_1026 := st_gV_t F_1026 (hdj_b rfl) gV
  have gW_1026 := st_gW_t F_1026 (hdj_b rfl) gW
  have gM_1026 := st_gM_t F_1026 (hdj_b rfl) gM
  have gR_1026 := st_gR_t F_1026 (hdj_b rfl) gR
  have gL_1026 := st_gL_t F_1026 (hdj_b rfl) gL
  have gI_1026 := st_gI_t F_1026 (hdj_b rfl) gI
  have gJ_1026 := st_gJ_t F_1026 (hdj_b rfl) gJ
  have hB_1026 := st_hB_t F_1026 (hdj_b rfl) hB
  have hC_1026 := st_hC_t F_1026 (hdj_b rfl) hC
  have hT_1026 := st_hT_t F_1026 (hdj_b rfl) hT
  have hS_1026 := st_hS_t F_1026 (hdj_b rfl) hS
  have hM_1026 := st_hM_t F_1026 (hdj_b rfl) hM
  have hR_1026 := st_hR_t F_1026 (hdj_b rfl) hR
  have hL_1026 := st_hL_t F_1026 (hdj_b rfl) hL
  have hI_1026 := st_hI_t F_1026 (hdj_b rfl) hI
  refine ik_F_mono (rp_toldE (f := fun j => ((pl :: 0 :: 0 :: 0 :: (((s : Nat) : Int)) :: 0 :: 0 :: mi :: sd :: 0 :: tn :: fp :: sc0 :: sc1 :: sc2 :: sc3 :: sc4 :: sc5 :: 0 :: 0 :: 0 :: 0 :: 0 :: 0 :: w24 :: 0 :: 0 :: 0 :: 0 :: 0 :: 0 :: 0 :: sb :: wa :: 0 :: 0 :: r :: 0 :: 0 :: 0 :: 0 :: 0 :: 0 :: []) : List Int).getD j 0) (what := what) z_what q1 g_1026_66 k_1026) ?_
  rintro v_1027 h_1027 ⟨er_1027, F_1027⟩ <;> subst er_1027
  have k_1027 : cL h_1027 := F_1027.1.trans k_1026
  have g_1027_0 := (hfr_g F_1027 0 rfl).trans g_1026_0
  have g_1027_18 := (hfr_g F_1027 18 rfl).trans g_1026_18
  have g_1027_57 := (hfr_g F_1027 57 rfl).trans g_1026_57
  have g_1027_66 := (hfr_g F_1027 66 rfl).trans g_1026_66
  refine ⟨rfl, ?_⟩
  have gT_1027 := st_gT_t F_1027 (hdj_b rfl) gT_1026
  have gB_1027 := st_gB_t F_1027 (hdj_b rfl) gB_1026
  have gC_1027 := st_gC_t F_1027 (hdj_b rfl) gC_1026
  have gS_1027 := st_gS_t F_1027 (hdj_b rfl) gS_1026
  have gV_1027 := st_gV_t F_1027 (hdj_b rfl) gV_1026
  have gW_1027 := st_gW_t F_1027 (hdj_b rfl) gW_1026
  have gM_1027 := st_gM_t F_1027 (hdj_b rfl) gM_1026
  have gR_1027 := st_gR_t F_1027 (hdj_b rfl) gR_1026
  have gL_1027 := st_gL_t F_1027 (hdj_b rfl) gL_1026
  have gI_1027 := st_gI_t F_1027 (hdj_b rfl) gI_1026
  have gJ_1027 := st_gJ_t F_1027 (hdj_b rfl) gJ_1026
  have hB_1027 := st_hB_t F_1027 (hdj_b rfl) hB_1026
  have hC_1027 := st_hC_t F_1027 (hdj_b rfl) hC_1026
  have hT_1027 := st_hT_t F_1027 (hdj_b rfl) hT_1026
  have hS_1027 := st_hS_t F_1027 (hdj_b rfl) hS_1026
  have hM_1027 := st_hM_t F_1027 (hdj_b rfl) hM_1026
  have hR_1027 := st_hR_t F_1027 (hdj_b rfl) hR_1026
  have hL_1027 := st_hL_t F_1027 (hdj_b rfl) hL_1026
  have hI_1027 := st_hI_t F_1027 (hdj_b rfl) hI_1026
  intro C_ k_
  exact k_ tn fp pl mi sd ka pa fa kb pb fb xa xb r n0 n1 ga0 gm0 gd_0 gs0 g00 g01 g02 g03 g04 g05 gx0 gy0 ga1 gm1 gd_1 gs1 g10 g11 g12 g13 g14 g15 gx1 gy1 s T cn go ch wg wc we rp rt lr ci0 ci1 cnr gor chr T2 im f_pl f_s f_st f_cb f_cr f_rw f_al f_wy f_k f_p f_x (by first | exact st_m f_m | omega) f_sd f_r f_rr f_n f_l0 f_l1 f_tn f_t (st_I_K f_i0) (st_I_K f_i1) ⟨g_1027_0, g_1027_18, g_1027_57⟩ gT_1027 gB_1027 gC_1027 gS_1027 gV_1027 gW_1027 gM_1027 gR_1027 gL_1027 gI_1027 gJ_1027 ⟨sc0, sc1, sc2, sc3, sc4, sc5, w24, sb, wa, g_1027_66⟩ hB_1027 hC_1027 hT_1027 hS_1027 hM_1027 hR_1027 hL_1027 hI_1027 k_1027

set_option maxRecDepth 100000 in
theorem lk_move {K : Nat} {h : List ik_E} (E : st_S K h) (hK : K ≤ 600) {p : Int} {i : Int} {what : Int} (z_p : -2147483648 ≤ p ∧ p < 2147483648) (z_i : -2147483648 ≤ i ∧ i < 2147483648) (z_what : -2147483648 ≤ what ∧ what < 2147483648)  : ik_F 94 [.ref 0, fI p, fI i, fI what] h (fun rv h_q => ∃ o_ : Int, rv = [fI o_] ∧ (h_q.length = (94 : Nat) ∧ ∃ fs, h_q[66]? = some (.inr (10, fs))) ∧ ik_F 151 [.ref 66, fI p, fI i, fI what] h_q (fun rv' h'' => rv' = [fI o_] ∧ st_S (K + 1) h'')) := by
  refine E _ ?_
  intro tn fp pl mi sd ka pa fa kb pb fb xa xb r n0 n1 ga0 gm0 gd_0 gs0 g00 g01 g02 g03 g04 g05 gx0 gy0 ga1 gm1 gd_1 gs1 g10 g11 g12 g13 g14 g15 gx1 gy1 s T cn go ch wg wc we rp rt lr ci0 ci1 cnr gor chr T2 im f_pl f_s f_st f_cb f_cr f_rw f_al f_wy f_k f_p f_x f_m f_sd f_r f_rr f_n f_l0 f_l1 f_tn f_t f_i0 f_i1 gA gT gB gC gS gV gW gM gR gL gI gJ hO hB hC hT hS hM hR hL hI hl
  replace f_cb := ik_hid_i f_cb
  replace f_cr := ik_hid_i f_cr
  replace f_p := ik_hid_i f_p
  replace f_x := ik_hid_i f_x
  obtain ⟨h0, h18, h57⟩ := gA
  obtain ⟨h7, h8, n8, h9, n9, h10, n10, h11, n11, h12, n12, h13, n13⟩ := gB
  obtain ⟨sc0, sc1, sc2, sc3, sc4, sc5, w24, sb, wa, h66⟩ := hO
  obtain ⟨h67, n67, h68, n68, h69, n69⟩ := hB
  refine ik_F_mono (cp_move (pl := pl) (p := p) (i := i) (what := what) (cn := cn) (go := go) (ch := ch) (st := ((s : Nat) : Int)) (lo := ((mj_lost pl cn go : Nat) : Int)) f_pl (st_cn f_rw f_cb) z_p z_i z_what h0 h7 h8 n8 h9 n9 h10 n10 hl) ?_
  rintro v_1028 h_1028 ⟨er_1028, F_1028⟩ <;> subst er_1028
  have k_1028 : cL h_1028 := F_1028.1.trans hl
  have g_1028_0 := (hfr_g F_1028 0 rfl).trans h0
  have g_1028_7 := (hfr_g F_1028 7 rfl).trans h7
  have g_1028_8 := (hfr_g F_1028 8 rfl).trans h8
  have g_1028_9 := (hfr_g F_1028 9 rfl).trans h9
  have g_1028_10 := (hfr_g F_1028 10 rfl).trans h10
  have g_1028_11 := (hfr_g F_1028 11 rfl).trans h11
  have g_1028_12 := (hfr_g F_1028 12 rfl).trans h12
  have g_1028_13 := (hfr_g F_1028 13 rfl).trans h13
  have g_1028_18 := (hfr_g F_1028 18 rfl).trans h18
  have g_1028_57 := (hfr_g F_1028 57 rfl).trans h57
  have g_1028_66 := (hfr_g F_1028 66 rfl).trans h66
  have g_1028_67 := (hfr_g F_1028 67 rfl).trans h67
  have g_1028_68 := (hfr_g F_1028 68 rfl).trans h68
  have g_1028_69 := (hfr_g F_1028 69 rfl).trans h69
  refine ⟨an_mv pl (cn.getD p.toNat 0) (go.getD (4 * p + i).toNat 0) (ch.getD (4 * p + i).toNat 0) p i what, rfl, ⟨k_1028, _, g_1028_66⟩, ?_⟩
  have gT_1028 := st_gT_t F_1028 (hdj_b rfl) gT
  have gC_1028 := st_gC_t F_1028 (hdj_b rfl) gC
  have gS_1028 := st_gS_t F_1028 (hdj_b rfl) gS
  have gV_1028 := st_gV_t F_1028 (hdj_b rfl) gV
  have gW_1028 := st_gW_t F_1028 (hdj_b rfl) gW
  have gM_1028 := st_gM_t F_1028 (hdj_b rfl) gM
  have gR_1028 := st_gR_t F_1028 (hdj_b rfl) gR
  have gL_1028 := st_gL_t F_1028 (hdj_b rfl) gL
  have gI_1028 := st_gI_t F_1028 (hdj_b rfl) gI
  have gJ_1028 := st_gJ_t F_1028 (hdj_b rfl) gJ
  have hC_1028 := st_hC_t F_1028 (hdj_b rfl) hC
  have hT_1028 := st_hT_t F_1028 (hdj_b rfl) hT
  have hS_1028 := st_hS_t F_1028 (hdj_b rfl) hS
  have hM_1028 := st_hM_t F_1028 (hdj_b rfl) hM
  have hR_1028 := st_hR_t F_1028 (hdj_b rfl) hR
  have hL_1028 := st_hL_t F_1028 (hdj_b rfl) hL
  have hI_1028 := st_hI_t F_1028 (hdj_b rfl) hI
  refine ik_F_mono (rp_move (pl := pl) (p := p) (i := i) (what := what) (cn := cnr) (go := gor) (ch := chr) (f := fun j => ((0 :: 0 :: 0 :: 0 :: (((s : Nat) : Int)) :: 0 :: 0 :: mi :: sd :: 0 :: tn :: fp :: sc0 :: sc1 :: sc2 :: sc3 :: sc4 :: sc5 :: 0 :: 0 :: 0 :: 0 :: 0 :: 0 :: w24 :: 0 :: 0 :: 0 :: 0 :: 0 :: 0 :: 0 :: sb :: wa :: 0 :: 0 :: r :: 0 :: 0 :: 0 :: 0 :: 0 :: 0 :: []) : List Int).getD j 0) f_pl (st_cn (mx_al_rw f_rw f_al) f_cr) z_p z_i z_what g_1028_66 g_1028_67 n67 g_1028_68 n68 g_1028_69 n69 k_1028) ?_
  rintro v_1029 h_1029 ⟨er_1029, F_1029⟩ <;> subst er_1029
  have k_1029 : cL h_1029 := F_1029.1.trans k_1028
  have g_1029_0 := (hfr_g F_1029 0 rfl).trans g_1028_0
  have g_1029_7 := (hfr_g F_1029 7 rfl).trans g_1028_7
  have g_1029_8 := (hfr_g F_1029 8 rfl).trans g_1028_8
  have g_1029_9 := (hfr_g F_1029 9 rfl).trans g_1028_9
  have g_1029_10 := (hfr_g F_1029 10 rfl).trans g_1028_10
  have g_1029_11 := (hfr_g F_1029 11 rfl).trans g_1028_11
  have g_1029_12 := (hfr_g F_1029 12 rfl).trans g_1028_12
  have g_1029_13 := (hfr_g F_1029 13 rfl).trans g_1028_13
  have g_1029_18 := (hfr_g F_1029 18 rfl).trans g_1028_18
  have g_1029_57 := (hfr_g F_1029 57 rfl).trans g_1028_57
  have g_1029_66 := (hfr_g F_1029 66 rfl).trans g_1028_66
  have g_1029_67 := (hfr_g F_1029 67 rfl).trans g_1028_67
  have g_1029_68 := (hfr_g F_1029 68 rfl).trans g_1028_68
  have g_1029_69 := (hfr_g F_1029 69 rfl).trans g_1028_69
  refine ⟨(congrArg (fun z => [fI z]) (mx_al_mv f_al f_cb f_cr)), ?_⟩
  have gT_1029 := st_gT_t F_1029 (hdj_b rfl) gT_1028
  have gC_1029 := st_gC_t F_1029 (hdj_b rfl) gC_1028
  have gS_1029 := st_gS_t F_1029 (hdj_b rfl) gS_1028
  have gV_1029 := st_gV_t F_1029 (hdj_b rfl) gV_1028
  have gW_1029 := st_gW_t F_1029 (hdj_b rfl) gW_1028
  have gM_1029 := st_gM_t F_1029 (hdj_b rfl) gM_1028
  have gR_1029 := st_gR_t F_1029 (hdj_b rfl) gR_1028
  have gL_1029 := st_gL_t F_1029 (hdj_b rfl) gL_1028
  have gI_1029 := st_gI_t F_1029 (hdj_b rfl) gI_1028
  have gJ_1029 := st_gJ_t F_1029 (hdj_b rfl) gJ_1028
  have hC_1029 := st_hC_t F_1029 (hdj_b rfl) hC_1028
  have hT_1029 := st_hT_t F_1029 (hdj_b rfl) hT_1028
  have hS_1029 := st_hS_t F_1029 (hdj_b rfl) hS_1028
  have hM_1029 := st_hM_t F_1029 (hdj_b rfl) hM_1028
  have hR_1029 := st_hR_t F_1029 (hdj_b rfl) hR_1028
  have hL_1029 := st_hL_t F_1029 (hdj_b rfl) hL_1028
  have hI_1029 := st_hI_t F_1029 (hdj_b rfl) hI_1028
  intro C_ k_
  exact k_ tn fp pl mi sd ka pa fa kb pb fb xa xb r n0 n1 ga0 gm0 gd_0 gs0 g00 g01 g02 g03 g04 g05 gx0 gy0 ga1 gm1 gd_1 gs1 g10 g11 g12 g13 g14 g15 gx1 gy1 s T cn go ch wg wc we rp rt lr ci0 ci1 cnr gor chr T2 im f_pl f_s f_st f_cb f_cr f_rw f_al f_wy f_k f_p f_x (by first | exact st_m f_m | omega) f_sd f_r f_rr f_n f_l0 f_l1 f_tn f_t (st_I_K f_i0) (st_I_K f_i1) ⟨g_1029_0, g_1029_18, g_1029_57⟩ gT_1029 ⟨g_1029_7, g_1029_8, n8, g_1029_9, n9, g_1029_10, n10, g_1029_11, n11, g_1029_12, n12, g_1029_13, n13⟩ gC_1029 gS_1029 gV_1029 gW_1029 gM_1029 gR_1029 gL_1029 gI_1029 gJ_1029 ⟨sc0, sc1, sc2, sc3, sc4, sc5, w24, sb, wa, g_1029_66⟩ ⟨g_1029_67, n67, g_1029_68, n68, g_1029_69, n69⟩ hC_1029 hT_1029 hS_1029 hM_1029 hR_1029 hL_1029 hI_1029 k_1029

set_option maxRecDepth 100000 in
theorem lk_cork00 {K : Nat} {h : List ik_E} (E : st_S K h) (hK : K ≤ 600) {v : Int} (z_v : -2147483648 ≤ v ∧ v < 2147483648)  : ik_F 95 [.ref 0, fI 0, fI 0, fI v] h (fun rv h_q => ∃ o_ : Int, rv = [fI o_] ∧ (h_q.length = (94 : Nat) ∧ ∃ fs, h_q[66]? = some (.inr (10, fs))) ∧ ik_F 158 [.ref 66, fI 0, fI 0, fI v] h_q (fun rv' h'' => rv' = [fI o_] ∧ st_S (K + 1) h'')) := by
  refine E _ ?_
  intro tn fp pl mi sd ka pa fa kb pb fb xa xb r n0 n1 ga0 gm0 gd_0 gs0 g00 g01 g02 g03 g04 g05 gx0 gy0 ga1 gm1 gd_1 gs1 g10 g11 g12 g13 g14 g15 gx1 gy1 s T cn go ch wg wc we rp rt lr ci0 ci1 cnr gor chr T2 im f_pl f_s f_st f_cb f_cr f_rw f_al f_wy f_k f_p f_x f_m f_sd f_r f_rr f_n f_l0 f_l1 f_tn f_t f_i0 f_i1 gA gT gB gC gS gV gW gM gR gL gI gJ hO hB hC hT hS hM hR hL hI hl
  replace f_cb := ik_hid_i f_cb
  replace f_cr := ik_hid_i f_cr
  replace f_p := ik_hid_i f_p
  replace f_x := ik_hid_i f_x
  obtain ⟨h0, h18, h57⟩ := gA
  obtain ⟨h7, h8, n8, h9, n9, h10, n10, h11, n11, h12, n12, h13, n13⟩ := gB
  obtain ⟨h14, h15, h16⟩ := gC
  obtain ⟨sc0, sc1, sc2, sc3, sc4, sc5, w24, sb, wa, h66⟩ := hO
  obtain ⟨h70, h71⟩ := hC
  refine ik_F_mono (cp_cork00 (ka := ka) (pa := pa) (fa := fa) (kb := kb) (pb := pb) (fb := fb) (xa := xa) (xb := xb) (mi := mi) (dr := sd) (v := v) (pl := pl) (st := ((s : Nat) : Int)) (lo := ((mj_lost pl cn go : Nat) : Int)) f_k.2.2.1 f_k.2.2.2.1 f_pl z_v h0 h7 h14 h15 h16 hl) ?_
  rintro v_1030 h_1030 (⟨er_1030, e_1030_14, e_1030_15, e_1030_16, p_1030_0, F_1030⟩ | ⟨er_1030, e_1030_14, e_1030_15, e_1030_16, p_1030_0, F_1030⟩) <;> subst er_1030
  · have k_1030 : cL h_1030 := F_1030.1.trans hl
    have g_1030_0 := (hfr_g F_1030 0 rfl).trans h0
    have g_1030_7 := (hfr_g F_1030 7 rfl).trans h7
    have g_1030_8 := (hfr_g F_1030 8 rfl).trans h8
    have g_1030_9 := (hfr_g F_1030 9 rfl).trans h9
    have g_1030_10 := (hfr_g F_1030 10 rfl).trans h10
    have g_1030_11 := (hfr_g F_1030 11 rfl).trans h11
    have g_1030_12 := (hfr_g F_1030 12 rfl).trans h12
    have g_1030_13 := (hfr_g F_1030 13 rfl).trans h13
    have g_1030_18 := (hfr_g F_1030 18 rfl).trans h18
    have g_1030_57 := (hfr_g F_1030 57 rfl).trans h57
    have g_1030_66 := (hfr_g F_1030 66 rfl).trans h66
    have g_1030_70 := (hfr_g F_1030 70 rfl).trans h70
    have g_1030_71 := (hfr_g F_1030 71 rfl).trans h71
    have g_1030_14 : cE h_1030 14 (.inr (1, [.ref 7, .ref 15, .ref 16, fI 0, fJ sd])) := e_1030_14
    have g_1030_15 : cE h_1030 15 (.inl (.int, fA [v, pa, fa, kb, pb, fb])) := e_1030_15
    have g_1030_16 : cE h_1030 16 (.inl (.int, fA [mx_sp pa fa, mx_sp pb fb])) := e_1030_16
    refine ⟨ka, rfl, ⟨k_1030, _, g_1030_66⟩, ?_⟩
    have gT_1030 := st_gT_t F_1030 (hdj_b rfl) gT
    have gS_1030 := st_gS_t F_1030 (hdj_b rfl) gS
    have gV_1030 := st_gV_t F_1030 (hdj_b rfl) gV
    have gW_1030 := st_gW_t F_1030 (hdj_b rfl) gW
    have gM_1030 := st_gM_t F_1030 (hdj_b rfl) gM
    have gR_1030 := st_gR_t F_1030 (hdj_b rfl) gR
    have gL_1030 := st_gL_t F_1030 (hdj_b rfl) gL
    have gI_1030 := st_gI_t F_1030 (hdj_b rfl) gI
    have gJ_1030 := st_gJ_t F_1030 (hdj_b rfl) gJ
    have hB_1030 := st_hB_t F_1030 (hdj_b rfl) hB
    have hT_1030 := st_hT_t F_1030 (hdj_b rfl) hT
    have hS_1030 := st_hS_t F_1030 (hdj_b rfl) hS
    have hM_1030 := st_hM_t F_1030 (hdj_b rfl) hM
    have hR_1030 := st_hR_t F_1030 (hdj_b rfl) hR
    have hL_1030 := st_hL_t F_1030 (hdj_b rfl) hL
    have hI_1030 := st_hI_t F_1030 (hdj_b rfl) hI
    refine ik_F_mono (rp_cork00 (ka := ka) (pa := pa) (fa := fa) (kb := kb) (pb := pb) (fb := fb) (xa := xa) (xb := xb) (mi := mi) (v := v) (pl := pl) (f := fun j => ((0 :: 0 :: 0 :: 0 :: (((s : Nat) : Int)) :: 0 :: 0 :: 0 :: sd :: 0 :: tn :: fp :: sc0 :: sc1 :: sc2 :: sc3 :: sc4 :: sc5 :: 0 :: 0 :: 0 :: 0 :: 0 :: 0 :: w24 :: 0 :: 0 :: 0 :: 0 :: 0 :: 0 :: 0 :: sb :: wa :: 0 :: 0 :: r :: 0 :: 0 :: 0 :: 0 :: 0 :: 0 :: []) : List Int).getD j 0) f_k.2.2.1 f_k.2.2.2.1 f_pl z_v g_1030_66 g_1030_70 g_1030_71 k_1030) ?_
    rintro v_1031 h_1031 (⟨er_1031, e_1031_66, e_1031_70, e_1031_71, p_1031_0, F_1031⟩ | ⟨er_1031, e_1031_66, e_1031_70, e_1031_71, p_1031_0, F_1031⟩) <;> subst er_1031
    · have k_1031 : cL h_1031 := F_1031.1.trans k_1030
      have g_1031_0 := (hfr_g F_1031 0 rfl).trans g_1030_0
      have g_1031_7 := (hfr_g F_1031 7 rfl).trans g_1030_7
      have g_1031_8 := (hfr_g F_1031 8 rfl).trans g_1030_8
      have g_1031_9 := (hfr_g F_1031 9 rfl).trans g_1030_9
      have g_1031_10 := (hfr_g F_1031 10 rfl).trans g_1030_10
      have g_1031_11 := (hfr_g F_1031 11 rfl).trans g_1030_11
      have g_1031_12 := (hfr_g F_1031 12 rfl).trans g_1030_12
      have g_1031_13 := (hfr_g F_1031 13 rfl).trans g_1030_13
      have g_1031_14 := (hfr_g F_1031 14 rfl).trans g_1030_14
      have g_1031_15 := (hfr_g F_1031 15 rfl).trans g_1030_15
      have g_1031_16 := (hfr_g F_1031 16 rfl).trans g_1030_16
      have g_1031_18 := (hfr_g F_1031 18 rfl).trans g_1030_18
      have g_1031_57 := (hfr_g F_1031 57 rfl).trans g_1030_57
      have g_1031_66 : cE h_1031 66 (.inr (10, (fI pl :: .ref 67 :: .ref 68 :: .ref 69 :: fI ((s : Nat) : Int) :: .ref 70 :: .ref 71 :: fI 0 :: fI sd :: .ref 72 :: fI tn :: fI fp :: fI sc0 :: fJ sc1 :: fI sc2 :: fI sc3 :: fI sc4 :: fI sc5 :: .ref 73 :: .ref 74 :: .ref 75 :: .ref 76 :: .ref 77 :: .ref 78 :: fI w24 :: .ref 79 :: .ref 80 :: .ref 81 :: .ref 82 :: .ref 83 :: .ref 84 :: .ref 85 :: fJ sb :: fJ wa :: .ref 86 :: .ref 87 :: fI r :: .ref 88 :: .ref 89 :: .ref 90 :: .ref 91 :: .ref 92 :: .ref 93 :: []))) := e_1031_66
      have g_1031_70 : cE h_1031 70 (.inl (.int, fA [v, pa, fa, kb, pb, fb])) := e_1031_70
      have g_1031_71 : cE h_1031 71 (.inl (.int, fA [mx_sp pa fa, mx_sp pb fb])) := e_1031_71
      refine ⟨rfl, ?_⟩
      have gT_1031 := st_gT_t F_1031 (hdj_b rfl) gT_1030
      have gS_1031 := st_gS_t F_1031 (hdj_b rfl) gS_1030
      have gV_1031 := st_gV_t F_1031 (hdj_b rfl) gV_1030
      have gW_1031 := st_gW_t F_1031 (hdj_b rfl) gW_1030
      have gM_1031 := st_gM_t F_1031 (hdj_b rfl) gM_1030
      have gR_1031 := st_gR_t F_1031 (hdj_b rfl) gR_1030
      have gL_1031 := st_gL_t F_1031 (hdj_b rfl) gL_1030
      have gI_1031 := st_gI_t F_1031 (hdj_b rfl) gI_1030
      have gJ_1031 := st_gJ_t F_1031 (hdj_b rfl) gJ_1030
      have hB_1031 := st_hB_t F_1031 (hdj_b rfl) hB_1030
      have hT_1031 := st_hT_t F_1031 (hdj_b rfl) hT_1030
      have hS_1031 := st_hS_t F_1031 (hdj_b rfl) hS_1030
      have hM_1031 := st_hM_t F_1031 (hdj_b rfl) hM_1030
      have hR_1031 := st_hR_t F_1031 (hdj_b rfl) hR_1030
      have hL_1031 := st_hL_t F_1031 (hdj_b rfl) hL_1030
      have hI_1031 := st_hI_t F_1031 (hdj_b rfl) hI_1030
      intro C_ k_
      exact k_ tn fp pl 0 sd v pa fa kb pb fb (mx_sp pa fa) (mx_sp pb fb) r n0 n1 ga0 gm0 gd_0 gs0 g00 g01 g02 g03 g04 g05 gx0 gy0 ga1 gm1 gd_1 gs1 g10 g11 g12 g13 g14 g15 gx1 gy1 s T cn go ch wg wc we rp rt lr ci0 ci1 cnr gor chr T2 im f_pl f_s f_st f_cb f_cr f_rw f_al f_wy (by first | exact ⟨p_1031_0.1, f_k.2⟩ | exact ⟨f_k.1, f_k.2.1, f_k.2.2.1, f_k.2.2.2.1, st_11 p_1031_0 f_pl, f_k.2.2.2.2.2⟩ | exact ⟨f_k.1, f_k.2.1, p_1031_0.1, f_k.2.2.2⟩ | exact ⟨f_k.1, p_1031_0.1, f_k.2.2⟩ | exact ⟨f_k.1, f_k.2.1, f_k.2.2.1, f_k.2.2.2.1, f_k.2.2.2.2.1, st_11 p_1031_0 f_pl⟩ | exact ⟨f_k.1, f_k.2.1, f_k.2.2.1, p_1031_0.1, f_k.2.2.2.2⟩ | omega) f_p (fun w => by first | exact st_x (f_p w) f_k.2.2.1.1 f_k.2.2.2.1.1 | exact st_x ⟨p_1031_0, (f_p w).2⟩ f_k.2.2.1.1 f_k.2.2.2.1.1 | exact st_x ⟨(f_p w).1, p_1031_0⟩ f_k.2.2.1.1 f_k.2.2.2.1.1 | exact st_x (f_p w) p_1031_0.1.1 f_k.2.2.2.1.1 | exact st_x (f_p w) f_k.2.2.1.1 p_1031_0.1.1 | (have z := f_p w; have a := mx_sp_b (fr := fa) (show 0 ≤ pa ∧ pa < pl by omega) (by omega); have b := mx_sp_b (fr := fb) (show 0 ≤ pb ∧ pb < pl by omega) (by omega); omega)) (by first | exact st_m0 K | omega) f_sd f_r f_rr f_n f_l0 f_l1 f_tn f_t (st_I_K f_i0) (st_I_K f_i1) ⟨g_1031_0, g_1031_18, g_1031_57⟩ gT_1031 ⟨g_1031_7, g_1031_8, n8, g_1031_9, n9, g_1031_10, n10, g_1031_11, n11, g_1031_12, n12, g_1031_13, n13⟩ ⟨g_1031_14, g_1031_15, g_1031_16⟩ gS_1031 gV_1031 gW_1031 gM_1031 gR_1031 gL_1031 gI_1031 gJ_1031 ⟨sc0, sc1, sc2, sc3, sc4, sc5, w24, sb, wa, g_1031_66⟩ hB_1031 ⟨g_1031_70, g_1031_71⟩ hT_1031 hS_1031 hM_1031 hR_1031 hL_1031 hI_1031 k_1031
    · have k_1031 : cL h_1031 := F_1031.1.trans k_1030
      have g_1031_0 := (hfr_g F_1031 0 rfl).trans g_1030_0
      have g_1031_7 := (hfr_g F_1031 7 rfl).trans g_1030_7
      have g_1031_8 := (hfr_g F_1031 8 rfl).trans g_1030_8
      have g_1031_9 := (hfr_g F_1031 9 rfl).trans g_1030_9
      have g_1031_10 := (hfr_g F_1031 10 rfl).trans g_1030_10
      have g_1031_11 := (hfr_g F_1031 11 rfl).trans g_1030_11
      have g_1031_12 := (hfr_g F_1031 12 rfl).trans g_1030_12
      have g_1031_13 := (hfr_g F_1031 13 rfl).trans g_1030_13
      have g_1031_14 := (hfr_g F_1031 14 rfl).trans g_1030_14
      have g_1031_15 := (hfr_g F_1031 15 rfl).trans g_1030_15
      have g_1031_16 := (hfr_g F_1031 16 rfl).trans g_1030_16
      have g_1031_18 := (hfr_g F_1031 18 rfl).trans g_1030_18
      have g_1031_57 := (hfr_g F_1031 57 rfl).trans g_1030_57
      have g_1031_66 : cE h_1031 66 (.inr (10, (fI pl :: .ref 67 :: .ref 68 :: .ref 69 :: fI ((s : Nat) : Int) :: .ref 70 :: .ref 71 :: fI mi :: fI sd :: .ref 72 :: fI tn :: fI fp :: fI sc0 :: fJ sc1 :: fI sc2 :: fI sc3 :: fI sc4 :: fI sc5 :: .ref 73 :: .ref 74 :: .ref 75 :: .ref 76 :: .ref 77 :: .ref 78 :: fI w24 :: .ref 79 :: .ref 80 :: .ref 81 :: .ref 82 :: .ref 83 :: .ref 84 :: .ref 85 :: fJ sb :: fJ wa :: .ref 86 :: .ref 87 :: fI r :: .ref 88 :: .ref 89 :: .ref 90 :: .ref 91 :: .ref 92 :: .ref 93 :: []))) := e_1031_66
      have g_1031_70 : cE h_1031 70 (.inl (.int, fA [ka, pa, fa, kb, pb, fb])) := e_1031_70
      have g_1031_71 : cE h_1031 71 (.inl (.int, fA [xa, xb])) := e_1031_71
      exact absurd p_1030_0 p_1031_0
  · have k_1030 : cL h_1030 := F_1030.1.trans hl
    have g_1030_0 := (hfr_g F_1030 0 rfl).trans h0
    have g_1030_7 := (hfr_g F_1030 7 rfl).trans h7
    have g_1030_8 := (hfr_g F_1030 8 rfl).trans h8
    have g_1030_9 := (hfr_g F_1030 9 rfl).trans h9
    have g_1030_10 := (hfr_g F_1030 10 rfl).trans h10
    have g_1030_11 := (hfr_g F_1030 11 rfl).trans h11
    have g_1030_12 := (hfr_g F_1030 12 rfl).trans h12
    have g_1030_13 := (hfr_g F_1030 13 rfl).trans h13
    have g_1030_18 := (hfr_g F_1030 18 rfl).trans h18
    have g_1030_57 := (hfr_g F_1030 57 rfl).trans h57
    have g_1030_66 := (hfr_g F_1030 66 rfl).trans h66
    have g_1030_70 := (hfr_g F_1030 70 rfl).trans h70
    have g_1030_71 := (hfr_g F_1030 71 rfl).trans h71
    have g_1030_14 : cE h_1030 14 (.inr (1, [.ref 7, .ref 15, .ref 16, fI mi, fJ sd])) := e_1030_14
    have g_1030_15 : cE h_1030 15 (.inl (.int, fA [ka, pa, fa, kb, pb, fb])) := e_1030_15
    have g_1030_16 : cE h_1030 16 (.inl (.int, fA [xa, xb])) := e_1030_16
    refine ⟨if 0 ≤ v ∧ v ≤ 2 then -1000000003 else -1000000001, rfl, ⟨k_1030, _, g_1030_66⟩, ?_⟩
    have gT_1030 := st_gT_t F_1030 (hdj_b rfl) gT
    have gS_1030 := st_gS_t F_1030 (hdj_b rfl) gS
    have gV_1030 := st_gV_t F_1030 (hdj_b rfl) gV
    have gW_1030 := st_gW_t F_1030 (hdj_b rfl) gW
    have gM_1030 := st_gM_t F_1030 (hdj_b rfl) gM
    have gR_1030 := st_gR_t F_1030 (hdj_b rfl) gR
    have gL_1030 := st_gL_t F_1030 (hdj_b rfl) gL
    have gI_1030 := st_gI_t F_1030 (hdj_b rfl) gI
    have gJ_1030 := st_gJ_t F_1030 (hdj_b rfl) gJ
    have hB_1030 := st_hB_t F_1030 (hdj_b rfl) hB
    have hT_1030 := st_hT_t F_1030 (hdj_b rfl) hT
    have hS_1030 := st_hS_t F_1030 (hdj_b rfl) hS
    have hM_1030 := st_hM_t F_1030 (hdj_b rfl) hM
    have hR_1030 := st_hR_t F_1030 (hdj_b rfl) hR
    have hL_1030 := st_hL_t F_1030 (hdj_b rfl) hL
    have hI_1030 := st_hI_t F_1030 (hdj_b rfl) hI
    refine ik_F_mono (rp_cork00 (ka := ka) (pa := pa) (fa := fa) (kb := kb) (pb := pb) (fb := fb) (xa := xa) (xb := xb) (mi := mi) (v := v) (pl := pl) (f := fun j => ((0 :: 0 :: 0 :: 0 :: (((s : Nat) : Int)) :: 0 :: 0 :: 0 :: sd :: 0 :: tn :: fp :: sc0 :: sc1 :: sc2 :: sc3 :: sc4 :: sc5 :: 0 :: 0 :: 0 :: 0 :: 0 :: 0 :: w24 :: 0 :: 0 :: 0 :: 0 :: 0 :: 0 :: 0 :: sb :: wa :: 0 :: 0 :: r :: 0 :: 0 :: 0 :: 0 :: 0 :: 0 :: []) : List Int).getD j 0) f_k.2.2.1 f_k.2.2.2.1 f_pl z_v g_1030_66 g_1030_70 g_1030_71 k_1030) ?_
    rintro v_1032 h_1032 (⟨er_1032, e_1032_66, e_1032_70, e_1032_71, p_1032_0, F_1032⟩ | ⟨er_1032, e_1032_66, e_1032_70, e_1032_71, p_1032_0, F_1032⟩) <;> subst er_1032
    · have k_1032 : cL h_1032 := F_1032.1.trans k_1030
      have g_1032_0 := (hfr_g F_1032 0 rfl).trans g_1030_0
      have g_1032_7 := (hfr_g F_1032 7 rfl).trans g_1030_7
      have g_1032_8 := (hfr_g F_1032 8 rfl).trans g_1030_8
      have g_1032_9 := (hfr_g F_1032 9 rfl).trans g_1030_9
      have g_1032_10 := (hfr_g F_1032 10 rfl).trans g_1030_10
      have g_1032_11 := (hfr_g F_1032 11 rfl).trans g_1030_11
      have g_1032_12 := (hfr_g F_1032 12 rfl).trans g_1030_12
      have g_1032_13 := (hfr_g F_1032 13 rfl).trans g_1030_13
      have g_1032_14 := (hfr_g F_1032 14 rfl).trans g_1030_14
      have g_1032_15 := (hfr_g F_1032 15 rfl).trans g_1030_15
      have g_1032_16 := (hfr_g F_1032 16 rfl).trans g_1030_16
      have g_1032_18 := (hfr_g F_1032 18 rfl).trans g_1030_18
      have g_1032_57 := (hfr_g F_1032 57 rfl).trans g_1030_57
      have g_1032_66 : cE h_1032 66 (.inr (10, (fI pl :: .ref 67 :: .ref 68 :: .ref 69 :: fI ((s : Nat) : Int) :: .ref 70 :: .ref 71 :: fI 0 :: fI sd :: .ref 72 :: fI tn :: fI fp :: fI sc0 :: fJ sc1 :: fI sc2 :: fI sc3 :: fI sc4 :: fI sc5 :: .ref 73 :: .ref 74 :: .ref 75 :: .ref 76 :: .ref 77 :: .ref 78 :: fI w24 :: .ref 79 :: .ref 80 :: .ref 81 :: .ref 82 :: .ref 83 :: .ref 84 :: .ref 85 :: fJ sb :: fJ wa :: .ref 86 :: .ref 87 :: fI r :: .ref 88 :: .ref 89 :: .ref 90 :: .ref 91 :: .ref 92 :: .ref 93 :: []))) := e_1032_66
      have g_1032_70 : cE h_1032 70 (.inl (.int, fA [v, pa, fa, kb, pb, fb])) := e_1032_70
      have g_1032_71 : cE h_1032 71 (.inl (.int, fA [mx_sp pa fa, mx_sp pb fb])) := e_1032_71
      exact absurd p_1032_0 p_1030_0
    · have k_1032 : cL h_1032 := F_1032.1.trans k_1030
      have g_1032_0 := (hfr_g F_1032 0 rfl).trans g_1030_0
      have g_1032_7 := (hfr_g F_1032 7 rfl).trans g_1030_7
      have g_1032_8 := (hfr_g F_1032 8 rfl).trans g_1030_8
      have g_1032_9 := (hfr_g F_1032 9 rfl).trans g_1030_9
      have g_1032_10 := (hfr_g F_1032 10 rfl).trans g_1030_10
      have g_1032_11 := (hfr_g F_1032 11 rfl).trans g_1030_11
      have g_1032_12 := (hfr_g F_1032 12 rfl).trans g_1030_12
      have g_1032_13 := (hfr_g F_1032 13 rfl).trans g_1030_13
      have g_1032_14 := (hfr_g F_1032 14 rfl).trans g_1030_14
      have g_1032_15 := (hfr_g F_1032 15 rfl).trans g_1030_15
      have g_1032_16 := (hfr_g F_1032 16 rfl).trans g_1030_16
      have g_1032_18 := (hfr_g F_1032 18 rfl).trans g_1030_18
      have g_1032_57 := (hfr_g F_1032 57 rfl).trans g_1030_57
      have g_1032_66 : cE h_1032 66 (.inr (10, (fI pl :: .ref 67 :: .ref 68 :: .ref 69 :: fI ((s : Nat) : Int) :: .ref 70 :: .ref 71 :: fI mi :: fI sd :: .ref 72 :: fI tn :: fI fp :: fI sc0 :: fJ sc1 :: fI sc2 :: fI sc3 :: fI sc4 :: fI sc5 :: .ref 73 :: .ref 74 :: .ref 75 :: .ref 76 :: .ref 77 :: .ref 78 :: fI w24 :: .ref 79 :: .ref 80 :: .ref 81 :: .ref 82 :: .ref 83 :: .ref 84 :: .ref 85 :: fJ sb :: fJ wa :: .ref 86 :: .ref 87 :: fI r :: .ref 88 :: .ref 89 :: .ref 90 :: .ref 91 :: .ref 92 :: .ref 93 :: []))) := e_1032_66
      have g_1032_70 : cE h_1032 70 (.inl (.int, fA [ka, pa, fa, kb, pb, fb])) := e_1032_70
      have g_1032_71 : cE h_1032 71 (.inl (.int, fA [xa, xb])) := e_1032_71
      refine ⟨rfl, ?_⟩
      have gT_1032 := st_gT_t F_1032 (hdj_b rfl) gT_1030
      have gS_1032 := st_gS_t F_1032 (hdj_b rfl) gS_1030
      have gV_1032 := st_gV_t F_1032 (hdj_b rfl) gV_1030
      have gW_1032 := st_gW_t F_1032 (hdj_b rfl) gW_1030
      have gM_1032 := st_gM_t F_1032 (hdj_b rfl) gM_1030
      have gR_1032 := st_gR_t F_1032 (hdj_b rfl) gR_1030
      have gL_1032 := st_gL_t F_1032 (hdj_b rfl) gL_1030
      have gI_1032 := st_gI_t F_1032 (hdj_b rfl) gI_1030
      have gJ_1032 := st_gJ_t F_1032 (hdj_b rfl) gJ_1030
      have hB_1032 := st_hB_t F_1032 (hdj_b rfl) hB_1030
      have hT_1032 := st_hT_t F_1032 (hdj_b rfl) hT_1030
      have hS_1032 := st_hS_t F_1032 (hdj_b rfl) hS_1030
      have hM_1032 := st_hM_t F_1032 (hdj_b rfl) hM_1030
      have hR_1032 := st_hR_t F_1032 (hdj_b rfl) hR_1030
      have hL_1032 := st_hL_t F_1032 (hdj_b rfl) hL_1030
      have hI_1032 := st_hI_t F_1032 (hdj_b rfl) hI_1030
      intro C_ k_
      exact k_ tn fp pl mi sd ka pa fa kb pb fb xa xb r n0 n1 ga0 gm0 gd_0 gs0 g00 g01 g02 g03 g04 g05 gx0 gy0 ga1 gm1 gd_1 gs1 g10 g11 g12 g13 g14 g15 gx1 gy1 s T cn go ch wg wc we rp rt lr ci0 ci1 cnr gor chr T2 im f_pl f_s f_st f_cb f_cr f_rw f_al f_wy f_k f_p f_x (by first | exact st_m f_m | omega) f_sd f_r f_rr f_n f_l0 f_l1 f_tn f_t (st_I_K f_i0) (st_I_K f_i1) ⟨g_1032_0, g_1032_18, g_1032_57⟩ gT_1032 ⟨g_1032_7, g_1032_8, n8, g_1032_9, n9, g_1032_10, n10, g_1032_11, n11, g_1032_12, n12, g_1032_13, n13⟩ ⟨g_1032_14, g_1032_15, g_1032_16⟩ gS_1032 gV_1032 gW_1032 gM_1032 gR_1032 gL_1032 gI_1032 gJ_1032 ⟨sc0, sc1, sc2, sc3, sc4, sc5, w24, sb, wa, g_1032_66⟩ hB_1032 ⟨g_1032_70, g_1032_71⟩ hT_1032 hS_1032 hM_1032 hR_1032 hL_1032 hI_1032 k_1032

set_option maxRecDepth 100000 in
theorem lk_cork01 {K : Nat} {h : List ik_E} (E : st_S K h) (hK : K ≤ 600) {v : Int} (z_v : -2147483648 ≤ v ∧ v < 2147483648)  : ik_F 95 [.ref 0, fI 0, fI 1, fI v] h (fun rv h_q => ∃ o_ : Int, rv = [fI o_] ∧ (h_q.length = (94 : Nat) ∧ ∃ fs, h_q[66]? = some (.inr (10, fs))) ∧ ik_F 158 [.ref 66, fI 0, fI 1, fI v] h_q (fun rv' h'' => rv' = [fI o_] ∧ st_S (K + 1) h'')) := by
  refine E _ ?_
  intro tn fp pl mi sd ka pa fa kb pb fb xa xb r n0 n1 ga0 gm0 gd_0 gs0 g00 g01 g02 g03 g04 g05 gx0 gy0 ga1 gm1 gd_1 gs1 g10 g11 g12 g13 g14 g15 gx1 gy1 s T cn go ch wg wc we rp rt lr ci0 ci1 cnr gor chr T2 im f_pl f_s f_st f_cb f_cr f_rw f_al f_wy f_k f_p f_x f_m f_sd f_r f_rr f_n f_l0 f_l1 f_tn f_t f_i0 f_i1 gA gT gB gC gS gV gW gM gR gL gI gJ hO hB hC hT hS hM hR hL hI hl
  replace f_cb := ik_hid_i f_cb
  replace f_cr := ik_hid_i f_cr
  replace f_p := ik_hid_i f_p
  replace f_x := ik_hid_i f_x
  obtain ⟨h0, h18, h57⟩ := gA
  obtain ⟨h7, h8, n8, h9, n9, h10, n10, h11, n11, h12, n12, h13, n13⟩ := gB
  obtain ⟨h14, h15, h16⟩ := gC
  obtain ⟨sc0, sc1, sc2, sc3, sc4, sc5, w24, sb, wa, h66⟩ := hO
  obtain ⟨h70, h71⟩ := hC
  refine ik_F_mono (cp_cork01 (ka := ka) (pa := pa) (fa := fa) (kb := kb) (pb := pb) (fb := fb) (xa := xa) (xb := xb) (mi := mi) (dr := sd) (v := v) (pl := pl) (st := ((s : Nat) : Int)) (lo := ((mj_lost pl cn go : Nat) : Int)) f_k.2.2.1 f_k.2.2.2.1 f_pl z_v h0 h7 h14 h15 h16 hl) ?_
  rintro v_1033 h_1033 (⟨er_1033, e_1033_14, e_1033_15, e_1033_16, p_1033_0, F_1033⟩ | ⟨er_1033, e_1033_14, e_1033_15, e_1033_16, p_1033_0, F_1033⟩) <;> subst er_1033
  · have k_1033 : cL h_1033 := F_1033.1.trans hl
    have g_1033_0 := (hfr_g F_1033 0 rfl).trans h0
    have g_1033_7 := (hfr_g F_1033 7 rfl).trans h7
    have g_1033_8 := (hfr_g F_1033 8 rfl).trans h8
    have g_1033_9 := (hfr_g F_1033 9 rfl).trans h9
    have g_1033_10 := (hfr_g F_1033 10 rfl).trans h10
    have g_1033_11 := (hfr_g F_1033 11 rfl).trans h11
    have g_1033_12 := (hfr_g F_1033 12 rfl).trans h12
    have g_1033_13 := (hfr_g F_1033 13 rfl).trans h13
    have g_1033_18 := (hfr_g F_1033 18 rfl).trans h18
    have g_1033_57 := (hfr_g F_1033 57 rfl).trans h57
    have g_1033_66 := (hfr_g F_1033 66 rfl).trans h66
    have g_1033_70 := (hfr_g F_1033 70 rfl).trans h70
    have g_1033_71 := (hfr_g F_1033 71 rfl).trans h71
    have g_1033_14 : cE h_1033 14 (.inr (1, [.ref 7, .ref 15, .ref 16, fI 0, fJ sd])) := e_1033_14
    have g_1033_15 : cE h_1033 15 (.inl (.int, fA [ka, v, fa, kb, pb, fb])) := e_1033_15
    have g_1033_16 : cE h_1033 16 (.inl (.int, fA [mx_sp v fa, mx_sp pb fb])) := e_1033_16
    refine ⟨pa, rfl, ⟨k_1033, _, g_1033_66⟩, ?_⟩
    have gT_1033 := st_gT_t F_1033 (hdj_b rfl) gT
    have gS_1033 := st_gS_t F_1033 (hdj_b rfl) gS
    have gV_1033 := st_gV_t F_1033 (hdj_b rfl) gV
    have gW_1033 := st_gW_t F_1033 (hdj_b rfl) gW
    have gM_1033 := st_gM_t F_1033 (hdj_b rfl) gM
    have gR_1033 := st_gR_t F_1033 (hdj_b rfl) gR
    have gL_1033 := st_gL_t F_1033 (hdj_b rfl) gL
    have gI_1033 := st_gI_t F_1033 (hdj_b rfl) gI
    have gJ_1033 := st_gJ_t F_1033 (hdj_b rfl) gJ
    have hB_1033 := st_hB_t F_1033 (hdj_b rfl) hB
    have hT_1033 := st_hT_t F_1033 (hdj_b rfl) hT
    have hS_1033 := st_hS_t F_1033 (hdj_b rfl) hS
    have hM_1033 := st_hM_t F_1033 (hdj_b rfl) hM
    have hR_1033 := st_hR_t F_1033 (hdj_b rfl) hR
    have hL_1033 := st_hL_t F_1033 (hdj_b rfl) hL
    have hI_1033 := st_hI_t F_1033 (hdj_b rfl) hI
    refine ik_F_mono (rp_cork01 (ka := ka) (pa := pa) (fa := fa) (kb := kb) (pb := pb) (fb := fb) (xa := xa) (xb := xb) (mi := mi) (v := v) (pl := pl) (f := fun j => ((0 :: 0 :: 0 :: 0 :: (((s : Nat) : Int)) :: 0 :: 0 :: 0 :: sd :: 0 :: tn :: fp :: sc0 :: sc1 :: sc2 :: sc3 :: sc4 :: sc5 :: 0 :: 0 :: 0 :: 0 :: 0 :: 0 :: w24 :: 0 :: 0 :: 0 :: 0 :: 0 :: 0 :: 0 :: sb :: wa :: 0 :: 0 :: r :: 0 :: 0 :: 0 :: 0 :: 0 :: 0 :: []) : List Int).getD j 0) f_k.2.2.1 f_k.2.2.2.1 f_pl z_v g_1033_66 g_1033_70 g_1033_71 k_1033) ?_
    rintro v_1034 h_1034 (⟨er_1034, e_1034_66, e_1034_70, e_1034_71, p_1034_0, F_1034⟩ | ⟨er_1034, e_1034_66, e_1034_70, e_1034_71, p_1034_0, F_1034⟩) <;> subst er_1034
    · have k_1034 : cL h_1034 := F_1034.1.trans k_1033
      have g_1034_0 := (hfr_g F_1034 0 rfl).trans g_1033_0
      have g_1034_7 := (hfr_g F_1034 7 rfl).trans g_1033_7
      have g_1034_8 := (hfr_g F_1034 8 rfl).trans g_1033_8
      have g_1034_9 := (hfr_g F_1034 9 rfl).trans g_1033_9
      have g_1034_10 := (hfr_g F_1034 10 rfl).trans g_1033_10
      have g_1034_11 := (hfr_g F_1034 11 rfl).trans g_1033_11
      have g_1034_12 := (hfr_g F_1034 12 rfl).trans g_1033_12
      have g_1034_13 := (hfr_g F_1034 13 rfl).trans g_1033_13
      have g_1034_14 := (hfr_g F_1034 14 rfl).trans g_1033_14
      have g_1034_15 := (hfr_g F_1034 15 rfl).trans g_1033_15
      have g_1034_16 := (hfr_g F_1034 16 rfl).trans g_1033_16
      have g_1034_18 := (hfr_g F_1034 18 rfl).trans g_1033_18
      have g_1034_57 := (hfr_g F_1034 57 rfl).trans g_1033_57
      have g_1034_66 : cE h_1034 66 (.inr (10, (fI pl :: .ref 67 :: .ref 68 :: .ref 69 :: fI ((s : Nat) : Int) :: .ref 70 :: .ref 71 :: fI 0 :: fI sd :: .ref 72 :: fI tn :: fI fp :: fI sc0 :: fJ sc1 :: fI sc2 :: fI sc3 :: fI sc4 :: fI sc5 :: .ref 73 :: .ref 74 :: .ref 75 :: .ref 76 :: .ref 77 :: .ref 78 :: fI w24 :: .ref 79 :: .ref 80 :: .ref 81 :: .ref 82 :: .ref 83 :: .ref 84 :: .ref 85 :: fJ sb :: fJ wa :: .ref 86 :: .ref 87 :: fI r :: .ref 88 :: .ref 89 :: .ref 90 :: .ref 91 :: .ref 92 :: .ref 93 :: []))) := e_1034_66
      have g_1034_70 : cE h_1034 70 (.inl (.int, fA [ka, v, fa, kb, pb, fb])) := e_1034_70
      have g_1034_71 : cE h_1034 71 (.inl (.int, fA [mx_sp v fa, mx_sp pb fb])) := e_1034_71
      refine ⟨rfl, ?_⟩
      have gT_1034 := st_gT_t F_1034 (hdj_b rfl) gT_1033
      have gS_1034 := st_gS_t F_1034 (hdj_b rfl) gS_1033
      have gV_1034 := st_gV_t F_1034 (hdj_b rfl) gV_1033
      have gW_1034 := st_gW_t F_1034 (hdj_b rfl) gW_1033
      have gM_1034 := st_gM_t F_1034 (hdj_b rfl) gM_1033
      have gR_1034 := st_gR_t F_1034 (hdj_b rfl) gR_1033
      have gL_1034 := st_gL_t F_1034 (hdj_b rfl) gL_1033
      have gI_1034 := st_gI_t F_1034 (hdj_b rfl) gI_1033
      have gJ_1034 := st_gJ_t F_1034 (hdj_b rfl) gJ_1033
      have hB_1034 := st_hB_t F_1034 (hdj_b rfl) hB_1033
      have hT_1034 := st_hT_t F_1034 (hdj_b rfl) hT_1033
      have hS_1034 := st_hS_t F_1034 (hdj_b rfl) hS_1033
      have hM_1034 := st_hM_t F_1034 (hdj_b rfl) hM_1033
      have hR_1034 := st_hR_t F_1034 (hdj_b rfl) hR_1033
      have hL_1034 := st_hL_t F_1034 (hdj_b rfl) hL_1033
      have hI_1034 := st_hI_t F_1034 (hdj_b rfl) hI_1033
      intro C_ k_
      exact k_ tn fp pl 0 sd ka v fa kb pb fb (mx_sp v fa) (mx_sp pb fb) r n0 n1 ga0 gm0 gd_0 gs0 g00 g01 g02 g03 g04 g05 gx0 gy0 ga1 gm1 gd_1 gs1 g10 g11 g12 g13 g14 g15 gx1 gy1 s T cn go ch wg wc we rp rt lr ci0 ci1 cnr gor chr T2 im f_pl f_s f_st f_cb f_cr f_rw f_al f_wy (by first | exact ⟨p_1034_0.1, f_k.2⟩ | exact ⟨f_k.1, f_k.2.1, f_k.2.2.1, f_k.2.2.2.1, st_11 p_1034_0 f_pl, f_k.2.2.2.2.2⟩ | exact ⟨f_k.1, f_k.2.1, p_1034_0.1, f_k.2.2.2⟩ | exact ⟨f_k.1, p_1034_0.1, f_k.2.2⟩ | exact ⟨f_k.1, f_k.2.1, f_k.2.2.1, f_k.2.2.2.1, f_k.2.2.2.2.1, st_11 p_1034_0 f_pl⟩ | exact ⟨f_k.1, f_k.2.1, f_k.2.2.1, p_1034_0.1, f_k.2.2.2.2⟩ | omega) (fun w => by first | exact ⟨p_1034_0, (f_p w).2⟩ | exact ⟨(f_p w).1, p_1034_0⟩ | (have := f_p w; omega)) (fun w => by first | exact st_x (f_p w) f_k.2.2.1.1 f_k.2.2.2.1.1 | exact st_x ⟨p_1034_0, (f_p w).2⟩ f_k.2.2.1.1 f_k.2.2.2.1.1 | exact st_x ⟨(f_p w).1, p_1034_0⟩ f_k.2.2.1.1 f_k.2.2.2.1.1 | exact st_x (f_p w) p_1034_0.1.1 f_k.2.2.2.1.1 | exact st_x (f_p w) f_k.2.2.1.1 p_1034_0.1.1 | (have z := f_p w; have a := mx_sp_b (fr := fa) (show 0 ≤ v ∧ v < pl by omega) (by omega); have b := mx_sp_b (fr := fb) (show 0 ≤ pb ∧ pb < pl by omega) (by omega); omega)) (by first | exact st_m0 K | omega) f_sd f_r f_rr f_n f_l0 f_l1 f_tn f_t (st_I_K f_i0) (st_I_K f_i1) ⟨g_1034_0, g_1034_18, g_1034_57⟩ gT_1034 ⟨g_1034_7, g_1034_8, n8, g_1034_9, n9, g_1034_10, n10, g_1034_11, n11, g_1034_12, n12, g_1034_13, n13⟩ ⟨g_1034_14, g_1034_15, g_1034_16⟩ gS_1034 gV_1034 gW_1034 gM_1034 gR_1034 gL_1034 gI_1034 gJ_1034 ⟨sc0, sc1, sc2, sc3, sc4, sc5, w24, sb, wa, g_1034_66⟩ hB_1034 ⟨g_1034_70, g_1034_71⟩ hT_1034 hS_1034 hM_1034 hR_1034 hL_1034 hI_1034 k_1034
    · have k_1034 : cL h_1034 := F_1034.1.trans k_1033
      have g_1034_0 := (hfr_g F_1034 0 rfl).trans g_1033_0
      have g_1034_7 := (hfr_g F_1034 7 rfl).trans g_1033_7
      have g_1034_8 := (hfr_g F_1034 8 rfl).trans g_1033_8
      have g_1034_9 := (hfr_g F_1034 9 rfl).trans g_1033_9
      have g_1034_10 := (hfr_g F_1034 10 rfl).trans g_1033_10
      have g_1034_11 := (hfr_g F_1034 11 rfl).trans g_1033_11
      have g_1034_12 := (hfr_g F_1034 12 rfl).trans g_1033_12
      have g_1034_13 := (hfr_g F_1034 13 rfl).trans g_1033_13
      have g_1034_14 := (hfr_g F_1034 14 rfl).trans g_1033_14
      have g_1034_15 := (hfr_g F_1034 15 rfl).trans g_1033_15
      have g_1034_16 := (hfr_g F_1034 16 rfl).trans g_1033_16
      have g_1034_18 := (hfr_g F_1034 18 rfl).trans g_1033_18
      have g_1034_57 := (hfr_g F_1034 57 rfl).trans g_1033_57
      have g_1034_66 : cE h_1034 66 (.inr (10, (fI pl :: .ref 67 :: .ref 68 :: .ref 69 :: fI ((s : Nat) : Int) :: .ref 70 :: .ref 71 :: fI mi :: fI sd :: .ref 72 :: fI tn :: fI fp :: fI sc0 :: fJ sc1 :: fI sc2 :: fI sc3 :: fI sc4 :: fI sc5 :: .ref 73 :: .ref 74 :: .ref 75 :: .ref 76 :: .ref 77 :: .ref 78 :: fI w24 :: .ref 79 :: .ref 80 :: .ref 81 :: .ref 82 :: .ref 83 :: .ref 84 :: .ref 85 :: fJ sb :: fJ wa :: .ref 86 :: .ref 87 :: fI r :: .ref 88 :: .ref 89 :: .ref 90 :: .ref 91 :: .ref 92 :: .ref 93 :: []))) := e_1034_66
      have g_1034_70 : cE h_1034 70 (.inl (.int, fA [ka, pa, fa, kb, pb, fb])) := e_1034_70
      have g_1034_71 : cE h_1034 71 (.inl (.int, fA [xa, xb])) := e_1034_71
      exact absurd p_1033_0 p_1034_0
  · have k_1033 : cL h_1033 := F_1033.1.trans hl
    have g_1033_0 := (hfr_g F_1033 0 rfl).trans h0
    have g_1033_7 := (hfr_g F_1033 7 rfl).trans h7
    have g_1033_8 := (hfr_g F_1033 8 rfl).trans h8
    have g_1033_9 := (hfr_g F_1033 9 rfl).trans h9
    have g_1033_10 := (hfr_g F_1033 10 rfl).trans h10
    have g_1033_11 := (hfr_g F_1033 11 rfl).trans h11
    have g_1033_12 := (hfr_g F_1033 12 rfl).trans h12
    have g_1033_13 := (hfr_g F_1033 13 rfl).trans h13
    have g_1033_18 := (hfr_g F_1033 18 rfl).trans h18
    have g_1033_57 := (hfr_g F_1033 57 rfl).trans h57
    have g_1033_66 := (hfr_g F_1033 66 rfl).trans h66
    have g_1033_70 := (hfr_g F_1033 70 rfl).trans h70
    have g_1033_71 := (hfr_g F_1033 71 rfl).trans h71
    have g_1033_14 : cE h_1033 14 (.inr (1, [.ref 7, .ref 15, .ref 16, fI mi, fJ sd])) := e_1033_14
    have g_1033_15 : cE h_1033 15 (.inl (.int, fA [ka, pa, fa, kb, pb, fb])) := e_1033_15
    have g_1033_16 : cE h_1033 16 (.inl (.int, fA [xa, xb])) := e_1033_16
    refine ⟨-1000000001, rfl, ⟨k_1033, _, g_1033_66⟩, ?_⟩
    have gT_1033 := st_gT_t F_1033 (hdj_b rfl) gT
    have gS_1033 := st_gS_t F_1033 (hdj_b rfl) gS
    have gV_1033 := st_gV_t F_1033 (hdj_b rfl) gV
    have gW_1033 := st_gW_t F_1033 (hdj_b rfl) gW
    have gM_1033 := st_gM_t F_1033 (hdj_b rfl) gM
    have gR_1033 := st_gR_t F_1033 (hdj_b rfl) gR
    have gL_1033 := st_gL_t F_1033 (hdj_b rfl) gL
    have gI_1033 := st_gI_t F_1033 (hdj_b rfl) gI
    have gJ_1033 := st_gJ_t F_1033 (hdj_b rfl) gJ
    have hB_1033 := st_hB_t F_1033 (hdj_b rfl) hB
    have hT_1033 := st_hT_t F_1033 (hdj_b rfl) hT
    have hS_1033 := st_hS_t F_1033 (hdj_b rfl) hS
    have hM_1033 := st_hM_t F_1033 (hdj_b rfl) hM
    have hR_1033 := st_hR_t F_1033 (hdj_b rfl) hR
    have hL_1033 := st_hL_t F_1033 (hdj_b rfl) hL
    have hI_1033 := st_hI_t F_1033 (hdj_b rfl) hI
    refine ik_F_mono (rp_cork01 (ka := ka) (pa := pa) (fa := fa) (kb := kb) (pb := pb) (fb := fb) (xa := xa) (xb := xb) (mi := mi) (v := v) (pl := pl) (f := fun j => ((0 :: 0 :: 0 :: 0 :: (((s : Nat) : Int)) :: 0 :: 0 :: 0 :: sd :: 0 :: tn :: fp :: sc0 :: sc1 :: sc2 :: sc3 :: sc4 :: sc5 :: 0 :: 0 :: 0 :: 0 :: 0 :: 0 :: w24 :: 0 :: 0 :: 0 :: 0 :: 0 :: 0 :: 0 :: sb :: wa :: 0 :: 0 :: r :: 0 :: 0 :: 0 :: 0 :: 0 :: 0 :: []) : List Int).getD j 0) f_k.2.2.1 f_k.2.2.2.1 f_pl z_v g_1033_66 g_1033_70 g_1033_71 k_1033) ?_
    rintro v_1035 h_1035 (⟨er_1035, e_1035_66, e_1035_70, e_1035_71, p_1035_0, F_1035⟩ | ⟨er_1035, e_1035_66, e_1035_70, e_1035_71, p_1035_0, F_1035⟩) <;> subst er_1035
    · have k_1035 : cL h_1035 := F_1035.1.trans k_1033
      have g_1035_0 := (hfr_g F_1035 0 rfl).trans g_1033_0
      have g_1035_7 := (hfr_g F_1035 7 rfl).trans g_1033_7
      have g_1035_8 := (hfr_g F_1035 8 rfl).trans g_1033_8
      have g_1035_9 := (hfr_g F_1035 9 rfl).trans g_1033_9
      have g_1035_10 := (hfr_g F_1035 10 rfl).trans g_1033_10
      have g_1035_11 := (hfr_g F_1035 11 rfl).trans g_1033_11
      have g_1035_12 := (hfr_g F_1035 12 rfl).trans g_1033_12
      have g_1035_13 := (hfr_g F_1035 13 rfl).trans g_1033_13
      have g_1035_14 := (hfr_g F_1035 14 rfl).trans g_1033_14
      have g_1035_15 := (hfr_g F_1035 15 rfl).trans g_1033_15
      have g_1035_16 := (hfr_g F_1035 16 rfl).trans g_1033_16
      have g_1035_18 := (hfr_g F_1035 18 rfl).trans g_1033_18
      have g_1035_57 := (hfr_g F_1035 57 rfl).trans g_1033_57
      have g_1035_66 : cE h_1035 66 (.inr (10, (fI pl :: .ref 67 :: .ref 68 :: .ref 69 :: fI ((s : Nat) : Int) :: .ref 70 :: .ref 71 :: fI 0 :: fI sd :: .ref 72 :: fI tn :: fI fp :: fI sc0 :: fJ sc1 :: fI sc2 :: fI sc3 :: fI sc4 :: fI sc5 :: .ref 73 :: .ref 74 :: .ref 75 :: .ref 76 :: .ref 77 :: .ref 78 :: fI w24 :: .ref 79 :: .ref 80 :: .ref 81 :: .ref 82 :: .ref 83 :: .ref 84 :: .ref 85 :: fJ sb :: fJ wa :: .ref 86 :: .ref 87 :: fI r :: .ref 88 :: .ref 89 :: .ref 90 :: .ref 91 :: .ref 92 :: .ref 93 :: []))) := e_1035_66
      have g_1035_70 : cE h_1035 70 (.inl (.int, fA [ka, v, fa, kb, pb, fb])) := e_1035_70
      have g_1035_71 : cE h_1035 71 (.inl (.int, fA [mx_sp v fa, mx_sp pb fb])) := e_1035_71
      exact absurd p_1035_0 p_1033_0
    · have k_1035 : cL h_1035 := F_1035.1.trans k_1033
      have g_1035_0 := (hfr_g F_1035 0 rfl).trans g_1033_0
      have g_1035_7 := (hfr_g F_1035 7 rfl).trans g_1033_7
      have g_1035_8 := (hfr_g F_1035 8 rfl).trans g_1033_8
      have g_1035_9 := (hfr_g F_1035 9 rfl).trans g_1033_9
      have g_1035_10 := (hfr_g F_1035 10 rfl).trans g_1033_10
      have g_1035_11 := (hfr_g F_1035 11 rfl).trans g_1033_11
      have g_1035_12 := (hfr_g F_1035 12 rfl).trans g_1033_12
      have g_1035_13 := (hfr_g F_1035 13 rfl).trans g_1033_13
      have g_1035_14 := (hfr_g F_1035 14 rfl).trans g_1033_14
      have g_1035_15 := (hfr_g F_1035 15 rfl).trans g_1033_15
      have g_1035_16 := (hfr_g F_1035 16 rfl).trans g_1033_16
      have g_1035_18 := (hfr_g F_1035 18 rfl).trans g_1033_18
      have g_1035_57 := (hfr_g F_1035 57 rfl).trans g_1033_57
      have g_1035_66 : cE h_1035 66 (.inr (10, (fI pl :: .ref 67 :: .ref 68 :: .ref 69 :: fI ((s : Nat) : Int) :: .ref 70 :: .ref 71 :: fI mi :: fI sd :: .ref 72 :: fI tn :: fI fp :: fI sc0 :: fJ sc1 :: fI sc2 :: fI sc3 :: fI sc4 :: fI sc5 :: .ref 73 :: .ref 74 :: .ref 75 :: .ref 76 :: .ref 77 :: .ref 78 :: fI w24 :: .ref 79 :: .ref 80 :: .ref 81 :: .ref 82 :: .ref 83 :: .ref 84 :: .ref 85 :: fJ sb :: fJ wa :: .ref 86 :: .ref 87 :: fI r :: .ref 88 :: .ref 89 :: .ref 90 :: .ref 91 :: .ref 92 :: .ref 93 :: []))) := e_1035_66
      have g_1035_70 : cE h_1035 70 (.inl (.int, fA [ka, pa, fa, kb, pb, fb])) := e_1035_70
      have g_1035_71 : cE h_1035 71 (.inl (.int, fA [xa, xb])) := e_1035_71
      refine ⟨rfl, ?_⟩
      have gT_1035 := st_gT_t F_1035 (hdj_b rfl) gT_1033
      have gS_1035 := st_gS_t F_1035 (hdj_b rfl) gS_1033
      have gV_1035 := st_gV_t F_1035 (hdj_b rfl) gV_1033
      have gW_1035 := st_gW_t F_1035 (hdj_b rfl) gW_1033
      have gM_1035 := st_gM_t F_1035 (hdj_b rfl) gM_1033
      have gR_1035 := st_gR_t F_1035 (hdj_b rfl) gR_1033
      have gL_1035 := st_gL_t F_1035 (hdj_b rfl) gL_1033
      have gI_1035 := st_gI_t F_1035 (hdj_b rfl) gI_1033
      have gJ_1035 := st_gJ_t F_1035 (hdj_b rfl) gJ_1033
      have hB_1035 := st_hB_t F_1035 (hdj_b rfl) hB_1033
      have hT_1035 := st_hT_t F_1035 (hdj_b rfl) hT_1033
      have hS_1035 := st_hS_t F_1035 (hdj_b rfl) hS_1033
      have hM_1035 := st_hM_t F_1035 (hdj_b rfl) hM_1033
      have hR_1035 := st_hR_t F_1035 (hdj_b rfl) hR_1033
      have hL_1035 := st_hL_t F_1035 (hdj_b rfl) hL_1033
      have hI_1035 := st_hI_t F_1035 (hdj_b rfl) hI_1033
      intro C_ k_
      exact k_ tn fp pl mi sd ka pa fa kb pb fb xa xb r n0 n1 ga0 gm0 gd_0 gs0 g00 g01 g02 g03 g04 g05 gx0 gy0 ga1 gm1 gd_1 gs1 g10 g11 g12 g13 g14 g15 gx1 gy1 s T cn go ch wg wc we rp rt lr ci0 ci1 cnr gor chr T2 im f_pl f_s f_st f_cb f_cr f_rw f_al f_wy f_k f_p f_x (by first | exact st_m f_m | omega) f_sd f_r f_rr f_n f_l0 f_l1 f_tn f_t (st_I_K f_i0) (st_I_K f_i1) ⟨g_1035_0, g_1035_18, g_1035_57⟩ gT_1035 ⟨g_1035_7, g_1035_8, n8, g_1035_9, n9, g_1035_10, n10, g_1035_11, n11, g_1035_12, n12, g_1035_13, n13⟩ ⟨g_1035_14, g_1035_15, g_1035_16⟩ gS_1035 gV_1035 gW_1035 gM_1035 gR_1035 gL_1035 gI_1035 gJ_1035 ⟨sc0, sc1, sc2, sc3, sc4, sc5, w24, sb, wa, g_1035_66⟩ hB_1035 ⟨g_1035_70, g_1035_71⟩ hT_1035 hS_1035 hM_1035 hR_1035 hL_1035 hI_1035 k_1035

set_option maxRecDepth 100000 in
theorem lk_cork02 {K : Nat} {h : List ik_E} (E : st_S K h) (hK : K ≤ 600) {v : Int} (z_v : -2147483648 ≤ v ∧ v < 2147483648)  : ik_F 95 [.ref 0, fI 0, fI 2, fI v] h (fun rv h_q => ∃ o_ : Int, rv = [fI o_] ∧ (h_q.length = (94 : Nat) ∧ ∃ fs, h_q[66]? = some (.inr (10, fs))) ∧ ik_F 158 [.ref 66, fI 0, fI 2, fI v] h_q (fun rv' h'' => rv' = [fI o_] ∧ st_S (K + 1) h'')) := by
  refine E _ ?_
  intro tn fp pl mi sd ka pa fa kb pb fb xa xb r n0 n1 ga0 gm0 gd_0 gs0 g00 g01 g02 g03 g04 g05 gx0 gy0 ga1 gm1 gd_1 gs1 g10 g11 g12 g13 g14 g15 gx1 gy1 s T cn go ch wg wc we rp rt lr ci0 ci1 cnr gor chr T2 im f_pl f_s f_st f_cb f_cr f_rw f_al f_wy f_k f_p f_x f_m f_sd f_r f_rr f_n f_l0 f_l1 f_tn f_t f_i0 f_i1 gA gT gB gC gS gV gW gM gR gL gI gJ hO hB hC hT hS hM hR hL hI hl
  replace f_cb := ik_hid_i f_cb
  replace f_cr := ik_hid_i f_cr
  replace f_p := ik_hid_i f_p
  replace f_x := ik_hid_i f_x
  obtain ⟨h0, h18, h57⟩ := gA
  obtain ⟨h7, h8, n8, h9, n9, h10, n10, h11, n11, h12, n12, h13, n13⟩ := gB
  obtain ⟨h14, h15, h16⟩ := gC
  obtain ⟨sc0, sc1, sc2, sc3, sc4, sc5, w24, sb, wa, h66⟩ := hO
  obtain ⟨h70, h71⟩ := hC
  refine ik_F_mono (cp_cork02 (ka := ka) (pa := pa) (fa := fa) (kb := kb) (pb := pb) (fb := fb) (xa := xa) (xb := xb) (mi := mi) (dr := sd) (v := v) (pl := pl) (st := ((s : Nat) : Int)) (lo := ((mj_lost pl cn go : Nat) : Int)) f_k.2.2.1 f_k.2.2.2.1 f_pl z_v h0 h7 h14 h15 h16 hl) ?_
  rintro v_1036 h_1036 (⟨er_1036, e_1036_14, e_1036_15, e_1036_16, p_1036_0, F_1036⟩ | ⟨er_1036, e_1036_14, e_1036_15, e_1036_16, p_1036_0, F_1036⟩) <;> subst er_1036
  · have k_1036 : cL h_1036 := F_1036.1.trans hl
    have g_1036_0 := (hfr_g F_1036 0 rfl).trans h0
    have g_1036_7 := (hfr_g F_1036 7 rfl).trans h7
    have g_1036_8 := (hfr_g F_1036 8 rfl).trans h8
    have g_1036_9 := (hfr_g F_1036 9 rfl).trans h9
    have g_1036_10 := (hfr_g F_1036 10 rfl).trans h10
    have g_1036_11 := (hfr_g F_1036 11 rfl).trans h11
    have g_1036_12 := (hfr_g F_1036 12 rfl).trans h12
    have g_1036_13 := (hfr_g F_1036 13 rfl).trans h13
    have g_1036_18 := (hfr_g F_1036 18 rfl).trans h18
    have g_1036_57 := (hfr_g F_1036 57 rfl).trans h57
    have g_1036_66 := (hfr_g F_1036 66 rfl).trans h66
    have g_1036_70 := (hfr_g F_1036 70 rfl).trans h70
    have g_1036_71 := (hfr_g F_1036 71 rfl).trans h71
    have g_1036_14 : cE h_1036 14 (.inr (1, [.ref 7, .ref 15, .ref 16, fI 0, fJ sd])) := e_1036_14
    have g_1036_15 : cE h_1036 15 (.inl (.int, fA [ka, pa, v, kb, pb, fb])) := e_1036_15
    have g_1036_16 : cE h_1036 16 (.inl (.int, fA [mx_sp pa v, mx_sp pb fb])) := e_1036_16
    refine ⟨fa, rfl, ⟨k_1036, _, g_1036_66⟩, ?_⟩
    have gT_1036 := st_gT_t F_1036 (hdj_b rfl) gT
    have gS_1036 := st_gS_t F_1036 (hdj_b rfl) gS
    have gV_1036 := st_gV_t F_1036 (hdj_b rfl) gV
    have gW_1036 := st_gW_t F_1036 (hdj_b rfl) gW
    have gM_1036 := st_gM_t F_1036 (hdj_b rfl) gM
    have gR_1036 := st_gR_t F_1036 (hdj_b rfl) gR
    have gL_1036 := st_gL_t F_1036 (hdj_b rfl) gL
    have gI_1036 := st_gI_t F_1036 (hdj_b rfl) gI
    have gJ_1036 := st_gJ_t F_1036 (hdj_b rfl) gJ
    have hB_1036 := st_hB_t F_1036 (hdj_b rfl) hB
    have hT_1036 := st_hT_t F_1036 (hdj_b rfl) hT
    have hS_1036 := st_hS_t F_1036 (hdj_b rfl) hS
    have hM_1036 := st_hM_t F_1036 (hdj_b rfl) hM
    have hR_1036 := st_hR_t F_1036 (hdj_b rfl) hR
    have hL_1036 := st_hL_t F_1036 (hdj_b rfl) hL
    have hI_1036 := st_hI_t F_1036 (hdj_b rfl) hI
    refine ik_F_mono (rp_cork02 (ka := ka) (pa := pa) (fa := fa) (kb := kb) (pb := pb) (fb := fb) (xa := xa) (xb := xb) (mi := mi) (v := v) (pl := pl) (f := fun j => ((0 :: 0 :: 0 :: 0 :: (((s : Nat) : Int)) :: 0 :: 0 :: 0 :: sd :: 0 :: tn :: fp :: sc0 :: sc1 :: sc2 :: sc3 :: sc4 :: sc5 :: 0 :: 0 :: 0 :: 0 :: 0 :: 0 :: w24 :: 0 :: 0 :: 0 :: 0 :: 0 :: 0 :: 0 :: sb :: wa :: 0 :: 0 :: r :: 0 :: 0 :: 0 :: 0 :: 0 :: 0 :: []) : List Int).getD j 0) f_k.2.2.1 f_k.2.2.2.1 f_pl z_v g_1036_66 g_1036_70 g_1036_71 k_1036) ?_
    rintro v_1037 h_1037 (⟨er_1037, e_1037_66, e_1037_70, e_1037_71, p_1037_0, F_1037⟩ | ⟨er_1037, e_1037_66, e_1037_70, e_1037_71, p_1037_0, F_1037⟩) <;> subst er_1037
    · have k_1037 : cL h_1037 := F_1037.1.trans k_1036
      have g_1037_0 := (hfr_g F_1037 0 rfl).trans g_1036_0
      have g_1037_7 := (hfr_g F_1037 7 rfl).trans g_1036_7
      have g_1037_8 := (hfr_g F_1037 8 rfl).trans g_1036_8
      have g_1037_9 := (hfr_g F_1037 9 rfl).trans g_1036_9
      have g_1037_10 := (hfr_g F_1037 10 rfl).trans g_1036_10
      have g_1037_11 := (hfr_g F_1037 11 rfl).trans g_1036_11
      have g_1037_12 := (hfr_g F_1037 12 rfl).trans g_1036_12
      have g_1037_13 := (hfr_g F_1037 13 rfl).trans g_1036_13
      have g_1037_14 := (hfr_g F_1037 14 rfl).trans g_1036_14
      have g_1037_15 := (hfr_g F_1037 15 rfl).trans g_1036_15
      have g_1037_16 := (hfr_g F_1037 16 rfl).trans g_1036_16
      have g_1037_18 := (hfr_g F_1037 18 rfl).trans g_1036_18
      have g_1037_57 := (hfr_g F_1037 57 rfl).trans g_1036_57
      have g_1037_66 : cE h_1037 66 (.inr (10, (fI pl :: .ref 67 :: .ref 68 :: .ref 69 :: fI ((s : Nat) : Int) :: .ref 70 :: .ref 71 :: fI 0 :: fI sd :: .ref 72 :: fI tn :: fI fp :: fI sc0 :: fJ sc1 :: fI sc2 :: fI sc3 :: fI sc4 :: fI sc5 :: .ref 73 :: .ref 74 :: .ref 75 :: .ref 76 :: .ref 77 :: .ref 78 :: fI w24 :: .ref 79 :: .ref 80 :: .ref 81 :: .ref 82 :: .ref 83 :: .ref 84 :: .ref 85 :: fJ sb :: fJ wa :: .ref 86 :: .ref 87 :: fI r :: .ref 88 :: .ref 89 :: .ref 90 :: .ref 91 :: .ref 92 :: .ref 93 :: []))) := e_1037_66
      have g_1037_70 : cE h_1037 70 (.inl (.int, fA [ka, pa, v, kb, pb, fb])) := e_1037_70
      have g_1037_71 : cE h_1037 71 (.inl (.int, fA [mx_sp pa v, mx_sp pb fb])) := e_1037_71
      refine ⟨rfl, ?_⟩
      have gT_1037 := st_gT_t F_1037 (hdj_b rfl) gT_1036
      have gS_1037 := st_gS_t F_1037 (hdj_b rfl) gS_1036
      have gV_1037 := st_gV_t F_1037 (hdj_b rfl) gV_1036
      have gW_1037 := st_gW_t F_1037 (hdj_b rfl) gW_1036
      have gM_1037 := st_gM_t F_1037 (hdj_b rfl) gM_1036
      have gR_1037 := st_gR_t F_1037 (hdj_b rfl) gR_1036
      have gL_1037 := st_gL_t F_1037 (hdj_b rfl) gL_1036
      have gI_1037 := st_gI_t F_1037 (hdj_b rfl) gI_1036
      have gJ_1037 := st_gJ_t F_1037 (hdj_b rfl) gJ_1036
      have hB_1037 := st_hB_t F_1037 (hdj_b rfl) hB_1036
      have hT_1037 := st_hT_t F_1037 (hdj_b rfl) hT_1036
      have hS_1037 := st_hS_t F_1037 (hdj_b rfl) hS_1036
      have hM_1037 := st_hM_t F_1037 (hdj_b rfl) hM_1036
      have hR_1037 := st_hR_t F_1037 (hdj_b rfl) hR_1036
      have hL_1037 := st_hL_t F_1037 (hdj_b rfl) hL_1036
      have hI_1037 := st_hI_t F_1037 (hdj_b rfl) hI_1036
      intro C_ k_
      exact k_ tn fp pl 0 sd ka pa v kb pb fb (mx_sp pa v) (mx_sp pb fb) r n0 n1 ga0 gm0 gd_0 gs0 g00 g01 g02 g03 g04 g05 gx0 gy0 ga1 gm1 gd_1 gs1 g10 g11 g12 g13 g14 g15 gx1 gy1 s T cn go ch wg wc we rp rt lr ci0 ci1 cnr gor chr T2 im f_pl f_s f_st f_cb f_cr f_rw f_al f_wy (by first | exact ⟨p_1037_0.1, f_k.2⟩ | exact ⟨f_k.1, f_k.2.1, f_k.2.2.1, f_k.2.2.2.1, st_11 p_1037_0 f_pl, f_k.2.2.2.2.2⟩ | exact ⟨f_k.1, f_k.2.1, p_1037_0.1, f_k.2.2.2⟩ | exact ⟨f_k.1, p_1037_0.1, f_k.2.2⟩ | exact ⟨f_k.1, f_k.2.1, f_k.2.2.1, f_k.2.2.2.1, f_k.2.2.2.2.1, st_11 p_1037_0 f_pl⟩ | exact ⟨f_k.1, f_k.2.1, f_k.2.2.1, p_1037_0.1, f_k.2.2.2.2⟩ | omega) f_p (fun w => by first | exact st_x (f_p w) f_k.2.2.1.1 f_k.2.2.2.1.1 | exact st_x ⟨p_1037_0, (f_p w).2⟩ f_k.2.2.1.1 f_k.2.2.2.1.1 | exact st_x ⟨(f_p w).1, p_1037_0⟩ f_k.2.2.1.1 f_k.2.2.2.1.1 | exact st_x (f_p w) p_1037_0.1.1 f_k.2.2.2.1.1 | exact st_x (f_p w) f_k.2.2.1.1 p_1037_0.1.1 | (have z := f_p w; have a := mx_sp_b (fr := v) (show 0 ≤ pa ∧ pa < pl by omega) (by omega); have b := mx_sp_b (fr := fb) (show 0 ≤ pb ∧ pb < pl by omega) (by omega); omega)) (by first | exact st_m0 K | omega) f_sd f_r f_rr f_n f_l0 f_l1 f_tn f_t (st_I_K f_i0) (st_I_K f_i1) ⟨g_1037_0, g_1037_18, g_1037_57⟩ gT_1037 ⟨g_1037_7, g_1037_8, n8, g_1037_9, n9, g_1037_10, n10, g_1037_11, n11, g_1037_12, n12, g_1037_13, n13⟩ ⟨g_1037_14, g_1037_15, g_1037_16⟩ gS_1037 gV_1037 gW_1037 gM_1037 gR_1037 gL_1037 gI_1037 gJ_1037 ⟨sc0, sc1, sc2, sc3, sc4, sc5, w24, sb, wa, g_1037_66⟩ hB_1037 ⟨g_1037_70, g_1037_71⟩ hT_1037 hS_1037 hM_1037 hR_1037 hL_1037 hI_1037 k_1037
    · have k_1037 : cL h_1037 := F_1037.1.trans k_1036
      have g_1037_0 := (hfr_g F_1037 0 rfl).trans g_1036_0
      have g_1037_7 := (hfr_g F_1037 7 rfl).trans g_1036_7
      have g_1037_8 := (hfr_g F_1037 8 rfl).trans g_1036_8
      have g_1037_9 := (hfr_g F_1037 9 rfl).trans g_1036_9
      have g_1037_10 := (hfr_g F_1037 10 rfl).trans g_1036_10
      have g_1037_11 := (hfr_g F_1037 11 rfl).trans g_1036_11
      have g_1037_12 := (hfr_g F_1037 12 rfl).trans g_1036_12
      have g_1037_13 := (hfr_g F_1037 13 rfl).trans g_1036_13
      have g_1037_14 := (hfr_g F_1037 14 rfl).trans g_1036_14
      have g_1037_15 := (hfr_g F_1037 15 rfl).trans g_1036_15
      have g_1037_16 := (hfr_g F_1037 16 rfl).trans g_1036_16
      have g_1037_18 := (hfr_g F_1037 18 rfl).trans g_1036_18
      have g_1037_57 := (hfr_g F_1037 57 rfl).trans g_1036_57
      have g_1037_66 : cE h_1037 66 (.inr (10, (fI pl :: .ref 67 :: .ref 68 :: .ref 69 :: fI ((s : Nat) : Int) :: .ref 70 :: .ref 71 :: fI mi :: fI sd :: .ref 72 :: fI tn :: fI fp :: fI sc0 :: fJ sc1 :: fI sc2 :: fI sc3 :: fI sc4 :: fI sc5 :: .ref 73 :: .ref 74 :: .ref 75 :: .ref 76 :: .ref 77 :: .ref 78 :: fI w24 :: .ref 79 :: .ref 80 :: .ref 81 :: .ref 82 :: .ref 83 :: .ref 84 :: .ref 85 :: fJ sb :: fJ wa :: .ref 86 :: .ref 87 :: fI r :: .ref 88 :: .ref 89 :: .ref 90 :: .ref 91 :: .ref 92 :: .ref 93 :: []))) := e_1037_66
      have g_1037_70 : cE h_1037 70 (.inl (.int, fA [ka, pa, fa, kb, pb, fb])) := e_1037_70
      have g_1037_71 : cE h_1037 71 (.inl (.int, fA [xa, xb])) := e_1037_71
      exact absurd p_1036_0 p_1037_0
  · have k_1036 : cL h_1036 := F_1036.1.trans hl
    have g_1036_0 := (hfr_g F_1036 0 rfl).trans h0
    have g_1036_7 := (hfr_g F_1036 7 rfl).trans h7
    have g_1036_8 := (hfr_g F_1036 8 rfl).trans h8
    have g_1036_9 := (hfr_g F_1036 9 rfl).trans h9
    have g_1036_10 := (hfr_g F_1036 10 rfl).trans h10
    have g_1036_11 := (hfr_g F_1036 11 rfl).trans h11
    have g_1036_12 := (hfr_g F_1036 12 rfl).trans h12
    have g_1036_13 := (hfr_g F_1036 13 rfl).trans h13
    have g_1036_18 := (hfr_g F_1036 18 rfl).trans h18
    have g_1036_57 := (hfr_g F_1036 57 rfl).trans h57
    have g_1036_66 := (hfr_g F_1036 66 rfl).trans h66
    have g_1036_70 := (hfr_g F_1036 70 rfl).trans h70
    have g_1036_71 := (hfr_g F_1036 71 rfl).trans h71
    have g_1036_14 : cE h_1036 14 (.inr (1, [.ref 7, .ref 15, .ref 16, fI mi, fJ sd])) := e_1036_14
    have g_1036_15 : cE h_1036 15 (.inl (.int, fA [ka, pa, fa, kb, pb, fb])) := e_1036_15
    have g_1036_16 : cE h_1036 16 (.inl (.int, fA [xa, xb])) := e_1036_16
    refine ⟨if 0 ≤ v ∧ v ≤ 30 then -1000000003 else -1000000002, rfl, ⟨k_1036, _, g_1036_66⟩, ?_⟩
    have gT_1036 := st_gT_t F_1036 (hdj_b rfl) gT
    have gS_1036 := st_gS_t F_1036 (hdj_b rfl) gS
    have gV_1036 := st_gV_t F_1036 (hdj_b rfl) gV
    have gW_1036 := st_gW_t F_1036 (hdj_b rfl) gW
    have gM_1036 := st_gM_t F_1036 (hdj_b rfl) gM
    have gR_1036 := st_gR_t F_1036 (hdj_b rfl) gR
    have gL_1036 := st_gL_t F_1036 (hdj_b rfl) gL
    have gI_1036 := st_gI_t F_1036 (hdj_b rfl) gI
    have gJ_1036 := st_gJ_t F_1036 (hdj_b rfl) gJ
    have hB_1036 := st_hB_t F_1036 (hdj_b rfl) hB
    have hT_1036 := st_hT_t F_1036 (hdj_b rfl) hT
    have hS_1036 := st_hS_t F_1036 (hdj_b rfl) hS
    have hM_1036 := st_hM_t F_1036 (hdj_b rfl) hM
    have hR_1036 := st_hR_t F_1036 (hdj_b rfl) hR
    have hL_1036 := st_hL_t F_1036 (hdj_b rfl) hL
    have hI_1036 := st_hI_t F_1036 (hdj_b rfl) hI
    refine ik_F_mono (rp_cork02 (ka := ka) (pa := pa) (fa := fa) (kb := kb) (pb := pb) (fb := fb) (xa := xa) (xb := xb) (mi := mi) (v := v) (pl := pl) (f := fun j => ((0 :: 0 :: 0 :: 0 :: (((s : Nat) : Int)) :: 0 :: 0 :: 0 :: sd :: 0 :: tn :: fp :: sc0 :: sc1 :: sc2 :: sc3 :: sc4 :: sc5 :: 0 :: 0 :: 0 :: 0 :: 0 :: 0 :: w24 :: 0 :: 0 :: 0 :: 0 :: 0 :: 0 :: 0 :: sb :: wa :: 0 :: 0 :: r :: 0 :: 0 :: 0 :: 0 :: 0 :: 0 :: []) : List Int).getD j 0) f_k.2.2.1 f_k.2.2.2.1 f_pl z_v g_1036_66 g_1036_70 g_1036_71 k_1036) ?_
    rintro v_1038 h_1038 (⟨er_1038, e_1038_66, e_1038_70, e_1038_71, p_1038_0, F_1038⟩ | ⟨er_1038, e_1038_66, e_1038_70, e_1038_71, p_1038_0, F_1038⟩) <;> subst er_1038
    · have k_1038 : cL h_1038 := F_1038.1.trans k_1036
      have g_1038_0 := (hfr_g F_1038 0 rfl).trans g_1036_0
      have g_1038_7 := (hfr_g F_1038 7 rfl).trans g_1036_7
      have g_1038_8 := (hfr_g F_1038 8 rfl).trans g_1036_8
      have g_1038_9 := (hfr_g F_1038 9 rfl).trans g_1036_9
      have g_1038_10 := (hfr_g F_1038 10 rfl).trans g_1036_10
      have g_1038_11 := (hfr_g F_1038 11 rfl).trans g_1036_11
      have g_1038_12 := (hfr_g F_1038 12 rfl).trans g_1036_12
      have g_1038_13 := (hfr_g F_1038 13 rfl).trans g_1036_13
      have g_1038_14 := (hfr_g F_1038 14 rfl).trans g_1036_14
      have g_1038_15 := (hfr_g F_1038 15 rfl).trans g_1036_15
      have g_1038_16 := (hfr_g F_1038 16 rfl).trans g_1036_16
      have g_1038_18 := (hfr_g F_1038 18 rfl).trans g_1036_18
      have g_1038_57 := (hfr_g F_1038 57 rfl).trans g_1036_57
      have g_1038_66 : cE h_1038 66 (.inr (10, (fI pl :: .ref 67 :: .ref 68 :: .ref 69 :: fI ((s : Nat) : Int) :: .ref 70 :: .ref 71 :: fI 0 :: fI sd :: .ref 72 :: fI tn :: fI fp :: fI sc0 :: fJ sc1 :: fI sc2 :: fI sc3 :: fI sc4 :: fI sc5 :: .ref 73 :: .ref 74 :: .ref 75 :: .ref 76 :: .ref 77 :: .ref 78 :: fI w24 :: .ref 79 :: .ref 80 :: .ref 81 :: .ref 82 :: .ref 83 :: .ref 84 :: .ref 85 :: fJ sb :: fJ wa :: .ref 86 :: .ref 87 :: fI r :: .ref 88 :: .ref 89 :: .ref 90 :: .ref 91 :: .ref 92 :: .ref 93 :: []))) := e_1038_66
      have g_1038_70 : cE h_1038 70 (.inl (.int, fA [ka, pa, v, kb, pb, fb])) := e_1038_70
      have g_1038_71 : cE h_1038 71 (.inl (.int, fA [mx_sp pa v, mx_sp pb fb])) := e_1038_71
      exact absurd p_1038_0 p_1036_0
    · have k_1038 : cL h_1038 := F_1038.1.trans k_1036
      have g_1038_0 := (hfr_g F_1038 0 rfl).trans g_1036_0
      have g_1038_7 := (hfr_g F_1038 7 rfl).trans g_1036_7
      have g_1038_8 := (hfr_g F_1038 8 rfl).trans g_1036_8
      have g_1038_9 := (hfr_g F_1038 9 rfl).trans g_1036_9
      have g_1038_10 := (hfr_g F_1038 10 rfl).trans g_1036_10
      have g_1038_11 := (hfr_g F_1038 11 rfl).trans g_1036_11
      have g_1038_12 := (hfr_g F_1038 12 rfl).trans g_1036_12
      have g_1038_13 := (hfr_g F_1038 13 rfl).trans g_1036_13
      have g_1038_14 := (hfr_g F_1038 14 rfl).trans g_1036_14
      have g_1038_15 := (hfr_g F_1038 15 rfl).trans g_1036_15
      have g_1038_16 := (hfr_g F_1038 16 rfl).trans g_1036_16
      have g_1038_18 := (hfr_g F_1038 18 rfl).trans g_1036_18
      have g_1038_57 := (hfr_g F_1038 57 rfl).trans g_1036_57
      have g_1038_66 : cE h_1038 66 (.inr (10, (fI pl :: .ref 67 :: .ref 68 :: .ref 69 :: fI ((s : Nat) : Int) :: .ref 70 :: .ref 71 :: fI mi :: fI sd :: .ref 72 :: fI tn :: fI fp :: fI sc0 :: fJ sc1 :: fI sc2 :: fI sc3 :: fI sc4 :: fI sc5 :: .ref 73 :: .ref 74 :: .ref 75 :: .ref 76 :: .ref 77 :: .ref 78 :: fI w24 :: .ref 79 :: .ref 80 :: .ref 81 :: .ref 82 :: .ref 83 :: .ref 84 :: .ref 85 :: fJ sb :: fJ wa :: .ref 86 :: .ref 87 :: fI r :: .ref 88 :: .ref 89 :: .ref 90 :: .ref 91 :: .ref 92 :: .ref 93 :: []))) := e_1038_66
      have g_1038_70 : cE h_1038 70 (.inl (.int, fA [ka, pa, fa, kb, pb, fb])) := e_1038_70
      have g_1038_71 : cE h_1038 71 (.inl (.int, fA [xa, xb])) := e_1038_71
      refine ⟨rfl, ?_⟩
      have gT_1038 := st_gT_t F_1038 (hdj_b rfl) gT_1036
      have gS_1038 := st_gS_t F_1038 (hdj_b rfl) gS_1036
      have gV_1038 := st_gV_t F_1038 (hdj_b rfl) gV_1036
      have gW_1038 := st_gW_t F_1038 (hdj_b rfl) gW_1036
      have gM_1038 := st_gM_t F_1038 (hdj_b rfl) gM_1036
      have gR_1038 := st_gR_t F_1038 (hdj_b rfl) gR_1036
      have gL_1038 := st_gL_t F_1038 (hdj_b rfl) gL_1036
      have gI_1038 := st_gI_t F_1038 (hdj_b rfl) gI_1036
      have gJ_1038 := st_gJ_t F_1038 (hdj_b rfl) gJ_1036
      have hB_1038 := st_hB_t F_1038 (hdj_b rfl) hB_1036
      have hT_1038 := st_hT_t F_1038 (hdj_b rfl) hT_1036
      have hS_1038 := st_hS_t F_1038 (hdj_b rfl) hS_1036
      have hM_1038 := st_hM_t F_1038 (hdj_b rfl) hM_1036
      have hR_1038 := st_hR_t F_1038 (hdj_b rfl) hR_1036
      have hL_1038 := st_hL_t F_1038 (hdj_b rfl) hL_1036
      have hI_1038 := st_hI_t F_1038 (hdj_b rfl) hI_1036
      intro C_ k_
      exact k_ tn fp pl mi sd ka pa fa kb pb fb xa xb r n0 n1 ga0 gm0 gd_0 gs0 g00 g01 g02 g03 g04 g05 gx0 gy0 ga1 gm1 gd_1 gs1 g10 g11 g12 g13 g14 g15 gx1 gy1 s T cn go ch wg wc we rp rt lr ci0 ci1 cnr gor chr T2 im f_pl f_s f_st f_cb f_cr f_rw f_al f_wy f_k f_p f_x (by first | exact st_m f_m | omega) f_sd f_r f_rr f_n f_l0 f_l1 f_tn f_t (st_I_K f_i0) (st_I_K f_i1) ⟨g_1038_0, g_1038_18, g_1038_57⟩ gT_1038 ⟨g_1038_7, g_1038_8, n8, g_1038_9, n9, g_1038_10, n10, g_1038_11, n11, g_1038_12, n12, g_1038_13, n13⟩ ⟨g_1038_14, g_1038_15, g_1038_16⟩ gS_1038 gV_1038 gW_1038 gM_1038 gR_1038 gL_1038 gI_1038 gJ_1038 ⟨sc0, sc1, sc2, sc3, sc4, sc5, w24, sb, wa, g_1038_66⟩ hB_1038 ⟨g_1038_70, g_1038_71⟩ hT_1038 hS_1038 hM_1038 hR_1038 hL_1038 hI_1038 k_1038

set_option maxRecDepth 100000 in
theorem lk_cork0E {K : Nat} {h : List ik_E} (E : st_S K h) (hK : K ≤ 600) {what : Int} {v : Int} (z_what : -2147483648 ≤ what ∧ what < 2147483648) (z_v : -2147483648 ≤ v ∧ v < 2147483648) (q2 : what < 0 ∨ 2 < what) : ik_F 95 [.ref 0, fI 0, fI what, fI v] h (fun rv h_q => ∃ o_ : Int, rv = [fI o_] ∧ (h_q.length = (94 : Nat) ∧ ∃ fs, h_q[66]? = some (.inr (10, fs))) ∧ ik_F 158 [.ref 66, fI 0, fI what, fI v] h_q (fun rv' h'' => rv' = [fI o_] ∧ st_S (K + 1) h'')) := by
  refine E _ ?_
  intro tn fp pl mi sd ka pa fa kb pb fb xa xb r n0 n1 ga0 gm0 gd_0 gs0 g00 g01 g02 g03 g04 g05 gx0 gy0 ga1 gm1 gd_1 gs1 g10 g11 g12 g13 g14 g15 gx1 gy1 s T cn go ch wg wc we rp rt lr ci0 ci1 cnr gor chr T2 im f_pl f_s f_st f_cb f_cr f_rw f_al f_wy f_k f_p f_x f_m f_sd f_r f_rr f_n f_l0 f_l1 f_tn f_t f_i0 f_i1 gA gT gB gC gS gV gW gM gR gL gI gJ hO hB hC hT hS hM hR hL hI hl
  replace f_cb := ik_hid_i f_cb
  replace f_cr := ik_hid_i f_cr
  replace f_p := ik_hid_i f_p
  replace f_x := ik_hid_i f_x
  obtain ⟨h0, h18, h57⟩ := gA
  obtain ⟨sc0, sc1, sc2, sc3, sc4, sc5, w24, sb, wa, h66⟩ := hO
  refine ik_F_mono (cp_cork0E (what := what) (v := v) z_what z_v q2 h0 hl) ?_
  rintro v_1039 h_1039 ⟨er_1039, F_1039⟩ <;> subst er_1039
  have k_1039 : cL h_1039 := F_1039.1.trans hl
  have g_1039_0 := (hfr_g F_1039 0 rfl).trans h0
  have g_1039_18 := (hfr_g F_1039 18 rfl).trans h18
  have g_1039_57 := (hfr_g F_1039 57 rfl).trans h57
  have g_1039_66 := (hfr_g F_1039 66 rfl).trans h66
  refine ⟨-1000000002, rfl, ⟨k_1039, _, g_1039_66⟩, ?_⟩
  have gT_1039 := st_gT_t F_1039 (hdj_b rfl) gT
  have gB_1039 := st_gB_t F_1039 (hdj_b rfl) gB
  have gC_1039 := st_gC_t F_1039 (hdj_b rfl) gC
  have gS_1039 := st_gS_t F_1039 (hdj_b rfl) gS
  have gV_1039 := st_gV_t F_1039 (hdj_b rfl) gV
  have gW_1039 := st_gW_t F_1039 (hdj_b rfl) gW
  have gM_1039 := st_gM_t F_1039 (hdj_b rfl) gM
  have gR_1039 := st_gR_t F_1039 (hdj_b rfl) gR
  have gL_1039 := st_gL_t F_1039 (hdj_b rfl) gL
  have gI_1039 := st_gI_t F_1039 (hdj_b rfl) gI
  have gJ_1039 := st_gJ_t F_1039 (hdj_b rfl) gJ
  have hB_1039 := st_hB_t F_1039 (hdj_b rfl) hB
  have hC_1039 := st_hC_t F_1039 (hdj_b rfl) hC
  have hT_1039 := st_hT_t F_1039 (hdj_b rfl) hT
  have hS_1039 := st_hS_t F_1039 (hdj_b rfl) hS
  have hM_1039 := st_hM_t F_1039 (hdj_b rfl) hM
  have hR_1039 := st_hR_t F_1039 (hdj_b rfl) hR
  have hL_1039 := st_hL_t F_1039 (hdj_b rfl) hL
  have hI_1039 := st_hI_t F_1039 (hdj_b rfl) hI
  refine ik_F_mono (rp_cork0E (f := fun j => ((pl :: 0 :: 0 :: 0 :: (((s : Nat) : Int)) :: 0 :: 0 :: mi :: sd :: 0 :: tn :: fp :: sc0 :: sc1 :: sc2 :: sc3 :: sc4 :: sc5 :: 0 :: 0 :: 0 :: 0 :: 0 :: 0 :: w24 :: 0 :: 0 :: 0 :: 0 :: 0 :: 0 :: 0 :: sb :: wa :: 0 :: 0 :: r :: 0 :: 0 :: 0 :: 0 :: 0 :: 0 :: []) : List Int).getD j 0) (what := what) (v := v) z_what z_v q2 g_1039_66 k_1039) ?_
  rintro v_1040 h_1040 ⟨er_1040, F_1040⟩ <;> subst er_1040
  have k_1040 : cL h_1040 := F_1040.1.trans k_1039
  have g_1040_0 := (hfr_g F_1040 0 rfl).trans g_1039_0
  have g_1040_18 := (hfr_g F_1040 18 rfl).trans g_1039_18
  have g_1040_57 := (hfr_g F_1040 57 rfl).trans g_1039_57
  have g_1040_66 := (hfr_g F_1040 66 rfl).trans g_1039_66
  refine ⟨rfl, ?_⟩
  have gT_1040 := st_gT_t F_1040 (hdj_b rfl) gT_1039
  have gB_1040 := st_gB_t F_1040 (hdj_b rfl) gB_1039
  have gC_1040 := st_gC_t F_1040 (hdj_b rfl) gC_1039
  have gS_1040 := st_gS_t F_1040 (hdj_b rfl) gS_1039
  have gV_1040 := st_gV_t F_1040 (hdj_b rfl) gV_1039
  have gW_1040 := st_gW_t F_1040 (hdj_b rfl) gW_1039
  have gM_1040 := st_gM_t F_1040 (hdj_b rfl) gM_1039
  have gR_1040 := st_gR_t F_1040 (hdj_b rfl) gR_1039
  have gL_1040 := st_gL_t F_1040 (hdj_b rfl) gL_1039
  have gI_1040 := st_gI_t F_1040 (hdj_b rfl) gI_1039
  have gJ_1040 := st_gJ_t F_1040 (hdj_b rfl) gJ_1039
  have hB_1040 := st_hB_t F_1040 (hdj_b rfl) hB_1039
  have hC_1040 := st_hC_t F_1040 (hdj_b rfl) hC_1039
  have hT_1040 := st_hT_t F_1040 (hdj_b rfl) hT_1039
  have hS_1040 := st_hS_t F_1040 (hdj_b rfl) hS_1039
  have hM_1040 := st_hM_t F_1040 (hdj_b rfl) hM_1039
  have hR_1040 := st_hR_t F_1040 (hdj_b rfl) hR_1039
  have hL_1040 := st_hL_t F_1040 (hdj_b rfl) hL_1039
  have hI_1040 := st_hI_t F_1040 (hdj_b rfl) hI_1039
  intro C_ k_
  exact k_ tn fp pl mi sd ka pa fa kb pb fb xa xb r n0 n1 ga0 gm0 gd_0 gs0 g00 g01 g02 g03 g04 g05 gx0 gy0 ga1 gm1 gd_1 gs1 g10 g11 g12 g13 g14 g15 gx1 gy1 s T cn go ch wg wc we rp rt lr ci0 ci1 cnr gor chr T2 im f_pl f_s f_st f_cb f_cr f_rw f_al f_wy f_k f_p f_x (by first | exact st_m f_m | omega) f_sd f_r f_rr f_n f_l0 f_l1 f_tn f_t (st_I_K f_i0) (st_I_K f_i1) ⟨g_1040_0, g_1040_18, g_1040_57⟩ gT_1040 gB_1040 gC_1040 gS_1040 gV_1040 gW_1040 gM_1040 gR_1040 gL_1040 gI_1040 gJ_1040 ⟨sc0, sc1, sc2, sc3, sc4, sc5, w24, sb, wa, g_1040_66⟩ hB_1040 hC_1040 hT_1040 hS_1040 hM_1040 hR_1040 hL_1040 hI_1040 k_1040

set_option maxRecDepth 100000 in
theorem lk_cork10 {K : Nat} {h : List ik_E} (E : st_S K h) (hK : K ≤ 600) {v : Int} (z_v : -2147483648 ≤ v ∧ v < 2147483648)  : ik_F 95 [.ref 0, fI 1, fI 0, fI v] h (fun rv h_q => ∃ o_ : Int, rv = [fI o_] ∧ (h_q.length = (94 : Nat) ∧ ∃ fs, h_q[66]? = some (.inr (10, fs))) ∧ ik_F 158 [.ref 66, fI 1, fI 0, fI v] h_q (fun rv' h'' => rv' = [fI o_] ∧ st_S (K + 1) h'')) := by
  refine E _ ?_
  intro tn fp pl mi sd ka pa fa kb pb fb xa xb r n0 n1 ga0 gm0 gd_0 gs0 g00 g01 g02 g03 g04 g05 gx0 gy0 ga1 gm1 gd_1 gs1 g10 g11 g12 g13 g14 g15 gx1 gy1 s T cn go ch wg wc we rp rt lr ci0 ci1 cnr gor chr T2 im f_pl f_s f_st f_cb f_cr f_rw f_al f_wy f_k f_p f_x f_m f_sd f_r f_rr f_n f_l0 f_l1 f_tn f_t f_i0 f_i1 gA gT gB gC gS gV gW gM gR gL gI gJ hO hB hC hT hS hM hR hL hI hl
  replace f_cb := ik_hid_i f_cb
  replace f_cr := ik_hid_i f_cr
  replace f_p := ik_hid_i f_p
  replace f_x := ik_hid_i f_x
  obtain ⟨h0, h18, h57⟩ := gA
  obtain ⟨h7, h8, n8, h9, n9, h10, n10, h11, n11, h12, n12, h13, n13⟩ := gB
  obtain ⟨h14, h15, h16⟩ := gC
  obtain ⟨sc0, sc1, sc2, sc3, sc4, sc5, w24, sb, wa, h66⟩ := hO
  obtain ⟨h70, h71⟩ := hC
  refine ik_F_mono (cp_cork10 (ka := ka) (pa := pa) (fa := fa) (kb := kb) (pb := pb) (fb := fb) (xa := xa) (xb := xb) (mi := mi) (dr := sd) (v := v) (pl := pl) (st := ((s : Nat) : Int)) (lo := ((mj_lost pl cn go : Nat) : Int)) f_k.2.2.1 f_k.2.2.2.1 f_pl z_v h0 h7 h14 h15 h16 hl) ?_
  rintro v_1041 h_1041 (⟨er_1041, e_1041_14, e_1041_15, e_1041_16, p_1041_0, F_1041⟩ | ⟨er_1041, e_1041_14, e_1041_15, e_1041_16, p_1041_0, F_1041⟩) <;> subst er_1041
  · have k_1041 : cL h_1041 := F_1041.1.trans hl
    have g_1041_0 := (hfr_g F_1041 0 rfl).trans h0
    have g_1041_7 := (hfr_g F_1041 7 rfl).trans h7
    have g_1041_8 := (hfr_g F_1041 8 rfl).trans h8
    have g_1041_9 := (hfr_g F_1041 9 rfl).trans h9
    have g_1041_10 := (hfr_g F_1041 10 rfl).trans h10
    have g_1041_11 := (hfr_g F_1041 11 rfl).trans h11
    have g_1041_12 := (hfr_g F_1041 12 rfl).trans h12
    have g_1041_13 := (hfr_g F_1041 13 rfl).trans h13
    have g_1041_18 := (hfr_g F_1041 18 rfl).trans h18
    have g_1041_57 := (hfr_g F_1041 57 rfl).trans h57
    have g_1041_66 := (hfr_g F_1041 66 rfl).trans h66
    have g_1041_70 := (hfr_g F_1041 70 rfl).trans h70
    have g_1041_71 := (hfr_g F_1041 71 rfl).trans h71
    have g_1041_14 : cE h_1041 14 (.inr (1, [.ref 7, .ref 15, .ref 16, fI 0, fJ sd])) := e_1041_14
    have g_1041_15 : cE h_1041 15 (.inl (.int, fA [ka, pa, fa, v, pb, fb])) := e_1041_15
    have g_1041_16 : cE h_1041 16 (.inl (.int, fA [mx_sp pa fa, mx_sp pb fb])) := e_1041_16
    refine ⟨kb, rfl, ⟨k_1041, _, g_1041_66⟩, ?_⟩
    have gT_1041 := st_gT_t F_1041 (hdj_b rfl) gT
    have gS_1041 := st_gS_t F_1041 (hdj_b rfl) gS
    have gV_1041 := st_gV_t F_1041 (hdj_b rfl) gV
    have gW_1041 := st_gW_t F_1041 (hdj_b rfl) gW
    have gM_1041 := st_gM_t F_1041 (hdj_b rfl) gM
    have gR_1041 := st_gR_t F_1041 (hdj_b rfl) gR
    have gL_1041 := st_gL_t F_1041 (hdj_b rfl) gL
    have gI_1041 := st_gI_t F_1041 (hdj_b rfl) gI
    have gJ_1041 := st_gJ_t F_1041 (hdj_b rfl) gJ
    have hB_1041 := st_hB_t F_1041 (hdj_b rfl) hB
    have hT_1041 := st_hT_t F_1041 (hdj_b rfl) hT
    have hS_1041 := st_hS_t F_1041 (hdj_b rfl) hS
    have hM_1041 := st_hM_t F_1041 (hdj_b rfl) hM
    have hR_1041 := st_hR_t F_1041 (hdj_b rfl) hR
    have hL_1041 := st_hL_t F_1041 (hdj_b rfl) hL
    have hI_1041 := st_hI_t F_1041 (hdj_b rfl) hI
    refine ik_F_mono (rp_cork10 (ka := ka) (pa := pa) (fa := fa) (kb := kb) (pb := pb) (fb := fb) (xa := xa) (xb := xb) (mi := mi) (v := v) (pl := pl) (f := fun j => ((0 :: 0 :: 0 :: 0 :: (((s : Nat) : Int)) :: 0 :: 0 :: 0 :: sd :: 0 :: tn :: fp :: sc0 :: sc1 :: sc2 :: sc3 :: sc4 :: sc5 :: 0 :: 0 :: 0 :: 0 :: 0 :: 0 :: w24 :: 0 :: 0 :: 0 :: 0 :: 0 :: 0 :: 0 :: sb :: wa :: 0 :: 0 :: r :: 0 :: 0 :: 0 :: 0 :: 0 :: 0 :: []) : List Int).getD j 0) f_k.2.2.1 f_k.2.2.2.1 f_pl z_v g_1041_66 g_1041_70 g_1041_71 k_1041) ?_
    rintro v_1042 h_1042 (⟨er_1042, e_1042_66, e_1042_70, e_1042_71, p_1042_0, F_1042⟩ | ⟨er_1042, e_1042_66, e_1042_70, e_1042_71, p_1042_0, F_1042⟩) <;> subst er_1042
    · have k_1042 : cL h_1042 := F_1042.1.trans k_1041
      have g_1042_0 := (hfr_g F_1042 0 rfl).trans g_1041_0
      have g_1042_7 := (hfr_g F_1042 7 rfl).trans g_1041_7
      have g_1042_8 := (hfr_g F_1042 8 rfl).trans g_1041_8
      have g_1042_9 := (hfr_g F_1042 9 rfl).trans g_1041_9
      have g_1042_10 := (hfr_g F_1042 10 rfl).trans g_1041_10
      have g_1042_11 := (hfr_g F_1042 11 rfl).trans g_1041_11
      have g_1042_12 := (hfr_g F_1042 12 rfl).trans g_1041_12
      have g_1042_13 := (hfr_g F_1042 13 rfl).trans g_1041_13
      have g_1042_14 := (hfr_g F_1042 14 rfl).trans g_1041_14
      have g_1042_15 := (hfr_g F_1042 15 rfl).trans g_1041_15
      have g_1042_16 := (hfr_g F_1042 16 rfl).trans g_1041_16
      have g_1042_18 := (hfr_g F_1042 18 rfl).trans g_1041_18
      have g_1042_57 := (hfr_g F_1042 57 rfl).trans g_1041_57
      have g_1042_66 : cE h_1042 66 (.inr (10, (fI pl :: .ref 67 :: .ref 68 :: .ref 69 :: fI ((s : Nat) : Int) :: .ref 70 :: .ref 71 :: fI 0 :: fI sd :: .ref 72 :: fI tn :: fI fp :: fI sc0 :: fJ sc1 :: fI sc2 :: fI sc3 :: fI sc4 :: fI sc5 :: .ref 73 :: .ref 74 :: .ref 75 :: .ref 76 :: .ref 77 :: .ref 78 :: fI w24 :: .ref 79 :: .ref 80 :: .ref 81 :: .ref 82 :: .ref 83 :: .ref 84 :: .ref 85 :: fJ sb :: fJ wa :: .ref 86 :: .ref 87 :: fI r :: .ref 88 :: .ref 89 :: .ref 90 :: .ref 91 :: .ref 92 :: .ref 93 :: []))) := e_1042_66
      have g_1042_70 : cE h_1042 70 (.inl (.int, fA [ka, pa, fa, v, pb, fb])) := e_1042_70
      have g_1042_71 : cE h_1042 71 (.inl (.int, fA [mx_sp pa fa, mx_sp pb fb])) := e_1042_71
      refine ⟨rfl, ?_⟩
      have gT_1042 := st_gT_t F_1042 (hdj_b rfl) gT_1041
      have gS_1042 := st_gS_t F_1042 (hdj_b rfl) gS_1041
      have gV_1042 := st_gV_t F_1042 (hdj_b rfl) gV_1041
      have gW_1042 := st_gW_t F_1042 (hdj_b rfl) gW_1041
      have gM_1042 := st_gM_t F_1042 (hdj_b rfl) gM_1041
      have gR_1042 := st_gR_t F_1042 (hdj_b rfl) gR_1041
      have gL_1042 := st_gL_t F_1042 (hdj_b rfl) gL_1041
      have gI_1042 := st_gI_t F_1042 (hdj_b rfl) gI_1041
      have gJ_1042 := st_gJ_t F_1042 (hdj_b rfl) gJ_1041
      have hB_1042 := st_hB_t F_1042 (hdj_b rfl) hB_1041
      have hT_1042 := st_hT_t F_1042 (hdj_b rfl) hT_1041
      have hS_1042 := st_hS_t F_1042 (hdj_b rfl) hS_1041
      have hM_1042 := st_hM_t F_1042 (hdj_b rfl) hM_1041
      have hR_1042 := st_hR_t F_1042 (hdj_b rfl) hR_1041
      have hL_1042 := st_hL_t F_1042 (hdj_b rfl) hL_1041
      have hI_1042 := st_hI_t F_1042 (hdj_b rfl) hI_1041
      intro C_ k_
      exact k_ tn fp pl 0 sd ka pa fa v pb fb (mx_sp pa fa) (mx_sp pb fb) r n0 n1 ga0 gm0 gd_0 gs0 g00 g01 g02 g03 g04 g05 gx0 gy0 ga1 gm1 gd_1 gs1 g10 g11 g12 g13 g14 g15 gx1 gy1 s T cn go ch wg wc we rp rt lr ci0 ci1 cnr gor chr T2 im f_pl f_s f_st f_cb f_cr f_rw f_al f_wy (by first | exact ⟨p_1042_0.1, f_k.2⟩ | exact ⟨f_k.1, f_k.2.1, f_k.2.2.1, f_k.2.2.2.1, st_11 p_1042_0 f_pl, f_k.2.2.2.2.2⟩ | exact ⟨f_k.1, f_k.2.1, p_1042_0.1, f_k.2.2.2⟩ | exact ⟨f_k.1, p_1042_0.1, f_k.2.2⟩ | exact ⟨f_k.1, f_k.2.1, f_k.2.2.1, f_k.2.2.2.1, f_k.2.2.2.2.1, st_11 p_1042_0 f_pl⟩ | exact ⟨f_k.1, f_k.2.1, f_k.2.2.1, p_1042_0.1, f_k.2.2.2.2⟩ | omega) f_p (fun w => by first | exact st_x (f_p w) f_k.2.2.1.1 f_k.2.2.2.1.1 | exact st_x ⟨p_1042_0, (f_p w).2⟩ f_k.2.2.1.1 f_k.2.2.2.1.1 | exact st_x ⟨(f_p w).1, p_1042_0⟩ f_k.2.2.1.1 f_k.2.2.2.1.1 | exact st_x (f_p w) p_1042_0.1.1 f_k.2.2.2.1.1 | exact st_x (f_p w) f_k.2.2.1.1 p_1042_0.1.1 | (have z := f_p w; have a := mx_sp_b (fr := fa) (show 0 ≤ pa ∧ pa < pl by omega) (by omega); have b := mx_sp_b (fr := fb) (show 0 ≤ pb ∧ pb < pl by omega) (by omega); omega)) (by first | exact st_m0 K | omega) f_sd f_r f_rr f_n f_l0 f_l1 f_tn f_t (st_I_K f_i0) (st_I_K f_i1) ⟨g_1042_0, g_1042_18, g_1042_57⟩ gT_1042 ⟨g_1042_7, g_1042_8, n8, g_1042_9, n9, g_1042_10, n10, g_1042_11, n11, g_1042_12, n12, g_1042_13, n13⟩ ⟨g_1042_14, g_1042_15, g_1042_16⟩ gS_1042 gV_1042 gW_1042 gM_1042 gR_1042 gL_1042 gI_1042 gJ_1042 ⟨sc0, sc1, sc2, sc3, sc4, sc5, w24, sb, wa, g_1042_66⟩ hB_1042 ⟨g_1042_70, g_1042_71⟩ hT_1042 hS_1042 hM_1042 hR_1042 hL_1042 hI_1042 k_1042
    · have k_1042 : cL h_1042 := F_1042.1.trans k_1041
      have g_1042_0 := (hfr_g F_1042 0 rfl).trans g_1041_0
      have g_1042_7 := (hfr_g F_1042 7 rfl).trans g_1041_7
      have g_1042_8 := (hfr_g F_1042 8 rfl).trans g_1041_8
      have g_1042_9 := (hfr_g F_1042 9 rfl).trans g_1041_9
      have g_1042_10 := (hfr_g F_1042 10 rfl).trans g_1041_10
      have g_1042_11 := (hfr_g F_1042 11 rfl).trans g_1041_11
      have g_1042_12 := (hfr_g F_1042 12 rfl).trans g_1041_12
      have g_1042_13 := (hfr_g F_1042 13 rfl).trans g_1041_13
      have g_1042_14 := (hfr_g F_1042 14 rfl).trans g_1041_14
      have g_1042_15 := (hfr_g F_1042 15 rfl).trans g_1041_15
      have g_1042_16 := (hfr_g F_1042 16 rfl).trans g_1041_16
      have g_1042_18 := (hfr_g F_1042 18 rfl).trans g_1041_18
      have g_1042_57 := (hfr_g F_1042 57 rfl).trans g_1041_57
      have g_1042_66 : cE h_1042 66 (.inr (10, (fI pl :: .ref 67 :: .ref 68 :: .ref 69 :: fI ((s : Nat) : Int) :: .ref 70 :: .ref 71 :: fI mi :: fI sd :: .ref 72 :: fI tn :: fI fp :: fI sc0 :: fJ sc1 :: fI sc2 :: fI sc3 :: fI sc4 :: fI sc5 :: .ref 73 :: .ref 74 :: .ref 75 :: .ref 76 :: .ref 77 :: .ref 78 :: fI w24 :: .ref 79 :: .ref 80 :: .ref 81 :: .ref 82 :: .ref 83 :: .ref 84 :: .ref 85 :: fJ sb :: fJ wa :: .ref 86 :: .ref 87 :: fI r :: .ref 88 :: .ref 89 :: .ref 90 :: .ref 91 :: .ref 92 :: .ref 93 :: []))) := e_1042_66
      have g_1042_70 : cE h_1042 70 (.inl (.int, fA [ka, pa, fa, kb, pb, fb])) := e_1042_70
      have g_1042_71 : cE h_1042 71 (.inl (.int, fA [xa, xb])) := e_1042_71
      exact absurd p_1041_0 p_1042_0
  · have k_1041 : cL h_1041 := F_1041.1.trans hl
    have g_1041_0 := (hfr_g F_1041 0 rfl).trans h0
    have g_1041_7 := (hfr_g F_1041 7 rfl).trans h7
    have g_1041_8 := (hfr_g F_1041 8 rfl).trans h8
    have g_1041_9 := (hfr_g F_1041 9 rfl).trans h9
    have g_1041_10 := (hfr_g F_1041 10 rfl).trans h10
    have g_1041_11 := (hfr_g F_1041 11 rfl).trans h11
    have g_1041_12 := (hfr_g F_1041 12 rfl).trans h12
    have g_1041_13 := (hfr_g F_1041 13 rfl).trans h13
    have g_1041_18 := (hfr_g F_1041 18 rfl).trans h18
    have g_1041_57 := (hfr_g F_1041 57 rfl).trans h57
    have g_1041_66 := (hfr_g F_1041 66 rfl).trans h66
    have g_1041_70 := (hfr_g F_1041 70 rfl).trans h70
    have g_1041_71 := (hfr_g F_1041 71 rfl).trans h71
    have g_1041_14 : cE h_1041 14 (.inr (1, [.ref 7, .ref 15, .ref 16, fI mi, fJ sd])) := e_1041_14
    have g_1041_15 : cE h_1041 15 (.inl (.int, fA [ka, pa, fa, kb, pb, fb])) := e_1041_15
    have g_1041_16 : cE h_1041 16 (.inl (.int, fA [xa, xb])) := e_1041_16
    refine ⟨if 0 ≤ v ∧ v ≤ 2 then -1000000003 else -1000000001, rfl, ⟨k_1041, _, g_1041_66⟩, ?_⟩
    have gT_1041 := st_gT_t F_1041 (hdj_b rfl) gT
    have gS_1041 := st_gS_t F_1041 (hdj_b rfl) gS
    have gV_1041 := st_gV_t F_1041 (hdj_b rfl) gV
    have gW_1041 := st_gW_t F_1041 (hdj_b rfl) gW
    have gM_1041 := st_gM_t F_1041 (hdj_b rfl) gM
    have gR_1041 := st_gR_t F_1041 (hdj_b rfl) gR
    have gL_1041 := st_gL_t F_1041 (hdj_b rfl) gL
    have gI_1041 := st_gI_t F_1041 (hdj_b rfl) gI
    have gJ_1041 := st_gJ_t F_1041 (hdj_b rfl) gJ
    have hB_1041 := st_hB_t F_1041 (hdj_b rfl) hB
    have hT_1041 := st_hT_t F_1041 (hdj_b rfl) hT
    have hS_1041 := st_hS_t F_1041 (hdj_b rfl) hS
    have hM_1041 := st_hM_t F_1041 (hdj_b rfl) hM
    have hR_1041 := st_hR_t F_1041 (hdj_b rfl) hR
    have hL_1041 := st_hL_t F_1041 (hdj_b rfl) hL
    have hI_1041 := st_hI_t F_1041 (hdj_b rfl) hI
    refine ik_F_mono (rp_cork10 (ka := ka) (pa := pa) (fa := fa) (kb := kb) (pb := pb) (fb := fb) (xa := xa) (xb := xb) (mi := mi) (v := v) (pl := pl) (f := fun j => ((0 :: 0 :: 0 :: 0 :: (((s : Nat) : Int)) :: 0 :: 0 :: 0 :: sd :: 0 :: tn :: fp :: sc0 :: sc1 :: sc2 :: sc3 :: sc4 :: sc5 :: 0 :: 0 :: 0 :: 0 :: 0 :: 0 :: w24 :: 0 :: 0 :: 0 :: 0 :: 0 :: 0 :: 0 :: sb :: wa :: 0 :: 0 :: r :: 0 :: 0 :: 0 :: 0 :: 0 :: 0 :: []) : List Int).getD j 0) f_k.2.2.1 f_k.2.2.2.1 f_pl z_v g_1041_66 g_1041_70 g_1041_71 k_1041) ?_
    rintro v_1043 h_1043 (⟨er_1043, e_1043_66, e_1043_70, e_1043_71, p_1043_0, F_1043⟩ | ⟨er_1043, e_1043_66, e_1043_70, e_1043_71, p_1043_0, F_1043⟩) <;> subst er_1043
    · have k_1043 : cL h_1043 := F_1043.1.trans k_1041
      have g_1043_0 := (hfr_g F_1043 0 rfl).trans g_1041_0
      have g_1043_7 := (hfr_g F_1043 7 rfl).trans g_1041_7
      have g_1043_8 := (hfr_g F_1043 8 rfl).trans g_1041_8
      have g_1043_9 := (hfr_g F_1043 9 rfl).trans g_1041_9
      have g_1043_10 := (hfr_g F_1043 10 rfl).trans g_1041_10
      have g_1043_11 := (hfr_g F_1043 11 rfl).trans g_1041_11
      have g_1043_12 := (hfr_g F_1043 12 rfl).trans g_1041_12
      have g_1043_13 := (hfr_g F_1043 13 rfl).trans g_1041_13
      have g_1043_14 := (hfr_g F_1043 14 rfl).trans g_1041_14
      have g_1043_15 := (hfr_g F_1043 15 rfl).trans g_1041_15
      have g_1043_16 := (hfr_g F_1043 16 rfl).trans g_1041_16
      have g_1043_18 := (hfr_g F_1043 18 rfl).trans g_1041_18
      have g_1043_57 := (hfr_g F_1043 57 rfl).trans g_1041_57
      have g_1043_66 : cE h_1043 66 (.inr (10, (fI pl :: .ref 67 :: .ref 68 :: .ref 69 :: fI ((s : Nat) : Int) :: .ref 70 :: .ref 71 :: fI 0 :: fI sd :: .ref 72 :: fI tn :: fI fp :: fI sc0 :: fJ sc1 :: fI sc2 :: fI sc3 :: fI sc4 :: fI sc5 :: .ref 73 :: .ref 74 :: .ref 75 :: .ref 76 :: .ref 77 :: .ref 78 :: fI w24 :: .ref 79 :: .ref 80 :: .ref 81 :: .ref 82 :: .ref 83 :: .ref 84 :: .ref 85 :: fJ sb :: fJ wa :: .ref 86 :: .ref 87 :: fI r :: .ref 88 :: .ref 89 :: .ref 90 :: .ref 91 :: .ref 92 :: .ref 93 :: []))) := e_1043_66
      have g_1043_70 : cE h_1043 70 (.inl (.int, fA [ka, pa, fa, v, pb, fb])) := e_1043_70
      have g_1043_71 : cE h_1043 71 (.inl (.int, fA [mx_sp pa fa, mx_sp pb fb])) := e_1043_71
      exact absurd p_1043_0 p_1041_0
    · have k_1043 : cL h_1043 := F_1043.1.trans k_1041
      have g_1043_0 := (hfr_g F_1043 0 rfl).trans g_1041_0
      have g_1043_7 := (hfr_g F_1043 7 rfl).trans g_1041_7
      have g_1043_8 := (hfr_g F_1043 8 rfl).trans g_1041_8
      have g_1043_9 := (hfr_g F_1043 9 rfl).trans g_1041_9
      have g_1043_10 := (hfr_g F_1043 10 rfl).trans g_1041_10
      have g_1043_11 := (hfr_g F_1043 11 rfl).trans g_1041_11
      have g_1043_12 := (hfr_g F_1043 12 rfl).trans g_1041_12
      have g_1043_13 := (hfr_g F_1043 13 rfl).trans g_1041_13
      have g_1043_14 := (hfr_g F_1043 14 rfl).trans g_1041_14
      have g_1043_15 := (hfr_g F_1043 15 rfl).trans g_1041_15
      have g_1043_16 := (hfr_g F_1043 16 rfl).trans g_1041_16
      have g_1043_18 := (hfr_g F_1043 18 rfl).trans g_1041_18
      have g_1043_57 := (hfr_g F_1043 57 rfl).trans g_1041_57
      have g_1043_66 : cE h_1043 66 (.inr (10, (fI pl :: .ref 67 :: .ref 68 :: .ref 69 :: fI ((s : Nat) : Int) :: .ref 70 :: .ref 71 :: fI mi :: fI sd :: .ref 72 :: fI tn :: fI fp :: fI sc0 :: fJ sc1 :: fI sc2 :: fI sc3 :: fI sc4 :: fI sc5 :: .ref 73 :: .ref 74 :: .ref 75 :: .ref 76 :: .ref 77 :: .ref 78 :: fI w24 :: .ref 79 :: .ref 80 :: .ref 81 :: .ref 82 :: .ref 83 :: .ref 84 :: .ref 85 :: fJ sb :: fJ wa :: .ref 86 :: .ref 87 :: fI r :: .ref 88 :: .ref 89 :: .ref 90 :: .ref 91 :: .ref 92 :: .ref 93 :: []))) := e_1043_66
      have g_1043_70 : cE h_1043 70 (.inl (.int, fA [ka, pa, fa, kb, pb, fb])) := e_1043_70
      have g_1043_71 : cE h_1043 71 (.inl (.int, fA [xa, xb])) := e_1043_71
      refine ⟨rfl, ?_⟩
      have gT_1043 := st_gT_t F_1043 (hdj_b rfl) gT_1041
      have gS_1043 := st_gS_t F_1043 (hdj_b rfl) gS_1041
      have gV_1043 := st_gV_t F_1043 (hdj_b rfl) gV_1041
      have gW_1043 := st_gW_t F_1043 (hdj_b rfl) gW_1041
      have gM_1043 := st_gM_t F_1043 (hdj_b rfl) gM_1041
      have gR_1043 := st_gR_t F_1043 (hdj_b rfl) gR_1041
      have gL_1043 := st_gL_t F_1043 (hdj_b rfl) gL_1041
      have gI_1043 := st_gI_t F_1043 (hdj_b rfl) gI_1041
      have gJ_1043 := st_gJ_t F_1043 (hdj_b rfl) gJ_1041
      have hB_1043 := st_hB_t F_1043 (hdj_b rfl) hB_1041
      have hT_1043 := st_hT_t F_1043 (hdj_b rfl) hT_1041
      have hS_1043 := st_hS_t F_1043 (hdj_b rfl) hS_1041
      have hM_1043 := st_hM_t F_1043 (hdj_b rfl) hM_1041
      have hR_1043 := st_hR_t F_1043 (hdj_b rfl) hR_1041
      have hL_1043 := st_hL_t F_1043 (hdj_b rfl) hL_1041
      have hI_1043 := st_hI_t F_1043 (hdj_b rfl) hI_1041
      intro C_ k_
      exact k_ tn fp pl mi sd ka pa fa kb pb fb xa xb r n0 n1 ga0 gm0 gd_0 gs0 g00 g01 g02 g03 g04 g05 gx0 gy0 ga1 gm1 gd_1 gs1 g10 g11 g12 g13 g14 g15 gx1 gy1 s T cn go ch wg wc we rp rt lr ci0 ci1 cnr gor chr T2 im f_pl f_s f_st f_cb f_cr f_rw f_al f_wy f_k f_p f_x (by first | exact st_m f_m | omega) f_sd f_r f_rr f_n f_l0 f_l1 f_tn f_t (st_I_K f_i0) (st_I_K f_i1) ⟨g_1043_0, g_1043_18, g_1043_57⟩ gT_1043 ⟨g_1043_7, g_1043_8, n8, g_1043_9, n9, g_1043_10, n10, g_1043_11, n11, g_1043_12, n12, g_1043_13, n13⟩ ⟨g_1043_14, g_1043_15, g_1043_16⟩ gS_1043 gV_1043 gW_1043 gM_1043 gR_1043 gL_1043 gI_1043 gJ_1043 ⟨sc0, sc1, sc2, sc3, sc4, sc5, w24, sb, wa, g_1043_66⟩ hB_1043 ⟨g_1043_70, g_1043_71⟩ hT_1043 hS_1043 hM_1043 hR_1043 hL_1043 hI_1043 k_1043

set_option maxRecDepth 100000 in
theorem lk_cork11 {K : Nat} {h : List ik_E} (E : st_S K h) (hK : K ≤ 600) {v : Int} (z_v : -2147483648 ≤ v ∧ v < 2147483648)  : ik_F 95 [.ref 0, fI 1, fI 1, fI v] h (fun rv h_q => ∃ o_ : Int, rv = [fI o_] ∧ (h_q.length = (94 : Nat) ∧ ∃ fs, h_q[66]? = some (.inr (10, fs))) ∧ ik_F 158 [.ref 66, fI 1, fI 1, fI v] h_q (fun rv' h'' => rv' = [fI o_] ∧ st_S (K + 1) h'')) := by
  refine E _ ?_
  intro tn fp pl mi sd ka pa fa kb pb fb xa xb r n0 n1 ga0 gm0 gd_0 gs0 g00 g01 g02 g03 g04 g05 gx0 gy0 ga1 gm1 gd_1 gs1 g10 g11 g12 g13 g14 g15 gx1 gy1 s T cn go ch wg wc we rp rt lr ci0 ci1 cnr gor chr T2 im f_pl f_s f_st f_cb f_cr f_rw f_al f_wy f_k f_p f_x f_m f_sd f_r f_rr f_n f_l0 f_l1 f_tn f_t f_i0 f_i1 gA gT gB gC gS gV gW gM gR gL gI gJ hO hB hC hT hS hM hR hL hI hl
  replace f_cb := ik_hid_i f_cb
  replace f_cr := ik_hid_i f_cr
  replace f_p := ik_hid_i f_p
  replace f_x := ik_hid_i f_x
  obtain ⟨h0, h18, h57⟩ := gA
  obtain ⟨h7, h8, n8, h9, n9, h10, n10, h11, n11, h12, n12, h13, n13⟩ := gB
  obtain ⟨h14, h15, h16⟩ := gC
  obtain ⟨sc0, sc1, sc2, sc3, sc4, sc5, w24, sb, wa, h66⟩ := hO
  obtain ⟨h70, h71⟩ := hC
  refine ik_F_mono (cp_cork11 (ka := ka) (pa := pa) (fa := fa) (kb := kb) (pb := pb) (fb := fb) (xa := xa) (xb := xb) (mi := mi) (dr := sd) (v := v) (pl := pl) (st := ((s : Nat) : Int)) (lo := ((mj_lost pl cn go : Nat) : Int)) f_k.2.2.1 f_k.2.2.2.1 f_pl z_v h0 h7 h14 h15 h16 hl) ?_
  rintro v_1044 h_1044 (⟨er_1044, e_1044_14, e_1044_15, e_1044_16, p_1044_0, F_1044⟩ | ⟨er_1044, e_1044_14, e_1044_15, e_1044_16, p_1044_0, F_1044⟩) <;> subst er_1044
  · have k_1044 : cL h_1044 := F_1044.1.trans hl
    have g_1044_0 := (hfr_g F_1044 0 rfl).trans h0
    have g_1044_7 := (hfr_g F_1044 7 rfl).trans h7
    have g_1044_8 := (hfr_g F_1044 8 rfl).trans h8
    have g_1044_9 := (hfr_g F_1044 9 rfl).trans h9
    have g_1044_10 := (hfr_g F_1044 10 rfl).trans h10
    have g_1044_11 := (hfr_g F_1044 11 rfl).trans h11
    have g_1044_12 := (hfr_g F_1044 12 rfl).trans h12
    have g_1044_13 := (hfr_g F_1044 13 rfl).trans h13
    have g_1044_18 := (hfr_g F_1044 18 rfl).trans h18
    have g_1044_57 := (hfr_g F_1044 57 rfl).trans h57
    have g_1044_66 := (hfr_g F_1044 66 rfl).trans h66
    have g_1044_70 := (hfr_g F_1044 70 rfl).trans h70
    have g_1044_71 := (hfr_g F_1044 71 rfl).trans h71
    have g_1044_14 : cE h_1044 14 (.inr (1, [.ref 7, .ref 15, .ref 16, fI 0, fJ sd])) := e_1044_14
    have g_1044_15 : cE h_1044 15 (.inl (.int, fA [ka, pa, fa, kb, v, fb])) := e_1044_15
    have g_1044_16 : cE h_1044 16 (.inl (.int, fA [mx_sp pa fa, mx_sp v fb])) := e_1044_16
    refine ⟨pb, rfl, ⟨k_1044, _, g_1044_66⟩, ?_⟩
    have gT_1044 := st_gT_t F_1044 (hdj_b rfl) gT
    have gS_1044 := st_gS_t F_1044 (hdj_b rfl) gS
    have gV_1044 := st_gV_t F_1044 (hdj_b rfl) gV
    have gW_1044 := st_gW_t F_1044 (hdj_b rfl) gW
    have gM_1044 := st_gM_t F_1044 (hdj_b rfl) gM
    have gR_1044 := st_gR_t F_1044 (hdj_b rfl) gR
    have gL_1044 := st_gL_t F_1044 (hdj_b rfl) gL
    have gI_1044 := st_gI_t F_1044 (hdj_b rfl) gI
    have gJ_1044 := st_gJ_t F_1044 (hdj_b rfl) gJ
    have hB_1044 := st_hB_t F_1044 (hdj_b rfl) hB
    have hT_1044 := st_hT_t F_1044 (hdj_b rfl) hT
    have hS_1044 := st_hS_t F_1044 (hdj_b rfl) hS
    have hM_1044 := st_hM_t F_1044 (hdj_b rfl) hM
    have hR_1044 := st_hR_t F_1044 (hdj_b rfl) hR
    have hL_1044 := st_hL_t F_1044 (hdj_b rfl) hL
    have hI_1044 := st_hI_t F_1044 (hdj_b rfl) hI
    refine ik_F_mono (rp_cork11 (ka := ka) (pa := pa) (fa := fa) (kb := kb) (pb := pb) (fb := fb) (xa := xa) (xb := xb) (mi := mi) (v := v) (pl := pl) (f := fun j => ((0 :: 0 :: 0 :: 0 :: (((s : Nat) : Int)) :: 0 :: 0 :: 0 :: sd :: 0 :: tn :: fp :: sc0 :: sc1 :: sc2 :: sc3 :: sc4 :: sc5 :: 0 :: 0 :: 0 :: 0 :: 0 :: 0 :: w24 :: 0 :: 0 :: 0 :: 0 :: 0 :: 0 :: 0 :: sb :: wa :: 0 :: 0 :: r :: 0 :: 0 :: 0 :: 0 :: 0 :: 0 :: []) : List Int).getD j 0) f_k.2.2.1 f_k.2.2.2.1 f_pl z_v g_1044_66 g_1044_70 g_1044_71 k_1044) ?_
    rintro v_1045 h_1045 (⟨er_1045, e_1045_66, e_1045_70, e_1045_71, p_1045_0, F_1045⟩ | ⟨er_1045, e_1045_66, e_1045_70, e_1045_71, p_1045_0, F_1045⟩) <;> subst er_1045
    · have k_1045 : cL h_1045 := F_1045.1.trans k_1044
      have g_1045_0 := (hfr_g F_1045 0 rfl).trans g_1044_0
      have g_1045_7 := (hfr_g F_1045 7 rfl).trans g_1044_7
      have g_1045_8 := (hfr_g F_1045 8 rfl).trans g_1044_8
      have g_1045_9 := (hfr_g F_1045 9 rfl).trans g_1044_9
      have g_1045_10 := (hfr_g F_1045 10 rfl).trans g_1044_10
      have g_1045_11 := (hfr_g F_1045 11 rfl).trans g_1044_11
      have g_1045_12 := (hfr_g F_1045 12 rfl).trans g_1044_12
      have g_1045_13 := (hfr_g F_1045 13 rfl).trans g_1044_13
      have g_1045_14 := (hfr_g F_1045 14 rfl).trans g_1044_14
      have g_1045_15 := (hfr_g F_1045 15 rfl).trans g_1044_15
      have g_1045_16 := (hfr_g F_1045 16 rfl).trans g_1044_16
      have g_1045_18 := (hfr_g F_1045 18 rfl).trans g_1044_18
      have g_1045_57 := (hfr_g F_1045 57 rfl).trans g_1044_57
      have g_1045_66 : cE h_1045 66 (.inr (10, (fI pl :: .ref 67 :: .ref 68 :: .ref 69 :: fI ((s : Nat) : Int) :: .ref 70 :: .ref 71 :: fI 0 :: fI sd :: .ref 72 :: fI tn :: fI fp :: fI sc0 :: fJ sc1 :: fI sc2 :: fI sc3 :: fI sc4 :: fI sc5 :: .ref 73 :: .ref 74 :: .ref 75 :: .ref 76 :: .ref 77 :: .ref 78 :: fI w24 :: .ref 79 :: .ref 80 :: .ref 81 :: .ref 82 :: .ref 83 :: .ref 84 :: .ref 85 :: fJ sb :: fJ wa :: .ref 86 :: .ref 87 :: fI r :: .ref 88 :: .ref 89 :: .ref 90 :: .ref 91 :: .ref 92 :: .ref 93 :: []))) := e_1045_66
      have g_1045_70 : cE h_1045 70 (.inl (.int, fA [ka, pa, fa, kb, v, fb])) := e_1045_70
      have g_1045_71 : cE h_1045 71 (.inl (.int, fA [mx_sp pa fa, mx_sp v fb])) := e_1045_71
      refine ⟨rfl, ?_⟩
      have gT_1045 := st_gT_t F_1045 (hdj_b rfl) gT_1044
      have gS_1045 := st_gS_t F_1045 (hdj_b rfl) gS_1044
      have gV_1045 := st_gV_t F_1045 (hdj_b rfl) gV_1044
      have gW_1045 := st_gW_t F_1045 (hdj_b rfl) gW_1044
      have gM_1045 := st_gM_t F_1045 (hdj_b rfl) gM_1044
      have gR_1045 := st_gR_t F_1045 (hdj_b rfl) gR_1044
      have gL_1045 := st_gL_t F_1045 (hdj_b rfl) gL_1044
      have gI_1045 := st_gI_t F_1045 (hdj_b rfl) gI_1044
      have gJ_1045 := st_gJ_t F_1045 (hdj_b rfl) gJ_1044
      have hB_1045 := st_hB_t F_1045 (hdj_b rfl) hB_1044
      have hT_1045 := st_hT_t F_1045 (hdj_b rfl) hT_1044
      have hS_1045 := st_hS_t F_1045 (hdj_b rfl) hS_1044
      have hM_1045 := st_hM_t F_1045 (hdj_b rfl) hM_1044
      have hR_1045 := st_hR_t F_1045 (hdj_b rfl) hR_1044
      have hL_1045 := st_hL_t F_1045 (hdj_b rfl) hL_1044
      have hI_1045 := st_hI_t F_1045 (hdj_b rfl) hI_1044
      intro C_ k_
      exact k_ tn fp pl 0 sd ka pa fa kb v fb (mx_sp pa fa) (mx_sp v fb) r n0 n1 ga0 gm0 gd_0 gs0 g00 g01 g02 g03 g04 g05 gx0 gy0 ga1 gm1 gd_1 gs1 g10 g11 g12 g13 g14 g15 gx1 gy1 s T cn go ch wg wc we rp rt lr ci0 ci1 cnr gor chr T2 im f_pl f_s f_st f_cb f_cr f_rw f_al f_wy (by first | exact ⟨p_1045_0.1, f_k.2⟩ | exact ⟨f_k.1, f_k.2.1, f_k.2.2.1, f_k.2.2.2.1, st_11 p_1045_0 f_pl, f_k.2.2.2.2.2⟩ | exact ⟨f_k.1, f_k.2.1, p_1045_0.1, f_k.2.2.2⟩ | exact ⟨f_k.1, p_1045_0.1, f_k.2.2⟩ | exact ⟨f_k.1, f_k.2.1, f_k.2.2.1, f_k.2.2.2.1, f_k.2.2.2.2.1, st_11 p_1045_0 f_pl⟩ | exact ⟨f_k.1, f_k.2.1, f_k.2.2.1, p_1045_0.1, f_k.2.2.2.2⟩ | omega) (fun w => by first | exact ⟨p_1045_0, (f_p w).2⟩ | exact ⟨(f_p w).1, p_1045_0⟩ | (have := f_p w; omega)) (fun w => by first | exact st_x (f_p w) f_k.2.2.1.1 f_k.2.2.2.1.1 | exact st_x ⟨p_1045_0, (f_p w).2⟩ f_k.2.2.1.1 f_k.2.2.2.1.1 | exact st_x ⟨(f_p w).1, p_1045_0⟩ f_k.2.2.1.1 f_k.2.2.2.1.1 | exact st_x (f_p w) p_1045_0.1.1 f_k.2.2.2.1.1 | exact st_x (f_p w) f_k.2.2.1.1 p_1045_0.1.1 | (have z := f_p w; have a := mx_sp_b (fr := fa) (show 0 ≤ pa ∧ pa < pl by omega) (by omega); have b := mx_sp_b (fr := fb) (show 0 ≤ v ∧ v < pl by omega) (by omega); omega)) (by first | exact st_m0 K | omega) f_sd f_r f_rr f_n f_l0 f_l1 f_tn f_t (st_I_K f_i0) (st_I_K f_i1) ⟨g_1045_0, g_1045_18, g_1045_57⟩ gT_1045 ⟨g_1045_7, g_1045_8, n8, g_1045_9, n9, g_1045_10, n10, g_1045_11, n11, g_1045_12, n12, g_1045_13, n13⟩ ⟨g_1045_14, g_1045_15, g_1045_16⟩ gS_1045 gV_1045 gW_1045 gM_1045 gR_1045 gL_1045 gI_1045 gJ_1045 ⟨sc0, sc1, sc2, sc3, sc4, sc5, w24, sb, wa, g_1045_66⟩ hB_1045 ⟨g_1045_70, g_1045_71⟩ hT_1045 hS_1045 hM_1045 hR_1045 hL_1045 hI_1045 k_1045
    · have k_1045 : cL h_1045 := F_1045.1.trans k_1044
      have g_1045_0 := (hfr_g F_1045 0 rfl).trans g_1044_0
      have g_1045_7 := (hfr_g F_1045 7 rfl).trans g_1044_7
      have g_1045_8 := (hfr_g F_1045 8 rfl).trans g_1044_8
      have g_1045_9 := (hfr_g F_1045 9 rfl).trans g_1044_9
      have g_1045_10 := (hfr_g F_1045 10 rfl).trans g_1044_10
      have g_1045_11 := (hfr_g F_1045 11 rfl).trans g_1044_11
      have g_1045_12 := (hfr_g F_1045 12 rfl).trans g_1044_12
      have g_1045_13 := (hfr_g F_1045 13 rfl).trans g_1044_13
      have g_1045_14 := (hfr_g F_1045 14 rfl).trans g_1044_14
      have g_1045_15 := (hfr_g F_1045 15 rfl).trans g_1044_15
      have g_1045_16 := (hfr_g F_1045 16 rfl).trans g_1044_16
      have g_1045_18 := (hfr_g F_1045 18 rfl).trans g_1044_18
      have g_1045_57 := (hfr_g F_1045 57 rfl).trans g_1044_57
      have g_1045_66 : cE h_1045 66 (.inr (10, (fI pl :: .ref 67 :: .ref 68 :: .ref 69 :: fI ((s : Nat) : Int) :: .ref 70 :: .ref 71 :: fI mi :: fI sd :: .ref 72 :: fI tn :: fI fp :: fI sc0 :: fJ sc1 :: fI sc2 :: fI sc3 :: fI sc4 :: fI sc5 :: .ref 73 :: .ref 74 :: .ref 75 :: .ref 76 :: .ref 77 :: .ref 78 :: fI w24 :: .ref 79 :: .ref 80 :: .ref 81 :: .ref 82 :: .ref 83 :: .ref 84 :: .ref 85 :: fJ sb :: fJ wa :: .ref 86 :: .ref 87 :: fI r :: .ref 88 :: .ref 89 :: .ref 90 :: .ref 91 :: .ref 92 :: .ref 93 :: []))) := e_1045_66
      have g_1045_70 : cE h_1045 70 (.inl (.int, fA [ka, pa, fa, kb, pb, fb])) := e_1045_70
      have g_1045_71 : cE h_1045 71 (.inl (.int, fA [xa, xb])) := e_1045_71
      exact absurd p_1044_0 p_1045_0
  · have k_1044 : cL h_1044 := F_1044.1.trans hl
    have g_1044_0 := (hfr_g F_1044 0 rfl).trans h0
    have g_1044_7 := (hfr_g F_1044 7 rfl).trans h7
    have g_1044_8 := (hfr_g F_1044 8 rfl).trans h8
    have g_1044_9 := (hfr_g F_1044 9 rfl).trans h9
    have g_1044_10 := (hfr_g F_1044 10 rfl).trans h10
    have g_1044_11 := (hfr_g F_1044 11 rfl).trans h11
    have g_1044_12 := (hfr_g F_1044 12 rfl).trans h12
    have g_1044_13 := (hfr_g F_1044 13 rfl).trans h13
    have g_1044_18 := (hfr_g F_1044 18 rfl).trans h18
    have g_1044_57 := (hfr_g F_1044 57 rfl).trans h57
    have g_1044_66 := (hfr_g F_1044 66 rfl).trans h66
    have g_1044_70 := (hfr_g F_1044 70 rfl).trans h70
    have g_1044_71 := (hfr_g F_1044 71 rfl).trans h71
    have g_1044_14 : cE h_1044 14 (.inr (1, [.ref 7, .ref 15, .ref 16, fI mi, fJ sd])) := e_1044_14
    have g_1044_15 : cE h_1044 15 (.inl (.int, fA [ka, pa, fa, kb, pb, fb])) := e_1044_15
    have g_1044_16 : cE h_1044 16 (.inl (.int, fA [xa, xb])) := e_1044_16
    refine ⟨-1000000001, rfl, ⟨k_1044, _, g_1044_66⟩, ?_⟩
    have gT_1044 := st_gT_t F_1044 (hdj_b rfl) gT
    have gS_1044 := st_gS_t F_1044 (hdj_b rfl) gS
    have gV_1044 := st_gV_t F_1044 (hdj_b rfl) gV
    have gW_1044 := st_gW_t F_1044 (hdj_b rfl) gW
    have gM_1044 := st_gM_t F_1044 (hdj_b rfl) gM
    have gR_1044 := st_gR_t F_1044 (hdj_b rfl) gR
    have gL_1044 := st_gL_t F_1044 (hdj_b rfl) gL
    have gI_1044 := st_gI_t F_1044 (hdj_b rfl) gI
    have gJ_1044 := st_gJ_t F_1044 (hdj_b rfl) gJ
    have hB_1044 := st_hB_t F_1044 (hdj_b rfl) hB
    have hT_1044 := st_hT_t F_1044 (hdj_b rfl) hT
    have hS_1044 := st_hS_t F_1044 (hdj_b rfl) hS
    have hM_1044 := st_hM_t F_1044 (hdj_b rfl) hM
    have hR_1044 := st_hR_t F_1044 (hdj_b rfl) hR
    have hL_1044 := st_hL_t F_1044 (hdj_b rfl) hL
    have hI_1044 := st_hI_t F_1044 (hdj_b rfl) hI
    refine ik_F_mono (rp_cork11 (ka := ka) (pa := pa) (fa := fa) (kb := kb) (pb := pb) (fb := fb) (xa := xa) (xb := xb) (mi := mi) (v := v) (pl := pl) (f := fun j => ((0 :: 0 :: 0 :: 0 :: (((s : Nat) : Int)) :: 0 :: 0 :: 0 :: sd :: 0 :: tn :: fp :: sc0 :: sc1 :: sc2 :: sc3 :: sc4 :: sc5 :: 0 :: 0 :: 0 :: 0 :: 0 :: 0 :: w24 :: 0 :: 0 :: 0 :: 0 :: 0 :: 0 :: 0 :: sb :: wa :: 0 :: 0 :: r :: 0 :: 0 :: 0 :: 0 :: 0 :: 0 :: []) : List Int).getD j 0) f_k.2.2.1 f_k.2.2.2.1 f_pl z_v g_1044_66 g_1044_70 g_1044_71 k_1044) ?_
    rintro v_1046 h_1046 (⟨er_1046, e_1046_66, e_1046_70, e_1046_71, p_1046_0, F_1046⟩ | ⟨er_1046, e_1046_66, e_1046_70, e_1046_71, p_1046_0, F_1046⟩) <;> subst er_1046
    · have k_1046 : cL h_1046 := F_1046.1.trans k_1044
      have g_1046_0 := (hfr_g F_1046 0 rfl).trans g_1044_0
      have g_1046_7 := (hfr_g F_1046 7 rfl).trans g_1044_7
      have g_1046_8 := (hfr_g F_1046 8 rfl).trans g_1044_8
      have g_1046_9 := (hfr_g F_1046 9 rfl).trans g_1044_9
      have g_1046_10 := (hfr_g F_1046 10 rfl).trans g_1044_10
      have g_1046_11 := (hfr_g F_1046 11 rfl).trans g_1044_11
      have g_1046_12 := (hfr_g F_1046 12 rfl).trans g_1044_12
      have g_1046_13 := (hfr_g F_1046 13 rfl).trans g_1044_13
      have g_1046_14 := (hfr_g F_1046 14 rfl).trans g_1044_14
      have g_1046_15 := (hfr_g F_1046 15 rfl).trans g_1044_15
      have g_1046_16 := (hfr_g F_1046 16 rfl).trans g_1044_16
      have g_1046_18 := (hfr_g F_1046 18 rfl).trans g_1044_18
      have g_1046_57 := (hfr_g F_1046 57 rfl).trans g_1044_57
      have g_1046_66 : cE h_1046 66 (.inr (10, (fI pl :: .ref 67 :: .ref 68 :: .ref 69 :: fI ((s : Nat) : Int) :: .ref 70 :: .ref 71 :: fI 0 :: fI sd :: .ref 72 :: fI tn :: fI fp :: fI sc0 :: fJ sc1 :: fI sc2 :: fI sc3 :: fI sc4 :: fI sc5 :: .ref 73 :: .ref 74 :: .ref 75 :: .ref 76 :: .ref 77 :: .ref 78 :: fI w24 :: .ref 79 :: .ref 80 :: .ref 81 :: .ref 82 :: .ref 83 :: .ref 84 :: .ref 85 :: fJ sb :: fJ wa :: .ref 86 :: .ref 87 :: fI r :: .ref 88 :: .ref 89 :: .ref 90 :: .ref 91 :: .ref 92 :: .ref 93 :: []))) := e_1046_66
      have g_1046_70 : cE h_1046 70 (.inl (.int, fA [ka, pa, fa, kb, v, fb])) := e_1046_70
      have g_1046_71 : cE h_1046 71 (.inl (.int, fA [mx_sp pa fa, mx_sp v fb])) := e_1046_71
      exact absurd p_1046_0 p_1044_0
    · have k_1046 : cL h_1046 := F_1046.1.trans k_1044
      have g_1046_0 := (hfr_g F_1046 0 rfl).trans g_1044_0
      have g_1046_7 := (hfr_g F_1046 7 rfl).trans g_1044_7
      have g_1046_8 := (hfr_g F_1046 8 rfl).trans g_1044_8
      have g_1046_9 := (hfr_g F_1046 9 rfl).trans g_1044_9
      have g_1046_10 := (hfr_g F_1046 10 rfl).trans g_1044_10
      have g_1046_11 := (hfr_g F_1046 11 rfl).trans g_1044_11
      have g_1046_12 := (hfr_g F_1046 12 rfl).trans g_1044_12
      have g_1046_13 := (hfr_g F_1046 13 rfl).trans g_1044_13
      have g_1046_14 := (hfr_g F_1046 14 rfl).trans g_1044_14
      have g_1046_15 := (hfr_g F_1046 15 rfl).trans g_1044_15
      have g_1046_16 := (hfr_g F_1046 16 rfl).trans g_1044_16
      have g_1046_18 := (hfr_g F_1046 18 rfl).trans g_1044_18
      have g_1046_57 := (hfr_g F_1046 57 rfl).trans g_1044_57
      have g_1046_66 : cE h_1046 66 (.inr (10, (fI pl :: .ref 67 :: .ref 68 :: .ref 69 :: fI ((s : Nat) : Int) :: .ref 70 :: .ref 71 :: fI mi :: fI sd :: .ref 72 :: fI tn :: fI fp :: fI sc0 :: fJ sc1 :: fI sc2 :: fI sc3 :: fI sc4 :: fI sc5 :: .ref 73 :: .ref 74 :: .ref 75 :: .ref 76 :: .ref 77 :: .ref 78 :: fI w24 :: .ref 79 :: .ref 80 :: .ref 81 :: .ref 82 :: .ref 83 :: .ref 84 :: .ref 85 :: fJ sb :: fJ wa :: .ref 86 :: .ref 87 :: fI r :: .ref 88 :: .ref 89 :: .ref 90 :: .ref 91 :: .ref 92 :: .ref 93 :: []))) := e_1046_66
      have g_1046_70 : cE h_1046 70 (.inl (.int, fA [ka, pa, fa, kb, pb, fb])) := e_1046_70
      have g_1046_71 : cE h_1046 71 (.inl (.int, fA [xa, xb])) := e_1046_71
      refine ⟨rfl, ?_⟩
      have gT_1046 := st_gT_t F_1046 (hdj_b rfl) gT_1044
      have gS_1046 := st_gS_t F_1046 (hdj_b rfl) gS_1044
      have gV_1046 := st_gV_t F_1046 (hdj_b rfl) gV_1044
      have gW_1046 := st_gW_t F_1046 (hdj_b rfl) gW_1044
      have gM_1046 := st_gM_t F_1046 (hdj_b rfl) gM_1044
      have gR_1046 := st_gR_t F_1046 (hdj_b rfl) gR_1044
      have gL_1046 := st_gL_t F_1046 (hdj_b rfl) gL_1044
      have gI_1046 := st_gI_t F_1046 (hdj_b rfl) gI_1044
      have gJ_1046 := st_gJ_t F_1046 (hdj_b rfl) gJ_1044
      have hB_1046 := st_hB_t F_1046 (hdj_b rfl) hB_1044
      have hT_1046 := st_hT_t F_1046 (hdj_b rfl) hT_1044
      have hS_1046 := st_hS_t F_1046 (hdj_b rfl) hS_1044
      have hM_1046 := st_hM_t F_1046 (hdj_b rfl) hM_1044
      have hR_1046 := st_hR_t F_1046 (hdj_b rfl) hR_1044
      have hL_1046 := st_hL_t F_1046 (hdj_b rfl) hL_1044
      have hI_1046 := st_hI_t F_1046 (hdj_b rfl) hI_1044
      intro C_ k_
      exact k_ tn fp pl mi sd ka pa fa kb pb fb xa xb r n0 n1 ga0 gm0 gd_0 gs0 g00 g01 g02 g03 g04 g05 gx0 gy0 ga1 gm1 gd_1 gs1 g10 g11 g12 g13 g14 g15 gx1 gy1 s T cn go ch wg wc we rp rt lr ci0 ci1 cnr gor chr T2 im f_pl f_s f_st f_cb f_cr f_rw f_al f_wy f_k f_p f_x (by first | exact st_m f_m | omega) f_sd f_r f_rr f_n f_l0 f_l1 f_tn f_t (st_I_K f_i0) (st_I_K f_i1) ⟨g_1046_0, g_1046_18, g_1046_57⟩ gT_1046 ⟨g_1046_7, g_1046_8, n8, g_1046_9, n9, g_1046_10, n10, g_1046_11, n11, g_1046_12, n12, g_1046_13, n13⟩ ⟨g_1046_14, g_1046_15, g_1046_16⟩ gS_1046 gV_1046 gW_1046 gM_1046 gR_1046 gL_1046 gI_1046 gJ_1046 ⟨sc0, sc1, sc2, sc3, sc4, sc5, w24, sb, wa, g_1046_66⟩ hB_1046 ⟨g_1046_70, g_1046_71⟩ hT_1046 hS_1046 hM_1046 hR_1046 hL_1046 hI_1046 k_1046

set_option maxRecDepth 100000 in
theorem lk_cork12 {K : Nat} {h : List ik_E} (E : st_S K h) (hK : K ≤ 600) {v : Int} (z_v : -2147483648 ≤ v ∧ v < 2147483648)  : ik_F 95 [.ref 0, fI 1, fI 2, fI v] h (fun rv h_q => ∃ o_ : Int, rv = [fI o_] ∧ (h_q.length = (94 : Nat) ∧ ∃ fs, h_q[66]? = some (.inr (10, fs))) ∧ ik_F 158 [.ref 66, fI 1, fI 2, fI v] h_q (fun rv' h'' => rv' = [fI o_] ∧ st_S (K + 1) h'')) := by
  refine E _ ?_
  intro tn fp pl mi sd ka pa fa kb pb fb xa xb r n0 n1 ga0 gm0 gd_0 gs0 g00 g01 g02 g03 g04 g05 gx0 gy0 ga1 gm1 gd_1 gs1 g10 g11 g12 g13 g14 g15 gx1 gy1 s T cn go ch wg wc we rp rt lr ci0 ci1 cnr gor chr T2 im f_pl f_s f_st f_cb f_cr f_rw f_al f_wy f_k f_p f_x f_m f_sd f_r f_rr f_n f_l0 f_l1 f_tn f_t f_i0 f_i1 gA gT gB gC gS gV gW gM gR gL gI gJ hO hB hC hT hS hM hR hL hI hl
  replace f_cb := ik_hid_i f_cb
  replace f_cr := ik_hid_i f_cr
  replace f_p := ik_hid_i f_p
  replace f_x := ik_hid_i f_x
  obtain ⟨h0, h18, h57⟩ := gA
  obtain ⟨h7, h8, n8, h9, n9, h10, n10, h11, n11, h12, n12, h13, n13⟩ := gB
  obtain ⟨h14, h15, h16⟩ := gC
  obtain ⟨sc0, sc1, sc2, sc3, sc4, sc5, w24, sb, wa, h66⟩ := hO
  obtain ⟨h70, h71⟩ := hC
  refine ik_F_mono (cp_cork12 (ka := ka) (pa := pa) (fa := fa) (kb := kb) (pb := pb) (fb := fb) (xa := xa) (xb := xb) (mi := mi) (dr := sd) (v := v) (pl := pl) (st := ((s : Nat) : Int)) (lo := ((mj_lost pl cn go : Nat) : Int)) f_k.2.2.1 f_k.2.2.2.1 f_pl z_v h0 h7 h14 h15 h16 hl) ?_
  rintro v_1047 h_1047 (⟨er_1047, e_1047_14, e_1047_15, e_1047_16, p_1047_0, F_1047⟩ | ⟨er_1047, e_1047_14, e_1047_15, e_1047_16, p_1047_0, F_1047⟩) <;> subst er_1047
  · have k_1047 : cL h_1047 := F_1047.1.trans hl
    have g_1047_0 := (hfr_g F_1047 0 rfl).trans h0
    have g_1047_7 := (hfr_g F_1047 7 rfl).trans h7
    have g_1047_8 := (hfr_g F_1047 8 rfl).trans h8
    have g_1047_9 := (hfr_g F_1047 9 rfl).trans h9
    have g_1047_10 := (hfr_g F_1047 10 rfl).trans h10
    have g_1047_11 := (hfr_g F_1047 11 rfl).trans h11
    have g_1047_12 := (hfr_g F_1047 12 rfl).trans h12
    have g_1047_13 := (hfr_g F_1047 13 rfl).trans h13
    have g_1047_18 := (hfr_g F_1047 18 rfl).trans h18
    have g_1047_57 := (hfr_g F_1047 57 rfl).trans h57
    have g_1047_66 := (hfr_g F_1047 66 rfl).trans h66
    have g_1047_70 := (hfr_g F_1047 70 rfl).trans h70
    have g_1047_71 := (hfr_g F_1047 71 rfl).trans h71
    have g_1047_14 : cE h_1047 14 (.inr (1, [.ref 7, .ref 15, .ref 16, fI 0, fJ sd])) := e_1047_14
    have g_1047_15 : cE h_1047 15 (.inl (.int, fA [ka, pa, fa, kb, pb, v])) := e_1047_15
    have g_1047_16 : cE h_1047 16 (.inl (.int, fA [mx_sp pa fa, mx_sp pb v])) := e_1047_16
    refine ⟨fb, rfl, ⟨k_1047, _, g_1047_66⟩, ?_⟩
    have gT_1047 := st_gT_t F_1047 (hdj_b rfl) gT
    have gS_1047 := st_gS_t F_1047 (hdj_b rfl) gS
    have gV_1047 := st_gV_t F_1047 (hdj_b rfl) gV
    have gW_1047 := st_gW_t F_1047 (hdj_b rfl) gW
    have gM_1047 := st_gM_t F_1047 (hdj_b rfl) gM
    have gR_1047 := st_gR_t F_1047 (hdj_b rfl) gR
    have gL_1047 := st_gL_t F_1047 (hdj_b rfl) gL
    have gI_1047 := st_gI_t F_1047 (hdj_b rfl) gI
    have gJ_1047 := st_gJ_t F_1047 (hdj_b rfl) gJ
    have hB_1047 := st_hB_t F_1047 (hdj_b rfl) hB
    have hT_1047 := st_hT_t F_1047 (hdj_b rfl) hT
    have hS_1047 := st_hS_t F_1047 (hdj_b rfl) hS
    have hM_1047 := st_hM_t F_1047 (hdj_b rfl) hM
    have hR_1047 := st_hR_t F_1047 (hdj_b rfl) hR
    have hL_1047 := st_hL_t F_1047 (hdj_b rfl) hL
    have hI_1047 := st_hI_t F_1047 (hdj_b rfl) hI
    refine ik_F_mono (rp_cork12 (ka := ka) (pa := pa) (fa := fa) (kb := kb) (pb := pb) (fb := fb) (xa := xa) (xb := xb) (mi := mi) (v := v) (pl := pl) (f := fun j => ((0 :: 0 :: 0 :: 0 :: (((s : Nat) : Int)) :: 0 :: 0 :: 0 :: sd :: 0 :: tn :: fp :: sc0 :: sc1 :: sc2 :: sc3 :: sc4 :: sc5 :: 0 :: 0 :: 0 :: 0 :: 0 :: 0 :: w24 :: 0 :: 0 :: 0 :: 0 :: 0 :: 0 :: 0 :: sb :: wa :: 0 :: 0 :: r :: 0 :: 0 :: 0 :: 0 :: 0 :: 0 :: []) : List Int).getD j 0) f_k.2.2.1 f_k.2.2.2.1 f_pl z_v g_1047_66 g_1047_70 g_1047_71 k_1047) ?_
    rintro v_1048 h_1048 (⟨er_1048, e_1048_66, e_1048_70, e_1048_71, p_1048_0, F_1048⟩ | ⟨er_1048, e_1048_66, e_1048_70, e_1048_71, p_1048_0, F_1048⟩) <;> subst er_1048
    · have k_1048 : cL h_1048 := F_1048.1.trans k_1047
      have g_1048_0 := (hfr_g F_1048 0 rfl).trans g_1047_0
      have g_1048_7 := (hfr_g F_1048 7 rfl).trans g_1047_7
      have g_1048_8 := (hfr_g F_1048 8 rfl).trans g_1047_8
      have g_1048_9 := (hfr_g F_1048 9 rfl).trans g_1047_9
      have g_1048_10 := (hfr_g F_1048 10 rfl).trans g_1047_10
      have g_1048_11 := (hfr_g F_1048 11 rfl).trans g_1047_11
      have g_1048_12 := (hfr_g F_1048 12 rfl).trans g_1047_12
      have g_1048_13 := (hfr_g F_1048 13 rfl).trans g_1047_13
      have g_1048_14 := (hfr_g F_1048 14 rfl).trans g_1047_14
      have g_1048_15 := (hfr_g F_1048 15 rfl).trans g_1047_15
      have g_1048_16 := (hfr_g F_1048 16 rfl).trans g_1047_16
      have g_1048_18 := (hfr_g F_1048 18 rfl).trans g_1047_18
      have g_1048_57 := (hfr_g F_1048 57 rfl).trans g_1047_57
      have g_1048_66 : cE h_1048 66 (.inr (10, (fI pl :: .ref 67 :: .ref 68 :: .ref 69 :: fI ((s : Nat) : Int) :: .ref 70 :: .ref 71 :: fI 0 :: fI sd :: .ref 72 :: fI tn :: fI fp :: fI sc0 :: fJ sc1 :: fI sc2 :: fI sc3 :: fI sc4 :: fI sc5 :: .ref 73 :: .ref 74 :: .ref 75 :: .ref 76 :: .ref 77 :: .ref 78 :: fI w24 :: .ref 79 :: .ref 80 :: .ref 81 :: .ref 82 :: .ref 83 :: .ref 84 :: .ref 85 :: fJ sb :: fJ wa :: .ref 86 :: .ref 87 :: fI r :: .ref 88 :: .ref 89 :: .ref 90 :: .ref 91 :: .ref 92 :: .ref 93 :: []))) := e_1048_66
      have g_1048_70 : cE h_1048 70 (.inl (.int, fA [ka, pa, fa, kb, pb, v])) := e_1048_70
      have g_1048_71 : cE h_1048 71 (.inl (.int, fA [mx_sp pa fa, mx_sp pb v])) := e_1048_71
      refine ⟨rfl, ?_⟩
      have gT_1048 := st_gT_t F_1048 (hdj_b rfl) gT_1047
      have gS_1048 := st_gS_t F_1048 (hdj_b rfl) gS_1047
      have gV_1048 := st_gV_t F_1048 (hdj_b rfl) gV_1047
      have gW_1048 := st_gW_t F_1048 (hdj_b rfl) gW_1047
      have gM_1048 := st_gM_t F_1048 (hdj_b rfl) gM_1047
      have gR_1048 := st_gR_t F_1048 (hdj_b rfl) gR_1047
      have gL_1048 := st_gL_t F_1048 (hdj_b rfl) gL_1047
      have gI_1048 := st_gI_t F_1048 (hdj_b rfl) gI_1047
      have gJ_1048 := st_gJ_t F_1048 (hdj_b rfl) gJ_1047
      have hB_1048 := st_hB_t F_1048 (hdj_b rfl) hB_1047
      have hT_1048 := st_hT_t F_1048 (hdj_b rfl) hT_1047
      have hS_1048 := st_hS_t F_1048 (hdj_b rfl) hS_1047
      have hM_1048 := st_hM_t F_1048 (hdj_b rfl) hM_1047
      have hR_1048 := st_hR_t F_1048 (hdj_b rfl) hR_1047
      have hL_1048 := st_hL_t F_1048 (hdj_b rfl) hL_1047
      have hI_1048 := st_hI_t F_1048 (hdj_b rfl) hI_1047
      intro C_ k_
      exact k_ tn fp pl 0 sd ka pa fa kb pb v (mx_sp pa fa) (mx_sp pb v) r n0 n1 ga0 gm0 gd_0 gs0 g00 g01 g02 g03 g04 g05 gx0 gy0 ga1 gm1 gd_1 gs1 g10 g11 g12 g13 g14 g15 gx1 gy1 s T cn go ch wg wc we rp rt lr ci0 ci1 cnr gor chr T2 im f_pl f_s f_st f_cb f_cr f_rw f_al f_wy (by first | exact ⟨p_1048_0.1, f_k.2⟩ | exact ⟨f_k.1, f_k.2.1, f_k.2.2.1, f_k.2.2.2.1, st_11 p_1048_0 f_pl, f_k.2.2.2.2.2⟩ | exact ⟨f_k.1, f_k.2.1, p_1048_0.1, f_k.2.2.2⟩ | exact ⟨f_k.1, p_1048_0.1, f_k.2.2⟩ | exact ⟨f_k.1, f_k.2.1, f_k.2.2.1, f_k.2.2.2.1, f_k.2.2.2.2.1, st_11 p_1048_0 f_pl⟩ | exact ⟨f_k.1, f_k.2.1, f_k.2.2.1, p_1048_0.1, f_k.2.2.2.2⟩ | omega) f_p (fun w => by first | exact st_x (f_p w) f_k.2.2.1.1 f_k.2.2.2.1.1 | exact st_x ⟨p_1048_0, (f_p w).2⟩ f_k.2.2.1.1 f_k.2.2.2.1.1 | exact st_x ⟨(f_p w).1, p_1048_0⟩ f_k.2.2.1.1 f_k.2.2.2.1.1 | exact st_x (f_p w) p_1048_0.1.1 f_k.2.2.2.1.1 | exact st_x (f_p w) f_k.2.2.1.1 p_1048_0.1.1 | (have z := f_p w; have a := mx_sp_b (fr := fa) (show 0 ≤ pa ∧ pa < pl by omega) (by omega); have b := mx_sp_b (fr := v) (show 0 ≤ pb ∧ pb < pl by omega) (by omega); omega)) (by first | exact st_m0 K | omega) f_sd f_r f_rr f_n f_l0 f_l1 f_tn f_t (st_I_K f_i0) (st_I_K f_i1) ⟨g_1048_0, g_1048_18, g_1048_57⟩ gT_1048 ⟨g_1048_7, g_1048_8, n8, g_1048_9, n9, g_1048_10, n10, g_1048_11, n11, g_1048_12, n12, g_1048_13, n13⟩ ⟨g_1048_14, g_1048_15, g_1048_16⟩ gS_1048 gV_1048 gW_1048 gM_1048 gR_1048 gL_1048 gI_1048 gJ_1048 ⟨sc0, sc1, sc2, sc3, sc4, sc5, w24, sb, wa, g_1048_66⟩ hB_1048 ⟨g_1048_70, g_1048_71⟩ hT_1048 hS_1048 hM_1048 hR_1048 hL_1048 hI_1048 k_1048
    · have k_1048 : cL h_1048 := F_1048.1.trans k_1047
      have g_1048_0 := (hfr_g F_1048 0 rfl).trans g_1047_0
      have g_1048_7 := (hfr_g F_1048 7 rfl).trans g_1047_7
      have g_1048_8 := (hfr_g F_1048 8 rfl).trans g_1047_8
      have g_1048_9 := (hfr_g F_1048 9 rfl).trans g_1047_9
      have g_1048_10 := (hfr_g F_1048 10 rfl).trans g_1047_10
      have g_1048_11 := (hfr_g F_1048 11 rfl).trans g_1047_11
      have g_1048_12 := (hfr_g F_1048 12 rfl).trans g_1047_12
      have g_1048_13 := (hfr_g F_1048 13 rfl).trans g_1047_13
      have g_1048_14 := (hfr_g F_1048 14 rfl).trans g_1047_14
      have g_1048_15 := (hfr_g F_1048 15 rfl).trans g_1047_15
      have g_1048_16 := (hfr_g F_1048 16 rfl).trans g_1047_16
      have g_1048_18 := (hfr_g F_1048 18 rfl).trans g_1047_18
      have g_1048_57 := (hfr_g F_1048 57 rfl).trans g_1047_57
      have g_1048_66 : cE h_1048 66 (.inr (10, (fI pl :: .ref 67 :: .ref 68 :: .ref 69 :: fI ((s : Nat) : Int) :: .ref 70 :: .ref 71 :: fI mi :: fI sd :: .ref 72 :: fI tn :: fI fp :: fI sc0 :: fJ sc1 :: fI sc2 :: fI sc3 :: fI sc4 :: fI sc5 :: .ref 73 :: .ref 74 :: .ref 75 :: .ref 76 :: .ref 77 :: .ref 78 :: fI w24 :: .ref 79 :: .ref 80 :: .ref 81 :: .ref 82 :: .ref 83 :: .ref 84 :: .ref 85 :: fJ sb :: fJ wa :: .ref 86 :: .ref 87 :: fI r :: .ref 88 :: .ref 89 :: .ref 90 :: .ref 91 :: .ref 92 :: .ref 93 :: []))) := e_1048_66
      have g_1048_70 : cE h_1048 70 (.inl (.int, fA [ka, pa, fa, kb, pb, fb])) := e_1048_70
      have g_1048_71 : cE h_1048 71 (.inl (.int, fA [xa, xb])) := e_1048_71
      exact absurd p_1047_0 p_1048_0
  · have k_1047 : cL h_1047 := F_1047.1.trans hl
    have g_1047_0 := (hfr_g F_1047 0 rfl).trans h0
    have g_1047_7 := (hfr_g F_1047 7 rfl).trans h7
    have g_1047_8 := (hfr_g F_1047 8 rfl).trans h8
    have g_1047_9 := (hfr_g F_1047 9 rfl).trans h9
    have g_1047_10 := (hfr_g F_1047 10 rfl).trans h10
    have g_1047_11 := (hfr_g F_1047 11 rfl).trans h11
    have g_1047_12 := (hfr_g F_1047 12 rfl).trans h12
    have g_1047_13 := (hfr_g F_1047 13 rfl).trans h13
    have g_1047_18 := (hfr_g F_1047 18 rfl).trans h18
    have g_1047_57 := (hfr_g F_1047 57 rfl).trans h57
    have g_1047_66 := (hfr_g F_1047 66 rfl).trans h66
    have g_1047_70 := (hfr_g F_1047 70 rfl).trans h70
    have g_1047_71 := (hfr_g F_1047 71 rfl).trans h71
    have g_1047_14 : cE h_1047 14 (.inr (1, [.ref 7, .ref 15, .ref 16, fI mi, fJ sd])) := e_1047_14
    have g_1047_15 : cE h_1047 15 (.inl (.int, fA [ka, pa, fa, kb, pb, fb])) := e_1047_15
    have g_1047_16 : cE h_1047 16 (.inl (.int, fA [xa, xb])) := e_1047_16
    refine ⟨if 0 ≤ v ∧ v ≤ 30 then -1000000003 else -1000000002, rfl, ⟨k_1047, _, g_1047_66⟩, ?_⟩
    have gT_1047 := st_gT_t F_1047 (hdj_b rfl) gT
    have gS_1047 := st_gS_t F_1047 (hdj_b rfl) gS
    have gV_1047 := st_gV_t F_1047 (hdj_b rfl) gV
    have gW_1047 := st_gW_t F_1047 (hdj_b rfl) gW
    have gM_1047 := st_gM_t F_1047 (hdj_b rfl) gM
    have gR_1047 := st_gR_t F_1047 (hdj_b rfl) gR
    have gL_1047 := st_gL_t F_1047 (hdj_b rfl) gL
    have gI_1047 := st_gI_t F_1047 (hdj_b rfl) gI
    have gJ_1047 := st_gJ_t F_1047 (hdj_b rfl) gJ
    have hB_1047 := st_hB_t F_1047 (hdj_b rfl) hB
    have hT_1047 := st_hT_t F_1047 (hdj_b rfl) hT
    have hS_1047 := st_hS_t F_1047 (hdj_b rfl) hS
    have hM_1047 := st_hM_t F_1047 (hdj_b rfl) hM
    have hR_1047 := st_hR_t F_1047 (hdj_b rfl) hR
    have hL_1047 := st_hL_t F_1047 (hdj_b rfl) hL
    have hI_1047 := st_hI_t F_1047 (hdj_b rfl) hI
    refine ik_F_mono (rp_cork12 (ka := ka) (pa := pa) (fa := fa) (kb := kb) (pb := pb) (fb := fb) (xa := xa) (xb := xb) (mi := mi) (v := v) (pl := pl) (f := fun j => ((0 :: 0 :: 0 :: 0 :: (((s : Nat) : Int)) :: 0 :: 0 :: 0 :: sd :: 0 :: tn :: fp :: sc0 :: sc1 :: sc2 :: sc3 :: sc4 :: sc5 :: 0 :: 0 :: 0 :: 0 :: 0 :: 0 :: w24 :: 0 :: 0 :: 0 :: 0 :: 0 :: 0 :: 0 :: sb :: wa :: 0 :: 0 :: r :: 0 :: 0 :: 0 :: 0 :: 0 :: 0 :: []) : List Int).getD j 0) f_k.2.2.1 f_k.2.2.2.1 f_pl z_v g_1047_66 g_1047_70 g_1047_71 k_1047) ?_
    rintro v_1049 h_1049 (⟨er_1049, e_1049_66, e_1049_70, e_1049_71, p_1049_0, F_1049⟩ | ⟨er_1049, e_1049_66, e_1049_70, e_1049_71, p_1049_0, F_1049⟩) <;> subst er_1049
    · have k_1049 : cL h_1049 := F_1049.1.trans k_1047
      have g_1049_0 := (hfr_g F_1049 0 rfl).trans g_1047_0
      have g_1049_7 := (hfr_g F_1049 7 rfl).trans g_1047_7
      have g_1049_8 := (hfr_g F_1049 8 rfl).trans g_1047_8
      have g_1049_9 := (hfr_g F_1049 9 rfl).trans g_1047_9
      have g_1049_10 := (hfr_g F_1049 10 rfl).trans g_1047_10
      have g_1049_11 := (hfr_g F_1049 11 rfl).trans g_1047_11
      have g_1049_12 := (hfr_g F_1049 12 rfl).trans g_1047_12
      have g_1049_13 := (hfr_g F_1049 13 rfl).trans g_1047_13
      have g_1049_14 := (hfr_g F_1049 14 rfl).trans g_1047_14
      have g_1049_15 := (hfr_g F_1049 15 rfl).trans g_1047_15
      have g_1049_16 := (hfr_g F_1049 16 rfl).trans g_1047_16
      have g_1049_18 := (hfr_g F_1049 18 rfl).trans g_1047_18
      have g_1049_57 := (hfr_g F_1049 57 rfl).trans g_1047_57
      have g_1049_66 : cE h_1049 66 (.inr (10, (fI pl :: .ref 67 :: .ref 68 :: .ref 69 :: fI ((s : Nat) : Int) :: .ref 70 :: .ref 71 :: fI 0 :: fI sd :: .ref 72 :: fI tn :: fI fp :: fI sc0 :: fJ sc1 :: fI sc2 :: fI sc3 :: fI sc4 :: fI sc5 :: .ref 73 :: .ref 74 :: .ref 75 :: .ref 76 :: .ref 77 :: .ref 78 :: fI w24 :: .ref 79 :: .ref 80 :: .ref 81 :: .ref 82 :: .ref 83 :: .ref 84 :: .ref 85 :: fJ sb :: fJ wa :: .ref 86 :: .ref 87 :: fI r :: .ref 88 :: .ref 89 :: .ref 90 :: .ref 91 :: .ref 92 :: .ref 93 :: []))) := e_1049_66
      have g_1049_70 : cE h_1049 70 (.inl (.int, fA [ka, pa, fa, kb, pb, v])) := e_1049_70
      have g_1049_71 : cE h_1049 71 (.inl (.int, fA [mx_sp pa fa, mx_sp pb v])) := e_1049_71
      exact absurd p_1049_0 p_1047_0
    · have k_1049 : cL h_1049 := F_1049.1.trans k_1047
      have g_1049_0 := (hfr_g F_1049 0 rfl).trans g_1047_0
      have g_1049_7 := (hfr_g F_1049 7 rfl).trans g_1047_7
      have g_1049_8 := (hfr_g F_1049 8 rfl).trans g_1047_8
      have g_1049_9 := (hfr_g F_1049 9 rfl).trans g_1047_9
      have g_1049_10 := (hfr_g F_1049 10 rfl).trans g_1047_10
      have g_1049_11 := (hfr_g F_1049 11 rfl).trans g_1047_11
      have g_1049_12 := (hfr_g F_1049 12 rfl).trans g_1047_12
      have g_1049_13 := (hfr_g F_1049 13 rfl).trans g_1047_13
      have g_1049_14 := (hfr_g F_1049 14 rfl).trans g_1047_14
      have g_1049_15 := (hfr_g F_1049 15 rfl).trans g_1047_15
      have g_1049_16 := (hfr_g F_1049 16 rfl).trans g_1047_16
      have g_1049_18 := (hfr_g F_1049 18 rfl).trans g_1047_18
      have g_1049_57 := (hfr_g F_1049 57 rfl).trans g_1047_57
      have g_1049_66 : cE h_1049 66 (.inr (10, (fI pl :: .ref 67 :: .ref 68 :: .ref 69 :: fI ((s : Nat) : Int) :: .ref 70 :: .ref 71 :: fI mi :: fI sd :: .ref 72 :: fI tn :: fI fp :: fI sc0 :: fJ sc1 :: fI sc2 :: fI sc3 :: fI sc4 :: fI sc5 :: .ref 73 :: .ref 74 :: .ref 75 :: .ref 76 :: .ref 77 :: .ref 78 :: fI w24 :: .ref 79 :: .ref 80 :: .ref 81 :: .ref 82 :: .ref 83 :: .ref 84 :: .ref 85 :: fJ sb :: fJ wa :: .ref 86 :: .ref 87 :: fI r :: .ref 88 :: .ref 89 :: .ref 90 :: .ref 91 :: .ref 92 :: .ref 93 :: []))) := e_1049_66
      have g_1049_70 : cE h_1049 70 (.inl (.int, fA [ka, pa, fa, kb, pb, fb])) := e_1049_70
      have g_1049_71 : cE h_1049 71 (.inl (.int, fA [xa, xb])) := e_1049_71
      refine ⟨rfl, ?_⟩
      have gT_1049 := st_gT_t F_1049 (hdj_b rfl) gT_1047
      have gS_1049 := st_gS_t F_1049 (hdj_b rfl) gS_1047
      have gV_1049 := st_gV_t F_1049 (hdj_b rfl) gV_1047
      have gW_1049 := st_gW_t F_1049 (hdj_b rfl) gW_1047
      have gM_1049 := st_gM_t F_1049 (hdj_b rfl) gM_1047
      have gR_1049 := st_gR_t F_1049 (hdj_b rfl) gR_1047
      have gL_1049 := st_gL_t F_1049 (hdj_b rfl) gL_1047
      have gI_1049 := st_gI_t F_1049 (hdj_b rfl) gI_1047
      have gJ_1049 := st_gJ_t F_1049 (hdj_b rfl) gJ_1047
      have hB_1049 := st_hB_t F_1049 (hdj_b rfl) hB_1047
      have hT_1049 := st_hT_t F_1049 (hdj_b rfl) hT_1047
      have hS_1049 := st_hS_t F_1049 (hdj_b rfl) hS_1047
      have hM_1049 := st_hM_t F_1049 (hdj_b rfl) hM_1047
      have hR_1049 := st_hR_t F_1049 (hdj_b rfl) hR_1047
      have hL_1049 := st_hL_t F_1049 (hdj_b rfl) hL_1047
      have hI_1049 := st_hI_t F_1049 (hdj_b rfl) hI_1047
      intro C_ k_
      exact k_ tn fp pl mi sd ka pa fa kb pb fb xa xb r n0 n1 ga0 gm0 gd_0 gs0 g00 g01 g02 g03 g04 g05 gx0 gy0 ga1 gm1 gd_1 gs1 g10 g11 g12 g13 g14 g15 gx1 gy1 s T cn go ch wg wc we rp rt lr ci0 ci1 cnr gor chr T2 im f_pl f_s f_st f_cb f_cr f_rw f_al f_wy f_k f_p f_x (by first | exact st_m f_m | omega) f_sd f_r f_rr f_n f_l0 f_l1 f_tn f_t (st_I_K f_i0) (st_I_K f_i1) ⟨g_1049_0, g_1049_18, g_1049_57⟩ gT_1049 ⟨g_1049_7, g_1049_8, n8, g_1049_9, n9, g_1049_10, n10, g_1049_11, n11, g_1049_12, n12, g_1049_13, n13⟩ ⟨g_1049_14, g_1049_15, g_1049_16⟩ gS_1049 gV_1049 gW_1049 gM_1049 gR_1049 gL_1049 gI_1049 gJ_1049 ⟨sc0, sc1, sc2, sc3, sc4, sc5, w24, sb, wa, g_1049_66⟩ hB_1049 ⟨g_1049_70, g_1049_71⟩ hT_1049 hS_1049 hM_1049 hR_1049 hL_1049 hI_1049 k_1049

set_option maxRecDepth 100000 in
theorem lk_cork1E {K : Nat} {h : List ik_E} (E : st_S K h) (hK : K ≤ 600) {what : Int} {v : Int} (z_what : -2147483648 ≤ what ∧ what < 2147483648) (z_v : -2147483648 ≤ v ∧ v < 2147483648) (q2 : what < 0 ∨ 2 < what) : ik_F 95 [.ref 0, fI 1, fI what, fI v] h (fun rv h_q => ∃ o_ : Int, rv = [fI o_] ∧ (h_q.length = (94 : Nat) ∧ ∃ fs, h_q[66]? = some (.inr (10, fs))) ∧ ik_F 158 [.ref 66, fI 1, fI what, fI v] h_q (fun rv' h'' => rv' = [fI o_] ∧ st_S (K + 1) h'')) := by
  refine E _ ?_
  intro tn fp pl mi sd ka pa fa kb pb fb xa xb r n0 n1 ga0 gm0 gd_0 gs0 g00 g01 g02 g03 g04 g05 gx0 gy0 ga1 gm1 gd_1 gs1 g10 g11 g12 g13 g14 g15 gx1 gy1 s T cn go ch wg wc we rp rt lr ci0 ci1 cnr gor chr T2 im f_pl f_s f_st f_cb f_cr f_rw f_al f_wy f_k f_p f_x f_m f_sd f_r f_rr f_n f_l0 f_l1 f_tn f_t f_i0 f_i1 gA gT gB gC gS gV gW gM gR gL gI gJ hO hB hC hT hS hM hR hL hI hl
  replace f_cb := ik_hid_i f_cb
  replace f_cr := ik_hid_i f_cr
  replace f_p := ik_hid_i f_p
  replace f_x := ik_hid_i f_x
  obtain ⟨h0, h18, h57⟩ := gA
  obtain ⟨sc0, sc1, sc2, sc3, sc4, sc5, w24, sb, wa, h66⟩ := hO
  refine ik_F_mono (cp_cork1E (what := what) (v := v) z_what z_v q2 h0 hl) ?_
  rintro v_1050 h_1050 ⟨er_1050, F_1050⟩ <;> subst er_1050
  have k_1050 : cL h_1050 := F_1050.1.trans hl
  have g_1050_0 := (hfr_g F_1050 0 rfl).trans h0
  have g_1050_18 := (hfr_g F_1050 18 rfl).trans h18
  have g_1050_57 := (hfr_g F_1050 57 rfl).trans h57
  have g_1050_66 := (hfr_g F_1050 66 rfl).trans h66
  refine ⟨-1000000002, rfl, ⟨k_1050, _, g_1050_66⟩, ?_⟩
  have gT_1050 := st_gT_t F_1050 (hdj_b rfl) gT
  have gB_1050 := st_gB_t F_1050 (hdj_b rfl) gB
  have gC_1050 := st_gC_t F_1050 (hdj_b rfl) gC
  have gS_1050 := st_gS_t F_1050 (hdj_b rfl) gS
  have gV_1050 := st_gV_t F_1050 (hdj_b rfl) gV
  have gW_1050 := st_gW_t F_1050 (hdj_b rfl) gW
  have gM_1050 := st_gM_t F_1050 (hdj_b rfl) gM
  have gR_1050 := st_gR_t F_1050 (hdj_b rfl) gR
  have gL_1050 := st_gL_t F_1050 (hdj_b rfl) gL
  have gI_1050 := st_gI_t F_1050 (hdj_b rfl) gI
  have gJ_1050 := st_gJ_t F_1050 (hdj_b rfl) gJ
  have hB_1050 := st_hB_t F_1050 (hdj_b rfl) hB
  have hC_1050 := st_hC_t F_1050 (hdj_b rfl) hC
  have hT_1050 := st_hT_t F_1050 (hdj_b rfl) hT
  have hS_1050 := st_hS_t F_1050 (hdj_b rfl) hS
  have hM_1050 := st_hM_t F_1050 (hdj_b rfl) hM
  have hR_1050 := st_hR_t F_1050 (hdj_b rfl) hR
  have hL_1050 := st_hL_t F_1050 (hdj_b rfl) hL
  have hI_1050 := st_hI_t F_1050 (hdj_b rfl) hI
  refine ik_F_mono (rp_cork1E (f := fun j => ((pl :: 0 :: 0 :: 0 :: (((s : Nat) : Int)) :: 0 :: 0 :: mi :: sd :: 0 :: tn :: fp :: sc0 :: sc1 :: sc2 :: sc3 :: sc4 :: sc5 :: 0 :: 0 :: 0 :: 0 :: 0 :: 0 :: w24 :: 0 :: 0 :: 0 :: 0 :: 0 :: 0 :: 0 :: sb :: wa :: 0 :: 0 :: r :: 0 :: 0 :: 0 :: 0 :: 0 :: 0 :: []) : List Int).getD j 0) (what := what) (v := v) z_what z_v q2 g_1050_66 k_1050) ?_
  rintro v_1051 h_1051 ⟨er_1051, F_1051⟩ <;> subst er_1051
  have k_1051 : cL h_1051 := F_1051.1.trans k_1050
  have g_1051_0 := (hfr_g F_1051 0 rfl).trans g_1050_0
  have g_1051_18 := (hfr_g F_1051 18 rfl).trans g_1050_18
  have g_1051_57 := (hfr_g F_1051 57 rfl).trans g_1050_57
  have g_1051_66 := (hfr_g F_1051 66 rfl).trans g_1050_66
  refine ⟨rfl, ?_⟩
  have gT_1051 := st_gT_t F_1051 (hdj_b rfl) gT_1050
  have gB_1051 := st_gB_t F_1051 (hdj_b rfl) gB_1050
  have gC_1051 := st_gC_t F_1051 (hdj_b rfl) gC_1050
  have gS_1051 := st_gS_t F_1051 (hdj_b rfl) gS_1050
  have gV_1051 := st_gV_t F_1051 (hdj_b rfl) gV_1050
  have gW_1051 := st_gW_t F_1051 (hdj_b rfl) gW_1050
  have gM_1051 := st_gM_t F_1051 (hdj_b rfl) gM_1050
  have gR_1051 := st_gR_t F_1051 (hdj_b rfl) gR_1050
  have gL_1051 := st_gL_t F_1051 (hdj_b rfl) gL_1050
  have gI_1051 := st_gI_t F_1051 (hdj_b rfl) gI_1050
  have gJ_1051 := st_gJ_t F_1051 (hdj_b rfl) gJ_1050
  have hB_1051 := st_hB_t F_1051 (hdj_b rfl) hB_1050
  have hC_1051 := st_hC_t F_1051 (hdj_b rfl) hC_1050
  have hT_1051 := st_hT_t F_1051 (hdj_b rfl) hT_1050
  have hS_1051 := st_hS_t F_1051 (hdj_b rfl) hS_1050
  have hM_1051 := st_hM_t F_1051 (hdj_b rfl) hM_1050
  have hR_1051 := st_hR_t F_1051 (hdj_b rfl) hR_1050
  have hL_1051 := st_hL_t F_1051 (hdj_b rfl) hL_1050
  have hI_1051 := st_hI_t F_1051 (hdj_b rfl) hI_1050
  intro C_ k_
  exact k_ tn fp pl mi sd ka pa fa kb pb fb xa xb r n0 n1 ga0 gm0 gd_0 gs0 g00 g01 g02 g03 g04 g05 gx0 gy0 ga1 gm1 gd_1 gs1 g10 g11 g12 g13 g14 g15 gx1 gy1 s T cn go ch wg wc we rp rt lr ci0 ci1 cnr gor chr T2 im f_pl f_s f_st f_cb f_cr f_rw f_al f_wy f_k f_p f_x (by first | exact st_m f_m | omega) f_sd f_r f_rr f_n f_l0 f_l1 f_tn f_t (st_I_K f_i0) (st_I_K f_i1) ⟨g_1051_0, g_1051_18, g_1051_57⟩ gT_1051 gB_1051 gC_1051 gS_1051 gV_1051 gW_1051 gM_1051 gR_1051 gL_1051 gI_1051 gJ_1051 ⟨sc0, sc1, sc2, sc3, sc4, sc5, w24, sb, wa, g_1051_66⟩ hB_1051 hC_1051 hT_1051 hS_1051 hM_1051 hR_1051 hL_1051 hI_1051 k_1051

set_option maxRecDepth 100000 in
theorem lk_corkE {K : Nat} {h : List ik_E} (E : st_S K h) (hK : K ≤ 600) {side : Int} {what : Int} {v : Int} (z_side : -2147483648 ≤ side ∧ side < 2147483648) (z_what : -2147483648 ≤ what ∧ what < 2147483648) (z_v : -2147483648 ≤ v ∧ v < 2147483648) (n0_ : ¬ side = 0) (n1_ : ¬ side = 1) : ik_F 95 [.ref 0, fI side, fI what, fI v] h (fun rv h_q => ∃ o_ : Int, rv = [fI o_] ∧ (h_q.length = (94 : Nat) ∧ ∃ fs, h_q[66]? = some (.inr (10, fs))) ∧ ik_F 158 [.ref 66, fI side, fI what, fI v] h_q (fun rv' h'' => rv' = [fI o_] ∧ st_S (K + 1) h'')) := by
  refine E _ ?_
  intro tn fp pl mi sd ka pa fa kb pb fb xa xb r n0 n1 ga0 gm0 gd_0 gs0 g00 g01 g02 g03 g04 g05 gx0 gy0 ga1 gm1 gd_1 gs1 g10 g11 g12 g13 g14 g15 gx1 gy1 s T cn go ch wg wc we rp rt lr ci0 ci1 cnr gor chr T2 im f_pl f_s f_st f_cb f_cr f_rw f_al f_wy f_k f_p f_x f_m f_sd f_r f_rr f_n f_l0 f_l1 f_tn f_t f_i0 f_i1 gA gT gB gC gS gV gW gM gR gL gI gJ hO hB hC hT hS hM hR hL hI hl
  replace f_cb := ik_hid_i f_cb
  replace f_cr := ik_hid_i f_cr
  replace f_p := ik_hid_i f_p
  replace f_x := ik_hid_i f_x
  obtain ⟨h0, h18, h57⟩ := gA
  obtain ⟨sc0, sc1, sc2, sc3, sc4, sc5, w24, sb, wa, h66⟩ := hO
  refine ik_F_mono (cp_corkE (side := side) (what := what) (v := v) z_side n0_ n1_ h0 hl) ?_
  rintro v_1052 h_1052 ⟨er_1052, F_1052⟩ <;> subst er_1052
  have k_1052 : cL h_1052 := F_1052.1.trans hl
  have g_1052_0 := (hfr_g F_1052 0 rfl).trans h0
  have g_1052_18 := (hfr_g F_1052 18 rfl).trans h18
  have g_1052_57 := (hfr_g F_1052 57 rfl).trans h57
  have g_1052_66 := (hfr_g F_1052 66 rfl).trans h66
  refine ⟨-1000000001, rfl, ⟨k_1052, _, g_1052_66⟩, ?_⟩
  have gT_1052 := st_gT_t F_1052 (hdj_b rfl) gT
  have gB_1052 := st_gB_t F_1052 (hdj_b rfl) gB
  have gC_1052 := st_gC_t F_1052 (hdj_b rfl) gC
  have gS_1052 := st_gS_t F_1052 (hdj_b rfl) gS
  have gV_1052 := st_gV_t F_1052 (hdj_b rfl) gV
  have gW_1052 := st_gW_t F_1052 (hdj_b rfl) gW
  have gM_1052 := st_gM_t F_1052 (hdj_b rfl) gM
  have gR_1052 := st_gR_t F_1052 (hdj_b rfl) gR
  have gL_1052 := st_gL_t F_1052 (hdj_b rfl) gL
  have gI_1052 := st_gI_t F_1052 (hdj_b rfl) gI
  have gJ_1052 := st_gJ_t F_1052 (hdj_b rfl) gJ
  have hB_1052 := st_hB_t F_1052 (hdj_b rfl) hB
  have hC_1052 := st_hC_t F_1052 (hdj_b rfl) hC
  have hT_1052 := st_hT_t F_1052 (hdj_b rfl) hT
  have hS_1052 := st_hS_t F_1052 (hdj_b rfl) hS
  have hM_1052 := st_hM_t F_1052 (hdj_b rfl) hM
  have hR_1052 := st_hR_t F_1052 (hdj_b rfl) hR
  have hL_1052 := st_hL_t F_1052 (hdj_b rfl) hL
  have hI_1052 := st_hI_t F_1052 (hdj_b rfl) hI
  refine ik_F_mono (rp_corkE (side := side) (what := what) (v := v) (f := fun j => ((pl :: 0 :: 0 :: 0 :: (((s : Nat) : Int)) :: 0 :: 0 :: mi :: sd :: 0 :: tn :: fp :: sc0 :: sc1 :: sc2 :: sc3 :: sc4 :: sc5 :: 0 :: 0 :: 0 :: 0 :: 0 :: 0 :: w24 :: 0 :: 0 :: 0 :: 0 :: 0 :: 0 :: 0 :: sb :: wa :: 0 :: 0 :: r :: 0 :: 0 :: 0 :: 0 :: 0 :: 0 :: []) : List Int).getD j 0) z_side n0_ n1_ g_1052_66 k_1052) ?_
  rintro v_1053 h_1053 ⟨er_1053, F_1053⟩ <;> subst er_1053
  have k_1053 : cL h_1053 := F_1053.1.trans k_1052
  have g_1053_0 := (hfr_g F_1053 0 rfl).trans g_1052_0
  have g_1053_18 := (hfr_g F_1053 18 rfl).trans g_1052_18
  have g_1053_57 := (hfr_g F_1053 57 rfl).trans g_1052_57
  have g_1053_66 := (hfr_g F_1053 66 rfl).trans g_1052_66
  refine ⟨rfl, ?_⟩
  have gT_1053 := st_gT_t F_1053 (hdj_b rfl) gT_1052
  have gB_1053 := st_gB_t F_1053 (hdj_b rfl) gB_1052
  have gC_1053 := st_gC_t F_1053 (hdj_b rfl) gC_1052
  have gS_1053 := st_gS_t F_1053 (hdj_b rfl) gS_1052
  have gV_1053 := st_gV_t F_1053 (hdj_b rfl) gV_1052
  have gW_1053 := st_gW_t F_1053 (hdj_b rfl) gW_1052
  have gM_1053 := st_gM_t F_1053 (hdj_b rfl) gM_1052
  have gR_1053 := st_gR_t F_1053 (hdj_b rfl) gR_1052
  have gL_1053 := st_gL_t F_1053 (hdj_b rfl) gL_1052
  have gI_1053 := st_gI_t F_1053 (hdj_b rfl) gI_1052
  have gJ_1053 := st_gJ_t F_1053 (hdj_b rfl) gJ_1052
  have hB_1053 := st_hB_t F_1053 (hdj_b rfl) hB_1052
  have hC_1053 := st_hC_t F_1053 (hdj_b rfl) hC_1052
  have hT_1053 := st_hT_t F_1053 (hdj_b rfl) hT_1052
  have hS_1053 := st_hS_t F_1053 (hdj_b rfl) hS_1052
  have hM_1053 := st_hM_t F_1053 (hdj_b rfl) hM_1052
  have hR_1053 := st_hR_t F_1053 (hdj_b rfl) hR_1052
  have hL_1053 := st_hL_t F_1053 (hdj_b rfl) hL_1052
  have hI_1053 := st_hI_t F_1053 (hdj_b rfl) hI_1052
  intro C_ k_
  exact k_ tn fp pl mi sd ka pa fa kb pb fb xa xb r n0 n1 ga0 gm0 gd_0 gs0 g00 g01 g02 g03 g04 g05 gx0 gy0 ga1 gm1 gd_1 gs1 g10 g11 g12 g13 g14 g15 gx1 gy1 s T cn go ch wg wc we rp rt lr ci0 ci1 cnr gor chr T2 im f_pl f_s f_st f_cb f_cr f_rw f_al f_wy f_k f_p f_x (by first | exact st_m f_m | omega) f_sd f_r f_rr f_n f_l0 f_l1 f_tn f_t (st_I_K f_i0) (st_I_K f_i1) ⟨g_1053_0, g_1053_18, g_1053_57⟩ gT_1053 gB_1053 gC_1053 gS_1053 gV_1053 gW_1053 gM_1053 gR_1053 gL_1053 gI_1053 gJ_1053 ⟨sc0, sc1, sc2, sc3, sc4, sc5, w24, sb, wa, g_1053_66⟩ hB_1053 hC_1053 hT_1053 hS_1053 hM_1053 hR_1053 hL_1053 hI_1053 k_1053

end