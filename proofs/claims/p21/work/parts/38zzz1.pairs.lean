noncomputable section
set_option maxRecDepth 100000 in
theorem lk_feed {K : Nat} {h : List ik_E} (E : st_S K h) (hK : K ≤ 600) {n : Int} {b : Int} (z_n : -2147483648 ≤ n ∧ n < 2147483648)  : ik_F 90 [.ref 0, fI n, fJ b] h (fun rv h' => ∃ o_ : Int, rv = [fI o_] ∧ (h'.length = 94 ∧ ∃ fs, h'[66]? = some (.inr (10, fs))) ∧ ik_F 135 [.ref 66, fI n, fJ b] h' (fun rv' h'' => rv' = [fI o_] ∧ st_S (K + 1) h'')) := by
  refine E _ ?_
  intro tn fp pl mi sd ka pa fa kb pb fb xa xb r n0 n1 ga0 gm0 gd_0 gs0 g00 g01 g02 g03 g04 g05 gx0 gy0 ga1 gm1 gd_1 gs1 g10 g11 g12 g13 g14 g15 gx1 gy1 s T cn go ch wg wc we rp rt lr ci0 ci1 cnr gor chr T2 im f_pl f_s f_st f_cb f_cr f_rw f_al f_wy f_k f_p f_x f_m f_sd f_r f_rr f_n f_l0 f_l1 f_tn f_t f_i0 f_i1 gA gT gB gC gS gV gW gM gR gL gI gJ hO hB hC hT hS hM hR hL hI hl
  obtain ⟨h0, h18, h57⟩ := gA
  obtain ⟨cu, fl, rpl, C, G, P, B, h1, h2, n2, h3, n3, h4, n4, h5, n5, h6, n6⟩ := gT
  obtain ⟨sc0, sc1, sc2, sc3, sc4, sc5, w24, sb, wa, h66⟩ := hO
  obtain ⟨h67, n67, h68, n68, h69, n69⟩ := hB
  obtain ⟨h70, h71⟩ := hC
  obtain ⟨M, R, O, Ax, h72, n72, h73, n73, h74, n74, h75, n75, h76, n76⟩ := hT
  refine ik_F_mono (cp_feed (tn := tn) (cu := cu) (fl := fl) (fp := fp) (rpl := rpl) (T := T) (C := C) (G := G) (P := P) (B := B) (n := n) (b := b) f_tn z_n h0 h1 h2 n2 h3 n3 h4 n4 h5 n5 h6 n6 hl) ?_
  rintro _ h_1002 (⟨rfl, e_1002_1, e_1002_2, m_1002_2, e_1002_3, m_1002_3, e_1002_4, m_1002_4, e_1002_5, m_1002_5, e_1002_6, m_1002_6, p_1002_0, F_1002⟩ | ⟨rfl, e_1002_1, e_1002_2, m_1002_2, e_1002_3, m_1002_3, e_1002_4, m_1002_4, e_1002_5, m_1002_5, e_1002_6, m_1002_6, p_1002_0, F_1002⟩)
  · have k_1002 := F_1002.1.trans hl
    have g_1002_0 := (F_1002.2 0 (by decide +kernel)).trans h0
    have g_1002_18 := (F_1002.2 18 (by decide +kernel)).trans h18
    have g_1002_57 := (F_1002.2 57 (by decide +kernel)).trans h57
    have g_1002_66 := (F_1002.2 66 (by decide +kernel)).trans h66
    have g_1002_67 := (F_1002.2 67 (by decide +kernel)).trans h67
    have g_1002_68 := (F_1002.2 68 (by decide +kernel)).trans h68
    have g_1002_69 := (F_1002.2 69 (by decide +kernel)).trans h69
    have g_1002_70 := (F_1002.2 70 (by decide +kernel)).trans h70
    have g_1002_71 := (F_1002.2 71 (by decide +kernel)).trans h71
    have g_1002_72 := (F_1002.2 72 (by decide +kernel)).trans h72
    have g_1002_73 := (F_1002.2 73 (by decide +kernel)).trans h73
    have g_1002_74 := (F_1002.2 74 (by decide +kernel)).trans h74
    have g_1002_75 := (F_1002.2 75 (by decide +kernel)).trans h75
    have g_1002_76 := (F_1002.2 76 (by decide +kernel)).trans h76
    have g_1002_1 : cE h_1002 1 (.inr (6, [.ref 2, fI (tn + n), fI cu, fI fl, fI fp, fI rpl, .ref 3, .ref 4, .ref 5, .ref 6])) := e_1002_1
    have g_1002_2 : cE h_1002 2 (.inl (.byte, fA (fd_w (fd_c (Int64.ofInt b)) n.toNat tn T))) := e_1002_2
    have g_1002_3 : cE h_1002 3 (.inl (.int, fA C)) := e_1002_3
    have g_1002_4 : cE h_1002 4 (.inl (.int, fA G)) := e_1002_4
    have g_1002_5 : cE h_1002 5 (.inl (.int, fA P)) := e_1002_5
    have g_1002_6 : cE h_1002 6 (.inl (.int, fA B)) := e_1002_6
    refine ⟨tn + n, rfl, ⟨k_1002, _, g_1002_66⟩, ?_⟩
    have gB_1002 := st_gB_t F_1002 (by decide +kernel) gB
    have gC_1002 := st_gC_t F_1002 (by decide +kernel) gC
    have gS_1002 := st_gS_t F_1002 (by decide +kernel) gS
    have gV_1002 := st_gV_t F_1002 (by decide +kernel) gV
    have gW_1002 := st_gW_t F_1002 (by decide +kernel) gW
    have gM_1002 := st_gM_t F_1002 (by decide +kernel) gM
    have gR_1002 := st_gR_t F_1002 (by decide +kernel) gR
    have gL_1002 := st_gL_t F_1002 (by decide +kernel) gL
    have gI_1002 := st_gI_t F_1002 (by decide +kernel) gI
    have gJ_1002 := st_gJ_t F_1002 (by decide +kernel) gJ
    have hS_1002 := st_hS_t F_1002 (by decide +kernel) hS
    have hM_1002 := st_hM_t F_1002 (by decide +kernel) hM
    have hR_1002 := st_hR_t F_1002 (by decide +kernel) hR
    have hL_1002 := st_hL_t F_1002 (by decide +kernel) hL
    have hI_1002 := st_hI_t F_1002 (by decide +kernel) hI
    refine ik_F_mono (rp_feed (f := fun j => ([pl, 0, 0, 0, ((s : Nat) : Int), 0, 0, mi, sd, 0, 0, 0, 0, 0, 0, 0, 0, 0, 0, 0, 0, 0, 0, 0, w24, 0, 0, 0, 0, 0, 0, 0, sb, wa, 0, 0, r, 0, 0, 0, 0, 0, 0] : List Int).getD j 0) (tn := tn) (fp := fp) (a0 := sc0) (sd := sc1) (we := sc2) (nu := sc3) (na := sc4) (rp := sc5) (ka := ka) (pa := pa) (fa := fa) (kb := kb) (pb := pb) (fb := fb) (xa := xa) (xb := xb) (cn := cnr) (go := gor) (ch := chr) (T := T2) (M := M) (R := R) (O := O) (A := Ax) (n := n) (b := b) f_tn z_n g_1002_66 g_1002_67 n67 g_1002_68 n68 g_1002_69 n69 g_1002_70 g_1002_71 g_1002_72 n72 g_1002_73 n73 g_1002_74 n74 g_1002_75 n75 g_1002_76 n76 k_1002) ?_
    rintro _ h_1003 (⟨rfl, e_1003_66, e_1003_72, m_1003_72, e_1003_73, m_1003_73, e_1003_74, m_1003_74, e_1003_75, m_1003_75, e_1003_76, m_1003_76, p_1003_0, F_1003⟩ | ⟨rfl, e_1003_66, e_1003_72, m_1003_72, e_1003_73, m_1003_73, e_1003_74, m_1003_74, e_1003_75, m_1003_75, e_1003_76, m_1003_76, p_1003_0, F_1003⟩)
    · have k_1003 := F_1003.1.trans k_1002
      have g_1003_0 := (F_1003.2 0 (by decide +kernel)).trans g_1002_0
      have g_1003_1 := (F_1003.2 1 (by decide +kernel)).trans g_1002_1
      have g_1003_2 := (F_1003.2 2 (by decide +kernel)).trans g_1002_2
      have g_1003_3 := (F_1003.2 3 (by decide +kernel)).trans g_1002_3
      have g_1003_4 := (F_1003.2 4 (by decide +kernel)).trans g_1002_4
      have g_1003_5 := (F_1003.2 5 (by decide +kernel)).trans g_1002_5
      have g_1003_6 := (F_1003.2 6 (by decide +kernel)).trans g_1002_6
      have g_1003_18 := (F_1003.2 18 (by decide +kernel)).trans g_1002_18
      have g_1003_57 := (F_1003.2 57 (by decide +kernel)).trans g_1002_57
      have g_1003_67 := (F_1003.2 67 (by decide +kernel)).trans g_1002_67
      have g_1003_68 := (F_1003.2 68 (by decide +kernel)).trans g_1002_68
      have g_1003_69 := (F_1003.2 69 (by decide +kernel)).trans g_1002_69
      have g_1003_70 := (F_1003.2 70 (by decide +kernel)).trans g_1002_70
      have g_1003_71 := (F_1003.2 71 (by decide +kernel)).trans g_1002_71
      have g_1003_66 : cE h_1003 66 (.inr (10, [fI pl, .ref 67, .ref 68, .ref 69, fI ((s : Nat) : Int), .ref 70, .ref 71, fI mi, fI sd, .ref 72, fI (tn + n), fI fp, fI sc0, fJ sc1, fI sc2, fI sc3, fI sc4, fI sc5, .ref 73, .ref 74, .ref 75, .ref 76, .ref 77, .ref 78, fI w24, .ref 79, .ref 80, .ref 81, .ref 82, .ref 83, .ref 84, .ref 85, fJ sb, fJ wa, .ref 86, .ref 87, fI r, .ref 88, .ref 89, .ref 90, .ref 91, .ref 92, .ref 93])) := e_1003_66
      have g_1003_72 : cE h_1003 72 (.inl (.int, fA (fd_w (fd_r (Int64.ofInt b)) n.toNat tn T2))) := e_1003_72
      have g_1003_73 : cE h_1003 73 (.inl (.int, fA M)) := e_1003_73
      have g_1003_74 : cE h_1003 74 (.inl (.int, fA R)) := e_1003_74
      have g_1003_75 : cE h_1003 75 (.inl (.int, fA O)) := e_1003_75
      have g_1003_76 : cE h_1003 76 (.inl (.int, fA Ax)) := e_1003_76
      refine ⟨rfl, ?_⟩
      have gB_1003 := st_gB_t F_1003 (by decide +kernel) gB_1002
      have gC_1003 := st_gC_t F_1003 (by decide +kernel) gC_1002
      have gS_1003 := st_gS_t F_1003 (by decide +kernel) gS_1002
      have gV_1003 := st_gV_t F_1003 (by decide +kernel) gV_1002
      have gW_1003 := st_gW_t F_1003 (by decide +kernel) gW_1002
      have gM_1003 := st_gM_t F_1003 (by decide +kernel) gM_1002
      have gR_1003 := st_gR_t F_1003 (by decide +kernel) gR_1002
      have gL_1003 := st_gL_t F_1003 (by decide +kernel) gL_1002
      have gI_1003 := st_gI_t F_1003 (by decide +kernel) gI_1002
      have gJ_1003 := st_gJ_t F_1003 (by decide +kernel) gJ_1002
      have hS_1003 := st_hS_t F_1003 (by decide +kernel) hS_1002
      have hM_1003 := st_hM_t F_1003 (by decide +kernel) hM_1002
      have hR_1003 := st_hR_t F_1003 (by decide +kernel) hR_1002
      have hL_1003 := st_hL_t F_1003 (by decide +kernel) hL_1002
      have hI_1003 := st_hI_t F_1003 (by decide +kernel) hI_1002
      intro C_ k_
      exact k_ (tn + n) fp pl mi sd ka pa fa kb pb fb xa xb r n0 n1 ga0 gm0 gd_0 gs0 g00 g01 g02 g03 g04 g05 gx0 gy0 ga1 gm1 gd_1 gs1 g10 g11 g12 g13 g14 g15 gx1 gy1 s (fd_w (fd_c (Int64.ofInt b)) n.toNat tn T) cn go ch wg wc we rp rt lr ci0 ci1 cnr gor chr (fd_w (fd_r (Int64.ofInt b)) n.toNat tn T2) im f_pl f_s f_st f_cb f_cr f_rw f_al f_wy f_k f_p f_x (by omega) f_sd f_r f_rr f_n f_l0 f_l1 (by omega) (fun i i0 i1 => by rw [fd_wg n.toNat tn T i.toNat (by omega) (by omega), fd_wg n.toNat tn T2 i.toNat (by omega) (by omega)]; by_cases q : tn ≤ (i.toNat : Int) ∧ (i.toNat : Int) < tn + (n.toNat : Int); { rw [if_pos q, if_pos q]; have c := fd_cr (Int64.ofInt b) (tn + (n.toNat : Int) - 1 - (i.toNat : Int)); exact ⟨⟨c.1, c.2.1⟩, c.2.2.symm⟩ }; { rw [if_neg q, if_neg q]; exact f_t i i0 (by omega) }) (st_I_K f_i0) (st_I_K f_i1) ⟨g_1003_0, g_1003_18, g_1003_57⟩ ⟨cu, fl, rpl, C, G, P, B, g_1003_1, g_1003_2, m_1002_2, g_1003_3, m_1002_3, g_1003_4, m_1002_4, g_1003_5, m_1002_5, g_1003_6, m_1002_6⟩ gB_1003 gC_1003 gS_1003 gV_1003 gW_1003 gM_1003 gR_1003 gL_1003 gI_1003 gJ_1003 ⟨sc0, sc1, sc2, sc3, sc4, sc5, w24, sb, wa, g_1003_66⟩ ⟨g_1003_67, n67, g_1003_68, n68, g_1003_69, n69⟩ ⟨g_1003_70, g_1003_71⟩ ⟨M, R, O, Ax, g_1003_72, m_1003_72, g_1003_73, m_1003_73, g_1003_74, m_1003_74, g_1003_75, m_1003_75, g_1003_76, m_1003_76⟩ hS_1003 hM_1003 hR_1003 hL_1003 hI_1003 k_1003
    · have k_1003 := F_1003.1.trans k_1002
      have g_1003_0 := (F_1003.2 0 (by decide +kernel)).trans g_1002_0
      have g_1003_1 := (F_1003.2 1 (by decide +kernel)).trans g_1002_1
      have g_1003_2 := (F_1003.2 2 (by decide +kernel)).trans g_1002_2
      have g_1003_3 := (F_1003.2 3 (by decide +kernel)).trans g_1002_3
      have g_1003_4 := (F_1003.2 4 (by decide +kernel)).trans g_1002_4
      have g_1003_5 := (F_1003.2 5 (by decide +kernel)).trans g_1002_5
      have g_1003_6 := (F_1003.2 6 (by decide +kernel)).trans g_1002_6
      have g_1003_18 := (F_1003.2 18 (by decide +kernel)).trans g_1002_18
      have g_1003_57 := (F_1003.2 57 (by decide +kernel)).trans g_1002_57
      have g_1003_67 := (F_1003.2 67 (by decide +kernel)).trans g_1002_67
      have g_1003_68 := (F_1003.2 68 (by decide +kernel)).trans g_1002_68
      have g_1003_69 := (F_1003.2 69 (by decide +kernel)).trans g_1002_69
      have g_1003_70 := (F_1003.2 70 (by decide +kernel)).trans g_1002_70
      have g_1003_71 := (F_1003.2 71 (by decide +kernel)).trans g_1002_71
      have g_1003_66 : cE h_1003 66 (.inr (10, [fI pl, .ref 67, .ref 68, .ref 69, fI ((s : Nat) : Int), .ref 70, .ref 71, fI mi, fI sd, .ref 72, fI tn, fI fp, fI sc0, fJ sc1, fI sc2, fI sc3, fI sc4, fI sc5, .ref 73, .ref 74, .ref 75, .ref 76, .ref 77, .ref 78, fI w24, .ref 79, .ref 80, .ref 81, .ref 82, .ref 83, .ref 84, .ref 85, fJ sb, fJ wa, .ref 86, .ref 87, fI r, .ref 88, .ref 89, .ref 90, .ref 91, .ref 92, .ref 93])) := e_1003_66
      have g_1003_72 : cE h_1003 72 (.inl (.int, fA T2)) := e_1003_72
      have g_1003_73 : cE h_1003 73 (.inl (.int, fA M)) := e_1003_73
      have g_1003_74 : cE h_1003 74 (.inl (.int, fA R)) := e_1003_74
      have g_1003_75 : cE h_1003 75 (.inl (.int, fA O)) := e_1003_75
      have g_1003_76 : cE h_1003 76 (.inl (.int, fA Ax)) := e_1003_76
      exact absurd p_1002_0 p_1003_0
  · have k_1002 := F_1002.1.trans hl
    have g_1002_0 := (F_1002.2 0 (by decide +kernel)).trans h0
    have g_1002_18 := (F_1002.2 18 (by decide +kernel)).trans h18
    have g_1002_57 := (F_1002.2 57 (by decide +kernel)).trans h57
    have g_1002_66 := (F_1002.2 66 (by decide +kernel)).trans h66
    have g_1002_67 := (F_1002.2 67 (by decide +kernel)).trans h67
    have g_1002_68 := (F_1002.2 68 (by decide +kernel)).trans h68
    have g_1002_69 := (F_1002.2 69 (by decide +kernel)).trans h69
    have g_1002_70 := (F_1002.2 70 (by decide +kernel)).trans h70
    have g_1002_71 := (F_1002.2 71 (by decide +kernel)).trans h71
    have g_1002_72 := (F_1002.2 72 (by decide +kernel)).trans h72
    have g_1002_73 := (F_1002.2 73 (by decide +kernel)).trans h73
    have g_1002_74 := (F_1002.2 74 (by decide +kernel)).trans h74
    have g_1002_75 := (F_1002.2 75 (by decide +kernel)).trans h75
    have g_1002_76 := (F_1002.2 76 (by decide +kernel)).trans h76
    have g_1002_1 : cE h_1002 1 (.inr (6, [.ref 2, fI tn, fI cu, fI fl, fI fp, fI rpl, .ref 3, .ref 4, .ref 5, .ref 6])) := e_1002_1
    have g_1002_2 : cE h_1002 2 (.inl (.byte, fA T)) := e_1002_2
    have g_1002_3 : cE h_1002 3 (.inl (.int, fA C)) := e_1002_3
    have g_1002_4 : cE h_1002 4 (.inl (.int, fA G)) := e_1002_4
    have g_1002_5 : cE h_1002 5 (.inl (.int, fA P)) := e_1002_5
    have g_1002_6 : cE h_1002 6 (.inl (.int, fA B)) := e_1002_6
    refine ⟨if 1 ≤ n ∧ n ≤ 8 then -1000000004 else -1000000002, rfl, ⟨k_1002, _, g_1002_66⟩, ?_⟩
    have gB_1002 := st_gB_t F_1002 (by decide +kernel) gB
    have gC_1002 := st_gC_t F_1002 (by decide +kernel) gC
    have gS_1002 := st_gS_t F_1002 (by decide +kernel) gS
    have gV_1002 := st_gV_t F_1002 (by decide +kernel) gV
    have gW_1002 := st_gW_t F_1002 (by decide +kernel) gW
    have gM_1002 := st_gM_t F_1002 (by decide +kernel) gM
    have gR_1002 := st_gR_t F_1002 (by decide +kernel) gR
    have gL_1002 := st_gL_t F_1002 (by decide +kernel) gL
    have gI_1002 := st_gI_t F_1002 (by decide +kernel) gI
    have gJ_1002 := st_gJ_t F_1002 (by decide +kernel) gJ
    have hS_1002 := st_hS_t F_1002 (by decide +kernel) hS
    have hM_1002 := st_hM_t F_1002 (by decide +kernel) hM
    have hR_1002 := st_hR_t F_1002 (by decide +kernel) hR
    have hL_1002 := st_hL_t F_1002 (by decide +kernel) hL
    have hI_1002 := st_hI_t F_1002 (by decide +kernel) hI
    refine ik_F_mono (rp_feed (f := fun j => ([pl, 0, 0, 0, ((s : Nat) : Int), 0, 0, mi, sd, 0, 0, 0, 0, 0, 0, 0, 0, 0, 0, 0, 0, 0, 0, 0, w24, 0, 0, 0, 0, 0, 0, 0, sb, wa, 0, 0, r, 0, 0, 0, 0, 0, 0] : List Int).getD j 0) (tn := tn) (fp := fp) (a0 := sc0) (sd := sc1) (we := sc2) (nu := sc3) (na := sc4) (rp := sc5) (ka := ka) (pa := pa) (fa := fa) (kb := kb) (pb := pb) (fb := fb) (xa := xa) (xb := xb) (cn := cnr) (go := gor) (ch := chr) (T := T2) (M := M) (R := R) (O := O) (A := Ax) (n := n) (b := b) f_tn z_n g_1002_66 g_1002_67 n67 g_1002_68 n68 g_1002_69 n69 g_1002_70 g_1002_71 g_1002_72 n72 g_1002_73 n73 g_1002_74 n74 g_1002_75 n75 g_1002_76 n76 k_1002) ?_
    rintro _ h_1004 (⟨rfl, e_1004_66, e_1004_72, m_1004_72, e_1004_73, m_1004_73, e_1004_74, m_1004_74, e_1004_75, m_1004_75, e_1004_76, m_1004_76, p_1004_0, F_1004⟩ | ⟨rfl, e_1004_66, e_1004_72, m_1004_72, e_1004_73, m_1004_73, e_1004_74, m_1004_74, e_1004_75, m_1004_75, e_1004_76, m_1004_76, p_1004_0, F_1004⟩)
    · have k_1004 := F_1004.1.trans k_1002
      have g_1004_0 := (F_1004.2 0 (by decide +kernel)).trans g_1002_0
      have g_1004_1 := (F_1004.2 1 (by decide +kernel)).trans g_1002_1
      have g_1004_2 := (F_1004.2 2 (by decide +kernel)).trans g_1002_2
      have g_1004_3 := (F_1004.2 3 (by decide +kernel)).trans g_1002_3
      have g_1004_4 := (F_1004.2 4 (by decide +kernel)).trans g_1002_4
      have g_1004_5 := (F_1004.2 5 (by decide +kernel)).trans g_1002_5
      have g_1004_6 := (F_1004.2 6 (by decide +kernel)).trans g_1002_6
      have g_1004_18 := (F_1004.2 18 (by decide +kernel)).trans g_1002_18
      have g_1004_57 := (F_1004.2 57 (by decide +kernel)).trans g_1002_57
      have g_1004_67 := (F_1004.2 67 (by decide +kernel)).trans g_1002_67
      have g_1004_68 := (F_1004.2 68 (by decide +kernel)).trans g_1002_68
      have g_1004_69 := (F_1004.2 69 (by decide +kernel)).trans g_1002_69
      have g_1004_70 := (F_1004.2 70 (by decide +kernel)).trans g_1002_70
      have g_1004_71 := (F_1004.2 71 (by decide +kernel)).trans g_1002_71
      have g_1004_66 : cE h_1004 66 (.inr (10, [fI pl, .ref 67, .ref 68, .ref 69, fI ((s : Nat) : Int), .ref 70, .ref 71, fI mi, fI sd, .ref 72, fI (tn + n), fI fp, fI sc0, fJ sc1, fI sc2, fI sc3, fI sc4, fI sc5, .ref 73, .ref 74, .ref 75, .ref 76, .ref 77, .ref 78, fI w24, .ref 79, .ref 80, .ref 81, .ref 82, .ref 83, .ref 84, .ref 85, fJ sb, fJ wa, .ref 86, .ref 87, fI r, .ref 88, .ref 89, .ref 90, .ref 91, .ref 92, .ref 93])) := e_1004_66
      have g_1004_72 : cE h_1004 72 (.inl (.int, fA (fd_w (fd_r (Int64.ofInt b)) n.toNat tn T2))) := e_1004_72
      have g_1004_73 : cE h_1004 73 (.inl (.int, fA M)) := e_1004_73
      have g_1004_74 : cE h_1004 74 (.inl (.int, fA R)) := e_1004_74
      have g_1004_75 : cE h_1004 75 (.inl (.int, fA O)) := e_1004_75
      have g_1004_76 : cE h_1004 76 (.inl (.int, fA Ax)) := e_1004_76
      exact absurd p_1004_0 p_1002_0
    · have k_1004 := F_1004.1.trans k_1002
      have g_1004_0 := (F_1004.2 0 (by decide +kernel)).trans g_1002_0
      have g_1004_1 := (F_1004.2 1 (by decide +kernel)).trans g_1002_1
      have g_1004_2 := (F_1004.2 2 (by decide +kernel)).trans g_1002_2
      have g_1004_3 := (F_1004.2 3 (by decide +kernel)).trans g_1002_3
      have g_1004_4 := (F_1004.2 4 (by decide +kernel)).trans g_1002_4
      have g_1004_5 := (F_1004.2 5 (by decide +kernel)).trans g_1002_5
      have g_1004_6 := (F_1004.2 6 (by decide +kernel)).trans g_1002_6
      have g_1004_18 := (F_1004.2 18 (by decide +kernel)).trans g_1002_18
      have g_1004_57 := (F_1004.2 57 (by decide +kernel)).trans g_1002_57
      have g_1004_67 := (F_1004.2 67 (by decide +kernel)).trans g_1002_67
      have g_1004_68 := (F_1004.2 68 (by decide +kernel)).trans g_1002_68
      have g_1004_69 := (F_1004.2 69 (by decide +kernel)).trans g_1002_69
      have g_1004_70 := (F_1004.2 70 (by decide +kernel)).trans g_1002_70
      have g_1004_71 := (F_1004.2 71 (by decide +kernel)).trans g_1002_71
      have g_1004_66 : cE h_1004 66 (.inr (10, [fI pl, .ref 67, .ref 68, .ref 69, fI ((s : Nat) : Int), .ref 70, .ref 71, fI mi, fI sd, .ref 72, fI tn, fI fp, fI sc0, fJ sc1, fI sc2, fI sc3, fI sc4, fI sc5, .ref 73, .ref 74, .ref 75, .ref 76, .ref 77, .ref 78, fI w24, .ref 79, .ref 80, .ref 81, .ref 82, .ref 83, .ref 84, .ref 85, fJ sb, fJ wa, .ref 86, .ref 87, fI r, .ref 88, .ref 89, .ref 90, .ref 91, .ref 92, .ref 93])) := e_1004_66
      have g_1004_72 : cE h_1004 72 (.inl (.int, fA T2)) := e_1004_72
      have g_1004_73 : cE h_1004 73 (.inl (.int, fA M)) := e_1004_73
      have g_1004_74 : cE h_1004 74 (.inl (.int, fA R)) := e_1004_74
      have g_1004_75 : cE h_1004 75 (.inl (.int, fA O)) := e_1004_75
      have g_1004_76 : cE h_1004 76 (.inl (.int, fA Ax)) := e_1004_76
      refine ⟨rfl, ?_⟩
      have gB_1004 := st_gB_t F_1004 (by decide +kernel) gB_1002
      have gC_1004 := st_gC_t F_1004 (by decide +kernel) gC_1002
      have gS_1004 := st_gS_t F_1004 (by decide +kernel) gS_1002
      have gV_1004 := st_gV_t F_1004 (by decide +kernel) gV_1002
      have gW_1004 := st_gW_t F_1004 (by decide +kernel) gW_1002
      have gM_1004 := st_gM_t F_1004 (by decide +kernel) gM_1002
      have gR_1004 := st_gR_t F_1004 (by decide +kernel) gR_1002
      have gL_1004 := st_gL_t F_1004 (by decide +kernel) gL_1002
      have gI_1004 := st_gI_t F_1004 (by decide +kernel) gI_1002
      have gJ_1004 := st_gJ_t F_1004 (by decide +kernel) gJ_1002
      have hS_1004 := st_hS_t F_1004 (by decide +kernel) hS_1002
      have hM_1004 := st_hM_t F_1004 (by decide +kernel) hM_1002
      have hR_1004 := st_hR_t F_1004 (by decide +kernel) hR_1002
      have hL_1004 := st_hL_t F_1004 (by decide +kernel) hL_1002
      have hI_1004 := st_hI_t F_1004 (by decide +kernel) hI_1002
      intro C_ k_
      exact k_ tn fp pl mi sd ka pa fa kb pb fb xa xb r n0 n1 ga0 gm0 gd_0 gs0 g00 g01 g02 g03 g04 g05 gx0 gy0 ga1 gm1 gd_1 gs1 g10 g11 g12 g13 g14 g15 gx1 gy1 s T cn go ch wg wc we rp rt lr ci0 ci1 cnr gor chr T2 im f_pl f_s f_st f_cb f_cr f_rw f_al f_wy f_k f_p f_x (by omega) f_sd f_r f_rr f_n f_l0 f_l1 f_tn f_t (st_I_K f_i0) (st_I_K f_i1) ⟨g_1004_0, g_1004_18, g_1004_57⟩ ⟨cu, fl, rpl, C, G, P, B, g_1004_1, g_1004_2, m_1002_2, g_1004_3, m_1002_3, g_1004_4, m_1002_4, g_1004_5, m_1002_5, g_1004_6, m_1002_6⟩ gB_1004 gC_1004 gS_1004 gV_1004 gW_1004 gM_1004 gR_1004 gL_1004 gI_1004 gJ_1004 ⟨sc0, sc1, sc2, sc3, sc4, sc5, w24, sb, wa, g_1004_66⟩ ⟨g_1004_67, n67, g_1004_68, n68, g_1004_69, n69⟩ ⟨g_1004_70, g_1004_71⟩ ⟨M, R, O, Ax, g_1004_72, m_1004_72, g_1004_73, m_1004_73, g_1004_74, m_1004_74, g_1004_75, m_1004_75, g_1004_76, m_1004_76⟩ hS_1004 hM_1004 hR_1004 hL_1004 hI_1004 k_1004
end
