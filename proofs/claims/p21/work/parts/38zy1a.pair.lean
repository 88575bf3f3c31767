noncomputable section
theorem cs_fears1 {h : List ik_E} {pl : Int} {lo : Int} {s : Nat} {ka : Int} {pa : Int} {fa : Int} {kb : Int} {pb : Int} {fb : Int} {bo : Int} {la : Int} {lb : Int} {p : Int} {wg : List Int} {wc : List Int} {we : List Int} {fe : List Int} {W : Int → List (Int × Int)} (q0 : 2 ≤ pl ∧ pl ≤ 12) (q1 : 0 ≤ ka ∧ ka ≤ 2 ∧ 0 ≤ kb ∧ kb ≤ 2) (q2 : 0 ≤ p ∧ p + 1 < pl) (q3 : ∀ x : Int, 0 ≤ x → x < pl - 1 → mx_wy wg wc we x (W x)) (q4 : ∀ x : Int, 0 ≤ x → x < pl - 1 → mx_ok pl (W x)) (q5 : ∀ i : Int, 0 ≤ i → i < 9 → 0 ≤ fe.getD i.toNat 0 ∧ fe.getD i.toNat 0 ≤ 1000) (h7 : cE h 7 (.inr (0, [fI pl, fI ((s : Nat) : Int), fI lo, .ref 8, .ref 9, .ref 10, .ref 11, .ref 12, .ref 13]))) (h11 : cE h 11 (.inl (.int, fA wg))) (n11 : wg.length = 60) (h12 : cE h 12 (.inl (.int, fA wc))) (n12 : wc.length = 60) (h13 : cE h 13 (.inl (.int, fA we))) (n13 : we.length = 12) (h15 : cE h 15 (.inl (.int, fA [ka, pa, fa, kb, pb, fb]))) (h17 : cE h 17 (.inr (8, [.ref 7, .ref 15, .ref 18, .ref 19, fJ bo, .ref 20]))) (h18 : cE h 18 (.inl (.object "SlowerCork$Course", [.ref 21, .ref 25, .ref 29, .ref 33, .ref 37, .ref 41]))) (h19 : cE h 19 (.inl (.long, fL [la, lb]))) (h21 : mf_cr h 21 ) (h25 : mf_cr h 25 ) (h29 : mf_cr h 29 ) (h33 : mf_cr h 33 ) (h37 : mf_cr h 37 ) (h41 : mf_cr h 41 ) (h46 : cE h 46 (.inl (.int, fA fe))) (n46 : fe.length = 9) (hl : h.length = 94) : ik_F 84 [.ref 17, fI p, fI 1, .ref 46] h (fun rv h' => ∃ (l0 : Int) (l1 : Int) (l2 : Int) (fe' : List Int), rv = [] ∧ cE h' 17 (.inr (8, [.ref 7, .ref 15, .ref 18, .ref 19, fJ l2, .ref 20])) ∧ cE h' 19 (.inl (.long, fL [l0, l1])) ∧ mf_cr h' 21  ∧ mf_cr h' 25  ∧ mf_cr h' 29  ∧ mf_cr h' 33  ∧ mf_cr h' 37  ∧ mf_cr h' 41  ∧ cE h' 46 (.inl (.int, fA fe')) ∧ fe'.length = 9 ∧ (∀ i : Int, 0 ≤ i → i < 9 → 0 ≤ fe'.getD i.toNat 0 ∧ fe'.getD i.toNat 0 ≤ 1000) ∧ hfr [17, 19, 46, 21, 22, 23, 24, 25, 26, 27, 28, 29, 30, 31, 32, 33, 34, 35, 36, 37, 38, 39, 40, 41, 42, 43, 44] h h') := by
  have qfe0 := q5
  refine ik_Wk 4 (pc' := 6) (loc' := [some (.ref 17), some (fI p), some (fI 1), some (.ref 46), some (fI 0), none]) (st' := [fI 1, fI 0]) (h' := h) (cl' := 0) (sl' := 0) rfl ?_
  refine fw_ic_ge rfl rfl (by omega) (by omega) (by omega) (by omega) (fun hc1 => absurd hc1 (by omega)) (fun hc1 => ?_)
  refine ik_Wk 1 (pc' := 10) (loc' := [some (.ref 17), some (fI p), some (fI 1), some (.ref 46), some (fI 0), none]) (st' := [.ref 17]) (h' := h) (cl' := 0) (sl' := 0) rfl ?_
  refine fw_gf rfl rfl h17 rfl ?_
  refine ik_Wk 1 (pc' := 15) (loc' := [some (.ref 17), some (fI p), some (fI 1), some (.ref 46), some (fI 0), none]) (st' := [fI 0, .ref 18]) (h' := h) (cl' := 0) (sl' := 0) rfl ?_
  refine fx_aal (z := 0) rfl h18 (by decide) (by decide) rfl ?_
  refine ik_Wk 1 (pc' := 17) (loc' := [some (.ref 17), some (fI p), some (fI 1), some (.ref 46), some (fI 0), none]) (st' := [.ref 17, .ref 21]) (h' := h) (cl' := 0) (sl' := 0) rfl ?_
  refine fw_gf rfl rfl h17 rfl ?_
  refine ik_Wk 1 (pc' := 21) (loc' := [some (.ref 17), some (fI p), some (fI 1), some (.ref 46), some (fI 0), none]) (st' := [fI 0, .ref 15, .ref 21]) (h' := h) (cl' := 0) (sl' := 0) rfl ?_
  refine fw_ial (z := 0) rfl h15 (by decide) (Nat.le_of_ble_eq_true rfl) (by decide) ?_
  refine ik_Wk 0 (pc' := 22) (loc' := [some (.ref 17), some (fI p), some (fI 1), some (.ref 46), some (fI 0), none]) (st' := [fI ka, .ref 21]) (h' := h) (cl' := 0) (sl' := 0) rfl ?_
  refine ik_Wk 2 (pc' := 25) (loc' := [some (.ref 17), some (fI p), some (fI 1), some (.ref 46), some (fI 0), none]) (st' := [fI 0, fI p, fI ka, .ref 21]) (h' := h) (cl' := 0) (sl' := 0) rfl ?_
  refine fw_add rfl ?_
  refine fw_call 30 3 0 [.ref 21, fI ka, fI (p + 0)] [] rfl rfl rfl (by decide) rfl rfl (fw_rec hl rfl (mf_cr_o h21).choose_spec rfl (by decide)) (cs_setIn (C := 21) (pl := pl) (lo := lo) (s := s) (kd := ka) (qp := p + 0) (W := W) (by omega) (by omega) (by omega) h7 h21 hl) ?_
  rintro _ h_690 ⟨rfl, e_690_C, F_690⟩
  have k_690 := F_690.1.trans hl
  have fr_690 := hfr_c (hfr_refl [17, 19, 46, 21, 22, 23, 24, 25, 26, 27, 28, 29, 30, 31, 32, 33, 34, 35, 36, 37, 38, 39, 40, 41, 42, 43, 44] h) F_690 (by decide)
  have g_690_7 := (F_690.2 7 (by decide +kernel)).trans h7
  have g_690_11 := (F_690.2 11 (by decide +kernel)).trans h11
  have g_690_12 := (F_690.2 12 (by decide +kernel)).trans h12
  have g_690_13 := (F_690.2 13 (by decide +kernel)).trans h13
  have g_690_15 := (F_690.2 15 (by decide +kernel)).trans h15
  have g_690_17 := (F_690.2 17 (by decide +kernel)).trans h17
  have g_690_18 := (F_690.2 18 (by decide +kernel)).trans h18
  have g_690_19 := (F_690.2 19 (by decide +kernel)).trans h19
  have g_690_25 := mf_cr_f h25 (F_690.2 25 (by decide)) (F_690.2 26 (by decide)) (F_690.2 27 (by decide)) (F_690.2 28 (by decide))
  have g_690_29 := mf_cr_f h29 (F_690.2 29 (by decide)) (F_690.2 30 (by decide)) (F_690.2 31 (by decide)) (F_690.2 32 (by decide))
  have g_690_33 := mf_cr_f h33 (F_690.2 33 (by decide)) (F_690.2 34 (by decide)) (F_690.2 35 (by decide)) (F_690.2 36 (by decide))
  have g_690_37 := mf_cr_f h37 (F_690.2 37 (by decide)) (F_690.2 38 (by decide)) (F_690.2 39 (by decide)) (F_690.2 40 (by decide))
  have g_690_41 := mf_cr_f h41 (F_690.2 41 (by decide)) (F_690.2 42 (by decide)) (F_690.2 43 (by decide)) (F_690.2 44 (by decide))
  have g_690_46 := (F_690.2 46 (by decide +kernel)).trans h46
  have g_690_21 : mf_cv h_690 21 W pl ka (p + 0) 0 := e_690_C
  refine ik_Wk 0 (pc' := 29) (loc' := [some (.ref 17), some (fI p), some (fI 1), some (.ref 46), some (fI 0), none]) (st' := [.ref 21]) (h' := h_690) (cl' := 0) (sl' := 0) rfl ?_
  refine ik_Wk 2 (pc' := 31) (loc' := [some (.ref 17), some (fI p), some (fI 1), some (.ref 46), some (fI 0), none]) (st' := [.ref 17]) (h' := h_690) (cl' := 0) (sl' := 0) rfl ?_
  refine fw_gf rfl rfl g_690_17 rfl ?_
  refine ik_Wk 2 (pc' := 37) (loc' := [some (.ref 17), some (fI p), some (fI 1), some (.ref 46), some (fI 0), none]) (st' := [fI 0, fI 3, .ref 18]) (h' := h_690) (cl' := 0) (sl' := 0) rfl ?_
  refine fw_add rfl ?_
  refine fx_aal (z := 3) rfl g_690_18 (by decide) (by decide) rfl ?_
  refine ik_Wk 1 (pc' := 40) (loc' := [some (.ref 17), some (fI p), some (fI 1), some (.ref 46), some (fI 0), none]) (st' := [.ref 17, .ref 33]) (h' := h_690) (cl' := 0) (sl' := 0) rfl ?_
  refine fw_gf rfl rfl g_690_17 rfl ?_
  refine ik_Wk 1 (pc' := 44) (loc' := [some (.ref 17), some (fI p), some (fI 1), some (.ref 46), some (fI 0), none]) (st' := [fI 3, .ref 15, .ref 33]) (h' := h_690) (cl' := 0) (sl' := 0) rfl ?_
  refine fw_ial (z := 3) rfl g_690_15 (by decide) (Nat.le_of_ble_eq_true rfl) (by decide) ?_
  refine ik_Wk 0 (pc' := 45) (loc' := [some (.ref 17), some (fI p), some (fI 1), some (.ref 46), some (fI 0), none]) (st' := [fI kb, .ref 33]) (h' := h_690) (cl' := 0) (sl' := 0) rfl ?_
  refine ik_Wk 2 (pc' := 48) (loc' := [some (.ref 17), some (fI p), some (fI 1), some (.ref 46), some (fI 0), none]) (st' := [fI 0, fI p, fI kb, .ref 33]) (h' := h_690) (cl' := 0) (sl' := 0) rfl ?_
  refine fw_add rfl ?_
  refine fw_call 30 3 0 [.ref 33, fI kb, fI (p + 0)] [] rfl rfl rfl (by decide) rfl rfl (fw_rec k_690 rfl (mf_cr_o g_690_33).choose_spec rfl (by decide)) (cs_setIn (C := 33) (pl := pl) (lo := lo) (s := s) (kd := kb) (qp := p + 0) (W := W) (by omega) (by omega) (by omega) g_690_7 g_690_33 k_690) ?_
  rintro _ h_691 ⟨rfl, e_691_C, F_691⟩
  have k_691 := F_691.1.trans k_690
  have fr_691 := hfr_c fr_690 F_691 (by decide)
  have g_691_7 := (F_691.2 7 (by decide +kernel)).trans g_690_7
  have g_691_11 := (F_691.2 11 (by decide +kernel)).trans g_690_11
  have g_691_12 := (F_691.2 12 (by decide +kernel)).trans g_690_12
  have g_691_13 := (F_691.2 13 (by decide +kernel)).trans g_690_13
  have g_691_15 := (F_691.2 15 (by decide +kernel)).trans g_690_15
  have g_691_17 := (F_691.2 17 (by decide +kernel)).trans g_690_17
  have g_691_18 := (F_691.2 18 (by decide +kernel)).trans g_690_18
  have g_691_19 := (F_691.2 19 (by decide +kernel)).trans g_690_19
  have g_691_21 := mf_cv_f g_690_21 (F_691.2 21 (by decide)) (F_691.2 22 (by decide)) (F_691.2 23 (by decide)) (F_691.2 24 (by decide))
  have g_691_25 := mf_cr_f g_690_25 (F_691.2 25 (by decide)) (F_691.2 26 (by decide)) (F_691.2 27 (by decide)) (F_691.2 28 (by decide))
  have g_691_29 := mf_cr_f g_690_29 (F_691.2 29 (by decide)) (F_691.2 30 (by decide)) (F_691.2 31 (by decide)) (F_691.2 32 (by decide))
  have g_691_37 := mf_cr_f g_690_37 (F_691.2 37 (by decide)) (F_691.2 38 (by decide)) (F_691.2 39 (by decide)) (F_691.2 40 (by decide))
  have g_691_41 := mf_cr_f g_690_41 (F_691.2 41 (by decide)) (F_691.2 42 (by decide)) (F_691.2 43 (by decide)) (F_691.2 44 (by decide))
  have g_691_46 := (F_691.2 46 (by decide +kernel)).trans g_690_46
  have g_691_33 : mf_cv h_691 33 W pl kb (p + 0) 0 := e_691_C
  refine ik_Wk 0 (pc' := 52) (loc' := [some (.ref 17), some (fI p), some (fI 1), some (.ref 46), some (fI 0), none]) (st' := [.ref 33]) (h' := h_691) (cl' := 0) (sl' := 0) rfl ?_
  refine ik_Wk 1 (pc' := 53) (loc' := [some (.ref 17), some (fI p), some (fI 1), some (.ref 46), some (fI 0), none]) (st' := []) (h' := h_691) (cl' := 0) (sl' := 0) rfl ?_
  refine fw_inc (a := 0) (loc' := [some (.ref 17), some (fI p), some (fI 1), some (.ref 46), some (fI 1), none]) rfl rfl (Nat.le_of_ble_eq_true rfl) rfl ?_
  refine ik_Wk 3 (pc' := 6) (loc' := [some (.ref 17), some (fI p), some (fI 1), some (.ref 46), some (fI 1), none]) (st' := [fI 1, fI 1]) (h' := h_691) (cl' := 0) (sl' := 0) rfl ?_
  refine fw_ic_ge rfl rfl (by omega) (by omega) (by omega) (by omega) (fun hc2 => ?_) (fun hc2 => absurd hc2 (by omega))
  refine ik_Wk 4 (pc' := 65) (loc' := [some (.ref 17), some (fI p), some (fI 1), some (.ref 46), some (fI 0), none]) (st' := [fI 1, fI 0]) (h' := h_691) (cl' := 0) (sl' := 0) rfl ?_
  refine fw_ic_ge rfl rfl (by omega) (by omega) (by omega) (by omega) (fun hc3 => absurd hc3 (by omega)) (fun hc3 => ?_)
  refine ik_Wk 4 (pc' := 74) (loc' := [some (.ref 17), some (fI p), some (fI 1), some (.ref 46), some (fI 0), some (fI 0)]) (st' := [fI 1, fI 0]) (h' := h_691) (cl' := 0) (sl' := 0) rfl ?_
  refine fw_ic_ge rfl rfl (by omega) (by omega) (by omega) (by omega) (fun hc4 => absurd hc4 (by omega)) (fun hc4 => ?_)
  refine ik_Wk 2 (pc' := 79) (loc' := [some (.ref 17), some (fI p), some (fI 1), some (.ref 46), some (fI 0), some (fI 0)]) (st' := [.ref 17, .ref 17]) (h' := h_691) (cl' := 0) (sl' := 0) rfl ?_
  refine fw_gf rfl rfl g_691_17 rfl ?_
  refine ik_Wk 1 (pc' := 84) (loc' := [some (.ref 17), some (fI p), some (fI 1), some (.ref 46), some (fI 0), some (fI 0)]) (st' := [fI 0, .ref 18, .ref 17]) (h' := h_691) (cl' := 0) (sl' := 0) rfl ?_
  refine fx_aal (z := 0) rfl g_691_18 (by decide) (by decide) rfl ?_
  refine ik_Wk 2 (pc' := 87) (loc' := [some (.ref 17), some (fI p), some (fI 1), some (.ref 46), some (fI 0), some (fI 0)]) (st' := [.ref 17, fI 0, .ref 21, .ref 17]) (h' := h_691) (cl' := 0) (sl' := 0) rfl ?_
  refine fw_gf rfl rfl g_691_17 rfl ?_
  refine ik_Wk 2 (pc' := 93) (loc' := [some (.ref 17), some (fI p), some (fI 1), some (.ref 46), some (fI 0), some (fI 0)]) (st' := [fI 0, fI 3, .ref 18, fI 0, .ref 21, .ref 17]) (h' := h_691) (cl' := 0) (sl' := 0) rfl ?_
  refine fw_add rfl ?_
  refine fx_aal (z := 3) rfl g_691_18 (by decide) (by decide) rfl ?_
  refine ik_Wk 1 (pc' := 96) (loc' := [some (.ref 17), some (fI p), some (fI 1), some (.ref 46), some (fI 0), some (fI 0)]) (st' := [fI 0, .ref 33, fI 0, .ref 21, .ref 17]) (h' := h_691) (cl' := 0) (sl' := 0) rfl ?_
  refine fw_ld 1000000 rfl rfl (by decide) ?_
  refine fw_call 80 6 0 [.ref 17, .ref 21, fI 0, .ref 33, fI 0, fI 1000000] [] rfl rfl rfl (by decide) rfl rfl (fw_rec k_691 rfl g_691_17 rfl (by decide)) (cs_race (C := 21) (E := 33) (pl := pl) (lo := lo) (s := s) (ka := ka) (pa := (p + 0)) (ma := 0) (kb := kb) (pb := (p + 0)) (mb := 0) (ua := 0) (ub := 0) (lim := 1000000) (bo := bo) (la := la) (lb := lb) (wg := wg) (wc := wc) (we := we) (W := W) (by omega) (by omega) (by omega) (by omega) (by omega) (by omega) (by omega) q3 q4 g_691_7 g_691_11 n11 g_691_12 n12 g_691_13 n13 g_691_17 g_691_19 g_691_21 g_691_33 k_691) ?_
  rintro _ h_692 ⟨l0_692, l1_692, l2_692, ua'_692, ub'_692, rfl, e_692_17, e_692_19, e_692_C, e_692_E, p_692_0, p_692_1, F_692⟩
  have k_692 := F_692.1.trans k_691
  have fr_692 := hfr_c fr_691 F_692 (by decide)
  have g_692_7 := (F_692.2 7 (by decide +kernel)).trans g_691_7
  have g_692_11 := (F_692.2 11 (by decide +kernel)).trans g_691_11
  have g_692_12 := (F_692.2 12 (by decide +kernel)).trans g_691_12
  have g_692_13 := (F_692.2 13 (by decide +kernel)).trans g_691_13
  have g_692_15 := (F_692.2 15 (by decide +kernel)).trans g_691_15
  have g_692_18 := (F_692.2 18 (by decide +kernel)).trans g_691_18
  have g_692_25 := mf_cr_f g_691_25 (F_692.2 25 (by decide)) (F_692.2 26 (by decide)) (F_692.2 27 (by decide)) (F_692.2 28 (by decide))
  have g_692_29 := mf_cr_f g_691_29 (F_692.2 29 (by decide)) (F_692.2 30 (by decide)) (F_692.2 31 (by decide)) (F_692.2 32 (by decide))
  have g_692_37 := mf_cr_f g_691_37 (F_692.2 37 (by decide)) (F_692.2 38 (by decide)) (F_692.2 39 (by decide)) (F_692.2 40 (by decide))
  have g_692_41 := mf_cr_f g_691_41 (F_692.2 41 (by decide)) (F_692.2 42 (by decide)) (F_692.2 43 (by decide)) (F_692.2 44 (by decide))
  have g_692_46 := (F_692.2 46 (by decide +kernel)).trans g_691_46
  have g_692_17 : cE h_692 17 (.inr (8, [.ref 7, .ref 15, .ref 18, .ref 19, fJ l2_692, .ref 20])) := e_692_17
  have g_692_19 : cE h_692 19 (.inl (.long, fL [l0_692, l1_692])) := e_692_19
  have g_692_21 : mf_cv h_692 21 W pl ka (p + 0) ua'_692 := e_692_C
  have g_692_33 : mf_cv h_692 33 W pl kb (p + 0) ub'_692 := e_692_E
  refine ik_Wk 0 (pc' := 101) (loc' := [some (.ref 17), some (fI p), some (fI 1), some (.ref 46), some (fI 0), some (fI 0)]) (st' := []) (h' := h_692) (cl' := 0) (sl' := 0) rfl ?_
  refine ik_Wk 3 (pc' := 105) (loc' := [some (.ref 17), some (fI p), some (fI 1), some (.ref 46), some (fI 0), some (fI 0)]) (st' := [fI 3, fI 0, .ref 46]) (h' := h_692) (cl' := 0) (sl' := 0) rfl ?_
  refine fw_mul rfl ?_
  refine ik_Wk 1 (pc' := 108) (loc' := [some (.ref 17), some (fI p), some (fI 1), some (.ref 46), some (fI 0), some (fI 0)]) (st' := [fI 0, fI 0, .ref 46]) (h' := h_692) (cl' := 0) (sl' := 0) rfl ?_
  refine fw_add rfl ?_
  refine ik_Wk 2 (pc' := 111) (loc' := [some (.ref 17), some (fI p), some (fI 1), some (.ref 46), some (fI 0), some (fI 0)]) (st' := [fI 0, .ref 17, fI 0, .ref 46]) (h' := h_692) (cl' := 0) (sl' := 0) rfl ?_
  refine ik_Wc 74 2 0 [.ref 17, fI 0] [fI 0, .ref 46] rfl rfl rfl (by decide) rfl rfl (fw_rec k_692 rfl g_692_17 rfl (by decide)) ?_
  refine ik_Wk 0 (pc' := 0) (loc' := [some (.ref 17), some (fI 0)]) (st' := []) (h' := h_692) (cl' := 0) (sl' := 0) rfl ?_
  refine ik_Wk 1 (pc' := 1) (loc' := [some (.ref 17), some (fI 0)]) (st' := [.ref 17]) (h' := h_692) (cl' := 0) (sl' := 0) rfl ?_
  refine fw_gf rfl rfl g_692_17 rfl ?_
  refine ik_Wk 1 (pc' := 5) (loc' := [some (.ref 17), some (fI 0)]) (st' := [fI 0, .ref 19]) (h' := h_692) (cl' := 0) (sl' := 0) rfl ?_
  refine fx_lal (z := 0) rfl g_692_19 (by decide) (Nat.le_of_ble_eq_true rfl) (by decide) ?_
  refine ik_Wk 0 (pc' := 6) (loc' := [some (.ref 17), some (fI 0)]) (st' := [fJ l0_692]) (h' := h_692) (cl' := 0) (sl' := 0) rfl ?_
  refine fw_l2 1000 rfl rfl (by decide) ?_
  refine fx_ldiv rfl (by omega) (by omega) (by omega) (by omega) ?_
  refine fx_l2i rfl ?_
  refine ik_Wret rfl rfl ⟨_, _, rfl, rfl, ?_⟩
  refine ik_Wk 0 (pc' := 114) (loc' := [some (.ref 17), some (fI p), some (fI 1), some (.ref 46), some (fI 0), some (fI 0)]) (st' := [fI (l0_692 / 1000), fI 0, .ref 46]) (h' := h_692) (cl' := 0) (sl' := 0) rfl ?_
  refine fw_si rfl (by decide) ?_
  refine fx_idiv rfl (by omega) (by omega) (by omega) (by omega) ?_
  have hl5 : (fe.set (0 : Int).toNat ((l0_692 / 1000) / 1000)).length = 9 := (List.length_set ..).trans n46
  refine fx_ias rfl g_692_46 (by omega) (by omega) (by omega) ?_
  intro h_693 e_693 f_693 l_693
  have k_693 := l_693.trans k_692
  have fr_693 := hfr_w fr_692 f_693 l_693 (by decide)
  have g_693_7 := (f_693 7 (by decide)).trans g_692_7
  have g_693_11 := (f_693 11 (by decide)).trans g_692_11
  have g_693_12 := (f_693 12 (by decide)).trans g_692_12
  have g_693_13 := (f_693 13 (by decide)).trans g_692_13
  have g_693_15 := (f_693 15 (by decide)).trans g_692_15
  have g_693_17 := (f_693 17 (by decide)).trans g_692_17
  have g_693_18 := (f_693 18 (by decide)).trans g_692_18
  have g_693_19 := (f_693 19 (by decide)).trans g_692_19
  have g_693_21 := mf_cv_f g_692_21 (f_693 21 (by decide)) (f_693 22 (by decide)) (f_693 23 (by decide)) (f_693 24 (by decide))
  have g_693_25 := mf_cr_f g_692_25 (f_693 25 (by decide)) (f_693 26 (by decide)) (f_693 27 (by decide)) (f_693 28 (by decide))
  have g_693_29 := mf_cr_f g_692_29 (f_693 29 (by decide)) (f_693 30 (by decide)) (f_693 31 (by decide)) (f_693 32 (by decide))
  have g_693_33 := mf_cv_f g_692_33 (f_693 33 (by decide)) (f_693 34 (by decide)) (f_693 35 (by decide)) (f_693 36 (by decide))
  have g_693_37 := mf_cr_f g_692_37 (f_693 37 (by decide)) (f_693 38 (by decide)) (f_693 39 (by decide)) (f_693 40 (by decide))
  have g_693_41 := mf_cr_f g_692_41 (f_693 41 (by decide)) (f_693 42 (by decide)) (f_693 43 (by decide)) (f_693 44 (by decide))
  have g_693_46 : cE h_693 46 (.inl (.int, fA (fe.set (0 : Int).toNat ((l0_692 / 1000) / 1000)))) := e_693
  have qfe1 : ∀ i : Int, 0 ≤ i → i < 9 → 0 ≤ (fe.set (0 : Int).toNat ((l0_692 / 1000) / 1000)).getD i.toNat 0 ∧ (fe.set (0 : Int).toNat ((l0_692 / 1000) / 1000)).getD i.toNat 0 ≤ 1000 := by
    intro i i0 i1
    rw [fz_getD_set]
    split
    · omega
    · exact qfe0 i i0 i1
  refine fw_inc (a := 0) (loc' := [some (.ref 17), some (fI p), some (fI 1), some (.ref 46), some (fI 0), some (fI 1)]) rfl rfl (Nat.le_of_ble_eq_true rfl) rfl ?_
  refine ik_Wk 3 (pc' := 74) (loc' := [some (.ref 17), some (fI p), some (fI 1), some (.ref 46), some (fI 0), some (fI 1)]) (st' := [fI 1, fI 1]) (h' := h_693) (cl' := 0) (sl' := 0) rfl ?_
  refine fw_ic_ge rfl rfl (by omega) (by omega) (by omega) (by omega) (fun hc6 => ?_) (fun hc6 => absurd hc6 (by omega))
  refine fw_inc (a := 0) (loc' := [some (.ref 17), some (fI p), some (fI 1), some (.ref 46), some (fI 1), some (fI 1)]) rfl rfl (Nat.le_of_ble_eq_true rfl) rfl ?_
  refine ik_Wk 3 (pc' := 65) (loc' := [some (.ref 17), some (fI p), some (fI 1), some (.ref 46), some (fI 1), some (fI 1)]) (st' := [fI 1, fI 1]) (h' := h_693) (cl' := 0) (sl' := 0) rfl ?_
  refine fw_ic_ge rfl rfl (by omega) (by omega) (by omega) (by omega) (fun hc7 => ?_) (fun hc7 => absurd hc7 (by omega))
  exact ik_Wret rfl rfl ⟨_, _, rfl, rfl, rfl, rfl, ⟨l0_692, l1_692, l2_692, (fe.set (0 : Int).toNat ((l0_692 / 1000) / 1000)), rfl, g_693_17, g_693_19, (mf_cv_r g_693_21), g_693_25, g_693_29, (mf_cv_r g_693_33), g_693_37, g_693_41, g_693_46, hl5, qfe1, fr_693⟩⟩
end
