noncomputable section
theorem cs_fears2 {h : List ik_E} {pl : Int} {lo : Int} {s : Nat} {ka : Int} {pa : Int} {fa : Int} {kb : Int} {pb : Int} {fb : Int} {bo : Int} {la : Int} {lb : Int} {p : Int} {wg : List Int} {wc : List Int} {we : List Int} {fe : List Int} {W : Int → List (Int × Int)} (q0 : 2 ≤ pl ∧ pl ≤ 12) (q1 : 0 ≤ ka ∧ ka ≤ 2 ∧ 0 ≤ kb ∧ kb ≤ 2) (q2 : 0 ≤ p ∧ p + 2 < pl) (q3 : ∀ x : Int, 0 ≤ x → x < pl - 1 → mx_wy wg wc we x (W x)) (q4 : ∀ x : Int, 0 ≤ x → x < pl - 1 → mx_ok pl (W x)) (q5 : ∀ i : Int, 0 ≤ i → i < 9 → 0 ≤ fe.getD i.toNat 0 ∧ fe.getD i.toNat 0 ≤ 1000) (h7 : cE h 7 (.inr (0, [fI pl, fI ((s : Nat) : Int), fI lo, .ref 8, .ref 9, .ref 10, .ref 11, .ref 12, .ref 13]))) (h11 : cE h 11 (.inl (.int, fA wg))) (n11 : wg.length = 60) (h12 : cE h 12 (.inl (.int, fA wc))) (n12 : wc.length = 60) (h13 : cE h 13 (.inl (.int, fA we))) (n13 : we.length = 12) (h15 : cE h 15 (.inl (.int, fA [ka, pa, fa, kb, pb, fb]))) (h17 : cE h 17 (.inr (8, [.ref 7, .ref 15, .ref 18, .ref 19, fJ bo, .ref 20]))) (h18 : cE h 18 (.inl (.object "SlowerCork$Course", [.ref 21, .ref 25, .ref 29, .ref 33, .ref 37, .ref 41]))) (h19 : cE h 19 (.inl (.long, fL [la, lb]))) (h21 : mf_cr h 21 ) (h25 : mf_cr h 25 ) (h29 : mf_cr h 29 ) (h33 : mf_cr h 33 ) (h37 : mf_cr h 37 ) (h41 : mf_cr h 41 ) (h46 : cE h 46 (.inl (.int, fA fe))) (n46 : fe.length = 9) (hl : h.length = 94) : ik_F 84 [.ref 17, fI p, fI 2, .ref 46] h (fun rv h' => ∃ (l0 : Int) (l1 : Int) (l2 : Int) (fe' : List Int), rv = [] ∧ cE h' 17 (.inr (8, [.ref 7, .ref 15, .ref 18, .ref 19, fJ l2, .ref 20])) ∧ cE h' 19 (.inl (.long, fL [l0, l1])) ∧ mf_cr h' 21  ∧ mf_cr h' 25  ∧ mf_cr h' 29  ∧ mf_cr h' 33  ∧ mf_cr h' 37  ∧ mf_cr h' 41  ∧ cE h' 46 (.inl (.int, fA fe')) ∧ fe'.length = 9 ∧ (∀ i : Int, 0 ≤ i → i < 9 → 0 ≤ fe'.getD i.toNat 0 ∧ fe'.getD i.toNat 0 ≤ 1000) ∧ hfr [17, 19, 46, 21, 22, 23, 24, 25, 26, 27, 28, 29, 30, 31, 32, 33, 34, 35, 36, 37, 38, 39, 40, 41, 42, 43, 44] h h') := by
  have qfe0 := q5
  refine ik_Wk 4 (pc' := 6) (loc' := [some (.ref 17), some (fI p), some (fI 2), some (.ref 46), some (fI 0), none]) (st' := [fI 2, fI 0]) (h' := h) (cl' := 0) (sl' := 0) rfl ?_
  refine fw_ic_ge rfl rfl (by omega) (by omega) (by omega) (by omega) (fun hc1 => absurd hc1 (by omega)) (fun hc1 => ?_)
  refine ik_Wk 1 (pc' := 10) (loc' := [some (.ref 17), some (fI p), some (fI 2), some (.ref 46), some (fI 0), none]) (st' := [.ref 17]) (h' := h) (cl' := 0) (sl' := 0) rfl ?_
  refine fw_gf rfl rfl h17 rfl ?_
  refine ik_Wk 1 (pc' := 15) (loc' := [some (.ref 17), some (fI p), some (fI 2), some (.ref 46), some (fI 0), none]) (st' := [fI 0, .ref 18]) (h' := h) (cl' := 0) (sl' := 0) rfl ?_
  refine fx_aal (z := 0) rfl h18 (by decide) (by decide) rfl ?_
  refine ik_Wk 1 (pc' := 17) (loc' := [some (.ref 17), some (fI p), some (fI 2), some (.ref 46), some (fI 0), none]) (st' := [.ref 17, .ref 21]) (h' := h) (cl' := 0) (sl' := 0) rfl ?_
  refine fw_gf rfl rfl h17 rfl ?_
  refine ik_Wk 1 (pc' := 21) (loc' := [some (.ref 17), some (fI p), some (fI 2), some (.ref 46), some (fI 0), none]) (st' := [fI 0, .ref 15, .ref 21]) (h' := h) (cl' := 0) (sl' := 0) rfl ?_
  refine fw_ial (z := 0) rfl h15 (by decide) (Nat.le_of_ble_eq_true rfl) (by decide) ?_
  refine ik_Wk 0 (pc' := 22) (loc' := [some (.ref 17), some (fI p), some (fI 2), some (.ref 46), some (fI 0), none]) (st' := [fI ka, .ref 21]) (h' := h) (cl' := 0) (sl' := 0) rfl ?_
  refine ik_Wk 2 (pc' := 25) (loc' := [some (.ref 17), some (fI p), some (fI 2), some (.ref 46), some (fI 0), none]) (st' := [fI 0, fI p, fI ka, .ref 21]) (h' := h) (cl' := 0) (sl' := 0) rfl ?_
  refine fw_add rfl ?_
  refine fw_call 30 3 0 [.ref 21, fI ka, fI (p + 0)] [] rfl rfl rfl (by decide) rfl rfl (fw_rec hl rfl (mf_cr_o h21).choose_spec rfl (by decide)) (cs_setIn (C := 21) (pl := pl) (lo := lo) (s := s) (kd := ka) (qp := p + 0) (W := W) (by omega) (by omega) (by omega) h7 h21 hl) ?_
  rintro _ h_694 ⟨rfl, e_694_C, F_694⟩
  have k_694 := F_694.1.trans hl
  have fr_694 := hfr_c (hfr_refl [17, 19, 46, 21, 22, 23, 24, 25, 26, 27, 28, 29, 30, 31, 32, 33, 34, 35, 36, 37, 38, 39, 40, 41, 42, 43, 44] h) F_694 (by decide)
  have g_694_7 := (F_694.2 7 (by decide +kernel)).trans h7
  have g_694_11 := (F_694.2 11 (by decide +kernel)).trans h11
  have g_694_12 := (F_694.2 12 (by decide +kernel)).trans h12
  have g_694_13 := (F_694.2 13 (by decide +kernel)).trans h13
  have g_694_15 := (F_694.2 15 (by decide +kernel)).trans h15
  have g_694_17 := (F_694.2 17 (by decide +kernel)).trans h17
  have g_694_18 := (F_694.2 18 (by decide +kernel)).trans h18
  have g_694_19 := (F_694.2 19 (by decide +kernel)).trans h19
  have g_694_25 := mf_cr_f h25 (F_694.2 25 (by decide)) (F_694.2 26 (by decide)) (F_694.2 27 (by decide)) (F_694.2 28 (by decide))
  have g_694_29 := mf_cr_f h29 (F_694.2 29 (by decide)) (F_694.2 30 (by decide)) (F_694.2 31 (by decide)) (F_694.2 32 (by decide))
  have g_694_33 := mf_cr_f h33 (F_694.2 33 (by decide)) (F_694.2 34 (by decide)) (F_694.2 35 (by decide)) (F_694.2 36 (by decide))
  have g_694_37 := mf_cr_f h37 (F_694.2 37 (by decide)) (F_694.2 38 (by decide)) (F_694.2 39 (by decide)) (F_694.2 40 (by decide))
  have g_694_41 := mf_cr_f h41 (F_694.2 41 (by decide)) (F_694.2 42 (by decide)) (F_694.2 43 (by decide)) (F_694.2 44 (by decide))
  have g_694_46 := (F_694.2 46 (by decide +kernel)).trans h46
  have g_694_21 : mf_cv h_694 21 W pl ka (p + 0) 0 := e_694_C
  refine ik_Wk 0 (pc' := 29) (loc' := [some (.ref 17), some (fI p), some (fI 2), some (.ref 46), some (fI 0), none]) (st' := [.ref 21]) (h' := h_694) (cl' := 0) (sl' := 0) rfl ?_
  refine ik_Wk 2 (pc' := 31) (loc' := [some (.ref 17), some (fI p), some (fI 2), some (.ref 46), some (fI 0), none]) (st' := [.ref 17]) (h' := h_694) (cl' := 0) (sl' := 0) rfl ?_
  refine fw_gf rfl rfl g_694_17 rfl ?_
  refine ik_Wk 2 (pc' := 37) (loc' := [some (.ref 17), some (fI p), some (fI 2), some (.ref 46), some (fI 0), none]) (st' := [fI 0, fI 3, .ref 18]) (h' := h_694) (cl' := 0) (sl' := 0) rfl ?_
  refine fw_add rfl ?_
  refine fx_aal (z := 3) rfl g_694_18 (by decide) (by decide) rfl ?_
  refine ik_Wk 1 (pc' := 40) (loc' := [some (.ref 17), some (fI p), some (fI 2), some (.ref 46), some (fI 0), none]) (st' := [.ref 17, .ref 33]) (h' := h_694) (cl' := 0) (sl' := 0) rfl ?_
  refine fw_gf rfl rfl g_694_17 rfl ?_
  refine ik_Wk 1 (pc' := 44) (loc' := [some (.ref 17), some (fI p), some (fI 2), some (.ref 46), some (fI 0), none]) (st' := [fI 3, .ref 15, .ref 33]) (h' := h_694) (cl' := 0) (sl' := 0) rfl ?_
  refine fw_ial (z := 3) rfl g_694_15 (by decide) (Nat.le_of_ble_eq_true rfl) (by decide) ?_
  refine ik_Wk 0 (pc' := 45) (loc' := [some (.ref 17), some (fI p), some (fI 2), some (.ref 46), some (fI 0), none]) (st' := [fI kb, .ref 33]) (h' := h_694) (cl' := 0) (sl' := 0) rfl ?_
  refine ik_Wk 2 (pc' := 48) (loc' := [some (.ref 17), some (fI p), some (fI 2), some (.ref 46), some (fI 0), none]) (st' := [fI 0, fI p, fI kb, .ref 33]) (h' := h_694) (cl' := 0) (sl' := 0) rfl ?_
  refine fw_add rfl ?_
  refine fw_call 30 3 0 [.ref 33, fI kb, fI (p + 0)] [] rfl rfl rfl (by decide) rfl rfl (fw_rec k_694 rfl (mf_cr_o g_694_33).choose_spec rfl (by decide)) (cs_setIn (C := 33) (pl := pl) (lo := lo) (s := s) (kd := kb) (qp := p + 0) (W := W) (by omega) (by omega) (by omega) g_694_7 g_694_33 k_694) ?_
  rintro _ h_695 ⟨rfl, e_695_C, F_695⟩
  have k_695 := F_695.1.trans k_694
  have fr_695 := hfr_c fr_694 F_695 (by decide)
  have g_695_7 := (F_695.2 7 (by decide +kernel)).trans g_694_7
  have g_695_11 := (F_695.2 11 (by decide +kernel)).trans g_694_11
  have g_695_12 := (F_695.2 12 (by decide +kernel)).trans g_694_12
  have g_695_13 := (F_695.2 13 (by decide +kernel)).trans g_694_13
  have g_695_15 := (F_695.2 15 (by decide +kernel)).trans g_694_15
  have g_695_17 := (F_695.2 17 (by decide +kernel)).trans g_694_17
  have g_695_18 := (F_695.2 18 (by decide +kernel)).trans g_694_18
  have g_695_19 := (F_695.2 19 (by decide +kernel)).trans g_694_19
  have g_695_21 := mf_cv_f g_694_21 (F_695.2 21 (by decide)) (F_695.2 22 (by decide)) (F_695.2 23 (by decide)) (F_695.2 24 (by decide))
  have g_695_25 := mf_cr_f g_694_25 (F_695.2 25 (by decide)) (F_695.2 26 (by decide)) (F_695.2 27 (by decide)) (F_695.2 28 (by decide))
  have g_695_29 := mf_cr_f g_694_29 (F_695.2 29 (by decide)) (F_695.2 30 (by decide)) (F_695.2 31 (by decide)) (F_695.2 32 (by decide))
  have g_695_37 := mf_cr_f g_694_37 (F_695.2 37 (by decide)) (F_695.2 38 (by decide)) (F_695.2 39 (by decide)) (F_695.2 40 (by decide))
  have g_695_41 := mf_cr_f g_694_41 (F_695.2 41 (by decide)) (F_695.2 42 (by decide)) (F_695.2 43 (by decide)) (F_695.2 44 (by decide))
  have g_695_46 := (F_695.2 46 (by decide +kernel)).trans g_694_46
  have g_695_33 : mf_cv h_695 33 W pl kb (p + 0) 0 := e_695_C
  refine ik_Wk 0 (pc' := 52) (loc' := [some (.ref 17), some (fI p), some (fI 2), some (.ref 46), some (fI 0), none]) (st' := [.ref 33]) (h' := h_695) (cl' := 0) (sl' := 0) rfl ?_
  refine ik_Wk 1 (pc' := 53) (loc' := [some (.ref 17), some (fI p), some (fI 2), some (.ref 46), some (fI 0), none]) (st' := []) (h' := h_695) (cl' := 0) (sl' := 0) rfl ?_
  refine fw_inc (a := 0) (loc' := [some (.ref 17), some (fI p), some (fI 2), some (.ref 46), some (fI 1), none]) rfl rfl (Nat.le_of_ble_eq_true rfl) rfl ?_
  refine ik_Wk 3 (pc' := 6) (loc' := [some (.ref 17), some (fI p), some (fI 2), some (.ref 46), some (fI 1), none]) (st' := [fI 2, fI 1]) (h' := h_695) (cl' := 0) (sl' := 0) rfl ?_
  refine fw_ic_ge rfl rfl (by omega) (by omega) (by omega) (by omega) (fun hc2 => absurd hc2 (by omega)) (fun hc2 => ?_)
  refine ik_Wk 1 (pc' := 10) (loc' := [some (.ref 17), some (fI p), some (fI 2), some (.ref 46), some (fI 1), none]) (st' := [.ref 17]) (h' := h_695) (cl' := 0) (sl' := 0) rfl ?_
  refine fw_gf rfl rfl g_695_17 rfl ?_
  refine ik_Wk 1 (pc' := 15) (loc' := [some (.ref 17), some (fI p), some (fI 2), some (.ref 46), some (fI 1), none]) (st' := [fI 1, .ref 18]) (h' := h_695) (cl' := 0) (sl' := 0) rfl ?_
  refine fx_aal (z := 1) rfl g_695_18 (by decide) (by decide) rfl ?_
  refine ik_Wk 1 (pc' := 17) (loc' := [some (.ref 17), some (fI p), some (fI 2), some (.ref 46), some (fI 1), none]) (st' := [.ref 17, .ref 25]) (h' := h_695) (cl' := 0) (sl' := 0) rfl ?_
  refine fw_gf rfl rfl g_695_17 rfl ?_
  refine ik_Wk 1 (pc' := 21) (loc' := [some (.ref 17), some (fI p), some (fI 2), some (.ref 46), some (fI 1), none]) (st' := [fI 0, .ref 15, .ref 25]) (h' := h_695) (cl' := 0) (sl' := 0) rfl ?_
  refine fw_ial (z := 0) rfl g_695_15 (by decide) (Nat.le_of_ble_eq_true rfl) (by decide) ?_
  refine ik_Wk 0 (pc' := 22) (loc' := [some (.ref 17), some (fI p), some (fI 2), some (.ref 46), some (fI 1), none]) (st' := [fI ka, .ref 25]) (h' := h_695) (cl' := 0) (sl' := 0) rfl ?_
  refine ik_Wk 2 (pc' := 25) (loc' := [some (.ref 17), some (fI p), some (fI 2), some (.ref 46), some (fI 1), none]) (st' := [fI 1, fI p, fI ka, .ref 25]) (h' := h_695) (cl' := 0) (sl' := 0) rfl ?_
  refine fw_add rfl ?_
  refine fw_call 30 3 0 [.ref 25, fI ka, fI (p + 1)] [] rfl rfl rfl (by decide) rfl rfl (fw_rec k_695 rfl (mf_cr_o g_695_25).choose_spec rfl (by decide)) (cs_setIn (C := 25) (pl := pl) (lo := lo) (s := s) (kd := ka) (qp := p + 1) (W := W) (by omega) (by omega) (by omega) g_695_7 g_695_25 k_695) ?_
  rintro _ h_696 ⟨rfl, e_696_C, F_696⟩
  have k_696 := F_696.1.trans k_695
  have fr_696 := hfr_c fr_695 F_696 (by decide)
  have g_696_7 := (F_696.2 7 (by decide +kernel)).trans g_695_7
  have g_696_11 := (F_696.2 11 (by decide +kernel)).trans g_695_11
  have g_696_12 := (F_696.2 12 (by decide +kernel)).trans g_695_12
  have g_696_13 := (F_696.2 13 (by decide +kernel)).trans g_695_13
  have g_696_15 := (F_696.2 15 (by decide +kernel)).trans g_695_15
  have g_696_17 := (F_696.2 17 (by decide +kernel)).trans g_695_17
  have g_696_18 := (F_696.2 18 (by decide +kernel)).trans g_695_18
  have g_696_19 := (F_696.2 19 (by decide +kernel)).trans g_695_19
  have g_696_21 := mf_cv_f g_695_21 (F_696.2 21 (by decide)) (F_696.2 22 (by decide)) (F_696.2 23 (by decide)) (F_696.2 24 (by decide))
  have g_696_29 := mf_cr_f g_695_29 (F_696.2 29 (by decide)) (F_696.2 30 (by decide)) (F_696.2 31 (by decide)) (F_696.2 32 (by decide))
  have g_696_33 := mf_cv_f g_695_33 (F_696.2 33 (by decide)) (F_696.2 34 (by decide)) (F_696.2 35 (by decide)) (F_696.2 36 (by decide))
  have g_696_37 := mf_cr_f g_695_37 (F_696.2 37 (by decide)) (F_696.2 38 (by decide)) (F_696.2 39 (by decide)) (F_696.2 40 (by decide))
  have g_696_41 := mf_cr_f g_695_41 (F_696.2 41 (by decide)) (F_696.2 42 (by decide)) (F_696.2 43 (by decide)) (F_696.2 44 (by decide))
  have g_696_46 := (F_696.2 46 (by decide +kernel)).trans g_695_46
  have g_696_25 : mf_cv h_696 25 W pl ka (p + 1) 0 := e_696_C
  refine ik_Wk 0 (pc' := 29) (loc' := [some (.ref 17), some (fI p), some (fI 2), some (.ref 46), some (fI 1), none]) (st' := [.ref 25]) (h' := h_696) (cl' := 0) (sl' := 0) rfl ?_
  refine ik_Wk 2 (pc' := 31) (loc' := [some (.ref 17), some (fI p), some (fI 2), some (.ref 46), some (fI 1), none]) (st' := [.ref 17]) (h' := h_696) (cl' := 0) (sl' := 0) rfl ?_
  refine fw_gf rfl rfl g_696_17 rfl ?_
  refine ik_Wk 2 (pc' := 37) (loc' := [some (.ref 17), some (fI p), some (fI 2), some (.ref 46), some (fI 1), none]) (st' := [fI 1, fI 3, .ref 18]) (h' := h_696) (cl' := 0) (sl' := 0) rfl ?_
  refine fw_add rfl ?_
  refine fx_aal (z := 4) rfl g_696_18 (by decide) (by decide) rfl ?_
  refine ik_Wk 1 (pc' := 40) (loc' := [some (.ref 17), some (fI p), some (fI 2), some (.ref 46), some (fI 1), none]) (st' := [.ref 17, .ref 37]) (h' := h_696) (cl' := 0) (sl' := 0) rfl ?_
  refine fw_gf rfl rfl g_696_17 rfl ?_
  refine ik_Wk 1 (pc' := 44) (loc' := [some (.ref 17), some (fI p), some (fI 2), some (.ref 46), some (fI 1), none]) (st' := [fI 3, .ref 15, .ref 37]) (h' := h_696) (cl' := 0) (sl' := 0) rfl ?_
  refine fw_ial (z := 3) rfl g_696_15 (by decide) (Nat.le_of_ble_eq_true rfl) (by decide) ?_
  refine ik_Wk 0 (pc' := 45) (loc' := [some (.ref 17), some (fI p), some (fI 2), some (.ref 46), some (fI 1), none]) (st' := [fI kb, .ref 37]) (h' := h_696) (cl' := 0) (sl' := 0) rfl ?_
  refine ik_Wk 2 (pc' := 48) (loc' := [some (.ref 17), some (fI p), some (fI 2), some (.ref 46), some (fI 1), none]) (st' := [fI 1, fI p, fI kb, .ref 37]) (h' := h_696) (cl' := 0) (sl' := 0) rfl ?_
  refine fw_add rfl ?_
  refine fw_call 30 3 0 [.ref 37, fI kb, fI (p + 1)] [] rfl rfl rfl (by decide) rfl rfl (fw_rec k_696 rfl (mf_cr_o g_696_37).choose_spec rfl (by decide)) (cs_setIn (C := 37) (pl := pl) (lo := lo) (s := s) (kd := kb) (qp := p + 1) (W := W) (by omega) (by omega) (by omega) g_696_7 g_696_37 k_696) ?_
  rintro _ h_697 ⟨rfl, e_697_C, F_697⟩
  have k_697 := F_697.1.trans k_696
  have fr_697 := hfr_c fr_696 F_697 (by decide)
  have g_697_7 := (F_697.2 7 (by decide +kernel)).trans g_696_7
  have g_697_11 := (F_697.2 11 (by decide +kernel)).trans g_696_11
  have g_697_12 := (F_697.2 12 (by decide +kernel)).trans g_696_12
  have g_697_13 := (F_697.2 13 (by decide +kernel)).trans g_696_13
  have g_697_15 := (F_697.2 15 (by decide +kernel)).trans g_696_15
  have g_697_17 := (F_697.2 17 (by decide +kernel)).trans g_696_17
  have g_697_18 := (F_697.2 18 (by decide +kernel)).trans g_696_18
  have g_697_19 := (F_697.2 19 (by decide +kernel)).trans g_696_19
  have g_697_21 := mf_cv_f g_696_21 (F_697.2 21 (by decide)) (F_697.2 22 (by decide)) (F_697.2 23 (by decide)) (F_697.2 24 (by decide))
  have g_697_25 := mf_cv_f g_696_25 (F_697.2 25 (by decide)) (F_697.2 26 (by decide)) (F_697.2 27 (by decide)) (F_697.2 28 (by decide))
  have g_697_29 := mf_cr_f g_696_29 (F_697.2 29 (by decide)) (F_697.2 30 (by decide)) (F_697.2 31 (by decide)) (F_697.2 32 (by decide))
  have g_697_33 := mf_cv_f g_696_33 (F_697.2 33 (by decide)) (F_697.2 34 (by decide)) (F_697.2 35 (by decide)) (F_697.2 36 (by decide))
  have g_697_41 := mf_cr_f g_696_41 (F_697.2 41 (by decide)) (F_697.2 42 (by decide)) (F_697.2 43 (by decide)) (F_697.2 44 (by decide))
  have g_697_46 := (F_697.2 46 (by decide +kernel)).trans g_696_46
  have g_697_37 : mf_cv h_697 37 W pl kb (p + 1) 0 := e_697_C
  refine ik_Wk 0 (pc' := 52) (loc' := [some (.ref 17), some (fI p), some (fI 2), some (.ref 46), some (fI 1), none]) (st' := [.ref 37]) (h' := h_697) (cl' := 0) (sl' := 0) rfl ?_
  refine ik_Wk 1 (pc' := 53) (loc' := [some (.ref 17), some (fI p), some (fI 2), some (.ref 46), some (fI 1), none]) (st' := []) (h' := h_697) (cl' := 0) (sl' := 0) rfl ?_
  refine fw_inc (a := 1) (loc' := [some (.ref 17), some (fI p), some (fI 2), some (.ref 46), some (fI 2), none]) rfl rfl (Nat.le_of_ble_eq_true rfl) rfl ?_
  refine ik_Wk 3 (pc' := 6) (loc' := [some (.ref 17), some (fI p), some (fI 2), some (.ref 46), some (fI 2), none]) (st' := [fI 2, fI 2]) (h' := h_697) (cl' := 0) (sl' := 0) rfl ?_
  refine fw_ic_ge rfl rfl (by omega) (by omega) (by omega) (by omega) (fun hc3 => ?_) (fun hc3 => absurd hc3 (by omega))
  refine ik_Wk 4 (pc' := 65) (loc' := [some (.ref 17), some (fI p), some (fI 2), some (.ref 46), some (fI 0), none]) (st' := [fI 2, fI 0]) (h' := h_697) (cl' := 0) (sl' := 0) rfl ?_
  refine fw_ic_ge rfl rfl (by omega) (by omega) (by omega) (by omega) (fun hc4 => absurd hc4 (by omega)) (fun hc4 => ?_)
  refine ik_Wk 4 (pc' := 74) (loc' := [some (.ref 17), some (fI p), some (fI 2), some (.ref 46), some (fI 0), some (fI 0)]) (st' := [fI 2, fI 0]) (h' := h_697) (cl' := 0) (sl' := 0) rfl ?_
  refine fw_ic_ge rfl rfl (by omega) (by omega) (by omega) (by omega) (fun hc5 => absurd hc5 (by omega)) (fun hc5 => ?_)
  refine ik_Wk 2 (pc' := 79) (loc' := [some (.ref 17), some (fI p), some (fI 2), some (.ref 46), some (fI 0), some (fI 0)]) (st' := [.ref 17, .ref 17]) (h' := h_697) (cl' := 0) (sl' := 0) rfl ?_
  refine fw_gf rfl rfl g_697_17 rfl ?_
  refine ik_Wk 1 (pc' := 84) (loc' := [some (.ref 17), some (fI p), some (fI 2), some (.ref 46), some (fI 0), some (fI 0)]) (st' := [fI 0, .ref 18, .ref 17]) (h' := h_697) (cl' := 0) (sl' := 0) rfl ?_
  refine fx_aal (z := 0) rfl g_697_18 (by decide) (by decide) rfl ?_
  refine ik_Wk 2 (pc' := 87) (loc' := [some (.ref 17), some (fI p), some (fI 2), some (.ref 46), some (fI 0), some (fI 0)]) (st' := [.ref 17, fI 0, .ref 21, .ref 17]) (h' := h_697) (cl' := 0) (sl' := 0) rfl ?_
  refine fw_gf rfl rfl g_697_17 rfl ?_
  refine ik_Wk 2 (pc' := 93) (loc' := [some (.ref 17), some (fI p), some (fI 2), some (.ref 46), some (fI 0), some (fI 0)]) (st' := [fI 0, fI 3, .ref 18, fI 0, .ref 21, .ref 17]) (h' := h_697) (cl' := 0) (sl' := 0) rfl ?_
  refine fw_add rfl ?_
  refine fx_aal (z := 3) rfl g_697_18 (by decide) (by decide) rfl ?_
  refine ik_Wk 1 (pc' := 96) (loc' := [some (.ref 17), some (fI p), some (fI 2), some (.ref 46), some (fI 0), some (fI 0)]) (st' := [fI 0, .ref 33, fI 0, .ref 21, .ref 17]) (h' := h_697) (cl' := 0) (sl' := 0) rfl ?_
  refine fw_ld 1000000 rfl rfl (by decide) ?_
  refine fw_call 80 6 0 [.ref 17, .ref 21, fI 0, .ref 33, fI 0, fI 1000000] [] rfl rfl rfl (by decide) rfl rfl (fw_rec k_697 rfl g_697_17 rfl (by decide)) (cs_race (C := 21) (E := 33) (pl := pl) (lo := lo) (s := s) (ka := ka) (pa := (p + 0)) (ma := 0) (kb := kb) (pb := (p + 0)) (mb := 0) (ua := 0) (ub := 0) (lim := 1000000) (bo := bo) (la := la) (lb := lb) (wg := wg) (wc := wc) (we := we) (W := W) (by omega) (by omega) (by omega) (by omega) (by omega) (by omega) (by omega) q3 q4 g_697_7 g_697_11 n11 g_697_12 n12 g_697_13 n13 g_697_17 g_697_19 g_697_21 g_697_33 k_697) ?_
  rintro _ h_698 ⟨l0_698, l1_698, l2_698, ua'_698, ub'_698, rfl, e_698_17, e_698_19, e_698_C, e_698_E, p_698_0, p_698_1, F_698⟩
  have k_698 := F_698.1.trans k_697
  have fr_698 := hfr_c fr_697 F_698 (by decide)
  have g_698_7 := (F_698.2 7 (by decide +kernel)).trans g_697_7
  have g_698_11 := (F_698.2 11 (by decide +kernel)).trans g_697_11
  have g_698_12 := (F_698.2 12 (by decide +kernel)).trans g_697_12
  have g_698_13 := (F_698.2 13 (by decide +kernel)).trans g_697_13
  have g_698_15 := (F_698.2 15 (by decide +kernel)).trans g_697_15
  have g_698_18 := (F_698.2 18 (by decide +kernel)).trans g_697_18
  have g_698_25 := mf_cv_f g_697_25 (F_698.2 25 (by decide)) (F_698.2 26 (by decide)) (F_698.2 27 (by decide)) (F_698.2 28 (by decide))
  have g_698_29 := mf_cr_f g_697_29 (F_698.2 29 (by decide)) (F_698.2 30 (by decide)) (F_698.2 31 (by decide)) (F_698.2 32 (by decide))
  have g_698_37 := mf_cv_f g_697_37 (F_698.2 37 (by decide)) (F_698.2 38 (by decide)) (F_698.2 39 (by decide)) (F_698.2 40 (by decide))
  have g_698_41 := mf_cr_f g_697_41 (F_698.2 41 (by decide)) (F_698.2 42 (by decide)) (F_698.2 43 (by decide)) (F_698.2 44 (by decide))
  have g_698_46 := (F_698.2 46 (by decide +kernel)).trans g_697_46
  have g_698_17 : cE h_698 17 (.inr (8, [.ref 7, .ref 15, .ref 18, .ref 19, fJ l2_698, .ref 20])) := e_698_17
  have g_698_19 : cE h_698 19 (.inl (.long, fL [l0_698, l1_698])) := e_698_19
  have g_698_21 : mf_cv h_698 21 W pl ka (p + 0) ua'_698 := e_698_C
  have g_698_33 : mf_cv h_698 33 W pl kb (p + 0) ub'_698 := e_698_E
  refine ik_Wk 0 (pc' := 101) (loc' := [some (.ref 17), some (fI p), some (fI 2), some (.ref 46), some (fI 0), some (fI 0)]) (st' := []) (h' := h_698) (cl' := 0) (sl' := 0) rfl ?_
  refine ik_Wk 3 (pc' := 105) (loc' := [some (.ref 17), some (fI p), some (fI 2), some (.ref 46), some (fI 0), some (fI 0)]) (st' := [fI 3, fI 0, .ref 46]) (h' := h_698) (cl' := 0) (sl' := 0) rfl ?_
  refine fw_mul rfl ?_
  refine ik_Wk 1 (pc' := 108) (loc' := [some (.ref 17), some (fI p), some (fI 2), some (.ref 46), some (fI 0), some (fI 0)]) (st' := [fI 0, fI 0, .ref 46]) (h' := h_698) (cl' := 0) (sl' := 0) rfl ?_
  refine fw_add rfl ?_
  refine ik_Wk 2 (pc' := 111) (loc' := [some (.ref 17), some (fI p), some (fI 2), some (.ref 46), some (fI 0), some (fI 0)]) (st' := [fI 0, .ref 17, fI 0, .ref 46]) (h' := h_698) (cl' := 0) (sl' := 0) rfl ?_
  refine ik_Wc 74 2 0 [.ref 17, fI 0] [fI 0, .ref 46] rfl rfl rfl (by decide) rfl rfl (fw_rec k_698 rfl g_698_17 rfl (by decide)) ?_
  refine ik_Wk 0 (pc' := 0) (loc' := [some (.ref 17), some (fI 0)]) (st' := []) (h' := h_698) (cl' := 0) (sl' := 0) rfl ?_
  refine ik_Wk 1 (pc' := 1) (loc' := [some (.ref 17), some (fI 0)]) (st' := [.ref 17]) (h' := h_698) (cl' := 0) (sl' := 0) rfl ?_
  refine fw_gf rfl rfl g_698_17 rfl ?_
  refine ik_Wk 1 (pc' := 5) (loc' := [some (.ref 17), some (fI 0)]) (st' := [fI 0, .ref 19]) (h' := h_698) (cl' := 0) (sl' := 0) rfl ?_
  refine fx_lal (z := 0) rfl g_698_19 (by decide) (Nat.le_of_ble_eq_true rfl) (by decide) ?_
  refine ik_Wk 0 (pc' := 6) (loc' := [some (.ref 17), some (fI 0)]) (st' := [fJ l0_698]) (h' := h_698) (cl' := 0) (sl' := 0) rfl ?_
  refine fw_l2 1000 rfl rfl (by decide) ?_
  refine fx_ldiv rfl (by omega) (by omega) (by omega) (by omega) ?_
  refine fx_l2i rfl ?_
  refine ik_Wret rfl rfl ⟨_, _, rfl, rfl, ?_⟩
  refine ik_Wk 0 (pc' := 114) (loc' := [some (.ref 17), some (fI p), some (fI 2), some (.ref 46), some (fI 0), some (fI 0)]) (st' := [fI (l0_698 / 1000), fI 0, .ref 46]) (h' := h_698) (cl' := 0) (sl' := 0) rfl ?_
  refine fw_si rfl (by decide) ?_
  refine fx_idiv rfl (by omega) (by omega) (by omega) (by omega) ?_
  have hl6 : (fe.set (0 : Int).toNat ((l0_698 / 1000) / 1000)).length = 9 := (List.length_set ..).trans n46
  refine fx_ias rfl g_698_46 (by omega) (by omega) (by omega) ?_
  intro h_699 e_699 f_699 l_699
  have k_699 := l_699.trans k_698
  have fr_699 := hfr_w fr_698 f_699 l_699 (by decide)
  have g_699_7 := (f_699 7 (by decide)).trans g_698_7
  have g_699_11 := (f_699 11 (by decide)).trans g_698_11
  have g_699_12 := (f_699 12 (by decide)).trans g_698_12
  have g_699_13 := (f_699 13 (by decide)).trans g_698_13
  have g_699_15 := (f_699 15 (by decide)).trans g_698_15
  have g_699_17 := (f_699 17 (by decide)).trans g_698_17
  have g_699_18 := (f_699 18 (by decide)).trans g_698_18
  have g_699_19 := (f_699 19 (by decide)).trans g_698_19
  have g_699_21 := mf_cv_f g_698_21 (f_699 21 (by decide)) (f_699 22 (by decide)) (f_699 23 (by decide)) (f_699 24 (by decide))
  have g_699_25 := mf_cv_f g_698_25 (f_699 25 (by decide)) (f_699 26 (by decide)) (f_699 27 (by decide)) (f_699 28 (by decide))
  have g_699_29 := mf_cr_f g_698_29 (f_699 29 (by decide)) (f_699 30 (by decide)) (f_699 31 (by decide)) (f_699 32 (by decide))
  have g_699_33 := mf_cv_f g_698_33 (f_699 33 (by decide)) (f_699 34 (by decide)) (f_699 35 (by decide)) (f_699 36 (by decide))
  have g_699_37 := mf_cv_f g_698_37 (f_699 37 (by decide)) (f_699 38 (by decide)) (f_699 39 (by decide)) (f_699 40 (by decide))
  have g_699_41 := mf_cr_f g_698_41 (f_699 41 (by decide)) (f_699 42 (by decide)) (f_699 43 (by decide)) (f_699 44 (by decide))
  have g_699_46 : cE h_699 46 (.inl (.int, fA (fe.set (0 : Int).toNat ((l0_698 / 1000) / 1000)))) := e_699
  have qfe1 : ∀ i : Int, 0 ≤ i → i < 9 → 0 ≤ (fe.set (0 : Int).toNat ((l0_698 / 1000) / 1000)).getD i.toNat 0 ∧ (fe.set (0 : Int).toNat ((l0_698 / 1000) / 1000)).getD i.toNat 0 ≤ 1000 := by
    intro i i0 i1
    rw [fz_getD_set]
    split
    · omega
    · exact qfe0 i i0 i1
  refine fw_inc (a := 0) (loc' := [some (.ref 17), some (fI p), some (fI 2), some (.ref 46), some (fI 0), some (fI 1)]) rfl rfl (Nat.le_of_ble_eq_true rfl) rfl ?_
  refine ik_Wk 3 (pc' := 74) (loc' := [some (.ref 17), some (fI p), some (fI 2), some (.ref 46), some (fI 0), some (fI 1)]) (st' := [fI 2, fI 1]) (h' := h_699) (cl' := 0) (sl' := 0) rfl ?_
  refine fw_ic_ge rfl rfl (by omega) (by omega) (by omega) (by omega) (fun hc7 => absurd hc7 (by omega)) (fun hc7 => ?_)
  refine ik_Wk 2 (pc' := 79) (loc' := [some (.ref 17), some (fI p), some (fI 2), some (.ref 46), some (fI 0), some (fI 1)]) (st' := [.ref 17, .ref 17]) (h' := h_699) (cl' := 0) (sl' := 0) rfl ?_
  refine fw_gf rfl rfl g_699_17 rfl ?_
  refine ik_Wk 1 (pc' := 84) (loc' := [some (.ref 17), some (fI p), some (fI 2), some (.ref 46), some (fI 0), some (fI 1)]) (st' := [fI 0, .ref 18, .ref 17]) (h' := h_699) (cl' := 0) (sl' := 0) rfl ?_
  refine fx_aal (z := 0) rfl g_699_18 (by decide) (by decide) rfl ?_
  refine ik_Wk 2 (pc' := 87) (loc' := [some (.ref 17), some (fI p), some (fI 2), some (.ref 46), some (fI 0), some (fI 1)]) (st' := [.ref 17, fI 0, .ref 21, .ref 17]) (h' := h_699) (cl' := 0) (sl' := 0) rfl ?_
  refine fw_gf rfl rfl g_699_17 rfl ?_
  refine ik_Wk 2 (pc' := 93) (loc' := [some (.ref 17), some (fI p), some (fI 2), some (.ref 46), some (fI 0), some (fI 1)]) (st' := [fI 1, fI 3, .ref 18, fI 0, .ref 21, .ref 17]) (h' := h_699) (cl' := 0) (sl' := 0) rfl ?_
  refine fw_add rfl ?_
  refine fx_aal (z := 4) rfl g_699_18 (by decide) (by decide) rfl ?_
  refine ik_Wk 1 (pc' := 96) (loc' := [some (.ref 17), some (fI p), some (fI 2), some (.ref 46), some (fI 0), some (fI 1)]) (st' := [fI 0, .ref 37, fI 0, .ref 21, .ref 17]) (h' := h_699) (cl' := 0) (sl' := 0) rfl ?_
  refine fw_ld 1000000 rfl rfl (by decide) ?_
  refine fw_call 80 6 0 [.ref 17, .ref 21, fI 0, .ref 37, fI 0, fI 1000000] [] rfl rfl rfl (by decide) rfl rfl (fw_rec k_699 rfl g_699_17 rfl (by decide)) (cs_race (C := 21) (E := 37) (pl := pl) (lo := lo) (s := s) (ka := ka) (pa := (p + 0)) (ma := 0) (kb := kb) (pb := (p + 1)) (mb := 0) (ua := ua'_698) (ub := 0) (lim := 1000000) (bo := l2_698) (la := l0_698) (lb := l1_698) (wg := wg) (wc := wc) (we := we) (W := W) (by omega) (by omega) (by omega) (by omega) (by omega) (by omega) (by omega) q3 q4 g_699_7 g_699_11 n11 g_699_12 n12 g_699_13 n13 g_699_17 g_699_19 g_699_21 g_699_37 k_699) ?_
  rintro _ h_700 ⟨l0_700, l1_700, l2_700, ua'_700, ub'_700, rfl, e_700_17, e_700_19, e_700_C, e_700_E, p_700_0, p_700_1, F_700⟩
  have k_700 := F_700.1.trans k_699
  have fr_700 := hfr_c fr_699 F_700 (by decide)
  have g_700_7 := (F_700.2 7 (by decide +kernel)).trans g_699_7
  have g_700_11 := (F_700.2 11 (by decide +kernel)).trans g_699_11
  have g_700_12 := (F_700.2 12 (by decide +kernel)).trans g_699_12
  have g_700_13 := (F_700.2 13 (by decide +kernel)).trans g_699_13
  have g_700_15 := (F_700.2 15 (by decide +kernel)).trans g_699_15
  have g_700_18 := (F_700.2 18 (by decide +kernel)).trans g_699_18
  have g_700_25 := mf_cv_f g_699_25 (F_700.2 25 (by decide)) (F_700.2 26 (by decide)) (F_700.2 27 (by decide)) (F_700.2 28 (by decide))
  have g_700_29 := mf_cr_f g_699_29 (F_700.2 29 (by decide)) (F_700.2 30 (by decide)) (F_700.2 31 (by decide)) (F_700.2 32 (by decide))
  have g_700_33 := mf_cv_f g_699_33 (F_700.2 33 (by decide)) (F_700.2 34 (by decide)) (F_700.2 35 (by decide)) (F_700.2 36 (by decide))
  have g_700_41 := mf_cr_f g_699_41 (F_700.2 41 (by decide)) (F_700.2 42 (by decide)) (F_700.2 43 (by decide)) (F_700.2 44 (by decide))
  have g_700_46 := (F_700.2 46 (by decide +kernel)).trans g_699_46
  have g_700_17 : cE h_700 17 (.inr (8, [.ref 7, .ref 15, .ref 18, .ref 19, fJ l2_700, .ref 20])) := e_700_17
  have g_700_19 : cE h_700 19 (.inl (.long, fL [l0_700, l1_700])) := e_700_19
  have g_700_21 : mf_cv h_700 21 W pl ka (p + 0) ua'_700 := e_700_C
  have g_700_37 : mf_cv h_700 37 W pl kb (p + 1) ub'_700 := e_700_E
  refine ik_Wk 0 (pc' := 101) (loc' := [some (.ref 17), some (fI p), some (fI 2), some (.ref 46), some (fI 0), some (fI 1)]) (st' := []) (h' := h_700) (cl' := 0) (sl' := 0) rfl ?_
  refine ik_Wk 3 (pc' := 105) (loc' := [some (.ref 17), some (fI p), some (fI 2), some (.ref 46), some (fI 0), some (fI 1)]) (st' := [fI 3, fI 0, .ref 46]) (h' := h_700) (cl' := 0) (sl' := 0) rfl ?_
  refine fw_mul rfl ?_
  refine ik_Wk 1 (pc' := 108) (loc' := [some (.ref 17), some (fI p), some (fI 2), some (.ref 46), some (fI 0), some (fI 1)]) (st' := [fI 1, fI 0, .ref 46]) (h' := h_700) (cl' := 0) (sl' := 0) rfl ?_
  refine fw_add rfl ?_
  refine ik_Wk 2 (pc' := 111) (loc' := [some (.ref 17), some (fI p), some (fI 2), some (.ref 46), some (fI 0), some (fI 1)]) (st' := [fI 0, .ref 17, fI 1, .ref 46]) (h' := h_700) (cl' := 0) (sl' := 0) rfl ?_
  refine ik_Wc 74 2 0 [.ref 17, fI 0] [fI 1, .ref 46] rfl rfl rfl (by decide) rfl rfl (fw_rec k_700 rfl g_700_17 rfl (by decide)) ?_
  refine ik_Wk 0 (pc' := 0) (loc' := [some (.ref 17), some (fI 0)]) (st' := []) (h' := h_700) (cl' := 0) (sl' := 0) rfl ?_
  refine ik_Wk 1 (pc' := 1) (loc' := [some (.ref 17), some (fI 0)]) (st' := [.ref 17]) (h' := h_700) (cl' := 0) (sl' := 0) rfl ?_
  refine fw_gf rfl rfl g_700_17 rfl ?_
  refine ik_Wk 1 (pc' := 5) (loc' := [some (.ref 17), some (fI 0)]) (st' := [fI 0, .ref 19]) (h' := h_700) (cl' := 0) (sl' := 0) rfl ?_
  refine fx_lal (z := 0) rfl g_700_19 (by decide) (Nat.le_of_ble_eq_true rfl) (by decide) ?_
  refine ik_Wk 0 (pc' := 6) (loc' := [some (.ref 17), some (fI 0)]) (st' := [fJ l0_700]) (h' := h_700) (cl' := 0) (sl' := 0) rfl ?_
  refine fw_l2 1000 rfl rfl (by decide) ?_
  refine fx_ldiv rfl (by omega) (by omega) (by omega) (by omega) ?_
  refine fx_l2i rfl ?_
  refine ik_Wret rfl rfl ⟨_, _, rfl, rfl, ?_⟩
  refine ik_Wk 0 (pc' := 114) (loc' := [some (.ref 17), some (fI p), some (fI 2), some (.ref 46), some (fI 0), some (fI 1)]) (st' := [fI (l0_700 / 1000), fI 1, .ref 46]) (h' := h_700) (cl' := 0) (sl' := 0) rfl ?_
  refine fw_si rfl (by decide) ?_
  refine fx_idiv rfl (by omega) (by omega) (by omega) (by omega) ?_
  have hl8 : ((fe.set (0 : Int).toNat ((l0_698 / 1000) / 1000)).set (1 : Int).toNat ((l0_700 / 1000) / 1000)).length = 9 := (List.length_set ..).trans hl6
  refine fx_ias rfl g_700_46 (by omega) (by omega) (by omega) ?_
  intro h_701 e_701 f_701 l_701
  have k_701 := l_701.trans k_700
  have fr_701 := hfr_w fr_700 f_701 l_701 (by decide)
  have g_701_7 := (f_701 7 (by decide)).trans g_700_7
  have g_701_11 := (f_701 11 (by decide)).trans g_700_11
  have g_701_12 := (f_701 12 (by decide)).trans g_700_12
  have g_701_13 := (f_701 13 (by decide)).trans g_700_13
  have g_701_15 := (f_701 15 (by decide)).trans g_700_15
  have g_701_17 := (f_701 17 (by decide)).trans g_700_17
  have g_701_18 := (f_701 18 (by decide)).trans g_700_18
  have g_701_19 := (f_701 19 (by decide)).trans g_700_19
  have g_701_21 := mf_cv_f g_700_21 (f_701 21 (by decide)) (f_701 22 (by decide)) (f_701 23 (by decide)) (f_701 24 (by decide))
  have g_701_25 := mf_cv_f g_700_25 (f_701 25 (by decide)) (f_701 26 (by decide)) (f_701 27 (by decide)) (f_701 28 (by decide))
  have g_701_29 := mf_cr_f g_700_29 (f_701 29 (by decide)) (f_701 30 (by decide)) (f_701 31 (by decide)) (f_701 32 (by decide))
  have g_701_33 := mf_cv_f g_700_33 (f_701 33 (by decide)) (f_701 34 (by decide)) (f_701 35 (by decide)) (f_701 36 (by decide))
  have g_701_37 := mf_cv_f g_700_37 (f_701 37 (by decide)) (f_701 38 (by decide)) (f_701 39 (by decide)) (f_701 40 (by decide))
  have g_701_41 := mf_cr_f g_700_41 (f_701 41 (by decide)) (f_701 42 (by decide)) (f_701 43 (by decide)) (f_701 44 (by decide))
  have g_701_46 : cE h_701 46 (.inl (.int, fA ((fe.set (0 : Int).toNat ((l0_698 / 1000) / 1000)).set (1 : Int).toNat ((l0_700 / 1000) / 1000)))) := e_701
  have qfe2 : ∀ i : Int, 0 ≤ i → i < 9 → 0 ≤ ((fe.set (0 : Int).toNat ((l0_698 / 1000) / 1000)).set (1 : Int).toNat ((l0_700 / 1000) / 1000)).getD i.toNat 0 ∧ ((fe.set (0 : Int).toNat ((l0_698 / 1000) / 1000)).set (1 : Int).toNat ((l0_700 / 1000) / 1000)).getD i.toNat 0 ≤ 1000 := by
    intro i i0 i1
    rw [fz_getD_set]
    split
    · omega
    · exact qfe1 i i0 i1
  refine fw_inc (a := 1) (loc' := [some (.ref 17), some (fI p), some (fI 2), some (.ref 46), some (fI 0), some (fI 2)]) rfl rfl (Nat.le_of_ble_eq_true rfl) rfl ?_
  refine ik_Wk 3 (pc' := 74) (loc' := [some (.ref 17), some (fI p), some (fI 2), some (.ref 46), some (fI 0), some (fI 2)]) (st' := [fI 2, fI 2]) (h' := h_701) (cl' := 0) (sl' := 0) rfl ?_
  refine fw_ic_ge rfl rfl (by omega) (by omega) (by omega) (by omega) (fun hc9 => ?_) (fun hc9 => absurd hc9 (by omega))
  refine fw_inc (a := 0) (loc' := [some (.ref 17), some (fI p), some (fI 2), some (.ref 46), some (fI 1), some (fI 2)]) rfl rfl (Nat.le_of_ble_eq_true rfl) rfl ?_
  refine ik_Wk 3 (pc' := 65) (loc' := [some (.ref 17), some (fI p), some (fI 2), some (.ref 46), some (fI 1), some (fI 2)]) (st' := [fI 2, fI 1]) (h' := h_701) (cl' := 0) (sl' := 0) rfl ?_
  refine fw_ic_ge rfl rfl (by omega) (by omega) (by omega) (by omega) (fun hc10 => absurd hc10 (by omega)) (fun hc10 => ?_)
  refine ik_Wk 4 (pc' := 74) (loc' := [some (.ref 17), some (fI p), some (fI 2), some (.ref 46), some (fI 1), some (fI 0)]) (st' := [fI 2, fI 0]) (h' := h_701) (cl' := 0) (sl' := 0) rfl ?_
  refine fw_ic_ge rfl rfl (by omega) (by omega) (by omega) (by omega) (fun hc11 => absurd hc11 (by omega)) (fun hc11 => ?_)
  refine ik_Wk 2 (pc' := 79) (loc' := [some (.ref 17), some (fI p), some (fI 2), some (.ref 46), some (fI 1), some (fI 0)]) (st' := [.ref 17, .ref 17]) (h' := h_701) (cl' := 0) (sl' := 0) rfl ?_
  refine fw_gf rfl rfl g_701_17 rfl ?_
  refine ik_Wk 1 (pc' := 84) (loc' := [some (.ref 17), some (fI p), some (fI 2), some (.ref 46), some (fI 1), some (fI 0)]) (st' := [fI 1, .ref 18, .ref 17]) (h' := h_701) (cl' := 0) (sl' := 0) rfl ?_
  refine fx_aal (z := 1) rfl g_701_18 (by decide) (by decide) rfl ?_
  refine ik_Wk 2 (pc' := 87) (loc' := [some (.ref 17), some (fI p), some (fI 2), some (.ref 46), some (fI 1), some (fI 0)]) (st' := [.ref 17, fI 0, .ref 25, .ref 17]) (h' := h_701) (cl' := 0) (sl' := 0) rfl ?_
  refine fw_gf rfl rfl g_701_17 rfl ?_
  refine ik_Wk 2 (pc' := 93) (loc' := [some (.ref 17), some (fI p), some (fI 2), some (.ref 46), some (fI 1), some (fI 0)]) (st' := [fI 0, fI 3, .ref 18, fI 0, .ref 25, .ref 17]) (h' := h_701) (cl' := 0) (sl' := 0) rfl ?_
  refine fw_add rfl ?_
  refine fx_aal (z := 3) rfl g_701_18 (by decide) (by decide) rfl ?_
  refine ik_Wk 1 (pc' := 96) (loc' := [some (.ref 17), some (fI p), some (fI 2), some (.ref 46), some (fI 1), some (fI 0)]) (st' := [fI 0, .ref 33, fI 0, .ref 25, .ref 17]) (h' := h_701) (cl' := 0) (sl' := 0) rfl ?_
  refine fw_ld 1000000 rfl rfl (by decide) ?_
  refine fw_call 80 6 0 [.ref 17, .ref 25, fI 0, .ref 33, fI 0, fI 1000000] [] rfl rfl rfl (by decide) rfl rfl (fw_rec k_701 rfl g_701_17 rfl (by decide)) (cs_race (C := 25) (E := 33) (pl := pl) (lo := lo) (s := s) (ka := ka) (pa := (p + 1)) (ma := 0) (kb := kb) (pb := (p + 0)) (mb := 0) (ua := 0) (ub := ub'_698) (lim := 1000000) (bo := l2_700) (la := l0_700) (lb := l1_700) (wg := wg) (wc := wc) (we := we) (W := W) (by omega) (by omega) (by omega) (by omega) (by omega) (by omega) (by omega) q3 q4 g_701_7 g_701_11 n11 g_701_12 n12 g_701_13 n13 g_701_17 g_701_19 g_701_25 g_701_33 k_701) ?_
  rintro _ h_702 ⟨l0_702, l1_702, l2_702, ua'_702, ub'_702, rfl, e_702_17, e_702_19, e_702_C, e_702_E, p_702_0, p_702_1, F_702⟩
  have k_702 := F_702.1.trans k_701
  have fr_702 := hfr_c fr_701 F_702 (by decide)
  have g_702_7 := (F_702.2 7 (by decide +kernel)).trans g_701_7
  have g_702_11 := (F_702.2 11 (by decide +kernel)).trans g_701_11
  have g_702_12 := (F_702.2 12 (by decide +kernel)).trans g_701_12
  have g_702_13 := (F_702.2 13 (by decide +kernel)).trans g_701_13
  have g_702_15 := (F_702.2 15 (by decide +kernel)).trans g_701_15
  have g_702_18 := (F_702.2 18 (by decide +kernel)).trans g_701_18
  have g_702_21 := mf_cv_f g_701_21 (F_702.2 21 (by decide)) (F_702.2 22 (by decide)) (F_702.2 23 (by decide)) (F_702.2 24 (by decide))
  have g_702_29 := mf_cr_f g_701_29 (F_702.2 29 (by decide)) (F_702.2 30 (by decide)) (F_702.2 31 (by decide)) (F_702.2 32 (by decide))
  have g_702_37 := mf_cv_f g_701_37 (F_702.2 37 (by decide)) (F_702.2 38 (by decide)) (F_702.2 39 (by decide)) (F_702.2 40 (by decide))
  have g_702_41 := mf_cr_f g_701_41 (F_702.2 41 (by decide)) (F_702.2 42 (by decide)) (F_702.2 43 (by decide)) (F_702.2 44 (by decide))
  have g_702_46 := (F_702.2 46 (by decide +kernel)).trans g_701_46
  have g_702_17 : cE h_702 17 (.inr (8, [.ref 7, .ref 15, .ref 18, .ref 19, fJ l2_702, .ref 20])) := e_702_17
  have g_702_19 : cE h_702 19 (.inl (.long, fL [l0_702, l1_702])) := e_702_19
  have g_702_25 : mf_cv h_702 25 W pl ka (p + 1) ua'_702 := e_702_C
  have g_702_33 : mf_cv h_702 33 W pl kb (p + 0) ub'_702 := e_702_E
  refine ik_Wk 0 (pc' := 101) (loc' := [some (.ref 17), some (fI p), some (fI 2), some (.ref 46), some (fI 1), some (fI 0)]) (st' := []) (h' := h_702) (cl' := 0) (sl' := 0) rfl ?_
  refine ik_Wk 3 (pc' := 105) (loc' := [some (.ref 17), some (fI p), some (fI 2), some (.ref 46), some (fI 1), some (fI 0)]) (st' := [fI 3, fI 1, .ref 46]) (h' := h_702) (cl' := 0) (sl' := 0) rfl ?_
  refine fw_mul rfl ?_
  refine ik_Wk 1 (pc' := 108) (loc' := [some (.ref 17), some (fI p), some (fI 2), some (.ref 46), some (fI 1), some (fI 0)]) (st' := [fI 0, fI 3, .ref 46]) (h' := h_702) (cl' := 0) (sl' := 0) rfl ?_
  refine fw_add rfl ?_
  refine ik_Wk 2 (pc' := 111) (loc' := [some (.ref 17), some (fI p), some (fI 2), some (.ref 46), some (fI 1), some (fI 0)]) (st' := [fI 0, .ref 17, fI 3, .ref 46]) (h' := h_702) (cl' := 0) (sl' := 0) rfl ?_
  refine ik_Wc 74 2 0 [.ref 17, fI 0] [fI 3, .ref 46] rfl rfl rfl (by decide) rfl rfl (fw_rec k_702 rfl g_702_17 rfl (by decide)) ?_
  refine ik_Wk 0 (pc' := 0) (loc' := [some (.ref 17), some (fI 0)]) (st' := []) (h' := h_702) (cl' := 0) (sl' := 0) rfl ?_
  refine ik_Wk 1 (pc' := 1) (loc' := [some (.ref 17), some (fI 0)]) (st' := [.ref 17]) (h' := h_702) (cl' := 0) (sl' := 0) rfl ?_
  refine fw_gf rfl rfl g_702_17 rfl ?_
  refine ik_Wk 1 (pc' := 5) (loc' := [some (.ref 17), some (fI 0)]) (st' := [fI 0, .ref 19]) (h' := h_702) (cl' := 0) (sl' := 0) rfl ?_
  refine fx_lal (z := 0) rfl g_702_19 (by decide) (Nat.le_of_ble_eq_true rfl) (by decide) ?_
  refine ik_Wk 0 (pc' := 6) (loc' := [some (.ref 17), some (fI 0)]) (st' := [fJ l0_702]) (h' := h_702) (cl' := 0) (sl' := 0) rfl ?_
  refine fw_l2 1000 rfl rfl (by decide) ?_
  refine fx_ldiv rfl (by omega) (by omega) (by omega) (by omega) ?_
  refine fx_l2i rfl ?_
  refine ik_Wret rfl rfl ⟨_, _, rfl, rfl, ?_⟩
  refine ik_Wk 0 (pc' := 114) (loc' := [some (.ref 17), some (fI p), some (fI 2), some (.ref 46), some (fI 1), some (fI 0)]) (st' := [fI (l0_702 / 1000), fI 3, .ref 46]) (h' := h_702) (cl' := 0) (sl' := 0) rfl ?_
  refine fw_si rfl (by decide) ?_
  refine fx_idiv rfl (by omega) (by omega) (by omega) (by omega) ?_
  have hl12 : (((fe.set (0 : Int).toNat ((l0_698 / 1000) / 1000)).set (1 : Int).toNat ((l0_700 / 1000) / 1000)).set (3 : Int).toNat ((l0_702 / 1000) / 1000)).length = 9 := (List.length_set ..).trans hl8
  refine fx_ias rfl g_702_46 (by omega) (by omega) (by omega) ?_
  intro h_703 e_703 f_703 l_703
  have k_703 := l_703.trans k_702
  have fr_703 := hfr_w fr_702 f_703 l_703 (by decide)
  have g_703_7 := (f_703 7 (by decide)).trans g_702_7
  have g_703_11 := (f_703 11 (by decide)).trans g_702_11
  have g_703_12 := (f_703 12 (by decide)).trans g_702_12
  have g_703_13 := (f_703 13 (by decide)).trans g_702_13
  have g_703_15 := (f_703 15 (by decide)).trans g_702_15
  have g_703_17 := (f_703 17 (by decide)).trans g_702_17
  have g_703_18 := (f_703 18 (by decide)).trans g_702_18
  have g_703_19 := (f_703 19 (by decide)).trans g_702_19
  have g_703_21 := mf_cv_f g_702_21 (f_703 21 (by decide)) (f_703 22 (by decide)) (f_703 23 (by decide)) (f_703 24 (by decide))
  have g_703_25 := mf_cv_f g_702_25 (f_703 25 (by decide)) (f_703 26 (by decide)) (f_703 27 (by decide)) (f_703 28 (by decide))
  have g_703_29 := mf_cr_f g_702_29 (f_703 29 (by decide)) (f_703 30 (by decide)) (f_703 31 (by decide)) (f_703 32 (by decide))
  have g_703_33 := mf_cv_f g_702_33 (f_703 33 (by decide)) (f_703 34 (by decide)) (f_703 35 (by decide)) (f_703 36 (by decide))
  have g_703_37 := mf_cv_f g_702_37 (f_703 37 (by decide)) (f_703 38 (by decide)) (f_703 39 (by decide)) (f_703 40 (by decide))
  have g_703_41 := mf_cr_f g_702_41 (f_703 41 (by decide)) (f_703 42 (by decide)) (f_703 43 (by decide)) (f_703 44 (by decide))
  have g_703_46 : cE h_703 46 (.inl (.int, fA (((fe.set (0 : Int).toNat ((l0_698 / 1000) / 1000)).set (1 : Int).toNat ((l0_700 / 1000) / 1000)).set (3 : Int).toNat ((l0_702 / 1000) / 1000)))) := e_703
  have qfe3 : ∀ i : Int, 0 ≤ i → i < 9 → 0 ≤ (((fe.set (0 : Int).toNat ((l0_698 / 1000) / 1000)).set (1 : Int).toNat ((l0_700 / 1000) / 1000)).set (3 : Int).toNat ((l0_702 / 1000) / 1000)).getD i.toNat 0 ∧ (((fe.set (0 : Int).toNat ((l0_698 / 1000) / 1000)).set (1 : Int).toNat ((l0_700 / 1000) / 1000)).set (3 : Int).toNat ((l0_702 / 1000) / 1000)).getD i.toNat 0 ≤ 1000 := by
    intro i i0 i1
    rw [fz_getD_set]
    split
    · omega
    · exact qfe2 i i0 i1
  refine fw_inc (a := 0) (loc' := [some (.ref 17), some (fI p), some (fI 2), some (.ref 46), some (fI 1), some (fI 1)]) rfl rfl (Nat.le_of_ble_eq_true rfl) rfl ?_
  refine ik_Wk 3 (pc' := 74) (loc' := [some (.ref 17), some (fI p), some (fI 2), some (.ref 46), some (fI 1), some (fI 1)]) (st' := [fI 2, fI 1]) (h' := h_703) (cl' := 0) (sl' := 0) rfl ?_
  refine fw_ic_ge rfl rfl (by omega) (by omega) (by omega) (by omega) (fun hc13 => absurd hc13 (by omega)) (fun hc13 => ?_)
  refine ik_Wk 2 (pc' := 79) (loc' := [some (.ref 17), some (fI p), some (fI 2), some (.ref 46), some (fI 1), some (fI 1)]) (st' := [.ref 17, .ref 17]) (h' := h_703) (cl' := 0) (sl' := 0) rfl ?_
  refine fw_gf rfl rfl g_703_17 rfl ?_
  refine ik_Wk 1 (pc' := 84) (loc' := [some (.ref 17), some (fI p), some (fI 2), some (.ref 46), some (fI 1), some (fI 1)]) (st' := [fI 1, .ref 18, .ref 17]) (h' := h_703) (cl' := 0) (sl' := 0) rfl ?_
  refine fx_aal (z := 1) rfl g_703_18 (by decide) (by decide) rfl ?_
  refine ik_Wk 2 (pc' := 87) (loc' := [some (.ref 17), some (fI p), some (fI 2), some (.ref 46), some (fI 1), some (fI 1)]) (st' := [.ref 17, fI 0, .ref 25, .ref 17]) (h' := h_703) (cl' := 0) (sl' := 0) rfl ?_
  refine fw_gf rfl rfl g_703_17 rfl ?_
  refine ik_Wk 2 (pc' := 93) (loc' := [some (.ref 17), some (fI p), some (fI 2), some (.ref 46), some (fI 1), some (fI 1)]) (st' := [fI 1, fI 3, .ref 18, fI 0, .ref 25, .ref 17]) (h' := h_703) (cl' := 0) (sl' := 0) rfl ?_
  refine fw_add rfl ?_
  refine fx_aal (z := 4) rfl g_703_18 (by decide) (by decide) rfl ?_
  refine ik_Wk 1 (pc' := 96) (loc' := [some (.ref 17), some (fI p), some (fI 2), some (.ref 46), some (fI 1), some (fI 1)]) (st' := [fI 0, .ref 37, fI 0, .ref 25, .ref 17]) (h' := h_703) (cl' := 0) (sl' := 0) rfl ?_
  refine fw_ld 1000000 rfl rfl (by decide) ?_
  refine fw_call 80 6 0 [.ref 17, .ref 25, fI 0, .ref 37, fI 0, fI 1000000] [] rfl rfl rfl (by decide) rfl rfl (fw_rec k_703 rfl g_703_17 rfl (by decide)) (cs_race (C := 25) (E := 37) (pl := pl) (lo := lo) (s := s) (ka := ka) (pa := (p + 1)) (ma := 0) (kb := kb) (pb := (p + 1)) (mb := 0) (ua := ua'_702) (ub := ub'_700) (lim := 1000000) (bo := l2_702) (la := l0_702) (lb := l1_702) (wg := wg) (wc := wc) (we := we) (W := W) (by omega) (by omega) (by omega) (by omega) (by omega) (by omega) (by omega) q3 q4 g_703_7 g_703_11 n11 g_703_12 n12 g_703_13 n13 g_703_17 g_703_19 g_703_25 g_703_37 k_703) ?_
  rintro _ h_704 ⟨l0_704, l1_704, l2_704, ua'_704, ub'_704, rfl, e_704_17, e_704_19, e_704_C, e_704_E, p_704_0, p_704_1, F_704⟩
  have k_704 := F_704.1.trans k_703
  have fr_704 := hfr_c fr_703 F_704 (by decide)
  have g_704_7 := (F_704.2 7 (by decide +kernel)).trans g_703_7
  have g_704_11 := (F_704.2 11 (by decide +kernel)).trans g_703_11
  have g_704_12 := (F_704.2 12 (by decide +kernel)).trans g_703_12
  have g_704_13 := (F_704.2 13 (by decide +kernel)).trans g_703_13
  have g_704_15 := (F_704.2 15 (by decide +kernel)).trans g_703_15
  have g_704_18 := (F_704.2 18 (by decide +kernel)).trans g_703_18
  have g_704_21 := mf_cv_f g_703_21 (F_704.2 21 (by decide)) (F_704.2 22 (by decide)) (F_704.2 23 (by decide)) (F_704.2 24 (by decide))
  have g_704_29 := mf_cr_f g_703_29 (F_704.2 29 (by decide)) (F_704.2 30 (by decide)) (F_704.2 31 (by decide)) (F_704.2 32 (by decide))
  have g_704_33 := mf_cv_f g_703_33 (F_704.2 33 (by decide)) (F_704.2 34 (by decide)) (F_704.2 35 (by decide)) (F_704.2 36 (by decide))
  have g_704_41 := mf_cr_f g_703_41 (F_704.2 41 (by decide)) (F_704.2 42 (by decide)) (F_704.2 43 (by decide)) (F_704.2 44 (by decide))
  have g_704_46 := (F_704.2 46 (by decide +kernel)).trans g_703_46
  have g_704_17 : cE h_704 17 (.inr (8, [.ref 7, .ref 15, .ref 18, .ref 19, fJ l2_704, .ref 20])) := e_704_17
  have g_704_19 : cE h_704 19 (.inl (.long, fL [l0_704, l1_704])) := e_704_19
  have g_704_25 : mf_cv h_704 25 W pl ka (p + 1) ua'_704 := e_704_C
  have g_704_37 : mf_cv h_704 37 W pl kb (p + 1) ub'_704 := e_704_E
  refine ik_Wk 0 (pc' := 101) (loc' := [some (.ref 17), some (fI p), some (fI 2), some (.ref 46), some (fI 1), some (fI 1)]) (st' := []) (h' := h_704) (cl' := 0) (sl' := 0) rfl ?_
  refine ik_Wk 3 (pc' := 105) (loc' := [some (.ref 17), some (fI p), some (fI 2), some (.ref 46), some (fI 1), some (fI 1)]) (st' := [fI 3, fI 1, .ref 46]) (h' := h_704) (cl' := 0) (sl' := 0) rfl ?_
  refine fw_mul rfl ?_
  refine ik_Wk 1 (pc' := 108) (loc' := [some (.ref 17), some (fI p), some (fI 2), some (.ref 46), some (fI 1), some (fI 1)]) (st' := [fI 1, fI 3, .ref 46]) (h' := h_704) (cl' := 0) (sl' := 0) rfl ?_
  refine fw_add rfl ?_
  refine ik_Wk 2 (pc' := 111) (loc' := [some (.ref 17), some (fI p), some (fI 2), some (.ref 46), some (fI 1), some (fI 1)]) (st' := [fI 0, .ref 17, fI 4, .ref 46]) (h' := h_704) (cl' := 0) (sl' := 0) rfl ?_
  refine ik_Wc 74 2 0 [.ref 17, fI 0] [fI 4, .ref 46] rfl rfl rfl (by decide) rfl rfl (fw_rec k_704 rfl g_704_17 rfl (by decide)) ?_
  refine ik_Wk 0 (pc' := 0) (loc' := [some (.ref 17), some (fI 0)]) (st' := []) (h' := h_704) (cl' := 0) (sl' := 0) rfl ?_
  refine ik_Wk 1 (pc' := 1) (loc' := [some (.ref 17), some (fI 0)]) (st' := [.ref 17]) (h' := h_704) (cl' := 0) (sl' := 0) rfl ?_
  refine fw_gf rfl rfl g_704_17 rfl ?_
  refine ik_Wk 1 (pc' := 5) (loc' := [some (.ref 17), some (fI 0)]) (st' := [fI 0, .ref 19]) (h' := h_704) (cl' := 0) (sl' := 0) rfl ?_
  refine fx_lal (z := 0) rfl g_704_19 (by decide) (Nat.le_of_ble_eq_true rfl) (by decide) ?_
  refine ik_Wk 0 (pc' := 6) (loc' := [some (.ref 17), some (fI 0)]) (st' := [fJ l0_704]) (h' := h_704) (cl' := 0) (sl' := 0) rfl ?_
  refine fw_l2 1000 rfl rfl (by decide) ?_
  refine fx_ldiv rfl (by omega) (by omega) (by omega) (by omega) ?_
  refine fx_l2i rfl ?_
  refine ik_Wret rfl rfl ⟨_, _, rfl, rfl, ?_⟩
  refine ik_Wk 0 (pc' := 114) (loc' := [some (.ref 17), some (fI p), some (fI 2), some (.ref 46), some (fI 1), some (fI 1)]) (st' := [fI (l0_704 / 1000), fI 4, .ref 46]) (h' := h_704) (cl' := 0) (sl' := 0) rfl ?_
  refine fw_si rfl (by decide) ?_
  refine fx_idiv rfl (by omega) (by omega) (by omega) (by omega) ?_
  have hl14 : ((((fe.set (0 : Int).toNat ((l0_698 / 1000) / 1000)).set (1 : Int).toNat ((l0_700 / 1000) / 1000)).set (3 : Int).toNat ((l0_702 / 1000) / 1000)).set (4 : Int).toNat ((l0_704 / 1000) / 1000)).length = 9 := (List.length_set ..).trans hl12
  refine fx_ias rfl g_704_46 (by omega) (by omega) (by omega) ?_
  intro h_705 e_705 f_705 l_705
  have k_705 := l_705.trans k_704
  have fr_705 := hfr_w fr_704 f_705 l_705 (by decide)
  have g_705_7 := (f_705 7 (by decide)).trans g_704_7
  have g_705_11 := (f_705 11 (by decide)).trans g_704_11
  have g_705_12 := (f_705 12 (by decide)).trans g_704_12
  have g_705_13 := (f_705 13 (by decide)).trans g_704_13
  have g_705_15 := (f_705 15 (by decide)).trans g_704_15
  have g_705_17 := (f_705 17 (by decide)).trans g_704_17
  have g_705_18 := (f_705 18 (by decide)).trans g_704_18
  have g_705_19 := (f_705 19 (by decide)).trans g_704_19
  have g_705_21 := mf_cv_f g_704_21 (f_705 21 (by decide)) (f_705 22 (by decide)) (f_705 23 (by decide)) (f_705 24 (by decide))
  have g_705_25 := mf_cv_f g_704_25 (f_705 25 (by decide)) (f_705 26 (by decide)) (f_705 27 (by decide)) (f_705 28 (by decide))
  have g_705_29 := mf_cr_f g_704_29 (f_705 29 (by decide)) (f_705 30 (by decide)) (f_705 31 (by decide)) (f_705 32 (by decide))
  have g_705_33 := mf_cv_f g_704_33 (f_705 33 (by decide)) (f_705 34 (by decide)) (f_705 35 (by decide)) (f_705 36 (by decide))
  have g_705_37 := mf_cv_f g_704_37 (f_705 37 (by decide)) (f_705 38 (by decide)) (f_705 39 (by decide)) (f_705 40 (by decide))
  have g_705_41 := mf_cr_f g_704_41 (f_705 41 (by decide)) (f_705 42 (by decide)) (f_705 43 (by decide)) (f_705 44 (by decide))
  have g_705_46 : cE h_705 46 (.inl (.int, fA ((((fe.set (0 : Int).toNat ((l0_698 / 1000) / 1000)).set (1 : Int).toNat ((l0_700 / 1000) / 1000)).set (3 : Int).toNat ((l0_702 / 1000) / 1000)).set (4 : Int).toNat ((l0_704 / 1000) / 1000)))) := e_705
  have qfe4 : ∀ i : Int, 0 ≤ i → i < 9 → 0 ≤ ((((fe.set (0 : Int).toNat ((l0_698 / 1000) / 1000)).set (1 : Int).toNat ((l0_700 / 1000) / 1000)).set (3 : Int).toNat ((l0_702 / 1000) / 1000)).set (4 : Int).toNat ((l0_704 / 1000) / 1000)).getD i.toNat 0 ∧ ((((fe.set (0 : Int).toNat ((l0_698 / 1000) / 1000)).set (1 : Int).toNat ((l0_700 / 1000) / 1000)).set (3 : Int).toNat ((l0_702 / 1000) / 1000)).set (4 : Int).toNat ((l0_704 / 1000) / 1000)).getD i.toNat 0 ≤ 1000 := by
    intro i i0 i1
    rw [fz_getD_set]
    split
    · omega
    · exact qfe3 i i0 i1
  refine fw_inc (a := 1) (loc' := [some (.ref 17), some (fI p), some (fI 2), some (.ref 46), some (fI 1), some (fI 2)]) rfl rfl (Nat.le_of_ble_eq_true rfl) rfl ?_
  refine ik_Wk 3 (pc' := 74) (loc' := [some (.ref 17), some (fI p), some (fI 2), some (.ref 46), some (fI 1), some (fI 2)]) (st' := [fI 2, fI 2]) (h' := h_705) (cl' := 0) (sl' := 0) rfl ?_
  refine fw_ic_ge rfl rfl (by omega) (by omega) (by omega) (by omega) (fun hc15 => ?_) (fun hc15 => absurd hc15 (by omega))
  refine fw_inc (a := 1) (loc' := [some (.ref 17), some (fI p), some (fI 2), some (.ref 46), some (fI 2), some (fI 2)]) rfl rfl (Nat.le_of_ble_eq_true rfl) rfl ?_
  refine ik_Wk 3 (pc' := 65) (loc' := [some (.ref 17), some (fI p), some (fI 2), some (.ref 46), some (fI 2), some (fI 2)]) (st' := [fI 2, fI 2]) (h' := h_705) (cl' := 0) (sl' := 0) rfl ?_
  refine fw_ic_ge rfl rfl (by omega) (by omega) (by omega) (by omega) (fun hc16 => ?_) (fun hc16 => absurd hc16 (by omega))
  exact ik_Wret rfl rfl ⟨_, _, rfl, rfl, rfl, rfl, ⟨l0_704, l1_704, l2_704, ((((fe.set (0 : Int).toNat ((l0_698 / 1000) / 1000)).set (1 : Int).toNat ((l0_700 / 1000) / 1000)).set (3 : Int).toNat ((l0_702 / 1000) / 1000)).set (4 : Int).toNat ((l0_704 / 1000) / 1000)), rfl, g_705_17, g_705_19, (mf_cv_r g_705_21), (mf_cv_r g_705_25), g_705_29, (mf_cv_r g_705_33), (mf_cv_r g_705_37), g_705_41, g_705_46, hl14, qfe4, fr_705⟩⟩
end
