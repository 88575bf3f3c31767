noncomputable section
/-! the class: suits as set; how soon known; runs; stones (written by wip/fx/u11.py) -/
theorem cs_raceAsSet {h : List ik_E} {pl : Int} {lo : Int} {s : Nat} {ka : Int} {pa : Int} {fa : Int} {kb : Int} {pb : Int} {fb : Int} {lim : Int} {bo : Int} {la : Int} {lb : Int} {wg : List Int} {wc : List Int} {we : List Int} {W : Int → List (Int × Int)} (q0 : 2 ≤ pl ∧ pl ≤ 12) (q1 : 0 ≤ ka ∧ ka ≤ 2 ∧ 0 ≤ kb ∧ kb ≤ 2) (q2 : 0 ≤ pa ∧ pa < pl - 1) (q3 : 0 ≤ pb ∧ pb < pl - 1) (q4 : 0 ≤ fa ∧ fa ≤ 30 ∧ 0 ≤ fb ∧ fb ≤ 30) (q5 : 0 ≤ lim ∧ lim ≤ 1000000) (q6 : ∀ x : Int, 0 ≤ x → x < pl - 1 → mx_wy wg wc we x (W x)) (q7 : ∀ x : Int, 0 ≤ x → x < pl - 1 → mx_ok pl (W x)) (h7 : cE h 7 (.inr (0, [fI pl, fI ((s : Nat) : Int), fI lo, .ref 8, .ref 9, .ref 10, .ref 11, .ref 12, .ref 13]))) (h11 : cE h 11 (.inl (.int, fA wg))) (n11 : wg.length = 60) (h12 : cE h 12 (.inl (.int, fA wc))) (n12 : wc.length = 60) (h13 : cE h 13 (.inl (.int, fA we))) (n13 : we.length = 12) (h15 : cE h 15 (.inl (.int, fA [ka, pa, fa, kb, pb, fb]))) (h17 : cE h 17 (.inr (8, [.ref 7, .ref 15, .ref 18, .ref 19, fJ bo, .ref 20]))) (h18 : cE h 18 (.inl (.object "SlowerCork$Course", [.ref 21, .ref 25, .ref 29, .ref 33, .ref 37, .ref 41]))) (h19 : cE h 19 (.inl (.long, fL [la, lb]))) (h21 : mf_cr h 21 ) (h33 : mf_cr h 33 ) (hl : h.length = 94) : ik_F 79 [.ref 17, fI lim] h (fun rv h' => ∃ (l0 : Int) (l1 : Int) (l2 : Int), rv = [] ∧ cE h' 17 (.inr (8, [.ref 7, .ref 15, .ref 18, .ref 19, fJ l2, .ref 20])) ∧ cE h' 19 (.inl (.long, fL [l0, l1])) ∧ mf_cr h' 21  ∧ mf_cr h' 33  ∧ (0 ≤ l0 ∧ l0 ≤ 1000000000 ∧ 0 ≤ l1 ∧ l1 ≤ 1000000000 ∧ 0 ≤ l2 ∧ l2 ≤ 1000000000) ∧ ((l0 = mr_F0 (mf_cm W (pl - 1) ka pa) fa (mf_cm W (pl - 1) kb pb) fb ∧ l1 = mr_F0 (mf_cm W (pl - 1) kb pb) fb (mf_cm W (pl - 1) ka pa) fa ∧ l2 = mr_F2 (mf_cm W (pl - 1) ka pa) fa (mf_cm W (pl - 1) kb pb) fb) ∨ ((lim < l0 / 1000 - l1 / 1000 ∨ lim < l1 / 1000 - l0 / 1000) ∧ (lim < mr_F0 (mf_cm W (pl - 1) ka pa) fa (mf_cm W (pl - 1) kb pb) fb / 1000 - mr_F0 (mf_cm W (pl - 1) kb pb) fb (mf_cm W (pl - 1) ka pa) fa / 1000 ∨ lim < mr_F0 (mf_cm W (pl - 1) kb pb) fb (mf_cm W (pl - 1) ka pa) fa / 1000 - mr_F0 (mf_cm W (pl - 1) ka pa) fa (mf_cm W (pl - 1) kb pb) fb / 1000))) ∧ hfr [17, 19, 21, 22, 23, 24, 33, 34, 35, 36] h h') := by
  refine ik_Wk 2 (pc' := 2) (loc' := [some (.ref 17), some (fI lim)]) (st' := [fI 0, .ref 17]) (h' := h) (cl' := 0) (sl' := 0) rfl ?_
  refine ik_Wc 78 2 0 [.ref 17, fI 0] [] rfl rfl rfl (by decide) rfl rfl (fw_rec hl rfl h17 rfl (by decide)) ?_
  refine ik_Wk 0 (pc' := 0) (loc' := [some (.ref 17), some (fI 0)]) (st' := []) (h' := h) (cl' := 0) (sl' := 0) rfl ?_
  refine ik_Wk 2 (pc' := 2) (loc' := [some (.ref 17), some (fI 0)]) (st' := [fI 0, .ref 17]) (h' := h) (cl' := 0) (sl' := 0) rfl ?_
  refine ik_Wc 77 2 0 [.ref 17, fI 0] [] rfl rfl rfl (by decide) rfl rfl (fw_rec hl rfl h17 rfl (by decide)) ?_
  refine ik_Wk 0 (pc' := 0) (loc' := [some (.ref 17), some (fI 0)]) (st' := []) (h' := h) (cl' := 0) (sl' := 0) rfl ?_
  refine ik_Wk 1 (pc' := 1) (loc' := [some (.ref 17), some (fI 0)]) (st' := [.ref 17]) (h' := h) (cl' := 0) (sl' := 0) rfl ?_
  refine fw_gf rfl rfl h17 rfl ?_
  refine ik_Wk 2 (pc' := 6) (loc' := [some (.ref 17), some (fI 0)]) (st' := [fI 3, fI 0, .ref 18]) (h' := h) (cl' := 0) (sl' := 0) rfl ?_
  refine fw_mul rfl ?_
  refine fx_aal (z := 0) rfl h18 (by decide) (by decide) rfl ?_
  refine ik_Wret rfl rfl ⟨_, _, rfl, rfl, ?_⟩
  refine ik_Wk 0 (pc' := 5) (loc' := [some (.ref 17), some (fI 0)]) (st' := [.ref 21]) (h' := h) (cl' := 0) (sl' := 0) rfl ?_
  refine ik_Wk 1 (pc' := 6) (loc' := [some (.ref 17), some (fI 0)]) (st' := [.ref 17, .ref 21]) (h' := h) (cl' := 0) (sl' := 0) rfl ?_
  refine fw_gf rfl rfl h17 rfl ?_
  refine ik_Wk 2 (pc' := 11) (loc' := [some (.ref 17), some (fI 0)]) (st' := [fI 3, fI 0, .ref 15, .ref 21]) (h' := h) (cl' := 0) (sl' := 0) rfl ?_
  refine fw_mul rfl ?_
  refine ik_Wk 1 (pc' := 13) (loc' := [some (.ref 17), some (fI 0)]) (st' := [fI 0, fI 0, .ref 15, .ref 21]) (h' := h) (cl' := 0) (sl' := 0) rfl ?_
  refine fw_add rfl ?_
  refine fw_ial (z := 0) rfl h15 (by decide) (Nat.le_of_ble_eq_true rfl) (by decide) ?_
  refine ik_Wk 0 (pc' := 15) (loc' := [some (.ref 17), some (fI 0)]) (st' := [fI ka, .ref 21]) (h' := h) (cl' := 0) (sl' := 0) rfl ?_
  refine ik_Wk 1 (pc' := 16) (loc' := [some (.ref 17), some (fI 0)]) (st' := [.ref 17, fI ka, .ref 21]) (h' := h) (cl' := 0) (sl' := 0) rfl ?_
  refine fw_gf rfl rfl h17 rfl ?_
  refine ik_Wk 2 (pc' := 21) (loc' := [some (.ref 17), some (fI 0)]) (st' := [fI 3, fI 0, .ref 15, fI ka, .ref 21]) (h' := h) (cl' := 0) (sl' := 0) rfl ?_
  refine fw_mul rfl ?_
  refine ik_Wk 1 (pc' := 23) (loc' := [some (.ref 17), some (fI 0)]) (st' := [fI 1, fI 0, .ref 15, fI ka, .ref 21]) (h' := h) (cl' := 0) (sl' := 0) rfl ?_
  refine fw_add rfl ?_
  refine fw_ial (z := 1) rfl h15 (by decide) (Nat.le_of_ble_eq_true rfl) (by decide) ?_
  refine ik_Wk 0 (pc' := 25) (loc' := [some (.ref 17), some (fI 0)]) (st' := [fI pa, fI ka, .ref 21]) (h' := h) (cl' := 0) (sl' := 0) rfl ?_
  refine fw_call 30 3 0 [.ref 21, fI ka, fI pa] [] rfl rfl rfl (by decide) rfl rfl (fw_rec hl rfl (mf_cr_o h21).choose_spec rfl (by decide)) (cs_setIn (C := 21) (pl := pl) (lo := lo) (s := s) (kd := ka) (qp := pa) (W := W) (by omega) (by omega) (by omega) h7 h21 hl) ?_
  rintro _ h_171 ⟨rfl, e_171_C, F_171⟩
  have k_171 := F_171.1.trans hl
  have fr_171 := hfr_c (hfr_refl [17, 19, 21, 22, 23, 24, 33, 34, 35, 36] h) F_171 (by decide)
  have g_171_7 := (F_171.2 7 (by decide +kernel)).trans h7
  have g_171_11 := (F_171.2 11 (by decide +kernel)).trans h11
  have g_171_12 := (F_171.2 12 (by decide +kernel)).trans h12
  have g_171_13 := (F_171.2 13 (by decide +kernel)).trans h13
  have g_171_15 := (F_171.2 15 (by decide +kernel)).trans h15
  have g_171_17 := (F_171.2 17 (by decide +kernel)).trans h17
  have g_171_18 := (F_171.2 18 (by decide +kernel)).trans h18
  have g_171_19 := (F_171.2 19 (by decide +kernel)).trans h19
  have g_171_33 := mf_cr_f h33 (F_171.2 33 (by decide)) (F_171.2 34 (by decide)) (F_171.2 35 (by decide)) (F_171.2 36 (by decide))
  have g_171_21 : mf_cv h_171 21 W pl ka pa 0 := e_171_C
  refine ik_Wk 0 (pc' := 28) (loc' := [some (.ref 17), some (fI 0)]) (st' := [.ref 21]) (h' := h_171) (cl' := 0) (sl' := 0) rfl ?_
  refine ik_Wk 1 (pc' := 29) (loc' := [some (.ref 17), some (fI 0)]) (st' := []) (h' := h_171) (cl' := 0) (sl' := 0) rfl ?_
  refine ik_Wret rfl rfl ⟨_, _, rfl, rfl, ?_⟩
  refine ik_Wk 0 (pc' := 5) (loc' := [some (.ref 17), some (fI lim)]) (st' := []) (h' := h_171) (cl' := 0) (sl' := 0) rfl ?_
  refine ik_Wk 2 (pc' := 7) (loc' := [some (.ref 17), some (fI lim)]) (st' := [fI 1, .ref 17]) (h' := h_171) (cl' := 0) (sl' := 0) rfl ?_
  refine ik_Wc 78 2 0 [.ref 17, fI 1] [] rfl rfl rfl (by decide) rfl rfl (fw_rec k_171 rfl g_171_17 rfl (by decide)) ?_
  refine ik_Wk 0 (pc' := 0) (loc' := [some (.ref 17), some (fI 1)]) (st' := []) (h' := h_171) (cl' := 0) (sl' := 0) rfl ?_
  refine ik_Wk 2 (pc' := 2) (loc' := [some (.ref 17), some (fI 1)]) (st' := [fI 1, .ref 17]) (h' := h_171) (cl' := 0) (sl' := 0) rfl ?_
  refine ik_Wc 77 2 0 [.ref 17, fI 1] [] rfl rfl rfl (by decide) rfl rfl (fw_rec k_171 rfl g_171_17 rfl (by decide)) ?_
  refine ik_Wk 0 (pc' := 0) (loc' := [some (.ref 17), some (fI 1)]) (st' := []) (h' := h_171) (cl' := 0) (sl' := 0) rfl ?_
  refine ik_Wk 1 (pc' := 1) (loc' := [some (.ref 17), some (fI 1)]) (st' := [.ref 17]) (h' := h_171) (cl' := 0) (sl' := 0) rfl ?_
  refine fw_gf rfl rfl g_171_17 rfl ?_
  refine ik_Wk 2 (pc' := 6) (loc' := [some (.ref 17), some (fI 1)]) (st' := [fI 3, fI 1, .ref 18]) (h' := h_171) (cl' := 0) (sl' := 0) rfl ?_
  refine fw_mul rfl ?_
  refine fx_aal (z := 3) rfl g_171_18 (by decide) (by decide) rfl ?_
  refine ik_Wret rfl rfl ⟨_, _, rfl, rfl, ?_⟩
  refine ik_Wk 0 (pc' := 5) (loc' := [some (.ref 17), some (fI 1)]) (st' := [.ref 33]) (h' := h_171) (cl' := 0) (sl' := 0) rfl ?_
  refine ik_Wk 1 (pc' := 6) (loc' := [some (.ref 17), some (fI 1)]) (st' := [.ref 17, .ref 33]) (h' := h_171) (cl' := 0) (sl' := 0) rfl ?_
  refine fw_gf rfl rfl g_171_17 rfl ?_
  refine ik_Wk 2 (pc' := 11) (loc' := [some (.ref 17), some (fI 1)]) (st' := [fI 3, fI 1, .ref 15, .ref 33]) (h' := h_171) (cl' := 0) (sl' := 0) rfl ?_
  refine fw_mul rfl ?_
  refine ik_Wk 1 (pc' := 13) (loc' := [some (.ref 17), some (fI 1)]) (st' := [fI 0, fI 3, .ref 15, .ref 33]) (h' := h_171) (cl' := 0) (sl' := 0) rfl ?_
  refine fw_add rfl ?_
  refine fw_ial (z := 3) rfl g_171_15 (by decide) (Nat.le_of_ble_eq_true rfl) (by decide) ?_
  refine ik_Wk 0 (pc' := 15) (loc' := [some (.ref 17), some (fI 1)]) (st' := [fI kb, .ref 33]) (h' := h_171) (cl' := 0) (sl' := 0) rfl ?_
  refine ik_Wk 1 (pc' := 16) (loc' := [some (.ref 17), some (fI 1)]) (st' := [.ref 17, fI kb, .ref 33]) (h' := h_171) (cl' := 0) (sl' := 0) rfl ?_
  refine fw_gf rfl rfl g_171_17 rfl ?_
  refine ik_Wk 2 (pc' := 21) (loc' := [some (.ref 17), some (fI 1)]) (st' := [fI 3, fI 1, .ref 15, fI kb, .ref 33]) (h' := h_171) (cl' := 0) (sl' := 0) rfl ?_
  refine fw_mul rfl ?_
  refine ik_Wk 1 (pc' := 23) (loc' := [some (.ref 17), some (fI 1)]) (st' := [fI 1, fI 3, .ref 15, fI kb, .ref 33]) (h' := h_171) (cl' := 0) (sl' := 0) rfl ?_
  refine fw_add rfl ?_
  refine fw_ial (z := 4) rfl g_171_15 (by decide) (Nat.le_of_ble_eq_true rfl) (by decide) ?_
  refine ik_Wk 0 (pc' := 25) (loc' := [some (.ref 17), some (fI 1)]) (st' := [fI pb, fI kb, .ref 33]) (h' := h_171) (cl' := 0) (sl' := 0) rfl ?_
  refine fw_call 30 3 0 [.ref 33, fI kb, fI pb] [] rfl rfl rfl (by decide) rfl rfl (fw_rec k_171 rfl (mf_cr_o g_171_33).choose_spec rfl (by decide)) (cs_setIn (C := 33) (pl := pl) (lo := lo) (s := s) (kd := kb) (qp := pb) (W := W) (by omega) (by omega) (by omega) g_171_7 g_171_33 k_171) ?_
  rintro _ h_172 ⟨rfl, e_172_C, F_172⟩
  have k_172 := F_172.1.trans k_171
  have fr_172 := hfr_c fr_171 F_172 (by decide)
  have g_172_7 := (F_172.2 7 (by decide +kernel)).trans g_171_7
  have g_172_11 := (F_172.2 11 (by decide +kernel)).trans g_171_11
  have g_172_12 := (F_172.2 12 (by decide +kernel)).trans g_171_12
  have g_172_13 := (F_172.2 13 (by decide +kernel)).trans g_171_13
  have g_172_15 := (F_172.2 15 (by decide +kernel)).trans g_171_15
  have g_172_17 := (F_172.2 17 (by decide +kernel)).trans g_171_17
  have g_172_18 := (F_172.2 18 (by decide +kernel)).trans g_171_18
  have g_172_19 := (F_172.2 19 (by decide +kernel)).trans g_171_19
  have g_172_21 := mf_cv_f g_171_21 (F_172.2 21 (by decide)) (F_172.2 22 (by decide)) (F_172.2 23 (by decide)) (F_172.2 24 (by decide))
  have g_172_33 : mf_cv h_172 33 W pl kb pb 0 := e_172_C
  refine ik_Wk 0 (pc' := 28) (loc' := [some (.ref 17), some (fI 1)]) (st' := [.ref 33]) (h' := h_172) (cl' := 0) (sl' := 0) rfl ?_
  refine ik_Wk 1 (pc' := 29) (loc' := [some (.ref 17), some (fI 1)]) (st' := []) (h' := h_172) (cl' := 0) (sl' := 0) rfl ?_
  refine ik_Wret rfl rfl ⟨_, _, rfl, rfl, ?_⟩
  refine ik_Wk 0 (pc' := 10) (loc' := [some (.ref 17), some (fI lim)]) (st' := []) (h' := h_172) (cl' := 0) (sl' := 0) rfl ?_
  refine ik_Wk 3 (pc' := 13) (loc' := [some (.ref 17), some (fI lim)]) (st' := [fI 0, .ref 17, .ref 17]) (h' := h_172) (cl' := 0) (sl' := 0) rfl ?_
  refine ik_Wc 77 2 0 [.ref 17, fI 0] [.ref 17] rfl rfl rfl (by decide) rfl rfl (fw_rec k_172 rfl g_172_17 rfl (by decide)) ?_
  refine ik_Wk 0 (pc' := 0) (loc' := [some (.ref 17), some (fI 0)]) (st' := []) (h' := h_172) (cl' := 0) (sl' := 0) rfl ?_
  refine ik_Wk 1 (pc' := 1) (loc' := [some (.ref 17), some (fI 0)]) (st' := [.ref 17]) (h' := h_172) (cl' := 0) (sl' := 0) rfl ?_
  refine fw_gf rfl rfl g_172_17 rfl ?_
  refine ik_Wk 2 (pc' := 6) (loc' := [some (.ref 17), some (fI 0)]) (st' := [fI 3, fI 0, .ref 18]) (h' := h_172) (cl' := 0) (sl' := 0) rfl ?_
  refine fw_mul rfl ?_
  refine fx_aal (z := 0) rfl g_172_18 (by decide) (by decide) rfl ?_
  refine ik_Wret rfl rfl ⟨_, _, rfl, rfl, ?_⟩
  refine ik_Wk 0 (pc' := 16) (loc' := [some (.ref 17), some (fI lim)]) (st' := [.ref 21, .ref 17]) (h' := h_172) (cl' := 0) (sl' := 0) rfl ?_
  refine ik_Wk 1 (pc' := 17) (loc' := [some (.ref 17), some (fI lim)]) (st' := [.ref 17, .ref 21, .ref 17]) (h' := h_172) (cl' := 0) (sl' := 0) rfl ?_
  refine fw_gf rfl rfl g_172_17 rfl ?_
  refine ik_Wk 1 (pc' := 21) (loc' := [some (.ref 17), some (fI lim)]) (st' := [fI 2, .ref 15, .ref 21, .ref 17]) (h' := h_172) (cl' := 0) (sl' := 0) rfl ?_
  refine fw_ial (z := 2) rfl g_172_15 (by decide) (Nat.le_of_ble_eq_true rfl) (by decide) ?_
  refine ik_Wk 0 (pc' := 22) (loc' := [some (.ref 17), some (fI lim)]) (st' := [fI fa, .ref 21, .ref 17]) (h' := h_172) (cl' := 0) (sl' := 0) rfl ?_
  refine ik_Wk 2 (pc' := 24) (loc' := [some (.ref 17), some (fI lim)]) (st' := [fI 1, .ref 17, fI fa, .ref 21, .ref 17]) (h' := h_172) (cl' := 0) (sl' := 0) rfl ?_
  refine ik_Wc 77 2 0 [.ref 17, fI 1] [fI fa, .ref 21, .ref 17] rfl rfl rfl (by decide) rfl rfl (fw_rec k_172 rfl g_172_17 rfl (by decide)) ?_
  refine ik_Wk 0 (pc' := 0) (loc' := [some (.ref 17), some (fI 1)]) (st' := []) (h' := h_172) (cl' := 0) (sl' := 0) rfl ?_
  refine ik_Wk 1 (pc' := 1) (loc' := [some (.ref 17), some (fI 1)]) (st' := [.ref 17]) (h' := h_172) (cl' := 0) (sl' := 0) rfl ?_
  refine fw_gf rfl rfl g_172_17 rfl ?_
  refine ik_Wk 2 (pc' := 6) (loc' := [some (.ref 17), some (fI 1)]) (st' := [fI 3, fI 1, .ref 18]) (h' := h_172) (cl' := 0) (sl' := 0) rfl ?_
  refine fw_mul rfl ?_
  refine fx_aal (z := 3) rfl g_172_18 (by decide) (by decide) rfl ?_
  refine ik_Wret rfl rfl ⟨_, _, rfl, rfl, ?_⟩
  refine ik_Wk 0 (pc' := 27) (loc' := [some (.ref 17), some (fI lim)]) (st' := [.ref 33, fI fa, .ref 21, .ref 17]) (h' := h_172) (cl' := 0) (sl' := 0) rfl ?_
  refine ik_Wk 1 (pc' := 28) (loc' := [some (.ref 17), some (fI lim)]) (st' := [.ref 17, .ref 33, fI fa, .ref 21, .ref 17]) (h' := h_172) (cl' := 0) (sl' := 0) rfl ?_
  refine fw_gf rfl rfl g_172_17 rfl ?_
  refine ik_Wk 1 (pc' := 32) (loc' := [some (.ref 17), some (fI lim)]) (st' := [fI 5, .ref 15, .ref 33, fI fa, .ref 21, .ref 17]) (h' := h_172) (cl' := 0) (sl' := 0) rfl ?_
  refine fw_ial (z := 5) rfl g_172_15 (by decide) (Nat.le_of_ble_eq_true rfl) (by decide) ?_
  refine ik_Wk 0 (pc' := 33) (loc' := [some (.ref 17), some (fI lim)]) (st' := [fI fb, .ref 33, fI fa, .ref 21, .ref 17]) (h' := h_172) (cl' := 0) (sl' := 0) rfl ?_
  refine ik_Wk 1 (pc' := 34) (loc' := [some (.ref 17), some (fI lim)]) (st' := [fI lim, fI fb, .ref 33, fI fa, .ref 21, .ref 17]) (h' := h_172) (cl' := 0) (sl' := 0) rfl ?_
  refine fw_call 80 6 0 [.ref 17, .ref 21, fI fa, .ref 33, fI fb, fI lim] [] rfl rfl rfl (by decide) rfl rfl (fw_rec k_172 rfl g_172_17 rfl (by decide)) (cs_race (C := 21) (E := 33) (pl := pl) (lo := lo) (s := s) (ka := ka) (pa := pa) (ma := fa) (kb := kb) (pb := pb) (mb := fb) (ua := 0) (ub := 0) (lim := lim) (bo := bo) (la := la) (lb := lb) (wg := wg) (wc := wc) (we := we) (W := W) (by omega) (by omega) (by omega) (by omega) (by omega) (by omega) (by omega) q6 q7 g_172_7 g_172_11 n11 g_172_12 n12 g_172_13 n13 g_172_17 g_172_19 g_172_21 g_172_33 k_172) ?_
  rintro _ h_173 ⟨l0_173, l1_173, l2_173, ua'_173, ub'_173, rfl, e_173_17, e_173_19, e_173_C, e_173_E, p_173_0, p_173_1, F_173⟩
  have k_173 := F_173.1.trans k_172
  have fr_173 := hfr_c fr_172 F_173 (by decide)
  have g_173_7 := (F_173.2 7 (by decide +kernel)).trans g_172_7
  have g_173_11 := (F_173.2 11 (by decide +kernel)).trans g_172_11
  have g_173_12 := (F_173.2 12 (by decide +kernel)).trans g_172_12
  have g_173_13 := (F_173.2 13 (by decide +kernel)).trans g_172_13
  have g_173_15 := (F_173.2 15 (by decide +kernel)).trans g_172_15
  have g_173_18 := (F_173.2 18 (by decide +kernel)).trans g_172_18
  have g_173_17 : cE h_173 17 (.inr (8, [.ref 7, .ref 15, .ref 18, .ref 19, fJ l2_173, .ref 20])) := e_173_17
  have g_173_19 : cE h_173 19 (.inl (.long, fL [l0_173, l1_173])) := e_173_19
  have g_173_21 : mf_cv h_173 21 W pl ka pa ua'_173 := e_173_C
  have g_173_33 : mf_cv h_173 33 W pl kb pb ub'_173 := e_173_E
  refine ik_Wk 0 (pc' := 37) (loc' := [some (.ref 17), some (fI lim)]) (st' := []) (h' := h_173) (cl' := 0) (sl' := 0) rfl ?_
  exact ik_Wret rfl rfl ⟨_, _, rfl, rfl, rfl, rfl, ⟨l0_173, l1_173, l2_173, rfl, g_173_17, g_173_19, (mf_cv_r g_173_21), (mf_cv_r g_173_33), p_173_0, p_173_1, fr_173⟩⟩

theorem cs_firstApartL {h : List ik_E} {pl : Int} {lo : Int} {s : Nat} {kd : Int} {qp : Int} {d : Int} {bo : Int} {wg : List Int} {wc : List Int} {we : List Int} {W : Int → List (Int × Int)} (q0 : 1 ≤ pl ∧ pl ≤ 12) (q1 : 0 ≤ qp ∧ qp < pl) (q2 : 0 ≤ kd ∧ kd ≤ 2) (q3 : 1 ≤ d ∧ d ≤ 1000) (q4 : ∀ x : Int, 0 ≤ x → x < pl - 1 → mx_wy wg wc we x (W x)) (q5 : ∀ x : Int, 0 ≤ x → x < pl - 1 → mx_ok pl (W x))  : ∀ (k : Nat) (t : Int) (u0 : Int) (u1 : Int) (u : List ik_E) (u7 : cE u 7 (.inr (0, [fI pl, fI ((s : Nat) : Int), fI lo, .ref 8, .ref 9, .ref 10, .ref 11, .ref 12, .ref 13]))) (u11 : cE u 11 (.inl (.int, fA wg))) (n11 : wg.length = 60) (u12 : cE u 12 (.inl (.int, fA wc))) (n12 : wc.length = 60) (u13 : cE u 13 (.inl (.int, fA we))) (n13 : we.length = 12) (u21 : mf_cv u 21 W pl kd qp u0) (u25 : mf_cv u 25 W pl 0 qp u1) (ul : u.length = 94) (F : hfr [21, 22, 23, 24, 25, 26, 27, 28] h u) (ht : 0 ≤ t ∧ t ≤ 201) (he : mk_kn (mf_cm W (pl - 1) kd qp) (mf_cm W (pl - 1) 0 qp) d 201 0 = mk_kn (mf_cm W (pl - 1) kd qp) (mf_cm W (pl - 1) 0 qp) d (201 - t).toNat t) (hk : 201 - t < (k : Int)), ik_G 82 29 [some (.ref 17), some (fI kd), some (fI qp), some (fI d), some (.ref 21), some (.ref 25), some (fI t)] [] u (fun rv h' => rv = [fI (mk_kn (mf_cm W (pl - 1) kd qp) (mf_cm W (pl - 1) 0 qp) d 201 0)] ∧ mf_cr h' 21  ∧ mf_cr h' 25  ∧ hfr [21, 22, 23, 24, 25, 26, 27, 28] h h') := by
  intro k
  induction k with
  | zero => intro t u0 u1 u u7 u11 n11 u12 n12 u13 n13 u21 u25 ul F ht he hk; omega
  | succ k ih =>
    intro t u0 u1 u u7 u11 n11 u12 n12 u13 n13 u21 u25 ul F ht he hk
    refine ik_Wk 1 (pc' := 31) (loc' := [some (.ref 17), some (fI kd), some (fI qp), some (fI d), some (.ref 21), some (.ref 25), some (fI t)]) (st' := [fI t]) (h' := u) (cl' := 0) (sl' := 0) rfl ?_
    refine fw_si rfl (by decide) ?_
    refine fw_ic_gt rfl rfl (by omega) (by omega) (by omega) (by omega) (fun hc1 => ?_) (fun hc1 => ?_)
    · refine ik_Wk 1 (pc' := 72) (loc' := [some (.ref 17), some (fI kd), some (fI qp), some (fI d), some (.ref 21), some (.ref 25), some (fI t)]) (st' := [fI (-1)]) (h' := u) (cl' := 0) (sl' := 0) rfl ?_
      exact ik_Wret rfl rfl ⟨_, _, rfl, rfl, rfl, rfl, ⟨(by rw [he, show (201 - t).toNat = 0 by omega]; rfl), (mf_cv_r u21), (mf_cv_r u25), F⟩⟩
    · refine ik_Wk 2 (pc' := 41) (loc' := [some (.ref 17), some (fI kd), some (fI qp), some (fI d), some (.ref 21), some (.ref 25), some (fI t)]) (st' := [fI t, .ref 21]) (h' := u) (cl' := 0) (sl' := 0) rfl ?_
      refine fw_call 31 2 0 [.ref 21, fI t] [] rfl rfl rfl (by decide) rfl rfl (fw_rec ul rfl (mf_cv_o u21).choose_spec rfl (by decide)) (cs_come (C := 21) (pl := pl) (lo := lo) (s := s) (t := t) (kd := kd) (qp := qp) (ut := u0) (wg := wg) (wc := wc) (we := we) (W := W) (by omega) (by omega) (by omega) (by omega) q4 q5 (by omega) u7 u11 n11 u12 n12 u13 n13 u21 ul) ?_
      rintro _ h_174 ⟨u'_174, rfl, e_174_C, p_174_0, F_174⟩
      have k_174 := F_174.1.trans ul
      have fr_174 := hfr_c F F_174 (by decide)
      have g_174_7 := (F_174.2 7 (by decide +kernel)).trans u7
      have g_174_11 := (F_174.2 11 (by decide +kernel)).trans u11
      have g_174_12 := (F_174.2 12 (by decide +kernel)).trans u12
      have g_174_13 := (F_174.2 13 (by decide +kernel)).trans u13
      have g_174_25 := mf_cv_f u25 (F_174.2 25 (by decide)) (F_174.2 26 (by decide)) (F_174.2 27 (by decide)) (F_174.2 28 (by decide))
      have g_174_21 : mf_cv h_174 21 W pl kd qp u'_174 := e_174_C
      refine ik_Wk 0 (pc' := 44) (loc' := [some (.ref 17), some (fI kd), some (fI qp), some (fI d), some (.ref 21), some (.ref 25), some (fI t)]) (st' := [fI (mf_ct W pl kd qp t)]) (h' := h_174) (cl' := 0) (sl' := 0) rfl ?_
      have e0 : mf_ct W pl kd qp t = mf_cm W (pl - 1) kd qp t.toNat := if_pos ⟨by omega, by omega⟩
      have b0 := mf_cm_b (k := kd) q5 q1 t.toNat
      refine ik_Wk 2 (pc' := 48) (loc' := [some (.ref 17), some (fI kd), some (fI qp), some (fI d), some (.ref 21), some (.ref 25), some (fI t)]) (st' := [fI t, .ref 25, fI (mf_ct W pl kd qp t)]) (h' := h_174) (cl' := 0) (sl' := 0) rfl ?_
      refine fw_call 31 2 0 [.ref 25, fI t] [fI (mf_ct W pl kd qp t)] rfl rfl rfl (by decide) rfl rfl (fw_rec k_174 rfl (mf_cv_o g_174_25).choose_spec rfl (by decide)) (cs_come (C := 25) (pl := pl) (lo := lo) (s := s) (t := t) (kd := 0) (qp := qp) (ut := u1) (wg := wg) (wc := wc) (we := we) (W := W) (by omega) (by omega) (by omega) (by omega) q4 q5 (by omega) g_174_7 g_174_11 n11 g_174_12 n12 g_174_13 n13 g_174_25 k_174) ?_
      rintro _ h_175 ⟨u'_175, rfl, e_175_C, p_175_0, F_175⟩
      have k_175 := F_175.1.trans k_174
      have fr_175 := hfr_c fr_174 F_175 (by decide)
      have g_175_7 := (F_175.2 7 (by decide +kernel)).trans g_174_7
      have g_175_11 := (F_175.2 11 (by decide +kernel)).trans g_174_11
      have g_175_12 := (F_175.2 12 (by decide +kernel)).trans g_174_12
      have g_175_13 := (F_175.2 13 (by decide +kernel)).trans g_174_13
      have g_175_21 := mf_cv_f g_174_21 (F_175.2 21 (by decide)) (F_175.2 22 (by decide)) (F_175.2 23 (by decide)) (F_175.2 24 (by decide))
      have g_175_25 : mf_cv h_175 25 W pl 0 qp u'_175 := e_175_C
      refine ik_Wk 0 (pc' := 51) (loc' := [some (.ref 17), some (fI kd), some (fI qp), some (fI d), some (.ref 21), some (.ref 25), some (fI t)]) (st' := [fI (mf_ct W pl 0 qp t), fI (mf_ct W pl kd qp t)]) (h' := h_175) (cl' := 0) (sl' := 0) rfl ?_
      have e1 : mf_ct W pl 0 qp t = mf_cm W (pl - 1) 0 qp t.toNat := if_pos ⟨by omega, by omega⟩
      have b1 := mf_cm_b (k := 0) q5 q1 t.toNat
      refine fw_sub rfl ?_
      refine fx_ab rfl rfl rfl ⟨Nat.le_of_ble_eq_true rfl, Nat.le_of_ble_eq_true rfl, Nat.le_of_ble_eq_true rfl⟩ (by omega) (by omega) ?_
      intro mm2 qmm2
      have ea : mk_ab (mf_cm W (pl - 1) kd qp t.toNat - mf_cm W (pl - 1) 0 qp t.toNat) = mm2 := by unfold mk_ab; split <;> omega
      refine fw_ld 1000000 rfl rfl (by decide) ?_
      refine fx_idiv rfl (by omega) (by omega) (by omega) (by omega) ?_
      refine ik_Wk 1 (pc' := 59) (loc' := [some (.ref 17), some (fI kd), some (fI qp), some (fI d), some (.ref 21), some (.ref 25), some (fI t)]) (st' := [fI d, fI (mm2 / 1000000)]) (h' := h_175) (cl' := 0) (sl' := 0) rfl ?_
      refine fw_ic_lt rfl rfl (by omega) (by omega) (by omega) (by omega) (fun hc3 => ?_) (fun hc3 => ?_)
      · refine fw_inc (a := t) (loc' := [some (.ref 17), some (fI kd), some (fI qp), some (fI d), some (.ref 21), some (.ref 25), some (fI (t + 1))]) rfl rfl (Nat.le_of_ble_eq_true rfl) rfl ?_
        refine ik_Wk 1 (pc' := 29) (loc' := [some (.ref 17), some (fI kd), some (fI qp), some (fI d), some (.ref 21), some (.ref 25), some (fI (t + 1))]) (st' := []) (h' := h_175) (cl' := 0) (sl' := 0) rfl ?_
        exact ih  (t + 1) u'_174 u'_175 h_175 g_175_7 g_175_11 n11 g_175_12 n12 g_175_13 n13 g_175_21 g_175_25 k_175 fr_175 (by omega) (by rw [he, mk_kn_s (by omega), if_neg (by rw [ea]; omega)]) (by omega)
      · refine ik_Wk 1 (pc' := 64) (loc' := [some (.ref 17), some (fI kd), some (fI qp), some (fI d), some (.ref 21), some (.ref 25), some (fI t)]) (st' := [fI t]) (h' := h_175) (cl' := 0) (sl' := 0) rfl ?_
        exact ik_Wret rfl rfl ⟨_, _, rfl, rfl, rfl, rfl, ⟨(by rw [he, mk_kn_s (by omega), if_pos (by rw [ea]; omega)]), (mf_cv_r g_175_21), (mf_cv_r g_175_25), fr_175⟩⟩

theorem cs_firstApart {h : List ik_E} {pl : Int} {lo : Int} {s : Nat} {kd : Int} {qp : Int} {d : Int} {bo : Int} {wg : List Int} {wc : List Int} {we : List Int} {W : Int → List (Int × Int)} (q0 : 1 ≤ pl ∧ pl ≤ 12) (q1 : 0 ≤ qp ∧ qp < pl) (q2 : 0 ≤ kd ∧ kd ≤ 2) (q3 : 1 ≤ d ∧ d ≤ 1000) (q4 : ∀ x : Int, 0 ≤ x → x < pl - 1 → mx_wy wg wc we x (W x)) (q5 : ∀ x : Int, 0 ≤ x → x < pl - 1 → mx_ok pl (W x)) (h7 : cE h 7 (.inr (0, [fI pl, fI ((s : Nat) : Int), fI lo, .ref 8, .ref 9, .ref 10, .ref 11, .ref 12, .ref 13]))) (h11 : cE h 11 (.inl (.int, fA wg))) (n11 : wg.length = 60) (h12 : cE h 12 (.inl (.int, fA wc))) (n12 : wc.length = 60) (h13 : cE h 13 (.inl (.int, fA we))) (n13 : we.length = 12) (h17 : cE h 17 (.inr (8, [.ref 7, .ref 15, .ref 18, .ref 19, fJ bo, .ref 20]))) (h18 : cE h 18 (.inl (.object "SlowerCork$Course", [.ref 21, .ref 25, .ref 29, .ref 33, .ref 37, .ref 41]))) (h21 : mf_cr h 21 ) (h25 : mf_cr h 25 ) (hl : h.length = 94) : ik_F 82 [.ref 17, fI kd, fI qp, fI d] h (fun rv h' => rv = [fI (mk_kn (mf_cm W (pl - 1) kd qp) (mf_cm W (pl - 1) 0 qp) d 201 0)] ∧ mf_cr h' 21  ∧ mf_cr h' 25  ∧ hfr [21, 22, 23, 24, 25, 26, 27, 28] h h') := by
  refine ik_Wk 1 (pc' := 1) (loc' := [some (.ref 17), some (fI kd), some (fI qp), some (fI d), none, none, none]) (st' := [.ref 17]) (h' := h) (cl' := 0) (sl' := 0) rfl ?_
  refine fw_gf rfl rfl h17 rfl ?_
  refine ik_Wk 1 (pc' := 5) (loc' := [some (.ref 17), some (fI kd), some (fI qp), some (fI d), none, none, none]) (st' := [fI 0, .ref 18]) (h' := h) (cl' := 0) (sl' := 0) rfl ?_
  refine fx_aal (z := 0) rfl h18 (by decide) (by decide) rfl ?_
  refine ik_Wk 2 (pc' := 8) (loc' := [some (.ref 17), some (fI kd), some (fI qp), some (fI d), none, none, none]) (st' := [fI qp, fI kd, .ref 21]) (h' := h) (cl' := 0) (sl' := 0) rfl ?_
  refine fw_call 30 3 0 [.ref 21, fI kd, fI qp] [] rfl rfl rfl (by decide) rfl rfl (fw_rec hl rfl (mf_cr_o h21).choose_spec rfl (by decide)) (cs_setIn (C := 21) (pl := pl) (lo := lo) (s := s) (kd := kd) (qp := qp) (W := W) (by omega) (by omega) (by omega) h7 h21 hl) ?_
  rintro _ h_176 ⟨rfl, e_176_C, F_176⟩
  have k_176 := F_176.1.trans hl
  have fr_176 := hfr_c (hfr_refl [21, 22, 23, 24, 25, 26, 27, 28] h) F_176 (by decide)
  have g_176_7 := (F_176.2 7 (by decide +kernel)).trans h7
  have g_176_11 := (F_176.2 11 (by decide +kernel)).trans h11
  have g_176_12 := (F_176.2 12 (by decide +kernel)).trans h12
  have g_176_13 := (F_176.2 13 (by decide +kernel)).trans h13
  have g_176_17 := (F_176.2 17 (by decide +kernel)).trans h17
  have g_176_18 := (F_176.2 18 (by decide +kernel)).trans h18
  have g_176_25 := mf_cr_f h25 (F_176.2 25 (by decide)) (F_176.2 26 (by decide)) (F_176.2 27 (by decide)) (F_176.2 28 (by decide))
  have g_176_21 : mf_cv h_176 21 W pl kd qp 0 := e_176_C
  refine ik_Wk 0 (pc' := 11) (loc' := [some (.ref 17), some (fI kd), some (fI qp), some (fI d), none, none, none]) (st' := [.ref 21]) (h' := h_176) (cl' := 0) (sl' := 0) rfl ?_
  refine ik_Wk 2 (pc' := 14) (loc' := [some (.ref 17), some (fI kd), some (fI qp), some (fI d), some (.ref 21), none, none]) (st' := [.ref 17]) (h' := h_176) (cl' := 0) (sl' := 0) rfl ?_
  refine fw_gf rfl rfl g_176_17 rfl ?_
  refine ik_Wk 1 (pc' := 18) (loc' := [some (.ref 17), some (fI kd), some (fI qp), some (fI d), some (.ref 21), none, none]) (st' := [fI 1, .ref 18]) (h' := h_176) (cl' := 0) (sl' := 0) rfl ?_
  refine fx_aal (z := 1) rfl g_176_18 (by decide) (by decide) rfl ?_
  refine ik_Wk 2 (pc' := 21) (loc' := [some (.ref 17), some (fI kd), some (fI qp), some (fI d), some (.ref 21), none, none]) (st' := [fI qp, fI 0, .ref 25]) (h' := h_176) (cl' := 0) (sl' := 0) rfl ?_
  refine fw_call 30 3 0 [.ref 25, fI 0, fI qp] [] rfl rfl rfl (by decide) rfl rfl (fw_rec k_176 rfl (mf_cr_o g_176_25).choose_spec rfl (by decide)) (cs_setIn (C := 25) (pl := pl) (lo := lo) (s := s) (kd := 0) (qp := qp) (W := W) (by omega) (by omega) (by omega) g_176_7 g_176_25 k_176) ?_
  rintro _ h_177 ⟨rfl, e_177_C, F_177⟩
  have k_177 := F_177.1.trans k_176
  have fr_177 := hfr_c fr_176 F_177 (by decide)
  have g_177_7 := (F_177.2 7 (by decide +kernel)).trans g_176_7
  have g_177_11 := (F_177.2 11 (by decide +kernel)).trans g_176_11
  have g_177_12 := (F_177.2 12 (by decide +kernel)).trans g_176_12
  have g_177_13 := (F_177.2 13 (by decide +kernel)).trans g_176_13
  have g_177_17 := (F_177.2 17 (by decide +kernel)).trans g_176_17
  have g_177_18 := (F_177.2 18 (by decide +kernel)).trans g_176_18
  have g_177_21 := mf_cv_f g_176_21 (F_177.2 21 (by decide)) (F_177.2 22 (by decide)) (F_177.2 23 (by decide)) (F_177.2 24 (by decide))
  have g_177_25 : mf_cv h_177 25 W pl 0 qp 0 := e_177_C
  refine ik_Wk 0 (pc' := 24) (loc' := [some (.ref 17), some (fI kd), some (fI qp), some (fI d), some (.ref 21), none, none]) (st' := [.ref 25]) (h' := h_177) (cl' := 0) (sl' := 0) rfl ?_
  refine ik_Wk 3 (pc' := 29) (loc' := [some (.ref 17), some (fI kd), some (fI qp), some (fI d), some (.ref 21), some (.ref 25), some (fI 0)]) (st' := []) (h' := h_177) (cl' := 0) (sl' := 0) rfl ?_
  exact cs_firstApartL (pl := pl) (lo := lo) (s := s) (kd := kd) (qp := qp) (d := d) (bo := bo) (wg := wg) (wc := wc) (we := we) (W := W) q0 q1 q2 q3 q4 q5  202 0 0 0 h_177 g_177_7 g_177_11 n11 g_177_12 n12 g_177_13 n13 g_177_21 g_177_25 k_177 fr_177 (by omega) rfl (by omega)

theorem cs_fitL {h : List ik_E} {pl : Int} {lo : Int} {s : Nat} {r : Int} {rp : List Int} {rt : List Int} {wg : List Int} {wc : List Int} {we : List Int} {W : Int → List (Int × Int)} (q0 : 0 ≤ r ∧ r ≤ 12) (q1 : pl ≤ 12) (q2 : mk_rr pl r rp rt) (q3 : ∀ x : Int, 0 ≤ x → x < pl - 1 → mx_wy wg wc we x (W x)) (q4 : ∀ x : Int, 0 ≤ x → x < pl - 1 → mx_ok pl (W x))  : ∀ (k : Nat) (i : Int) (hw : Int) (x5 : Option Value) (u : List ik_E) (u7 : cE u 7 (.inr (0, [fI pl, fI ((s : Nat) : Int), fI lo, .ref 8, .ref 9, .ref 10, .ref 11, .ref 12, .ref 13]))) (u11 : cE u 11 (.inl (.int, fA wg))) (n11 : wg.length = 60) (u12 : cE u 12 (.inl (.int, fA wc))) (n12 : wc.length = 60) (u13 : cE u 13 (.inl (.int, fA we))) (n13 : we.length = 12) (u51 : cE u 51 (.inr (7, [.ref 7, fI r, .ref 52, .ref 53]))) (u52 : cE u 52 (.inl (.int, fA rp))) (n52 : rp.length = 12) (u53 : cE u 53 (.inl (.int, fA rt))) (n53 : rt.length = 12) (u21 : mf_cr u 21 ) (ul : u.length = 94) (F : hfr [21, 22, 23, 24] h u) (hi : 0 ≤ i ∧ i ≤ r) (he : hw = mk_ft (mk_J W pl rp rt) i.toNat) (w5 : ik_wl 94 x5 = true) (hk : r - i < (k : Int)), ik_G 70 7 [some (.ref 51), some (.ref 21), some (fJ hw), none, some (fI i), x5, none] [] u (fun rv h' => rv = [fI (mk_ft (mk_J W pl rp rt) r.toNat)] ∧ mf_cr h' 21  ∧ hfr [21, 22, 23, 24] h h') := by
  intro k
  induction k with
  | zero => intro i hw x5 u u7 u11 n11 u12 n12 u13 n13 u51 u52 n52 u53 n53 u21 ul F hi he w5 hk; omega
  | succ k ih =>
    intro i hw x5 u u7 u11 n11 u12 n12 u13 n13 u51 u52 n52 u53 n53 u21 ul F hi he w5 hk
    refine ik_Wk 2 (pc' := 10) (loc' := [some (.ref 51), some (.ref 21), some (fJ hw), none, some (fI i), x5, none]) (st' := [.ref 51, fI i]) (h' := u) (cl' := 0) (sl' := 0) rfl ?_
    refine fw_gf rfl rfl u51 rfl ?_
    refine fw_ic_ge rfl rfl (by omega) (by omega) (by omega) (by omega) (fun hc1 => ?_) (fun hc1 => ?_)
    · refine ik_Wk 1 (pc' := 81) (loc' := [some (.ref 51), some (.ref 21), some (fJ hw), none, some (fI i), x5, none]) (st' := [fJ hw]) (h' := u) (cl' := 0) (sl' := 0) rfl ?_
      refine fx_l2i rfl ?_
      have ei : i = r := by omega
      rw [ei] at he
      exact ik_Wret rfl rfl ⟨_, _, rfl, rfl, rfl, rfl, ⟨(congrArg (fun z => [fI z]) he), u21, F⟩⟩
    · refine ik_Wk 3 (pc' := 19) (loc' := [some (.ref 51), some (.ref 21), some (fJ hw), none, some (fI i), x5, none]) (st' := [.ref 51, fI 0, .ref 21]) (h' := u) (cl' := 0) (sl' := 0) rfl ?_
      refine fw_gf rfl rfl u51 rfl ?_
      refine ik_Wk 1 (pc' := 24) (loc' := [some (.ref 51), some (.ref 21), some (fJ hw), none, some (fI i), x5, none]) (st' := [fI i, .ref 52, fI 0, .ref 21]) (h' := u) (cl' := 0) (sl' := 0) rfl ?_
      refine fw_ial rfl u52 (by omega) (by omega) (by omega) ?_
      have hr := q2 i.toNat (by omega)
      refine fw_call 30 3 0 [.ref 21, fI 0, fI (rp.getD i.toNat 0)] [] rfl rfl rfl (by decide) rfl rfl (fw_rec ul (fw_ftx rfl wv_n (wl_c rfl (wl_c rfl (wl_c rfl (wl_c rfl (wl_c rfl (wl_c w5 (wl_c rfl wl_n)))))))) (mf_cr_o u21).choose_spec rfl (by decide)) (cs_setIn (C := 21) (pl := pl) (lo := lo) (s := s) (kd := 0) (qp := rp.getD i.toNat 0) (W := W) (by omega) (by omega) (by omega) u7 u21 ul) ?_
      rintro _ h_178 ⟨rfl, e_178_C, F_178⟩
      have k_178 := F_178.1.trans ul
      have fr_178 := hfr_c F F_178 (by decide)
      have g_178_7 := (F_178.2 7 (by decide +kernel)).trans u7
      have g_178_11 := (F_178.2 11 (by decide +kernel)).trans u11
      have g_178_12 := (F_178.2 12 (by decide +kernel)).trans u12
      have g_178_13 := (F_178.2 13 (by decide +kernel)).trans u13
      have g_178_51 := (F_178.2 51 (by decide +kernel)).trans u51
      have g_178_52 := (F_178.2 52 (by decide +kernel)).trans u52
      have g_178_53 := (F_178.2 53 (by decide +kernel)).trans u53
      have g_178_21 : mf_cv h_178 21 W pl 0 (rp.getD i.toNat 0) 0 := e_178_C
      refine ik_Wk 0 (pc' := 28) (loc' := [some (.ref 51), some (.ref 21), some (fJ hw), none, some (fI i), x5, none]) (st' := [.ref 21]) (h' := h_178) (cl' := 0) (sl' := 0) rfl ?_
      refine ik_Wk 3 (pc' := 31) (loc' := [some (.ref 51), some (.ref 21), some (fJ hw), none, some (fI i), x5, none]) (st' := [.ref 51, .ref 21]) (h' := h_178) (cl' := 0) (sl' := 0) rfl ?_
      refine fw_gf rfl rfl g_178_51 rfl ?_
      refine ik_Wk 1 (pc' := 36) (loc' := [some (.ref 51), some (.ref 21), some (fJ hw), none, some (fI i), x5, none]) (st' := [fI i, .ref 53, .ref 21]) (h' := h_178) (cl' := 0) (sl' := 0) rfl ?_
      refine fw_ial rfl g_178_53 (by omega) (by omega) (by omega) ?_
      refine fw_call 31 2 0 [.ref 21, fI (rt.getD i.toNat 0)] [] rfl rfl rfl (by decide) rfl rfl (fw_rec k_178 (fw_ftx rfl wv_n (wl_c rfl (wl_c rfl (wl_c rfl (wl_c rfl (wl_c rfl (wl_c w5 (wl_c rfl wl_n)))))))) (mf_cv_o g_178_21).choose_spec rfl (by decide)) (cs_come (C := 21) (pl := pl) (lo := lo) (s := s) (t := rt.getD i.toNat 0) (kd := 0) (qp := (rp.getD i.toNat 0)) (ut := 0) (wg := wg) (wc := wc) (we := we) (W := W) (by omega) (by omega) (by omega) (by omega) q3 q4 (by omega) g_178_7 g_178_11 n11 g_178_12 n12 g_178_13 n13 g_178_21 k_178) ?_
      rintro _ h_179 ⟨u'_179, rfl, e_179_C, p_179_0, F_179⟩
      have k_179 := F_179.1.trans k_178
      have fr_179 := hfr_c fr_178 F_179 (by decide)
      have g_179_7 := (F_179.2 7 (by decide +kernel)).trans g_178_7
      have g_179_11 := (F_179.2 11 (by decide +kernel)).trans g_178_11
      have g_179_12 := (F_179.2 12 (by decide +kernel)).trans g_178_12
      have g_179_13 := (F_179.2 13 (by decide +kernel)).trans g_178_13
      have g_179_51 := (F_179.2 51 (by decide +kernel)).trans g_178_51
      have g_179_52 := (F_179.2 52 (by decide +kernel)).trans g_178_52
      have g_179_53 := (F_179.2 53 (by decide +kernel)).trans g_178_53
      have g_179_21 : mf_cv h_179 21 W pl 0 (rp.getD i.toNat 0) u'_179 := e_179_C
      refine ik_Wk 0 (pc' := 40) (loc' := [some (.ref 51), some (.ref 21), some (fJ hw), none, some (fI i), x5, none]) (st' := [fI (mf_ct W pl 0 (rp.getD i.toNat 0) (rt.getD i.toNat 0))]) (h' := h_179) (cl' := 0) (sl' := 0) rfl ?_
      have e0 : mf_ct W pl 0 (rp.getD i.toNat 0) (rt.getD i.toNat 0) = mf_cm W (pl - 1) 0 (rp.getD i.toNat 0) (rt.getD i.toNat 0).toNat := if_pos ⟨by omega, by omega⟩
      refine ik_Wk 2 (pc' := 42) (loc' := [some (.ref 51), some (.ref 21), some (fJ hw), none, some (fI i), x5, none]) (st' := [.ref 51, .ref 21, fI (mf_ct W pl 0 (rp.getD i.toNat 0) (rt.getD i.toNat 0))]) (h' := h_179) (cl' := 0) (sl' := 0) rfl ?_
      refine fw_gf rfl rfl g_179_51 rfl ?_
      refine ik_Wk 1 (pc' := 47) (loc' := [some (.ref 51), some (.ref 21), some (fJ hw), none, some (fI i), x5, none]) (st' := [fI i, .ref 53, .ref 21, fI (mf_ct W pl 0 (rp.getD i.toNat 0) (rt.getD i.toNat 0))]) (h' := h_179) (cl' := 0) (sl' := 0) rfl ?_
      refine fw_ial rfl g_179_53 (by omega) (by omega) (by omega) ?_
      refine ik_Wk 1 (pc' := 49) (loc' := [some (.ref 51), some (.ref 21), some (fJ hw), none, some (fI i), x5, none]) (st' := [fI 1, fI (rt.getD i.toNat 0), .ref 21, fI (mf_ct W pl 0 (rp.getD i.toNat 0) (rt.getD i.toNat 0))]) (h' := h_179) (cl' := 0) (sl' := 0) rfl ?_
      refine fw_sub rfl ?_
      refine fw_call 31 2 0 [.ref 21, fI ((rt.getD i.toNat 0) - 1)] [fI (mf_ct W pl 0 (rp.getD i.toNat 0) (rt.getD i.toNat 0))] rfl rfl rfl (by decide) rfl rfl (fw_rec k_179 (fw_ftx rfl (wv_c rfl wv_n) (wl_c rfl (wl_c rfl (wl_c rfl (wl_c rfl (wl_c rfl (wl_c w5 (wl_c rfl wl_n)))))))) (mf_cv_o g_179_21).choose_spec rfl (by decide)) (cs_come (C := 21) (pl := pl) (lo := lo) (s := s) (t := (rt.getD i.toNat 0) - 1) (kd := 0) (qp := (rp.getD i.toNat 0)) (ut := u'_179) (wg := wg) (wc := wc) (we := we) (W := W) (by omega) (by omega) (by omega) (by omega) q3 q4 (by omega) g_179_7 g_179_11 n11 g_179_12 n12 g_179_13 n13 g_179_21 k_179) ?_
      rintro _ h_180 ⟨u'_180, rfl, e_180_C, p_180_0, F_180⟩
      have k_180 := F_180.1.trans k_179
      have fr_180 := hfr_c fr_179 F_180 (by decide)
      have g_180_7 := (F_180.2 7 (by decide +kernel)).trans g_179_7
      have g_180_11 := (F_180.2 11 (by decide +kernel)).trans g_179_11
      have g_180_12 := (F_180.2 12 (by decide +kernel)).trans g_179_12
      have g_180_13 := (F_180.2 13 (by decide +kernel)).trans g_179_13
      have g_180_51 := (F_180.2 51 (by decide +kernel)).trans g_179_51
      have g_180_52 := (F_180.2 52 (by decide +kernel)).trans g_179_52
      have g_180_53 := (F_180.2 53 (by decide +kernel)).trans g_179_53
      have g_180_21 : mf_cv h_180 21 W pl 0 (rp.getD i.toNat 0) u'_180 := e_180_C
      refine ik_Wk 0 (pc' := 53) (loc' := [some (.ref 51), some (.ref 21), some (fJ hw), none, some (fI i), x5, none]) (st' := [fI (mf_ct W pl 0 (rp.getD i.toNat 0) ((rt.getD i.toNat 0) - 1)), fI (mf_ct W pl 0 (rp.getD i.toNat 0) (rt.getD i.toNat 0))]) (h' := h_180) (cl' := 0) (sl' := 0) rfl ?_
      have e1 : mf_ct W pl 0 (rp.getD i.toNat 0) (rt.getD i.toNat 0 - 1) = mf_cm W (pl - 1) 0 (rp.getD i.toNat 0) (rt.getD i.toNat 0 - 1).toNat := if_pos ⟨by omega, by omega⟩
      have hJ : mk_J W pl rp rt i.toNat = mf_ct W pl 0 (rp.getD i.toNat 0) (rt.getD i.toNat 0) - mf_ct W pl 0 (rp.getD i.toNat 0) (rt.getD i.toNat 0 - 1) := by unfold mk_J; rw [e0, e1]
      have hJb := mk_J_b q4 q2 i.toNat (by omega)
      have hfb := mk_ft_b (J := mk_J W pl rp rt) i.toNat (fun j hj => mk_J_b q4 q2 j (by omega))
      have hb0 := mf_cm_b (k := 0) q4 (show 0 ≤ rp.getD i.toNat 0 ∧ rp.getD i.toNat 0 < pl by omega) (rt.getD i.toNat 0).toNat
      have hb1 := mf_cm_b (k := 0) q4 (show 0 ≤ rp.getD i.toNat 0 ∧ rp.getD i.toNat 0 < pl by omega) (rt.getD i.toNat 0 - 1).toNat
      refine fw_sub rfl ?_
      refine fw_i2l rfl (by omega) (by omega) ?_
      refine ik_Wk 1 (pc' := 57) (loc' := [some (.ref 51), some (.ref 21), some (fJ hw), none, some (fI i), some (fJ ((mf_ct W pl 0 (rp.getD i.toNat 0) (rt.getD i.toNat 0)) - (mf_ct W pl 0 (rp.getD i.toNat 0) ((rt.getD i.toNat 0) - 1)))), none]) (st' := []) (h' := h_180) (cl' := 0) (sl' := 0) rfl ?_
      refine fw_lc (z := 1) rfl (by decide) ?_
      refine ik_Wk 2 (pc' := 61) (loc' := [some (.ref 51), some (.ref 21), some (fJ hw), none, some (fI i), some (fJ ((mf_ct W pl 0 (rp.getD i.toNat 0) (rt.getD i.toNat 0)) - (mf_ct W pl 0 (rp.getD i.toNat 0) ((rt.getD i.toNat 0) - 1)))), none]) (st' := [fJ ((mf_ct W pl 0 (rp.getD i.toNat 0) (rt.getD i.toNat 0)) - (mf_ct W pl 0 (rp.getD i.toNat 0) ((rt.getD i.toNat 0) - 1))), fJ hw, fJ 1]) (h' := h_180) (cl' := 0) (sl' := 0) rfl ?_
      refine fw_l2 1000 rfl rfl (by decide) ?_
      refine fx_ldiv rfl (by omega) (by omega) (by omega) (by omega) ?_
      refine fw_lmul rfl ?_
      refine fw_l2 1000000 rfl rfl (by decide) ?_
      have hmm := mk_mul_b (v := hw) (j := (((mf_ct W pl 0 (rp.getD i.toNat 0) (rt.getD i.toNat 0)) - (mf_ct W pl 0 (rp.getD i.toNat 0) ((rt.getD i.toNat 0) - 1))) / 1000)) (by omega) (by omega) (by omega) (by omega)
      refine fx_ldiv rfl (by omega) (by omega) (by omega) (by omega) ?_
      refine fx_mx rfl rfl rfl ⟨Nat.le_of_ble_eq_true rfl, Nat.le_of_ble_eq_true rfl, Nat.le_of_ble_eq_true rfl⟩ (by omega) (by omega) (by omega) (by omega) ?_
      intro mm2 qmm2
      refine ik_Wk 1 (pc' := 74) (loc' := [some (.ref 51), some (.ref 21), some (fJ mm2), none, some (fI i), some (fJ ((mf_ct W pl 0 (rp.getD i.toNat 0) (rt.getD i.toNat 0)) - (mf_ct W pl 0 (rp.getD i.toNat 0) ((rt.getD i.toNat 0) - 1)))), none]) (st' := []) (h' := h_180) (cl' := 0) (sl' := 0) rfl ?_
      refine fw_inc (a := i) (loc' := [some (.ref 51), some (.ref 21), some (fJ mm2), none, some (fI (i + 1)), some (fJ ((mf_ct W pl 0 (rp.getD i.toNat 0) (rt.getD i.toNat 0)) - (mf_ct W pl 0 (rp.getD i.toNat 0) ((rt.getD i.toNat 0) - 1)))), none]) rfl rfl (Nat.le_of_ble_eq_true rfl) rfl ?_
      refine ik_Wk 1 (pc' := 7) (loc' := [some (.ref 51), some (.ref 21), some (fJ mm2), none, some (fI (i + 1)), some (fJ ((mf_ct W pl 0 (rp.getD i.toNat 0) (rt.getD i.toNat 0)) - (mf_ct W pl 0 (rp.getD i.toNat 0) ((rt.getD i.toNat 0) - 1)))), none]) (st' := []) (h' := h_180) (cl' := 0) (sl' := 0) rfl ?_
      exact ih  (i + 1) mm2 (some (fJ ((mf_ct W pl 0 (rp.getD i.toNat 0) (rt.getD i.toNat 0)) - (mf_ct W pl 0 (rp.getD i.toNat 0) ((rt.getD i.toNat 0) - 1))))) h_180 g_180_7 g_180_11 n11 g_180_12 n12 g_180_13 n13 g_180_51 g_180_52 n52 g_180_53 n53 (mf_cv_r g_180_21) k_180 fr_180 (by omega) (by rw [mk_ft_s (by omega), hJ, ← he]; split <;> omega) rfl (by omega)

theorem cs_fit {h : List ik_E} {pl : Int} {lo : Int} {s : Nat} {r : Int} {rp : List Int} {rt : List Int} {wg : List Int} {wc : List Int} {we : List Int} {W : Int → List (Int × Int)} (q0 : 0 ≤ r ∧ r ≤ 12) (q1 : pl ≤ 12) (q2 : mk_rr pl r rp rt) (q3 : ∀ x : Int, 0 ≤ x → x < pl - 1 → mx_wy wg wc we x (W x)) (q4 : ∀ x : Int, 0 ≤ x → x < pl - 1 → mx_ok pl (W x)) (h7 : cE h 7 (.inr (0, [fI pl, fI ((s : Nat) : Int), fI lo, .ref 8, .ref 9, .ref 10, .ref 11, .ref 12, .ref 13]))) (h11 : cE h 11 (.inl (.int, fA wg))) (n11 : wg.length = 60) (h12 : cE h 12 (.inl (.int, fA wc))) (n12 : wc.length = 60) (h13 : cE h 13 (.inl (.int, fA we))) (n13 : we.length = 12) (h51 : cE h 51 (.inr (7, [.ref 7, fI r, .ref 52, .ref 53]))) (h52 : cE h 52 (.inl (.int, fA rp))) (n52 : rp.length = 12) (h53 : cE h 53 (.inl (.int, fA rt))) (n53 : rt.length = 12) (h21 : mf_cr h 21 ) (hl : h.length = 94) : ik_F 70 [.ref 51, .ref 21] h (fun rv h' => rv = [fI (mk_ft (mk_J W pl rp rt) r.toNat)] ∧ mf_cr h' 21  ∧ hfr [21, 22, 23, 24] h h') := by
  refine fw_l2 1000000000 rfl rfl (by decide) ?_
  refine ik_Wk 3 (pc' := 7) (loc' := [some (.ref 51), some (.ref 21), some (fJ 1000000000), none, some (fI 0), none, none]) (st' := []) (h' := h) (cl' := 0) (sl' := 0) rfl ?_
  exact cs_fitL (pl := pl) (lo := lo) (s := s) (r := r) (rp := rp) (rt := rt) (wg := wg) (wc := wc) (we := we) (W := W) q0 q1 q2 q3 q4  (r.toNat + 1) 0 1000000000 none h h7 h11 n11 h12 n12 h13 n13 h51 h52 n52 h53 n53 h21 hl (hfr_refl [21, 22, 23, 24] h) (by omega) rfl rfl (by omega)

theorem cs_fitOther {h : List ik_E} {p : Int} {pl : Int} {lo : Int} {s : Nat} {r : Int} {rp : List Int} {rt : List Int} {wg : List Int} {wc : List Int} {we : List Int} {cn : List Int} {go : List Int} {ch : List Int} (q0 : 0 ≤ r ∧ r ≤ 12) (q1 : 0 ≤ pl ∧ pl ≤ 12) (q2 : mk_rr pl r rp rt) (q3 : ∀ x : Int, 0 ≤ x → x < pl - 1 → mx_wy wg wc we x (mx_w cn go ch s x)) (q4 : mx_rw pl cn go ch) (q5 : True) (q6 : s < 4096) (q7 : 0 ≤ p ∧ p < pl - 1) (h7 : cE h 7 (.inr (0, [fI pl, fI ((s : Nat) : Int), fI lo, .ref 8, .ref 9, .ref 10, .ref 11, .ref 12, .ref 13]))) (h8 : cE h 8 (.inl (.int, fA cn))) (n8 : cn.length = 12) (h9 : cE h 9 (.inl (.int, fA go))) (n9 : go.length = 48) (h10 : cE h 10 (.inl (.int, fA ch))) (n10 : ch.length = 48) (h11 : cE h 11 (.inl (.int, fA wg))) (n11 : wg.length = 60) (h12 : cE h 12 (.inl (.int, fA wc))) (n12 : wc.length = 60) (h13 : cE h 13 (.inl (.int, fA we))) (n13 : we.length = 12) (h51 : cE h 51 (.inr (7, [.ref 7, fI r, .ref 52, .ref 53]))) (h52 : cE h 52 (.inl (.int, fA rp))) (n52 : rp.length = 12) (h53 : cE h 53 (.inl (.int, fA rt))) (n53 : rt.length = 12) (h21 : mf_cr h 21 ) (hl : h.length = 94) : ik_F 71 [.ref 51, fI p, .ref 21] h (fun rv h' => ∃ (wg' : List Int) (wc' : List Int) (we' : List Int), rv = [fI (mk_ft (mk_J (fun x => mx_w cn go ch (s ^^^ 1 <<< p.toNat) x) pl rp rt) r.toNat)] ∧ cE h' 7 (.inr (0, [fI pl, fI ((s : Nat) : Int), fI lo, .ref 8, .ref 9, .ref 10, .ref 11, .ref 12, .ref 13])) ∧ cE h' 11 (.inl (.int, fA wg')) ∧ wg'.length = 60 ∧ cE h' 12 (.inl (.int, fA wc')) ∧ wc'.length = 60 ∧ cE h' 13 (.inl (.int, fA we')) ∧ we'.length = 12 ∧ mf_cr h' 21  ∧ (∀ x : Int, 0 ≤ x → x < pl - 1 → mx_wy wg' wc' we' x (mx_w cn go ch s x)) ∧ hfr [7, 11, 12, 13, 21, 22, 23, 24] h h') := by
  refine ik_Wk 1 (pc' := 1) (loc' := [some (.ref 51), some (fI p), some (.ref 21), none]) (st' := [.ref 51]) (h' := h) (cl' := 0) (sl' := 0) rfl ?_
  refine fw_gf rfl rfl h51 rfl ?_
  refine ik_Wk 1 (pc' := 5) (loc' := [some (.ref 51), some (fI p), some (.ref 21), none]) (st' := [fI p, .ref 7]) (h' := h) (cl' := 0) (sl' := 0) rfl ?_
  refine fw_call 14 2 0 [.ref 7, fI p] [] rfl rfl rfl (by decide) rfl rfl (fw_rec hl rfl h7 rfl (by decide)) (cs_turn (p := p) (pl := pl) (lo := lo) (s := s) (cn := cn) (go := go) (ch := ch) (wg := wg) (wc := wc) (we := we) (by omega) (by omega) q6 (by have := (q4 p (by omega) (by omega)).1; omega) (mx_rw_ch q4 p (by omega) (by omega)).2 (mx_rw_ch q4 p (by omega) (by omega)).1 h7 h8 n8 h9 n9 h10 n10 h11 n11 h12 n12 h13 n13 hl) ?_
  rintro _ h_181 ⟨wg'_181, wc'_181, rfl, e_181_7, e_181_11, m_181_11, e_181_12, m_181_12, e_181_13, m_181_13, p_181_0, p_181_1, p_181_2, F_181⟩
  have k_181 := F_181.1.trans hl
  have fr_181 := hfr_c (hfr_refl [7, 11, 12, 13, 21, 22, 23, 24] h) F_181 (by decide)
  have g_181_8 := (F_181.2 8 (by decide +kernel)).trans h8
  have g_181_9 := (F_181.2 9 (by decide +kernel)).trans h9
  have g_181_10 := (F_181.2 10 (by decide +kernel)).trans h10
  have g_181_51 := (F_181.2 51 (by decide +kernel)).trans h51
  have g_181_52 := (F_181.2 52 (by decide +kernel)).trans h52
  have g_181_53 := (F_181.2 53 (by decide +kernel)).trans h53
  have g_181_21 := mf_cr_f h21 (F_181.2 21 (by decide)) (F_181.2 22 (by decide)) (F_181.2 23 (by decide)) (F_181.2 24 (by decide))
  have g_181_7 : cE h_181 7 (.inr (0, [fI pl, fI ((s ^^^ 1 <<< p.toNat : Nat) : Int), fI lo, .ref 8, .ref 9, .ref 10, .ref 11, .ref 12, .ref 13])) := e_181_7
  have g_181_11 : cE h_181 11 (.inl (.int, fA wg'_181)) := e_181_11
  have g_181_12 : cE h_181 12 (.inl (.int, fA wc'_181)) := e_181_12
  have g_181_13 : cE h_181 13 (.inl (.int, fA (we.set p.toNat (5 * p + ((mx_w cn go ch (s ^^^ 1 <<< p.toNat) p).length : Int))))) := e_181_13
  refine ik_Wk 0 (pc' := 8) (loc' := [some (.ref 51), some (fI p), some (.ref 21), none]) (st' := []) (h' := h_181) (cl' := 0) (sl' := 0) rfl ?_
  have wy_181 : ∀ x : Int, 0 ≤ x → x < pl - 1 → mx_wy wg'_181 wc'_181 (we.set p.toNat (5 * p + ((mx_w cn go ch (s ^^^ 1 <<< p.toNat) p).length : Int))) x (mx_w cn go ch (s ^^^ 1 <<< p.toNat) x) := mx_wy_one (W := (fun x => mx_w cn go ch s x)) (W' := (fun x => mx_w cn go ch (s ^^^ 1 <<< p.toNat) x)) q3 (mx_rw_ok q4 _) (by omega) (by omega) n13 p_181_0 p_181_1 p_181_2 (fun x h0 h1 hx => mx_w_tb (mx_tb_ne (by omega)))
  refine ik_Wk 2 (pc' := 10) (loc' := [some (.ref 51), some (fI p), some (.ref 21), none]) (st' := [.ref 21, .ref 51]) (h' := h_181) (cl' := 0) (sl' := 0) rfl ?_
  refine fw_call 70 2 0 [.ref 51, .ref 21] [] rfl rfl rfl (by decide) rfl rfl (fw_rec k_181 rfl g_181_51 rfl (by decide)) (cs_fit (pl := pl) (lo := lo) (s := s ^^^ 1 <<< p.toNat) (r := r) (rp := rp) (rt := rt) (wg := wg'_181) (wc := wc'_181) (we := we.set p.toNat (5 * p + ((mx_w cn go ch (s ^^^ 1 <<< p.toNat) p).length : Int))) (W := (fun x => mx_w cn go ch (s ^^^ 1 <<< p.toNat) x)) (by omega) (by omega) q2 wy_181 (mx_rw_ok q4 _) g_181_7 g_181_11 m_181_11 g_181_12 m_181_12 g_181_13 m_181_13 g_181_51 g_181_52 n52 g_181_53 n53 g_181_21 k_181) ?_
  rintro _ h_182 ⟨rfl, e_182_21, F_182⟩
  have k_182 := F_182.1.trans k_181
  have fr_182 := hfr_c fr_181 F_182 (by decide)
  have g_182_7 := (F_182.2 7 (by decide +kernel)).trans g_181_7
  have g_182_8 := (F_182.2 8 (by decide +kernel)).trans g_181_8
  have g_182_9 := (F_182.2 9 (by decide +kernel)).trans g_181_9
  have g_182_10 := (F_182.2 10 (by decide +kernel)).trans g_181_10
  have g_182_11 := (F_182.2 11 (by decide +kernel)).trans g_181_11
  have g_182_12 := (F_182.2 12 (by decide +kernel)).trans g_181_12
  have g_182_13 := (F_182.2 13 (by decide +kernel)).trans g_181_13
  have g_182_51 := (F_182.2 51 (by decide +kernel)).trans g_181_51
  have g_182_52 := (F_182.2 52 (by decide +kernel)).trans g_181_52
  have g_182_53 := (F_182.2 53 (by decide +kernel)).trans g_181_53
  have g_182_21 : mf_cr h_182 21  := e_182_21
  refine ik_Wk 0 (pc' := 13) (loc' := [some (.ref 51), some (fI p), some (.ref 21), none]) (st' := [fI (mk_ft (mk_J (fun x => mx_w cn go ch (s ^^^ 1 <<< p.toNat) x) pl rp rt) r.toNat)]) (h' := h_182) (cl' := 0) (sl' := 0) rfl ?_
  refine ik_Wk 2 (pc' := 15) (loc' := [some (.ref 51), some (fI p), some (.ref 21), some (fI (mk_ft (mk_J (fun x => mx_w cn go ch (s ^^^ 1 <<< p.toNat) x) pl rp rt) r.toNat))]) (st' := [.ref 51]) (h' := h_182) (cl' := 0) (sl' := 0) rfl ?_
  refine fw_gf rfl rfl g_182_51 rfl ?_
  refine ik_Wk 1 (pc' := 19) (loc' := [some (.ref 51), some (fI p), some (.ref 21), some (fI (mk_ft (mk_J (fun x => mx_w cn go ch (s ^^^ 1 <<< p.toNat) x) pl rp rt) r.toNat))]) (st' := [fI p, .ref 7]) (h' := h_182) (cl' := 0) (sl' := 0) rfl ?_
  refine fw_call 14 2 0 [.ref 7, fI p] [] rfl rfl rfl (by decide) rfl rfl (fw_rec k_182 rfl g_182_7 rfl (by decide)) (cs_turn (p := p) (pl := pl) (lo := lo) (s := s ^^^ 1 <<< p.toNat) (cn := cn) (go := go) (ch := ch) (wg := wg'_181) (wc := wc'_181) (we := we.set p.toNat (5 * p + ((mx_w cn go ch (s ^^^ 1 <<< p.toNat) p).length : Int))) (by omega) (by omega) (mx_xor_lt q6 (by omega)) (by have := (q4 p (by omega) (by omega)).1; omega) (mx_rw_ch q4 p (by omega) (by omega)).2 (mx_rw_ch q4 p (by omega) (by omega)).1 g_182_7 g_182_8 n8 g_182_9 n9 g_182_10 n10 g_182_11 m_181_11 g_182_12 m_181_12 g_182_13 m_181_13 k_182) ?_
  rintro _ h_183 ⟨wg'_183, wc'_183, rfl, e_183_7, e_183_11, m_183_11, e_183_12, m_183_12, e_183_13, m_183_13, p_183_0, p_183_1, p_183_2, F_183⟩
  have k_183 := F_183.1.trans k_182
  have fr_183 := hfr_c fr_182 F_183 (by decide)
  have g_183_8 := (F_183.2 8 (by decide +kernel)).trans g_182_8
  have g_183_9 := (F_183.2 9 (by decide +kernel)).trans g_182_9
  have g_183_10 := (F_183.2 10 (by decide +kernel)).trans g_182_10
  have g_183_51 := (F_183.2 51 (by decide +kernel)).trans g_182_51
  have g_183_52 := (F_183.2 52 (by decide +kernel)).trans g_182_52
  have g_183_53 := (F_183.2 53 (by decide +kernel)).trans g_182_53
  have g_183_21 := mf_cr_f g_182_21 (F_183.2 21 (by decide)) (F_183.2 22 (by decide)) (F_183.2 23 (by decide)) (F_183.2 24 (by decide))
  have g_183_7 : cE h_183 7 (.inr (0, [fI pl, fI (((s ^^^ 1 <<< p.toNat) ^^^ 1 <<< p.toNat : Nat) : Int), fI lo, .ref 8, .ref 9, .ref 10, .ref 11, .ref 12, .ref 13])) := e_183_7
  have g_183_11 : cE h_183 11 (.inl (.int, fA wg'_183)) := e_183_11
  have g_183_12 : cE h_183 12 (.inl (.int, fA wc'_183)) := e_183_12
  have g_183_13 : cE h_183 13 (.inl (.int, fA ((we.set p.toNat (5 * p + ((mx_w cn go ch (s ^^^ 1 <<< p.toNat) p).length : Int))).set p.toNat (5 * p + ((mx_w cn go ch ((s ^^^ 1 <<< p.toNat) ^^^ 1 <<< p.toNat) p).length : Int))))) := e_183_13
  refine ik_Wk 0 (pc' := 22) (loc' := [some (.ref 51), some (fI p), some (.ref 21), some (fI (mk_ft (mk_J (fun x => mx_w cn go ch (s ^^^ 1 <<< p.toNat) x) pl rp rt) r.toNat))]) (st' := []) (h' := h_183) (cl' := 0) (sl' := 0) rfl ?_
  simp only [mx_xor2] at g_183_7 g_183_13 p_183_0
  have hl1 : ((we.set p.toNat (5 * p + ((mx_w cn go ch (s ^^^ 1 <<< p.toNat) p).length : Int))).set p.toNat (5 * p + ((mx_w cn go ch s p).length : Int))).length = 12 := by rw [List.length_set]; exact m_181_13
  have wy_183 : ∀ x : Int, 0 ≤ x → x < pl - 1 → mx_wy wg'_183 wc'_183 ((we.set p.toNat (5 * p + ((mx_w cn go ch (s ^^^ 1 <<< p.toNat) p).length : Int))).set p.toNat (5 * p + ((mx_w cn go ch s p).length : Int))) x (mx_w cn go ch s x) := mx_wy_one (W := (fun x => mx_w cn go ch (s ^^^ 1 <<< p.toNat) x)) (W' := (fun x => mx_w cn go ch s x)) wy_181 (mx_rw_ok q4 _) (by omega) (by omega) m_181_13 p_183_0 p_183_1 p_183_2 (fun x h0 h1 hx => (mx_w_tb (mx_tb_ne (by omega))).symm)
  refine ik_Wk 1 (pc' := 23) (loc' := [some (.ref 51), some (fI p), some (.ref 21), some (fI (mk_ft (mk_J (fun x => mx_w cn go ch (s ^^^ 1 <<< p.toNat) x) pl rp rt) r.toNat))]) (st' := [fI (mk_ft (mk_J (fun x => mx_w cn go ch (s ^^^ 1 <<< p.toNat) x) pl rp rt) r.toNat)]) (h' := h_183) (cl' := 0) (sl' := 0) rfl ?_
  exact ik_Wret rfl rfl ⟨_, _, rfl, rfl, rfl, rfl, ⟨wg'_183, wc'_183, ((we.set p.toNat (5 * p + ((mx_w cn go ch (s ^^^ 1 <<< p.toNat) p).length : Int))).set p.toNat (5 * p + ((mx_w cn go ch s p).length : Int))), rfl, g_183_7, g_183_11, m_183_11, g_183_12, m_183_12, g_183_13, hl1, g_183_21, wy_183, fr_183⟩⟩

theorem cs_findStoneL {h : List ik_E} {pl : Int} {lo : Int} {s : Nat} {r : Int} {rp : List Int} {rt : List Int} {wg : List Int} {wc : List Int} {we : List Int} {cn : List Int} {go : List Int} {ch : List Int} (q0 : 0 ≤ r ∧ r ≤ 12) (q1 : 0 ≤ pl ∧ pl ≤ 12) (q2 : mk_rr pl r rp rt) (q3 : ∀ x : Int, 0 ≤ x → x < pl - 1 → mx_wy wg wc we x (mx_w cn go ch s x)) (q4 : mx_rw pl cn go ch) (q5 : True) (q6 : s < 4096)  : ∀ (k : Nat) (p : Int) (g : Int) (wh : Int) (wg1 : List Int) (wc1 : List Int) (we1 : List Int) (x5 : Option Value) (u : List ik_E) (u7 : cE u 7 (.inr (0, [fI pl, fI ((s : Nat) : Int), fI lo, .ref 8, .ref 9, .ref 10, .ref 11, .ref 12, .ref 13]))) (u8 : cE u 8 (.inl (.int, fA cn))) (n8 : cn.length = 12) (u9 : cE u 9 (.inl (.int, fA go))) (n9 : go.length = 48) (u10 : cE u 10 (.inl (.int, fA ch))) (n10 : ch.length = 48) (u11 : cE u 11 (.inl (.int, fA wg1))) (n11 : wg1.length = 60) (u12 : cE u 12 (.inl (.int, fA wc1))) (n12 : wc1.length = 60) (u13 : cE u 13 (.inl (.int, fA we1))) (n13 : we1.length = 12) (u51 : cE u 51 (.inr (7, [.ref 7, fI r, .ref 52, .ref 53]))) (u52 : cE u 52 (.inl (.int, fA rp))) (n52 : rp.length = 12) (u53 : cE u 53 (.inl (.int, fA rt))) (n53 : rt.length = 12) (u21 : mf_cr u 21 ) (ul : u.length = 94) (F : hfr [7, 11, 12, 13, 21, 22, 23, 24] h u) (hp : 0 ≤ p ∧ (p ≤ pl - 1 ∨ p = 0)) (hg : 1 ≤ g ∧ g ≤ 1000000000) (hy : ∀ x : Int, 0 ≤ x → x < pl - 1 → mx_wy wg1 wc1 we1 x (mx_w cn go ch s x)) (he : mk_so (mk_vs cn go ch s pl rp rt r) (pl - 1).toNat 0 (mk_ft (mk_J (fun x => mx_w cn go ch s x) pl rp rt) r.toNat) (-1) = mk_so (mk_vs cn go ch s pl rp rt r) (pl - 1 - p).toNat p g wh) (w5 : ik_wl 94 x5 = true) (hk : pl - p < (k : Int)), ik_G 72 11 [some (.ref 51), some (.ref 21), some (fI g), some (fI wh), some (fI p), x5] [] u (fun rv h' => ∃ (wg' : List Int) (wc' : List Int) (we' : List Int), rv = [fI (mk_so (mk_vs cn go ch s pl rp rt r) (pl - 1).toNat 0 (mk_ft (mk_J (fun x => mx_w cn go ch s x) pl rp rt) r.toNat) (-1))] ∧ cE h' 7 (.inr (0, [fI pl, fI ((s : Nat) : Int), fI lo, .ref 8, .ref 9, .ref 10, .ref 11, .ref 12, .ref 13])) ∧ cE h' 11 (.inl (.int, fA wg')) ∧ wg'.length = 60 ∧ cE h' 12 (.inl (.int, fA wc')) ∧ wc'.length = 60 ∧ cE h' 13 (.inl (.int, fA we')) ∧ we'.length = 12 ∧ mf_cr h' 21  ∧ (∀ x : Int, 0 ≤ x → x < pl - 1 → mx_wy wg' wc' we' x (mx_w cn go ch s x)) ∧ hfr [7, 11, 12, 13, 21, 22, 23, 24] h h') := by
  intro k
  induction k with
  | zero => intro p g wh wg1 wc1 we1 x5 u u7 u8 n8 u9 n9 u10 n10 u11 n11 u12 n12 u13 n13 u51 u52 n52 u53 n53 u21 ul F hp hg hy he w5 hk; omega
  | succ k ih =>
    intro p g wh wg1 wc1 we1 x5 u u7 u8 n8 u9 n9 u10 n10 u11 n11 u12 n12 u13 n13 u51 u52 n52 u53 n53 u21 ul F hp hg hy he w5 hk
    refine ik_Wk 2 (pc' := 14) (loc' := [some (.ref 51), some (.ref 21), some (fI g), some (fI wh), some (fI p), x5]) (st' := [.ref 51, fI p]) (h' := u) (cl' := 0) (sl' := 0) rfl ?_
    refine fw_gf rfl rfl u51 rfl ?_
    refine ik_Wc 2 1 0 [.ref 7] [fI p] rfl rfl rfl (by decide) rfl rfl (fw_rec ul (fw_ftx rfl (wv_c rfl wv_n) (wl_c rfl (wl_c rfl (wl_c rfl (wl_c rfl (wl_c rfl (wl_c w5 wl_n))))))) u7 rfl (by decide)) ?_
    refine ik_Wk 0 (pc' := 0) (loc' := [some (.ref 7)]) (st' := []) (h' := u) (cl' := 0) (sl' := 0) rfl ?_
    refine ik_Wk 1 (pc' := 1) (loc' := [some (.ref 7)]) (st' := [.ref 7]) (h' := u) (cl' := 0) (sl' := 0) rfl ?_
    refine fw_gf rfl rfl u7 rfl ?_
    refine ik_Wk 1 (pc' := 5) (loc' := [some (.ref 7)]) (st' := [fI 1, fI pl]) (h' := u) (cl' := 0) (sl' := 0) rfl ?_
    refine fw_sub rfl ?_
    refine ik_Wret rfl rfl ⟨_, _, rfl, rfl, ?_⟩
    refine ik_Wk 0 (pc' := 20) (loc' := [some (.ref 51), some (.ref 21), some (fI g), some (fI wh), some (fI p), x5]) (st' := [fI (pl - 1), fI p]) (h' := u) (cl' := 0) (sl' := 0) rfl ?_
    refine fw_ic_ge rfl rfl (by omega) (by omega) (by omega) (by omega) (fun hc1 => ?_) (fun hc1 => ?_)
    · refine ik_Wk 1 (pc' := 51) (loc' := [some (.ref 51), some (.ref 21), some (fI g), some (fI wh), some (fI p), x5]) (st' := [fI wh]) (h' := u) (cl' := 0) (sl' := 0) rfl ?_
      have e0 : (pl - 1 - p).toNat = 0 := by omega
      rw [e0] at he
      exact ik_Wret rfl rfl ⟨_, _, rfl, rfl, rfl, rfl, ⟨wg1, wc1, we1, (congrArg (fun z => [fI z]) he.symm), u7, u11, n11, u12, n12, u13, n13, u21, hy, F⟩⟩
    · refine ik_Wk 3 (pc' := 27) (loc' := [some (.ref 51), some (.ref 21), some (fI g), some (fI wh), some (fI p), x5]) (st' := [.ref 21, fI p, .ref 51]) (h' := u) (cl' := 0) (sl' := 0) rfl ?_
      refine fw_call 71 3 0 [.ref 51, fI p, .ref 21] [] rfl rfl rfl (by decide) rfl rfl (fw_rec ul (fw_ftx rfl wv_n (wl_c rfl (wl_c rfl (wl_c rfl (wl_c rfl (wl_c rfl (wl_c w5 wl_n))))))) u51 rfl (by decide)) (cs_fitOther (p := p) (pl := pl) (lo := lo) (s := s) (r := r) (rp := rp) (rt := rt) (wg := wg1) (wc := wc1) (we := we1) (cn := cn) (go := go) (ch := ch) (by omega) (by omega) q2 hy q4 q5 q6 (by omega) u7 u8 n8 u9 n9 u10 n10 u11 n11 u12 n12 u13 n13 u51 u52 n52 u53 n53 u21 ul) ?_
      rintro _ h_184 ⟨wg'_184, wc'_184, we'_184, rfl, e_184_7, e_184_11, m_184_11, e_184_12, m_184_12, e_184_13, m_184_13, e_184_21, p_184_0, F_184⟩
      have k_184 := F_184.1.trans ul
      have fr_184 := hfr_c F F_184 (by decide)
      have g_184_8 := (F_184.2 8 (by decide +kernel)).trans u8
      have g_184_9 := (F_184.2 9 (by decide +kernel)).trans u9
      have g_184_10 := (F_184.2 10 (by decide +kernel)).trans u10
      have g_184_51 := (F_184.2 51 (by decide +kernel)).trans u51
      have g_184_52 := (F_184.2 52 (by decide +kernel)).trans u52
      have g_184_53 := (F_184.2 53 (by decide +kernel)).trans u53
      have g_184_7 : cE h_184 7 (.inr (0, [fI pl, fI ((s : Nat) : Int), fI lo, .ref 8, .ref 9, .ref 10, .ref 11, .ref 12, .ref 13])) := e_184_7
      have g_184_11 : cE h_184 11 (.inl (.int, fA wg'_184)) := e_184_11
      have g_184_12 : cE h_184 12 (.inl (.int, fA wc'_184)) := e_184_12
      have g_184_13 : cE h_184 13 (.inl (.int, fA we'_184)) := e_184_13
      have g_184_21 : mf_cr h_184 21  := e_184_21
      refine ik_Wk 0 (pc' := 30) (loc' := [some (.ref 51), some (.ref 21), some (fI g), some (fI wh), some (fI p), x5]) (st' := [fI (mk_ft (mk_J (fun x => mx_w cn go ch (s ^^^ 1 <<< p.toNat) x) pl rp rt) r.toNat)]) (h' := h_184) (cl' := 0) (sl' := 0) rfl ?_
      have fb_184 := mk_ft_b (J := mk_J (fun x => mx_w cn go ch (s ^^^ 1 <<< p.toNat) x) pl rp rt) r.toNat (fun j hj => mk_J_b (mx_rw_ok q4 _) q2 j (by omega))
      refine ik_Wk 3 (pc' := 35) (loc' := [some (.ref 51), some (.ref 21), some (fI g), some (fI wh), some (fI p), some (fI (mk_ft (mk_J (fun x => mx_w cn go ch (s ^^^ 1 <<< p.toNat) x) pl rp rt) r.toNat))]) (st' := [fI g, fI (mk_ft (mk_J (fun x => mx_w cn go ch (s ^^^ 1 <<< p.toNat) x) pl rp rt) r.toNat)]) (h' := h_184) (cl' := 0) (sl' := 0) rfl ?_
      refine fw_ic_le rfl rfl (by omega) (by omega) (by omega) (by omega) (fun hc2 => ?_) (fun hc2 => ?_)
      · refine fw_inc (a := p) (loc' := [some (.ref 51), some (.ref 21), some (fI g), some (fI wh), some (fI (p + 1)), some (fI (mk_ft (mk_J (fun x => mx_w cn go ch (s ^^^ 1 <<< p.toNat) x) pl rp rt) r.toNat))]) rfl rfl (Nat.le_of_ble_eq_true rfl) rfl ?_
        refine ik_Wk 1 (pc' := 11) (loc' := [some (.ref 51), some (.ref 21), some (fI g), some (fI wh), some (fI (p + 1)), some (fI (mk_ft (mk_J (fun x => mx_w cn go ch (s ^^^ 1 <<< p.toNat) x) pl rp rt) r.toNat))]) (st' := []) (h' := h_184) (cl' := 0) (sl' := 0) rfl ?_
        exact ih  (p + 1) g wh wg'_184 wc'_184 we'_184 (some (fI (mk_ft (mk_J (fun x => mx_w cn go ch (s ^^^ 1 <<< p.toNat) x) pl rp rt) r.toNat))) h_184 g_184_7 g_184_8 n8 g_184_9 n9 g_184_10 n10 g_184_11 m_184_11 g_184_12 m_184_12 g_184_13 m_184_13 g_184_51 g_184_52 n52 g_184_53 n53 g_184_21 k_184 fr_184 (by omega) (by omega) p_184_0 (by rw [he, show (pl - 1 - p).toNat = (pl - 1 - (p + 1)).toNat + 1 by omega]; show (if g < (mk_vs cn go ch s pl rp rt r) p then _ else _) = _; rw [if_neg (by show ¬ g < mk_ft (mk_J (fun x => mx_w cn go ch (s ^^^ 1 <<< p.toNat) x) pl rp rt) r.toNat; omega)]) rfl (by omega)
      · refine ik_Wk 4 (pc' := 44) (loc' := [some (.ref 51), some (.ref 21), some (fI (mk_ft (mk_J (fun x => mx_w cn go ch (s ^^^ 1 <<< p.toNat) x) pl rp rt) r.toNat)), some (fI p), some (fI p), some (fI (mk_ft (mk_J (fun x => mx_w cn go ch (s ^^^ 1 <<< p.toNat) x) pl rp rt) r.toNat))]) (st' := []) (h' := h_184) (cl' := 0) (sl' := 0) rfl ?_
        refine fw_inc (a := p) (loc' := [some (.ref 51), some (.ref 21), some (fI (mk_ft (mk_J (fun x => mx_w cn go ch (s ^^^ 1 <<< p.toNat) x) pl rp rt) r.toNat)), some (fI p), some (fI (p + 1)), some (fI (mk_ft (mk_J (fun x => mx_w cn go ch (s ^^^ 1 <<< p.toNat) x) pl rp rt) r.toNat))]) rfl rfl (Nat.le_of_ble_eq_true rfl) rfl ?_
        refine ik_Wk 1 (pc' := 11) (loc' := [some (.ref 51), some (.ref 21), some (fI (mk_ft (mk_J (fun x => mx_w cn go ch (s ^^^ 1 <<< p.toNat) x) pl rp rt) r.toNat)), some (fI p), some (fI (p + 1)), some (fI (mk_ft (mk_J (fun x => mx_w cn go ch (s ^^^ 1 <<< p.toNat) x) pl rp rt) r.toNat))]) (st' := []) (h' := h_184) (cl' := 0) (sl' := 0) rfl ?_
        exact ih  (p + 1) (mk_ft (mk_J (fun x => mx_w cn go ch (s ^^^ 1 <<< p.toNat) x) pl rp rt) r.toNat) p wg'_184 wc'_184 we'_184 (some (fI (mk_ft (mk_J (fun x => mx_w cn go ch (s ^^^ 1 <<< p.toNat) x) pl rp rt) r.toNat))) h_184 g_184_7 g_184_8 n8 g_184_9 n9 g_184_10 n10 g_184_11 m_184_11 g_184_12 m_184_12 g_184_13 m_184_13 g_184_51 g_184_52 n52 g_184_53 n53 g_184_21 k_184 fr_184 (by omega) (by omega) p_184_0 (by rw [he, show (pl - 1 - p).toNat = (pl - 1 - (p + 1)).toNat + 1 by omega]; show (if g < (mk_vs cn go ch s pl rp rt r) p then _ else _) = _; rw [if_pos (by show g < mk_ft (mk_J (fun x => mx_w cn go ch (s ^^^ 1 <<< p.toNat) x) pl rp rt) r.toNat; omega)]; rfl) rfl (by omega)

theorem cs_findStone {h : List ik_E} {pl : Int} {lo : Int} {s : Nat} {r : Int} {rp : List Int} {rt : List Int} {wg : List Int} {wc : List Int} {we : List Int} {cn : List Int} {go : List Int} {ch : List Int} (q0 : 0 ≤ r ∧ r ≤ 12) (q1 : 0 ≤ pl ∧ pl ≤ 12) (q2 : mk_rr pl r rp rt) (q3 : ∀ x : Int, 0 ≤ x → x < pl - 1 → mx_wy wg wc we x (mx_w cn go ch s x)) (q4 : mx_rw pl cn go ch) (q5 : True) (q6 : s < 4096) (h7 : cE h 7 (.inr (0, [fI pl, fI ((s : Nat) : Int), fI lo, .ref 8, .ref 9, .ref 10, .ref 11, .ref 12, .ref 13]))) (h8 : cE h 8 (.inl (.int, fA cn))) (n8 : cn.length = 12) (h9 : cE h 9 (.inl (.int, fA go))) (n9 : go.length = 48) (h10 : cE h 10 (.inl (.int, fA ch))) (n10 : ch.length = 48) (h11 : cE h 11 (.inl (.int, fA wg))) (n11 : wg.length = 60) (h12 : cE h 12 (.inl (.int, fA wc))) (n12 : wc.length = 60) (h13 : cE h 13 (.inl (.int, fA we))) (n13 : we.length = 12) (h51 : cE h 51 (.inr (7, [.ref 7, fI r, .ref 52, .ref 53]))) (h52 : cE h 52 (.inl (.int, fA rp))) (n52 : rp.length = 12) (h53 : cE h 53 (.inl (.int, fA rt))) (n53 : rt.length = 12) (h21 : mf_cr h 21 ) (hl : h.length = 94) : ik_F 72 [.ref 51, .ref 21] h (fun rv h' => ∃ (wg' : List Int) (wc' : List Int) (we' : List Int), rv = [fI (mk_so (mk_vs cn go ch s pl rp rt r) (pl - 1).toNat 0 (mk_ft (mk_J (fun x => mx_w cn go ch s x) pl rp rt) r.toNat) (-1))] ∧ cE h' 7 (.inr (0, [fI pl, fI ((s : Nat) : Int), fI lo, .ref 8, .ref 9, .ref 10, .ref 11, .ref 12, .ref 13])) ∧ cE h' 11 (.inl (.int, fA wg')) ∧ wg'.length = 60 ∧ cE h' 12 (.inl (.int, fA wc')) ∧ wc'.length = 60 ∧ cE h' 13 (.inl (.int, fA we')) ∧ we'.length = 12 ∧ mf_cr h' 21  ∧ (∀ x : Int, 0 ≤ x → x < pl - 1 → mx_wy wg' wc' we' x (mx_w cn go ch s x)) ∧ hfr [7, 11, 12, 13, 21, 22, 23, 24] h h') := by
  refine ik_Wk 2 (pc' := 2) (loc' := [some (.ref 51), some (.ref 21), none, none, none, none]) (st' := [.ref 21, .ref 51]) (h' := h) (cl' := 0) (sl' := 0) rfl ?_
  refine fw_call 70 2 0 [.ref 51, .ref 21] [] rfl rfl rfl (by decide) rfl rfl (fw_rec hl rfl h51 rfl (by decide)) (cs_fit (pl := pl) (lo := lo) (s := s) (r := r) (rp := rp) (rt := rt) (wg := wg) (wc := wc) (we := we) (W := (fun x => mx_w cn go ch s x)) (by omega) (by omega) q2 q3 (mx_rw_ok q4 _) h7 h11 n11 h12 n12 h13 n13 h51 h52 n52 h53 n53 h21 hl) ?_
  rintro _ h_185 ⟨rfl, e_185_21, F_185⟩
  have k_185 := F_185.1.trans hl
  have fr_185 := hfr_c (hfr_refl [7, 11, 12, 13, 21, 22, 23, 24] h) F_185 (by decide)
  have g_185_7 := (F_185.2 7 (by decide +kernel)).trans h7
  have g_185_8 := (F_185.2 8 (by decide +kernel)).trans h8
  have g_185_9 := (F_185.2 9 (by decide +kernel)).trans h9
  have g_185_10 := (F_185.2 10 (by decide +kernel)).trans h10
  have g_185_11 := (F_185.2 11 (by decide +kernel)).trans h11
  have g_185_12 := (F_185.2 12 (by decide +kernel)).trans h12
  have g_185_13 := (F_185.2 13 (by decide +kernel)).trans h13
  have g_185_51 := (F_185.2 51 (by decide +kernel)).trans h51
  have g_185_52 := (F_185.2 52 (by decide +kernel)).trans h52
  have g_185_53 := (F_185.2 53 (by decide +kernel)).trans h53
  have g_185_21 : mf_cr h_185 21  := e_185_21
  refine ik_Wk 0 (pc' := 5) (loc' := [some (.ref 51), some (.ref 21), none, none, none, none]) (st' := [fI (mk_ft (mk_J (fun x => mx_w cn go ch s x) pl rp rt) r.toNat)]) (h' := h_185) (cl' := 0) (sl' := 0) rfl ?_
  refine ik_Wk 5 (pc' := 11) (loc' := [some (.ref 51), some (.ref 21), some (fI (mk_ft (mk_J (fun x => mx_w cn go ch s x) pl rp rt) r.toNat)), some (fI (-1)), some (fI 0), none]) (st' := []) (h' := h_185) (cl' := 0) (sl' := 0) rfl ?_
  have fb := mk_ft_b (J := mk_J (fun x => mx_w cn go ch s x) pl rp rt) r.toNat (fun j hj => mk_J_b (mx_rw_ok q4 _) q2 j (by omega))
  exact cs_findStoneL (pl := pl) (lo := lo) (s := s) (r := r) (rp := rp) (rt := rt) (wg := wg) (wc := wc) (we := we) (cn := cn) (go := go) (ch := ch) q0 q1 q2 q3 q4 q5 q6  (pl.toNat + 1) 0 (mk_ft (mk_J (fun x => mx_w cn go ch s x) pl rp rt) r.toNat) (-1) wg wc we none h_185 g_185_7 g_185_8 n8 g_185_9 n9 g_185_10 n10 g_185_11 n11 g_185_12 n12 g_185_13 n13 g_185_51 g_185_52 n52 g_185_53 n53 g_185_21 k_185 fr_185 (by omega) fb q3 (by rw [Int.sub_zero]) rfl (by omega)

end