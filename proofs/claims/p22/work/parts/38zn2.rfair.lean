noncomputable section
theorem cr_isFair {h : List ik_E} {pl : Int} {f : Nat → Int} {s : Nat} {cn : List Int} {go : List Int} {ch : List Int} {gt : List Int} {gd : List Int} {xs : List Int} {ys : List Int} {ka : Int} {pa : Int} {fa : Int} {kb : Int} {pb : Int} {fb : Int} {r1 : List Int} {r2 : List Int} {e : Int} (q0 : 0 ≤ pl ∧ pl ≤ 12) (q1 : s < 4096) (q2 : mx_rw pl cn go ch) (q3 : 0 ≤ ka ∧ ka ≤ 2) (q4 : 0 ≤ kb ∧ kb ≤ 2) (q5 : 0 ≤ pa ∧ pa < pl - 1) (q6 : 0 ≤ pb ∧ pb < pl - 1) (q7 : 0 ≤ fa ∧ fa ≤ 30) (q8 : 0 ≤ fb ∧ fb ≤ 30) (q9 : 0 ≤ e ∧ e ≤ 1000000) (h66 : cE h 66 (.inr (10, (fI pl :: .ref 67 :: .ref 68 :: .ref 69 :: fI ((s : Nat) : Int) :: .ref 70 :: .ref 71 :: fI (f 7) :: fI (f 8) :: .ref 72 :: fI (f 10) :: fI (f 11) :: fI (f 12) :: fJ (f 13) :: fI (f 14) :: fI (f 15) :: fI (f 16) :: fI (f 17) :: .ref 73 :: .ref 74 :: .ref 75 :: .ref 76 :: .ref 77 :: .ref 78 :: fI (f 24) :: .ref 79 :: .ref 80 :: .ref 81 :: .ref 82 :: .ref 83 :: .ref 84 :: .ref 85 :: fJ (f 32) :: fJ (f 33) :: .ref 86 :: .ref 87 :: fI (f 36) :: .ref 88 :: .ref 89 :: .ref 90 :: .ref 91 :: .ref 92 :: .ref 93 :: [])))) (h67 : cE h 67 (.inl (.int, fA cn))) (n67 : cn.length = (12 : Nat)) (h68 : cE h 68 (.inl (.int, fA go))) (n68 : go.length = (48 : Nat)) (h69 : cE h 69 (.inl (.int, fA ch))) (n69 : ch.length = (48 : Nat)) (h77 : cE h 77 (.inl (.int, fA gt))) (n77 : gt.length = (5 : Nat)) (h78 : cE h 78 (.inl (.int, fA gd))) (n78 : gd.length = (5 : Nat)) (h79 : cE h 79 (.inl (.long, fL xs))) (n79 : xs.length = (12 : Nat)) (h80 : cE h 80 (.inl (.long, fL ys))) (n80 : ys.length = (12 : Nat)) (h70 : cE h 70 (.inl (.int, fA [ka, pa, fa, kb, pb, fb]))) (h81 : cE h 81 (.inl (.long, fL r1))) (n81 : r1.length = (201 : Nat)) (h82 : cE h 82 (.inl (.long, fL r2))) (n82 : r2.length = (201 : Nat)) (hl : h.length = (94 : Nat)) : ik_F 190 [.ref 66, fI e] h (fun rv h_q => (∃ (w' : Int) (gt' : List Int) (gd' : List Int) (xs' : List Int) (ys' : List Int) (r1' : List Int) (r2' : List Int), rv = [fI 1] ∧ cE h_q 66 (.inr (10, (fI pl :: .ref 67 :: .ref 68 :: .ref 69 :: fI ((s : Nat) : Int) :: .ref 70 :: .ref 71 :: fI (f 7) :: fI (f 8) :: .ref 72 :: fI (f 10) :: fI (f 11) :: fI (f 12) :: fJ (f 13) :: fI (f 14) :: fI (f 15) :: fI (f 16) :: fI (f 17) :: .ref 73 :: .ref 74 :: .ref 75 :: .ref 76 :: .ref 77 :: .ref 78 :: fI w' :: .ref 79 :: .ref 80 :: .ref 81 :: .ref 82 :: .ref 83 :: .ref 84 :: .ref 85 :: fJ (f 32) :: fJ (f 33) :: .ref 86 :: .ref 87 :: fI (f 36) :: .ref 88 :: .ref 89 :: .ref 90 :: .ref 91 :: .ref 92 :: .ref 93 :: []))) ∧ cE h_q 77 (.inl (.int, fA gt')) ∧ gt'.length = (5 : Nat) ∧ cE h_q 78 (.inl (.int, fA gd')) ∧ gd'.length = (5 : Nat) ∧ cE h_q 79 (.inl (.long, fL xs')) ∧ xs'.length = (12 : Nat) ∧ cE h_q 80 (.inl (.long, fL ys')) ∧ ys'.length = (12 : Nat) ∧ cE h_q 81 (.inl (.long, fL r1')) ∧ r1'.length = (201 : Nat) ∧ cE h_q 82 (.inl (.long, fL r2')) ∧ r2'.length = (201 : Nat) ∧ (mk_gap cn go ch s pl ka pa fa kb pb fb ≤ e) ∧ hfr [66, 77, 78, 79, 80, 81, 82] h h_q) ∨ (∃ (w' : Int) (gt' : List Int) (gd' : List Int) (xs' : List Int) (ys' : List Int) (r1' : List Int) (r2' : List Int), rv = [fI 0] ∧ cE h_q 66 (.inr (10, (fI pl :: .ref 67 :: .ref 68 :: .ref 69 :: fI ((s : Nat) : Int) :: .ref 70 :: .ref 71 :: fI (f 7) :: fI (f 8) :: .ref 72 :: fI (f 10) :: fI (f 11) :: fI (f 12) :: fJ (f 13) :: fI (f 14) :: fI (f 15) :: fI (f 16) :: fI (f 17) :: .ref 73 :: .ref 74 :: .ref 75 :: .ref 76 :: .ref 77 :: .ref 78 :: fI w' :: .ref 79 :: .ref 80 :: .ref 81 :: .ref 82 :: .ref 83 :: .ref 84 :: .ref 85 :: fJ (f 32) :: fJ (f 33) :: .ref 86 :: .ref 87 :: fI (f 36) :: .ref 88 :: .ref 89 :: .ref 90 :: .ref 91 :: .ref 92 :: .ref 93 :: []))) ∧ cE h_q 77 (.inl (.int, fA gt')) ∧ gt'.length = (5 : Nat) ∧ cE h_q 78 (.inl (.int, fA gd')) ∧ gd'.length = (5 : Nat) ∧ cE h_q 79 (.inl (.long, fL xs')) ∧ xs'.length = (12 : Nat) ∧ cE h_q 80 (.inl (.long, fL ys')) ∧ ys'.length = (12 : Nat) ∧ cE h_q 81 (.inl (.long, fL r1')) ∧ r1'.length = (201 : Nat) ∧ cE h_q 82 (.inl (.long, fL r2')) ∧ r2'.length = (201 : Nat) ∧ (e < mk_gap cn go ch s pl ka pa fa kb pb fb) ∧ hfr [66, 77, 78, 79, 80, 81, 82] h h_q)) := by
  refine ik_Wk 1 (pc_q := 1) (loc_q := [some (.ref 66), some (fI e)]) (st_q := [.ref 66]) (h_q := h) (cl_q := 0) (sl_q := 0) rfl ?_
  refine fw_call 165 1 0 [.ref 66] [] rfl rfl rfl (Nat.le_of_ble_eq_true rfl) rfl rfl (fw_rec hl rfl h66 rfl (Nat.le_of_ble_eq_true rfl)) (cr_suitRows (pl := pl) (f := fun j => ((0 :: 0 :: 0 :: 0 :: 0 :: 0 :: 0 :: f 7 :: f 8 :: 0 :: f 10 :: f 11 :: f 12 :: f 13 :: f 14 :: f 15 :: f 16 :: f 17 :: 0 :: 0 :: 0 :: 0 :: 0 :: 0 :: f 24 :: 0 :: 0 :: 0 :: 0 :: 0 :: 0 :: 0 :: f 32 :: f 33 :: 0 :: 0 :: f 36 :: 0 :: 0 :: 0 :: 0 :: 0 :: 0 :: []) : List Int).getD j 0) (s := s) (cn := cn) (go := go) (ch := ch) (gt := gt) (gd := gd) (xs := xs) (ys := ys) (ka := ka) (pa := pa) (fa := fa) (kb := kb) (pb := pb) (fb := fb) (r1 := r1) (r2 := r2) (by omega) (by omega) (fun x h0 h1 => by have := (q2 x h0 h1).1; omega) (mx_rw_ch q2) (mx_rw_ok q2 _) (by omega) (by omega) (by omega) (by omega) h66 h67 n67 h68 n68 h69 n69 h77 n77 h78 n78 h79 n79 h80 n80 h70 h81 n81 h82 n82 hl) ?_
  rintro _ h_314 ⟨w'_314, gt'_314, gd'_314, xs'_314, ys'_314, r1'_314, r2'_314, rfl, e_314_66, e_314_77, m_314_77, e_314_78, m_314_78, e_314_79, m_314_79, e_314_80, m_314_80, e_314_81, m_314_81, e_314_82, m_314_82, p_314_0, p_314_1, F_314⟩
  have k_314 : cL h_314 := F_314.1.trans hl
  have fr_314 := hfr_cb (hfr_refl [66, 77, 78, 79, 80, 81, 82] h) F_314 rfl
  have g_314_67 := (hfr_g F_314 67 rfl).trans h67
  have g_314_68 := (hfr_g F_314 68 rfl).trans h68
  have g_314_69 := (hfr_g F_314 69 rfl).trans h69
  have g_314_70 := (hfr_g F_314 70 rfl).trans h70
  have g_314_66 : cE h_314 66 (.inr (10, (fI pl :: .ref 67 :: .ref 68 :: .ref 69 :: fI ((s : Nat) : Int) :: .ref 70 :: .ref 71 :: fI (f 7) :: fI (f 8) :: .ref 72 :: fI (f 10) :: fI (f 11) :: fI (f 12) :: fJ (f 13) :: fI (f 14) :: fI (f 15) :: fI (f 16) :: fI (f 17) :: .ref 73 :: .ref 74 :: .ref 75 :: .ref 76 :: .ref 77 :: .ref 78 :: fI w'_314 :: .ref 79 :: .ref 80 :: .ref 81 :: .ref 82 :: .ref 83 :: .ref 84 :: .ref 85 :: fJ (f 32) :: fJ (f 33) :: .ref 86 :: .ref 87 :: fI (f 36) :: .ref 88 :: .ref 89 :: .ref 90 :: .ref 91 :: .ref 92 :: .ref 93 :: []))) := e_314_66
  have g_314_77 : cE h_314 77 (.inl (.int, fA gt'_314)) := e_314_77
  have g_314_78 : cE h_314 78 (.inl (.int, fA gd'_314)) := e_314_78
  have g_314_79 : cE h_314 79 (.inl (.long, fL xs'_314)) := e_314_79
  have g_314_80 : cE h_314 80 (.inl (.long, fL ys'_314)) := e_314_80
  have g_314_81 : cE h_314 81 (.inl (.long, fL r1'_314)) := e_314_81
  have g_314_82 : cE h_314 82 (.inl (.long, fL r2'_314)) := e_314_82
  refine ik_Wk 0 (pc_q := 4) (loc_q := [some (.ref 66), some (fI e)]) (st_q := []) (h_q := h_314) (cl_q := 0) (sl_q := 0) rfl ?_
  have k0 := mr_ok_cm (W := (fun x => mx_w cn go ch s x)) (k := ka) (mx_rw_ok q2 _) q5
  have k1 := mr_ok_cm (W := (fun x => mx_w cn go ch s x)) (k := kb) (mx_rw_ok q2 _) q6
  have wb0 := mr_w_b k0 k1 (show 0 ≤ fa by omega) (show 0 ≤ fb by omega) 0
  have wb1 := mr_w_b k0 k1 (show 0 ≤ fa by omega) (show 0 ≤ fb by omega) 1
  have hg : mk_gap cn go ch s pl ka pa fa kb pb fb = mk_ab (mr_w (mf_cm (fun x => mx_w cn go ch s x) (pl - 1) ka pa) fa (mf_cm (fun x => mx_w cn go ch s x) (pl - 1) kb pb) fb 0 - mr_w (mf_cm (fun x => mx_w cn go ch s x) (pl - 1) ka pa) fa (mf_cm (fun x => mx_w cn go ch s x) (pl - 1) kb pb) fb 1) := rfl
  refine ik_Wk 2 (pc_q := 6) (loc_q := [some (.ref 66), some (fI e)]) (st_q := [fI 0, .ref 66]) (h_q := h_314) (cl_q := 0) (sl_q := 0) rfl ?_
  refine fw_call 168 2 0 [.ref 66, fI 0] [] rfl rfl rfl (Nat.le_of_ble_eq_true rfl) rfl rfl (fw_rec k_314 rfl g_314_66 rfl (Nat.le_of_ble_eq_true rfl)) (cr_laterBy (f := fun j => ((pl :: 0 :: 0 :: 0 :: (((s : Nat) : Int)) :: 0 :: 0 :: ((f 7)) :: ((f 8)) :: 0 :: ((f 10)) :: ((f 11)) :: ((f 12)) :: ((f 13)) :: ((f 14)) :: ((f 15)) :: ((f 16)) :: ((f 17)) :: 0 :: 0 :: 0 :: 0 :: 0 :: 0 :: w'_314 :: 0 :: 0 :: 0 :: 0 :: 0 :: 0 :: 0 :: ((f 32)) :: ((f 33)) :: 0 :: 0 :: ((f 36)) :: 0 :: 0 :: 0 :: 0 :: 0 :: 0 :: []) : List Int).getD j 0) (wh := 0) (ka := ka) (pa := pa) (fa := fa) (kb := kb) (pb := pb) (fb := fb) (r1 := r1'_314) (r2 := r2'_314) (c0 := (mf_cm (fun x => mx_w cn go ch s x) (pl - 1) ka pa)) (c1 := (mf_cm (fun x => mx_w cn go ch s x) (pl - 1) kb pb)) (by omega) (by omega) (by omega) p_314_0 p_314_1 k0 k1 g_314_66 g_314_70 g_314_81 m_314_81 g_314_82 m_314_82 k_314) ?_
  rintro _ h_315 ⟨rfl, F_315⟩
  have k_315 : cL h_315 := F_315.1.trans k_314
  have fr_315 := hfr_cb fr_314 F_315 rfl
  have g_315_66 := (hfr_g F_315 66 rfl).trans g_314_66
  have g_315_67 := (hfr_g F_315 67 rfl).trans g_314_67
  have g_315_68 := (hfr_g F_315 68 rfl).trans g_314_68
  have g_315_69 := (hfr_g F_315 69 rfl).trans g_314_69
  have g_315_77 := (hfr_g F_315 77 rfl).trans g_314_77
  have g_315_78 := (hfr_g F_315 78 rfl).trans g_314_78
  have g_315_79 := (hfr_g F_315 79 rfl).trans g_314_79
  have g_315_80 := (hfr_g F_315 80 rfl).trans g_314_80
  have g_315_70 := (hfr_g F_315 70 rfl).trans g_314_70
  have g_315_81 := (hfr_g F_315 81 rfl).trans g_314_81
  have g_315_82 := (hfr_g F_315 82 rfl).trans g_314_82
  refine ik_Wk 0 (pc_q := 9) (loc_q := [some (.ref 66), some (fI e)]) (st_q := [fI (mr_w (mf_cm (fun x => mx_w cn go ch s x) (pl - 1) ka pa) fa (mf_cm (fun x => mx_w cn go ch s x) (pl - 1) kb pb) fb 0)]) (h_q := h_315) (cl_q := 0) (sl_q := 0) rfl ?_
  refine ik_Wk 2 (pc_q := 11) (loc_q := [some (.ref 66), some (fI e)]) (st_q := [fI 1, .ref 66, fI (mr_w (mf_cm (fun x => mx_w cn go ch s x) (pl - 1) ka pa) fa (mf_cm (fun x => mx_w cn go ch s x) (pl - 1) kb pb) fb 0)]) (h_q := h_315) (cl_q := 0) (sl_q := 0) rfl ?_
  refine fw_call 168 2 0 [.ref 66, fI 1] [fI (mr_w (mf_cm (fun x => mx_w cn go ch s x) (pl - 1) ka pa) fa (mf_cm (fun x => mx_w cn go ch s x) (pl - 1) kb pb) fb 0)] rfl rfl rfl (Nat.le_of_ble_eq_true rfl) rfl rfl (fw_rec k_315 rfl g_315_66 rfl (Nat.le_of_ble_eq_true rfl)) (cr_laterBy (f := fun j => ((pl :: 0 :: 0 :: 0 :: (((s : Nat) : Int)) :: 0 :: 0 :: ((f 7)) :: ((f 8)) :: 0 :: ((f 10)) :: ((f 11)) :: ((f 12)) :: ((f 13)) :: ((f 14)) :: ((f 15)) :: ((f 16)) :: ((f 17)) :: 0 :: 0 :: 0 :: 0 :: 0 :: 0 :: w'_314 :: 0 :: 0 :: 0 :: 0 :: 0 :: 0 :: 0 :: ((f 32)) :: ((f 33)) :: 0 :: 0 :: ((f 36)) :: 0 :: 0 :: 0 :: 0 :: 0 :: 0 :: []) : List Int).getD j 0) (wh := 1) (ka := ka) (pa := pa) (fa := fa) (kb := kb) (pb := pb) (fb := fb) (r1 := r1'_314) (r2 := r2'_314) (c0 := (mf_cm (fun x => mx_w cn go ch s x) (pl - 1) ka pa)) (c1 := (mf_cm (fun x => mx_w cn go ch s x) (pl - 1) kb pb)) (by omega) (by omega) (by omega) p_314_0 p_314_1 k0 k1 g_315_66 g_315_70 g_315_81 m_314_81 g_315_82 m_314_82 k_315) ?_
  rintro _ h_316 ⟨rfl, F_316⟩
  have k_316 : cL h_316 := F_316.1.trans k_315
  have fr_316 := hfr_cb fr_315 F_316 rfl
  have g_316_66 := (hfr_g F_316 66 rfl).trans g_315_66
  have g_316_67 := (hfr_g F_316 67 rfl).trans g_315_67
  have g_316_68 := (hfr_g F_316 68 rfl).trans g_315_68
  have g_316_69 := (hfr_g F_316 69 rfl).trans g_315_69
  have g_316_77 := (hfr_g F_316 77 rfl).trans g_315_77
  have g_316_78 := (hfr_g F_316 78 rfl).trans g_315_78
  have g_316_79 := (hfr_g F_316 79 rfl).trans g_315_79
  have g_316_80 := (hfr_g F_316 80 rfl).trans g_315_80
  have g_316_70 := (hfr_g F_316 70 rfl).trans g_315_70
  have g_316_81 := (hfr_g F_316 81 rfl).trans g_315_81
  have g_316_82 := (hfr_g F_316 82 rfl).trans g_315_82
  refine ik_Wk 0 (pc_q := 14) (loc_q := [some (.ref 66), some (fI e)]) (st_q := [fI (mr_w (mf_cm (fun x => mx_w cn go ch s x) (pl - 1) ka pa) fa (mf_cm (fun x => mx_w cn go ch s x) (pl - 1) kb pb) fb 1), fI (mr_w (mf_cm (fun x => mx_w cn go ch s x) (pl - 1) ka pa) fa (mf_cm (fun x => mx_w cn go ch s x) (pl - 1) kb pb) fb 0)]) (h_q := h_316) (cl_q := 0) (sl_q := 0) rfl ?_
  refine fw_sub rfl ?_
  refine fw_i2l rfl (by omega) (by omega) ?_
  refine ik_Wc 163 1 3 [fJ ((mr_w (mf_cm (fun x => mx_w cn go ch s x) (pl - 1) ka pa) fa (mf_cm (fun x => mx_w cn go ch s x) (pl - 1) kb pb) fb 0) - (mr_w (mf_cm (fun x => mx_w cn go ch s x) (pl - 1) ka pa) fa (mf_cm (fun x => mx_w cn go ch s x) (pl - 1) kb pb) fb 1))] [] rfl rfl rfl (by decide +kernel) rfl rfl (fw_sta k_316 rfl (by decide +kernel)) ?_
  refine ik_Wk 0 (pc_q := 0) (loc_q := [some (fJ ((mr_w (mf_cm (fun x => mx_w cn go ch s x) (pl - 1) ka pa) fa (mf_cm (fun x => mx_w cn go ch s x) (pl - 1) kb pb) fb 0) - (mr_w (mf_cm (fun x => mx_w cn go ch s x) (pl - 1) ka pa) fa (mf_cm (fun x => mx_w cn go ch s x) (pl - 1) kb pb) fb 1))), none]) (st_q := []) (h_q := h_316) (cl_q := 0) (sl_q := 0) rfl ?_
  refine ik_Wk 1 (pc_q := 1) (loc_q := [some (fJ ((mr_w (mf_cm (fun x => mx_w cn go ch s x) (pl - 1) ka pa) fa (mf_cm (fun x => mx_w cn go ch s x) (pl - 1) kb pb) fb 0) - (mr_w (mf_cm (fun x => mx_w cn go ch s x) (pl - 1) ka pa) fa (mf_cm (fun x => mx_w cn go ch s x) (pl - 1) kb pb) fb 1))), none]) (st_q := [fJ ((mr_w (mf_cm (fun x => mx_w cn go ch s x) (pl - 1) ka pa) fa (mf_cm (fun x => mx_w cn go ch s x) (pl - 1) kb pb) fb 0) - (mr_w (mf_cm (fun x => mx_w cn go ch s x) (pl - 1) ka pa) fa (mf_cm (fun x => mx_w cn go ch s x) (pl - 1) kb pb) fb 1))]) (h_q := h_316) (cl_q := 0) (sl_q := 0) rfl ?_
  refine fw_lc (z := 0) rfl (by decide +kernel) ?_
  refine fw_lcmp_ge rfl rfl rfl (by omega) (by omega) (by omega) (by omega) (fun hc1 => ?_) (fun hc1 => ?_)
  · refine ik_Wk 1 (pc_q := 12) (loc_q := [some (fJ ((mr_w (mf_cm (fun x => mx_w cn go ch s x) (pl - 1) ka pa) fa (mf_cm (fun x => mx_w cn go ch s x) (pl - 1) kb pb) fb 0) - (mr_w (mf_cm (fun x => mx_w cn go ch s x) (pl - 1) ka pa) fa (mf_cm (fun x => mx_w cn go ch s x) (pl - 1) kb pb) fb 1))), none]) (st_q := [fJ ((mr_w (mf_cm (fun x => mx_w cn go ch s x) (pl - 1) ka pa) fa (mf_cm (fun x => mx_w cn go ch s x) (pl - 1) kb pb) fb 0) - (mr_w (mf_cm (fun x => mx_w cn go ch s x) (pl - 1) ka pa) fa (mf_cm (fun x => mx_w cn go ch s x) (pl - 1) kb pb) fb 1))]) (h_q := h_316) (cl_q := 0) (sl_q := 0) rfl ?_
    refine ik_Wret rfl rfl ⟨_, _, rfl, rfl, ?_⟩
    refine ik_Wk 0 (pc_q := 19) (loc_q := [some (.ref 66), some (fI e)]) (st_q := [fJ ((mr_w (mf_cm (fun x => mx_w cn go ch s x) (pl - 1) ka pa) fa (mf_cm (fun x => mx_w cn go ch s x) (pl - 1) kb pb) fb 0) - (mr_w (mf_cm (fun x => mx_w cn go ch s x) (pl - 1) ka pa) fa (mf_cm (fun x => mx_w cn go ch s x) (pl - 1) kb pb) fb 1))]) (h_q := h_316) (cl_q := 0) (sl_q := 0) rfl ?_
    refine ik_Wk 1 (pc_q := 20) (loc_q := [some (.ref 66), some (fI e)]) (st_q := [fI e, fJ ((mr_w (mf_cm (fun x => mx_w cn go ch s x) (pl - 1) ka pa) fa (mf_cm (fun x => mx_w cn go ch s x) (pl - 1) kb pb) fb 0) - (mr_w (mf_cm (fun x => mx_w cn go ch s x) (pl - 1) ka pa) fa (mf_cm (fun x => mx_w cn go ch s x) (pl - 1) kb pb) fb 1))]) (h_q := h_316) (cl_q := 0) (sl_q := 0) rfl ?_
    refine fw_i2l rfl (by omega) (by omega) ?_
    refine fw_lcmp_gt rfl rfl rfl (by omega) (by omega) (by omega) (by omega) (fun hc2 => ?_) (fun hc2 => ?_)
    · refine ik_Wk 1 (pc_q := 30) (loc_q := [some (.ref 66), some (fI e)]) (st_q := [fI 0]) (h_q := h_316) (cl_q := 0) (sl_q := 0) rfl ?_
      exact ik_Wret rfl rfl ⟨_, _, rfl, rfl, rfl, rfl, Or.inr ⟨w'_314, gt'_314, gd'_314, xs'_314, ys'_314, r1'_314, r2'_314, rfl, g_316_66, g_316_77, m_314_77, g_316_78, m_314_78, g_316_79, m_314_79, g_316_80, m_314_80, g_316_81, m_314_81, g_316_82, m_314_82, (by rw [hg]; unfold mk_ab; split <;> omega), fr_316⟩⟩
    · refine ik_Wk 2 (pc_q := 30) (loc_q := [some (.ref 66), some (fI e)]) (st_q := [fI 1]) (h_q := h_316) (cl_q := 0) (sl_q := 0) rfl ?_
      exact ik_Wret rfl rfl ⟨_, _, rfl, rfl, rfl, rfl, Or.inl ⟨w'_314, gt'_314, gd'_314, xs'_314, ys'_314, r1'_314, r2'_314, rfl, g_316_66, g_316_77, m_314_77, g_316_78, m_314_78, g_316_79, m_314_79, g_316_80, m_314_80, g_316_81, m_314_81, g_316_82, m_314_82, (by rw [hg]; unfold mk_ab; split <;> omega), fr_316⟩⟩
  · refine ik_Wk 1 (pc_q := 7) (loc_q := [some (fJ ((mr_w (mf_cm (fun x => mx_w cn go ch s x) (pl - 1) ka pa) fa (mf_cm (fun x => mx_w cn go ch s x) (pl - 1) kb pb) fb 0) - (mr_w (mf_cm (fun x => mx_w cn go ch s x) (pl - 1) ka pa) fa (mf_cm (fun x => mx_w cn go ch s x) (pl - 1) kb pb) fb 1))), none]) (st_q := [fJ ((mr_w (mf_cm (fun x => mx_w cn go ch s x) (pl - 1) ka pa) fa (mf_cm (fun x => mx_w cn go ch s x) (pl - 1) kb pb) fb 0) - (mr_w (mf_cm (fun x => mx_w cn go ch s x) (pl - 1) ka pa) fa (mf_cm (fun x => mx_w cn go ch s x) (pl - 1) kb pb) fb 1))]) (h_q := h_316) (cl_q := 0) (sl_q := 0) rfl ?_
    refine fx_lneg rfl ?_
    refine ik_Wk 1 (pc_q := 12) (loc_q := [some (fJ ((mr_w (mf_cm (fun x => mx_w cn go ch s x) (pl - 1) ka pa) fa (mf_cm (fun x => mx_w cn go ch s x) (pl - 1) kb pb) fb 0) - (mr_w (mf_cm (fun x => mx_w cn go ch s x) (pl - 1) ka pa) fa (mf_cm (fun x => mx_w cn go ch s x) (pl - 1) kb pb) fb 1))), none]) (st_q := [fJ (-((mr_w (mf_cm (fun x => mx_w cn go ch s x) (pl - 1) ka pa) fa (mf_cm (fun x => mx_w cn go ch s x) (pl - 1) kb pb) fb 0) - (mr_w (mf_cm (fun x => mx_w cn go ch s x) (pl - 1) ka pa) fa (mf_cm (fun x => mx_w cn go ch s x) (pl - 1) kb pb) fb 1)))]) (h_q := h_316) (cl_q := 0) (sl_q := 0) rfl ?_
    refine ik_Wret rfl rfl ⟨_, _, rfl, rfl, ?_⟩
    refine ik_Wk 0 (pc_q := 19) (loc_q := [some (.ref 66), some (fI e)]) (st_q := [fJ (-((mr_w (mf_cm (fun x => mx_w cn go ch s x) (pl - 1) ka pa) fa (mf_cm (fun x => mx_w cn go ch s x) (pl - 1) kb pb) fb 0) - (mr_w (mf_cm (fun x => mx_w cn go ch s x) (pl - 1) ka pa) fa (mf_cm (fun x => mx_w cn go ch s x) (pl - 1) kb pb) fb 1)))]) (h_q := h_316) (cl_q := 0) (sl_q := 0) rfl ?_
    refine ik_Wk 1 (pc_q := 20) (loc_q := [some (.ref 66), some (fI e)]) (st_q := [fI e, fJ (-((mr_w (mf_cm (fun x => mx_w cn go ch s x) (pl - 1) ka pa) fa (mf_cm (fun x => mx_w cn go ch s x) (pl - 1) kb pb) fb 0) - (mr_w (mf_cm (fun x => mx_w cn go ch s x) (pl - 1) ka pa) fa (mf_cm (fun x => mx_w cn go ch s x) (pl - 1) kb pb) fb 1)))]) (h_q := h_316) (cl_q := 0) (sl_q := 0) rfl ?_
    refine fw_i2l rfl (by omega) (by omega) ?_
    refine fw_lcmp_gt rfl rfl rfl (by omega) (by omega) (by omega) (by omega) (fun hc3 => ?_) (fun hc3 => ?_)
    · refine ik_Wk 1 (pc_q := 30) (loc_q := [some (.ref 66), some (fI e)]) (st_q := [fI 0]) (h_q := h_316) (cl_q := 0) (sl_q := 0) rfl ?_
      exact ik_Wret rfl rfl ⟨_, _, rfl, rfl, rfl, rfl, Or.inr ⟨w'_314, gt'_314, gd'_314, xs'_314, ys'_314, r1'_314, r2'_314, rfl, g_316_66, g_316_77, m_314_77, g_316_78, m_314_78, g_316_79, m_314_79, g_316_80, m_314_80, g_316_81, m_314_81, g_316_82, m_314_82, (by rw [hg]; unfold mk_ab; split <;> omega), fr_316⟩⟩
    · refine ik_Wk 2 (pc_q := 30) (loc_q := [some (.ref 66), some (fI e)]) (st_q := [fI 1]) (h_q := h_316) (cl_q := 0) (sl_q := 0) rfl ?_
      exact ik_Wret rfl rfl ⟨_, _, rfl, rfl, rfl, rfl, Or.inl ⟨w'_314, gt'_314, gd'_314, xs'_314, ys'_314, r1'_314, r2'_314, rfl, g_316_66, g_316_77, m_314_77, g_316_78, m_314_78, g_316_79, m_314_79, g_316_80, m_314_80, g_316_81, m_314_81, g_316_82, m_314_82, (by rw [hg]; unfold mk_ab; split <;> omega), fr_316⟩⟩

theorem cr_fairK {h : List ik_E} {pl : Int} {f : Nat → Int} {s : Nat} {cn : List Int} {go : List Int} {ch : List Int} {gt : List Int} {gd : List Int} {xs : List Int} {ys : List Int} {ka : Int} {pa : Int} {fa : Int} {kb : Int} {pb : Int} {fb : Int} {r1 : List Int} {r2 : List Int} {e : Int} (q0 : 0 ≤ pl ∧ pl ≤ 12) (q1 : s < 4096) (q2 : mx_rw pl cn go ch) (q3 : 0 ≤ ka ∧ ka ≤ 2) (q4 : 0 ≤ kb ∧ kb ≤ 2) (q5 : 0 ≤ pa ∧ pa < pl - 1) (q6 : 0 ≤ pb ∧ pb < pl - 1) (q7 : 0 ≤ fa ∧ fa ≤ 30) (q8 : 0 ≤ fb ∧ fb ≤ 30) (q9 : 0 ≤ e ∧ e ≤ 1000000) (n : Int) (hn : 1 ≤ n ∧ n ≤ 20) (p : Int) (hp : 0 ≤ p ∧ p < pl - 1) (z : Int)  (K : ∀ (w : List ik_E) (i2 : Int) (w1 : Int) (g1 : List Int) (d1 : List Int) (x1 : List Int) (y1 : List Int) (s1 : List Int) (s2 : List Int) (x5 : Option Value) (x6 : Option Value) (x7 : Option Value) (w66 : cE w 66 (.inr (10, (fI pl :: .ref 67 :: .ref 68 :: .ref 69 :: fI ((s : Nat) : Int) :: .ref 70 :: .ref 71 :: fI (f 7) :: fI (f 8) :: .ref 72 :: fI (f 10) :: fI (f 11) :: fI (f 12) :: fJ (f 13) :: fI (f 14) :: fI (f 15) :: fI (f 16) :: fI (f 17) :: .ref 73 :: .ref 74 :: .ref 75 :: .ref 76 :: .ref 77 :: .ref 78 :: fI w1 :: .ref 79 :: .ref 80 :: .ref 81 :: .ref 82 :: .ref 83 :: .ref 84 :: .ref 85 :: fJ (f 32) :: fJ (f 33) :: .ref 86 :: .ref 87 :: fI (f 36) :: .ref 88 :: .ref 89 :: .ref 90 :: .ref 91 :: .ref 92 :: .ref 93 :: [])))) (w67 : cE w 67 (.inl (.int, fA cn))) (nw_67 : cn.length = (12 : Nat)) (w68 : cE w 68 (.inl (.int, fA go))) (nw_68 : go.length = (48 : Nat)) (w69 : cE w 69 (.inl (.int, fA ch))) (nw_69 : ch.length = (48 : Nat)) (w77 : cE w 77 (.inl (.int, fA g1))) (nw_77 : g1.length = (5 : Nat)) (w78 : cE w 78 (.inl (.int, fA d1))) (nw_78 : d1.length = (5 : Nat)) (w79 : cE w 79 (.inl (.long, fL x1))) (nw_79 : x1.length = (12 : Nat)) (w80 : cE w 80 (.inl (.long, fL y1))) (nw_80 : y1.length = (12 : Nat)) (w70 : cE w 70 (.inl (.int, fA [ka, pa, fa, kb, pb, fb]))) (w81 : cE w 81 (.inl (.long, fL s1))) (nw_81 : s1.length = (201 : Nat)) (w82 : cE w 82 (.inl (.long, fL s2))) (nw_82 : s2.length = (201 : Nat)) (wl : w.length = (94 : Nat)) (F : hfr [66, 77, 78, 79, 80, 81, 82, 69] h w) (he : (mk_fz cn go ch s pl ka pa fa kb pb fb e) = z) (v5 : ik_wl 94 x5 = true) (v6 : ik_wl 94 x6 = true) (v7 : ik_wl 94 x7 = true), ik_G 191 193 [some (.ref 66), some (fI e), some (fI n), some (fI p), some (fI i2), x5, x6, x7] [] w (fun rv h_q => ∃ (w' : Int) (gt' : List Int) (gd' : List Int) (xs' : List Int) (ys' : List Int) (r1' : List Int) (r2' : List Int), rv = [fI (mk_fz cn go ch s pl ka pa fa kb pb fb e)] ∧ cE h_q 66 (.inr (10, (fI pl :: .ref 67 :: .ref 68 :: .ref 69 :: fI ((s : Nat) : Int) :: .ref 70 :: .ref 71 :: fI (f 7) :: fI (f 8) :: .ref 72 :: fI (f 10) :: fI (f 11) :: fI (f 12) :: fJ (f 13) :: fI (f 14) :: fI (f 15) :: fI (f 16) :: fI (f 17) :: .ref 73 :: .ref 74 :: .ref 75 :: .ref 76 :: .ref 77 :: .ref 78 :: fI w' :: .ref 79 :: .ref 80 :: .ref 81 :: .ref 82 :: .ref 83 :: .ref 84 :: .ref 85 :: fJ (f 32) :: fJ (f 33) :: .ref 86 :: .ref 87 :: fI (f 36) :: .ref 88 :: .ref 89 :: .ref 90 :: .ref 91 :: .ref 92 :: .ref 93 :: []))) ∧ cE h_q 77 (.inl (.int, fA gt')) ∧ gt'.length = (5 : Nat) ∧ cE h_q 78 (.inl (.int, fA gd')) ∧ gd'.length = (5 : Nat) ∧ cE h_q 79 (.inl (.long, fL xs')) ∧ xs'.length = (12 : Nat) ∧ cE h_q 80 (.inl (.long, fL ys')) ∧ ys'.length = (12 : Nat) ∧ cE h_q 81 (.inl (.long, fL r1')) ∧ r1'.length = (201 : Nat) ∧ cE h_q 82 (.inl (.long, fL r2')) ∧ r2'.length = (201 : Nat) ∧ cE h_q 69 (.inl (.int, fA ch)) ∧ ch.length = (48 : Nat) ∧ hfr [66, 77, 78, 79, 80, 81, 82, 69] h h_q)) : ∀ (k : Nat) (i : Int) (w1 : Int) (g1 : List Int) (d1 : List Int) (x1 : List Int) (y1 : List Int) (s1 : List Int) (s2 : List Int) (x5 : Option Value) (x6 : Option Value) (x7 : Option Value) (u : List ik_E) (u66 : cE u 66 (.inr (10, (fI pl :: .ref 67 :: .ref 68 :: .ref 69 :: fI ((s : Nat) : Int) :: .ref 70 :: .ref 71 :: fI (f 7) :: fI (f 8) :: .ref 72 :: fI (f 10) :: fI (f 11) :: fI (f 12) :: fJ (f 13) :: fI (f 14) :: fI (f 15) :: fI (f 16) :: fI (f 17) :: .ref 73 :: .ref 74 :: .ref 75 :: .ref 76 :: .ref 77 :: .ref 78 :: fI w1 :: .ref 79 :: .ref 80 :: .ref 81 :: .ref 82 :: .ref 83 :: .ref 84 :: .ref 85 :: fJ (f 32) :: fJ (f 33) :: .ref 86 :: .ref 87 :: fI (f 36) :: .ref 88 :: .ref 89 :: .ref 90 :: .ref 91 :: .ref 92 :: .ref 93 :: [])))) (u67 : cE u 67 (.inl (.int, fA cn))) (n67 : cn.length = (12 : Nat)) (u68 : cE u 68 (.inl (.int, fA go))) (n68 : go.length = (48 : Nat)) (u69 : cE u 69 (.inl (.int, fA ch))) (n69 : ch.length = (48 : Nat)) (u77 : cE u 77 (.inl (.int, fA g1))) (n77 : g1.length = (5 : Nat)) (u78 : cE u 78 (.inl (.int, fA d1))) (n78 : d1.length = (5 : Nat)) (u79 : cE u 79 (.inl (.long, fL x1))) (n79 : x1.length = (12 : Nat)) (u80 : cE u 80 (.inl (.long, fL y1))) (n80 : y1.length = (12 : Nat)) (u70 : cE u 70 (.inl (.int, fA [ka, pa, fa, kb, pb, fb]))) (u81 : cE u 81 (.inl (.long, fL s1))) (n81 : s1.length = (201 : Nat)) (u82 : cE u 82 (.inl (.long, fL s2))) (n82 : s2.length = (201 : Nat)) (ul : u.length = (94 : Nat)) (F : hfr [66, 77, 78, 79, 80, 81, 82, 69] h u) (hi : (0 : Int) ≤ i ∧ i ≤ cn.getD p.toNat 0 * cn.getD p.toNat 0) (he : (mk_fz cn go ch s pl ka pa fa kb pb fb e) = if i < cn.getD p.toNat 0 * cn.getD p.toNat 0 then mk_c1 (mk_gg cn go ch s pl ka pa fa kb pb fb e) n p ((16 : Int) - mk_ix (cn.getD p.toNat 0) i).toNat (mk_ix (cn.getD p.toNat 0) i) z else z) (v5 : ik_wl 94 x5 = true) (v6 : ik_wl 94 x6 = true) (v7 : ik_wl 94 x7 = true) (hk : cn.getD p.toNat 0 * cn.getD p.toNat 0 - i < (k : Int)), ik_G 191 33 [some (.ref 66), some (fI e), some (fI n), some (fI p), some (fI i), x5, x6, x7] [] u (fun rv h_q => ∃ (w' : Int) (gt' : List Int) (gd' : List Int) (xs' : List Int) (ys' : List Int) (r1' : List Int) (r2' : List Int), rv = [fI (mk_fz cn go ch s pl ka pa fa kb pb fb e)] ∧ cE h_q 66 (.inr (10, (fI pl :: .ref 67 :: .ref 68 :: .ref 69 :: fI ((s : Nat) : Int) :: .ref 70 :: .ref 71 :: fI (f 7) :: fI (f 8) :: .ref 72 :: fI (f 10) :: fI (f 11) :: fI (f 12) :: fJ (f 13) :: fI (f 14) :: fI (f 15) :: fI (f 16) :: fI (f 17) :: .ref 73 :: .ref 74 :: .ref 75 :: .ref 76 :: .ref 77 :: .ref 78 :: fI w' :: .ref 79 :: .ref 80 :: .ref 81 :: .ref 82 :: .ref 83 :: .ref 84 :: .ref 85 :: fJ (f 32) :: fJ (f 33) :: .ref 86 :: .ref 87 :: fI (f 36) :: .ref 88 :: .ref 89 :: .ref 90 :: .ref 91 :: .ref 92 :: .ref 93 :: []))) ∧ cE h_q 77 (.inl (.int, fA gt')) ∧ gt'.length = (5 : Nat) ∧ cE h_q 78 (.inl (.int, fA gd')) ∧ gd'.length = (5 : Nat) ∧ cE h_q 79 (.inl (.long, fL xs')) ∧ xs'.length = (12 : Nat) ∧ cE h_q 80 (.inl (.long, fL ys')) ∧ ys'.length = (12 : Nat) ∧ cE h_q 81 (.inl (.long, fL r1')) ∧ r1'.length = (201 : Nat) ∧ cE h_q 82 (.inl (.long, fL r2')) ∧ r2'.length = (201 : Nat) ∧ cE h_q 69 (.inl (.int, fA ch)) ∧ ch.length = (48 : Nat) ∧ hfr [66, 77, 78, 79, 80, 81, 82, 69] h h_q) := by
  intro k
  induction k with
  | zero => intro i w1 g1 d1 x1 y1 s1 s2 x5 x6 x7 u u66 u67 n67 u68 n68 u69 n69 u77 n77 u78 n78 u79 n79 u80 n80 u70 u81 n81 u82 n82 ul F hi he v5 v6 v7 hk; clear he; omega
  | succ k ih =>
    intro i w1 g1 d1 x1 y1 s1 s2 x5 x6 x7 u u66 u67 n67 u68 n68 u69 n69 u77 n77 u78 n78 u79 n79 u80 n80 u70 u81 n81 u82 n82 ul F hi he v5 v6 v7 hk
    have hq := ik_hid_i he
    clear he
    have he := hq
    clear hq
    have hr := (q2 p hp.1 hp.2).1
    have hr2 := (q2 p hp.1 hp.2).2.1
    have hcc : 1 ≤ cn.getD p.toNat 0 * cn.getD p.toNat 0 ∧ cn.getD p.toNat 0 * cn.getD p.toNat 0 ≤ 16 := by
      obtain r_ | r_ | r_ | r_ : cn.getD p.toNat 0 = 1 ∨ cn.getD p.toNat 0 = 2 ∨ cn.getD p.toNat 0 = 3 ∨ cn.getD p.toNat 0 = 4 := by omega
      all_goals (rw [r_]; decide)
    have hgf : ∀ k : Int, 0 ≤ k → k < 16 → (cn.getD p.toNat 0 ≤ k / 4 ∨ cn.getD p.toNat 0 ≤ k % 4) → (mk_gg cn go ch s pl ka pa fa kb pb fb e) n p k = false := fun k _ _ w => decide_eq_false (by omega)
    refine ik_Wk 2 (pc_q := 36) (loc_q := [some (.ref 66), some (fI e), some (fI n), some (fI p), some (fI i), x5, x6, x7]) (st_q := [.ref 66, fI i]) (h_q := u) (cl_q := 0) (sl_q := 0) rfl ?_
    refine fw_gf rfl rfl u66 rfl ?_
    refine ik_Wk 1 (pc_q := 40) (loc_q := [some (.ref 66), some (fI e), some (fI n), some (fI p), some (fI i), x5, x6, x7]) (st_q := [fI p, .ref 67, fI i]) (h_q := u) (cl_q := 0) (sl_q := 0) rfl ?_
    refine fw_ial rfl u67 (by omega) (by omega) (by omega) ?_
    refine ik_Wk 1 (pc_q := 42) (loc_q := [some (.ref 66), some (fI e), some (fI n), some (fI p), some (fI i), x5, x6, x7]) (st_q := [.ref 66, fI (cn.getD p.toNat 0), fI i]) (h_q := u) (cl_q := 0) (sl_q := 0) rfl ?_
    refine fw_gf rfl rfl u66 rfl ?_
    refine ik_Wk 1 (pc_q := 46) (loc_q := [some (.ref 66), some (fI e), some (fI n), some (fI p), some (fI i), x5, x6, x7]) (st_q := [fI p, .ref 67, fI (cn.getD p.toNat 0), fI i]) (h_q := u) (cl_q := 0) (sl_q := 0) rfl ?_
    refine fw_ial rfl u67 (by omega) (by omega) (by omega) ?_
    refine fw_mul rfl ?_
    refine fw_ic_ge rfl rfl (by omega) (by omega) (by omega) (by omega) (fun hc1 => ?_) (fun hc1 => ?_)
    · rw [if_neg (show ¬ i < cn.getD p.toNat 0 * cn.getD p.toNat 0 by omega)] at he
      exact K u i w1 g1 d1 x1 y1 s1 s2 x5 x6 x7 u66 u67 n67 u68 n68 u69 n69 u77 n77 u78 n78 u79 n79 u80 n80 u70 u81 n81 u82 n82 ul F he v5 v6 v7
    · refine ik_Wk 2 (pc_q := 54) (loc_q := [some (.ref 66), some (fI e), some (fI n), some (fI p), some (fI i), x5, x6, x7]) (st_q := [.ref 66, fI i]) (h_q := u) (cl_q := 0) (sl_q := 0) rfl ?_
      refine fw_gf rfl rfl u66 rfl ?_
      refine ik_Wk 1 (pc_q := 58) (loc_q := [some (.ref 66), some (fI e), some (fI n), some (fI p), some (fI i), x5, x6, x7]) (st_q := [fI p, .ref 67, fI i]) (h_q := u) (cl_q := 0) (sl_q := 0) rfl ?_
      refine fw_ial rfl u67 (by omega) (by omega) (by omega) ?_
      have hib := mk_ix_b hr (show 0 ≤ i by omega) (show i < cn.getD p.toNat 0 * cn.getD p.toNat 0 by omega)
      refine fx_idiv rfl (by omega) (by omega) (by omega) (by omega) ?_
      refine ik_Wk 3 (pc_q := 65) (loc_q := [some (.ref 66), some (fI e), some (fI n), some (fI p), some (fI i), some (fI (i / (cn.getD p.toNat 0))), x6, x7]) (st_q := [.ref 66, fI i]) (h_q := u) (cl_q := 0) (sl_q := 0) rfl ?_
      refine fw_gf rfl rfl u66 rfl ?_
      refine ik_Wk 1 (pc_q := 69) (loc_q := [some (.ref 66), some (fI e), some (fI n), some (fI p), some (fI i), some (fI (i / (cn.getD p.toNat 0))), x6, x7]) (st_q := [fI p, .ref 67, fI i]) (h_q := u) (cl_q := 0) (sl_q := 0) rfl ?_
      refine fw_ial rfl u67 (by omega) (by omega) (by omega) ?_
      refine fx_irem rfl (by omega) (by omega) (by omega) (by omega) ?_
      refine ik_Wk 3 (pc_q := 77) (loc_q := [some (.ref 66), some (fI e), some (fI n), some (fI p), some (fI i), some (fI (i / (cn.getD p.toNat 0))), some (fI (i % (cn.getD p.toNat 0))), x7]) (st_q := [fI (i % (cn.getD p.toNat 0)), fI (i / (cn.getD p.toNat 0))]) (h_q := u) (cl_q := 0) (sl_q := 0) rfl ?_
      refine fw_ic_eq rfl rfl (by omega) (by omega) (by omega) (by omega) (fun hc2 => ?_) (fun hc2 => ?_)
      · refine fw_inc (a := i) (loc_q := [some (.ref 66), some (fI e), some (fI n), some (fI p), some (fI (i + 1)), some (fI (i / (cn.getD p.toNat 0))), some (fI (i % (cn.getD p.toNat 0))), x7]) rfl rfl (Nat.le_of_ble_eq_true rfl) rfl ?_
        refine ik_Wk 1 (pc_q := 33) (loc_q := [some (.ref 66), some (fI e), some (fI n), some (fI p), some (fI (i + 1)), some (fI (i / (cn.getD p.toNat 0))), some (fI (i % (cn.getD p.toNat 0))), x7]) (st_q := []) (h_q := u) (cl_q := 0) (sl_q := 0) rfl ?_
        have hG : (mk_gg cn go ch s pl ka pa fa kb pb fb e) n p (mk_ix (cn.getD p.toNat 0) i) = false := decide_eq_false (by rw [hib.2.2.1, hib.2.2.2]; omega)
        rw [if_pos (show i < cn.getD p.toNat 0 * cn.getD p.toNat 0 by omega), mk_ix_s hr (by omega) (by omega) hgf hG] at he
        exact ih (i + 1) w1 g1 d1 x1 y1 s1 s2 (some (fI (i / (cn.getD p.toNat 0)))) (some (fI (i % (cn.getD p.toNat 0)))) x7 u u66 u67 n67 u68 n68 u69 n69 u77 n77 u78 n78 u79 n79 u80 n80 u70 u81 n81 u82 n82 ul F (by omega) he rfl rfl v7 (by omega)
      · refine ik_Wk 1 (pc_q := 81) (loc_q := [some (.ref 66), some (fI e), some (fI n), some (fI p), some (fI i), some (fI (i / (cn.getD p.toNat 0))), some (fI (i % (cn.getD p.toNat 0))), x7]) (st_q := [.ref 66]) (h_q := u) (cl_q := 0) (sl_q := 0) rfl ?_
        refine fw_gf rfl rfl u66 rfl ?_
        refine ik_Wk 2 (pc_q := 86) (loc_q := [some (.ref 66), some (fI e), some (fI n), some (fI p), some (fI i), some (fI (i / (cn.getD p.toNat 0))), some (fI (i % (cn.getD p.toNat 0))), x7]) (st_q := [fI p, fI 4, .ref 69]) (h_q := u) (cl_q := 0) (sl_q := 0) rfl ?_
        refine fw_mul rfl ?_
        refine ik_Wk 1 (pc_q := 89) (loc_q := [some (.ref 66), some (fI e), some (fI n), some (fI p), some (fI i), some (fI (i / (cn.getD p.toNat 0))), some (fI (i % (cn.getD p.toNat 0))), x7]) (st_q := [fI (i / (cn.getD p.toNat 0)), fI (4 * p), .ref 69]) (h_q := u) (cl_q := 0) (sl_q := 0) rfl ?_
        refine fw_add rfl ?_
        refine fw_ial rfl u69 (by omega) (by omega) (by omega) ?_
        have hd3 := hr2 (i / (cn.getD p.toNat 0)) (by omega) (by omega)
        refine ik_Wk 1 (pc_q := 92) (loc_q := [some (.ref 66), some (fI e), some (fI n), some (fI p), some (fI i), some (fI (i / (cn.getD p.toNat 0))), some (fI (i % (cn.getD p.toNat 0))), x7]) (st_q := [fI n, fI (ch.getD ((4 * p) + (i / (cn.getD p.toNat 0))).toNat 0)]) (h_q := u) (cl_q := 0) (sl_q := 0) rfl ?_
        refine fw_ic_le rfl rfl (by omega) (by omega) (by omega) (by omega) (fun hc4 => ?_) (fun hc4 => ?_)
        · refine fw_inc (a := i) (loc_q := [some (.ref 66), some (fI e), some (fI n), some (fI p), some (fI (i + 1)), some (fI (i / (cn.getD p.toNat 0))), some (fI (i % (cn.getD p.toNat 0))), x7]) rfl rfl (Nat.le_of_ble_eq_true rfl) rfl ?_
          refine ik_Wk 1 (pc_q := 33) (loc_q := [some (.ref 66), some (fI e), some (fI n), some (fI p), some (fI (i + 1)), some (fI (i / (cn.getD p.toNat 0))), some (fI (i % (cn.getD p.toNat 0))), x7]) (st_q := []) (h_q := u) (cl_q := 0) (sl_q := 0) rfl ?_
          have hG : (mk_gg cn go ch s pl ka pa fa kb pb fb e) n p (mk_ix (cn.getD p.toNat 0) i) = false := decide_eq_false (by rw [hib.2.2.1, hib.2.2.2]; omega)
          rw [if_pos (show i < cn.getD p.toNat 0 * cn.getD p.toNat 0 by omega), mk_ix_s hr (by omega) (by omega) hgf hG] at he
          exact ih (i + 1) w1 g1 d1 x1 y1 s1 s2 (some (fI (i / (cn.getD p.toNat 0)))) (some (fI (i % (cn.getD p.toNat 0)))) x7 u u66 u67 n67 u68 n68 u69 n69 u77 n77 u78 n78 u79 n79 u80 n80 u70 u81 n81 u82 n82 ul F (by omega) he rfl rfl v7 (by omega)
        · refine ik_Wk 1 (pc_q := 96) (loc_q := [some (.ref 66), some (fI e), some (fI n), some (fI p), some (fI i), some (fI (i / (cn.getD p.toNat 0))), some (fI (i % (cn.getD p.toNat 0))), x7]) (st_q := [.ref 66]) (h_q := u) (cl_q := 0) (sl_q := 0) rfl ?_
          refine fw_gf rfl rfl u66 rfl ?_
          refine ik_Wk 2 (pc_q := 101) (loc_q := [some (.ref 66), some (fI e), some (fI n), some (fI p), some (fI i), some (fI (i / (cn.getD p.toNat 0))), some (fI (i % (cn.getD p.toNat 0))), x7]) (st_q := [fI p, fI 4, .ref 69]) (h_q := u) (cl_q := 0) (sl_q := 0) rfl ?_
          refine fw_mul rfl ?_
          refine ik_Wk 1 (pc_q := 104) (loc_q := [some (.ref 66), some (fI e), some (fI n), some (fI p), some (fI i), some (fI (i / (cn.getD p.toNat 0))), some (fI (i % (cn.getD p.toNat 0))), x7]) (st_q := [fI (i / (cn.getD p.toNat 0)), fI (4 * p), .ref 69]) (h_q := u) (cl_q := 0) (sl_q := 0) rfl ?_
          refine fw_add rfl ?_
          refine ik_Wk 1 (pc_q := 106) (loc_q := [some (.ref 66), some (fI e), some (fI n), some (fI p), some (fI i), some (fI (i / (cn.getD p.toNat 0))), some (fI (i % (cn.getD p.toNat 0))), x7]) (st_q := [fI ((4 * p) + (i / (cn.getD p.toNat 0))), .ref 69, fI ((4 * p) + (i / (cn.getD p.toNat 0))), .ref 69]) (h_q := u) (cl_q := 0) (sl_q := 0) rfl ?_
          refine fw_ial rfl u69 (by omega) (by omega) (by omega) ?_
          have hd5 := hr2 (i / (cn.getD p.toNat 0)) (by omega) (by omega)
          refine ik_Wk 1 (pc_q := 108) (loc_q := [some (.ref 66), some (fI e), some (fI n), some (fI p), some (fI i), some (fI (i / (cn.getD p.toNat 0))), some (fI (i % (cn.getD p.toNat 0))), x7]) (st_q := [fI n, fI (ch.getD ((4 * p) + (i / (cn.getD p.toNat 0))).toNat 0), fI ((4 * p) + (i / (cn.getD p.toNat 0))), .ref 69]) (h_q := u) (cl_q := 0) (sl_q := 0) rfl ?_
          refine fw_sub rfl ?_
          have hl6 : (ch.set ((4 * p) + (i / (cn.getD p.toNat 0))).toNat ((ch.getD ((4 * p) + (i / (cn.getD p.toNat 0))).toNat 0) - n)).length = 48 := (List.length_set ..).trans n69
          refine fx_ias rfl u69 (by omega) (by omega) (by omega) ?_
          intro h_317 e_317 f_317 l_317
          have k_317 : cL h_317 := l_317.trans ul
          have fr_317 := hfr_wb F f_317 l_317 rfl
          clear l_317
          have g_317_66 := (f_317 66 (Nat.ne_of_beq_eq_false rfl)).trans u66
          have g_317_67 := (f_317 67 (Nat.ne_of_beq_eq_false rfl)).trans u67
          have g_317_68 := (f_317 68 (Nat.ne_of_beq_eq_false rfl)).trans u68
          have g_317_77 := (f_317 77 (Nat.ne_of_beq_eq_false rfl)).trans u77
          have g_317_78 := (f_317 78 (Nat.ne_of_beq_eq_false rfl)).trans u78
          have g_317_79 := (f_317 79 (Nat.ne_of_beq_eq_false rfl)).trans u79
          have g_317_80 := (f_317 80 (Nat.ne_of_beq_eq_false rfl)).trans u80
          have g_317_70 := (f_317 70 (Nat.ne_of_beq_eq_false rfl)).trans u70
          have g_317_81 := (f_317 81 (Nat.ne_of_beq_eq_false rfl)).trans u81
          have g_317_82 := (f_317 82 (Nat.ne_of_beq_eq_false rfl)).trans u82
          have g_317_69 : cE h_317 69 (.inl (.int, fA (ch.set ((4 * p) + (i / (cn.getD p.toNat 0))).toNat ((ch.getD ((4 * p) + (i / (cn.getD p.toNat 0))).toNat 0) - n)))) := e_317
          refine ik_Wk 1 (pc_q := 111) (loc_q := [some (.ref 66), some (fI e), some (fI n), some (fI p), some (fI i), some (fI (i / (cn.getD p.toNat 0))), some (fI (i % (cn.getD p.toNat 0))), x7]) (st_q := [.ref 66]) (h_q := h_317) (cl_q := 0) (sl_q := 0) rfl ?_
          refine fw_gf rfl rfl g_317_66 rfl ?_
          refine ik_Wk 2 (pc_q := 116) (loc_q := [some (.ref 66), some (fI e), some (fI n), some (fI p), some (fI i), some (fI (i / (cn.getD p.toNat 0))), some (fI (i % (cn.getD p.toNat 0))), x7]) (st_q := [fI p, fI 4, .ref 69]) (h_q := h_317) (cl_q := 0) (sl_q := 0) rfl ?_
          refine fw_mul rfl ?_
          refine ik_Wk 1 (pc_q := 119) (loc_q := [some (.ref 66), some (fI e), some (fI n), some (fI p), some (fI i), some (fI (i / (cn.getD p.toNat 0))), some (fI (i % (cn.getD p.toNat 0))), x7]) (st_q := [fI (i % (cn.getD p.toNat 0)), fI (4 * p), .ref 69]) (h_q := h_317) (cl_q := 0) (sl_q := 0) rfl ?_
          refine fw_add rfl ?_
          refine ik_Wk 1 (pc_q := 121) (loc_q := [some (.ref 66), some (fI e), some (fI n), some (fI p), some (fI i), some (fI (i / (cn.getD p.toNat 0))), some (fI (i % (cn.getD p.toNat 0))), x7]) (st_q := [fI ((4 * p) + (i % (cn.getD p.toNat 0))), .ref 69, fI ((4 * p) + (i % (cn.getD p.toNat 0))), .ref 69]) (h_q := h_317) (cl_q := 0) (sl_q := 0) rfl ?_
          refine fw_ial rfl g_317_69 (by omega) (by omega) (by omega) ?_
          rw [show (ch.set ((4 * p) + (i / (cn.getD p.toNat 0))).toNat ((ch.getD ((4 * p) + (i / (cn.getD p.toNat 0))).toNat 0) - n)).getD ((4 * p) + (i % (cn.getD p.toNat 0))).toNat 0 = ch.getD (4 * p + i % (cn.getD p.toNat 0)).toNat 0 from by rw [fz_getD_set, if_neg (by omega)]]
          refine ik_Wk 1 (pc_q := 123) (loc_q := [some (.ref 66), some (fI e), some (fI n), some (fI p), some (fI i), some (fI (i / (cn.getD p.toNat 0))), some (fI (i % (cn.getD p.toNat 0))), x7]) (st_q := [fI n, fI (ch.getD (4 * p + i % (cn.getD p.toNat 0)).toNat 0), fI ((4 * p) + (i % (cn.getD p.toNat 0))), .ref 69]) (h_q := h_317) (cl_q := 0) (sl_q := 0) rfl ?_
          refine fw_add rfl ?_
          have hl7 : ((ch.set ((4 * p) + (i / (cn.getD p.toNat 0))).toNat ((ch.getD ((4 * p) + (i / (cn.getD p.toNat 0))).toNat 0) - n)).set ((4 * p) + (i % (cn.getD p.toNat 0))).toNat ((ch.getD (4 * p + i % (cn.getD p.toNat 0)).toNat 0) + n)).length = 48 := (List.length_set ..).trans hl6
          refine fx_ias rfl g_317_69 (by omega) (by omega) (by omega) ?_
          intro h_318 e_318 f_318 l_318
          have k_318 : cL h_318 := l_318.trans k_317
          have fr_318 := hfr_wb fr_317 f_318 l_318 rfl
          clear l_318
          have g_318_66 := (f_318 66 (Nat.ne_of_beq_eq_false rfl)).trans g_317_66
          have g_318_67 := (f_318 67 (Nat.ne_of_beq_eq_false rfl)).trans g_317_67
          have g_318_68 := (f_318 68 (Nat.ne_of_beq_eq_false rfl)).trans g_317_68
          have g_318_77 := (f_318 77 (Nat.ne_of_beq_eq_false rfl)).trans g_317_77
          have g_318_78 := (f_318 78 (Nat.ne_of_beq_eq_false rfl)).trans g_317_78
          have g_318_79 := (f_318 79 (Nat.ne_of_beq_eq_false rfl)).trans g_317_79
          have g_318_80 := (f_318 80 (Nat.ne_of_beq_eq_false rfl)).trans g_317_80
          have g_318_70 := (f_318 70 (Nat.ne_of_beq_eq_false rfl)).trans g_317_70
          have g_318_81 := (f_318 81 (Nat.ne_of_beq_eq_false rfl)).trans g_317_81
          have g_318_82 := (f_318 82 (Nat.ne_of_beq_eq_false rfl)).trans g_317_82
          have g_318_69 : cE h_318 69 (.inl (.int, fA ((ch.set ((4 * p) + (i / (cn.getD p.toNat 0))).toNat ((ch.getD ((4 * p) + (i / (cn.getD p.toNat 0))).toNat 0) - n)).set ((4 * p) + (i % (cn.getD p.toNat 0))).toNat ((ch.getD (4 * p + i % (cn.getD p.toNat 0)).toNat 0) + n)))) := e_318
          refine ik_Wk 2 (pc_q := 127) (loc_q := [some (.ref 66), some (fI e), some (fI n), some (fI p), some (fI i), some (fI (i / (cn.getD p.toNat 0))), some (fI (i % (cn.getD p.toNat 0))), x7]) (st_q := [fI e, .ref 66]) (h_q := h_318) (cl_q := 0) (sl_q := 0) rfl ?_
          have gs8 : cE h_318 69 (.inl (.int, fA (mx_sh ch p (i / (cn.getD p.toNat 0)) (i % (cn.getD p.toNat 0)) n))) := g_318_69
          have hl9 : (mx_sh ch p (i / (cn.getD p.toNat 0)) (i % (cn.getD p.toNat 0)) n).length = 48 := (mx_sh_len ..).trans n69
          have hda := hr2 (i / (cn.getD p.toNat 0)) (by omega) (by omega)
          have hdb := hr2 (i % (cn.getD p.toNat 0)) (by omega) (by omega)
          have rw1 := mx_rw_sh (n := n) (a := i / (cn.getD p.toNat 0)) (b := i % (cn.getD p.toNat 0)) q2 (by omega) hp (by omega) (by omega) (by omega) n69 (by omega) (by omega)
          have sg1 : (mx_sh ch p (i / (cn.getD p.toNat 0)) (i % (cn.getD p.toNat 0)) n).getD (4 * p + i % (cn.getD p.toNat 0)).toNat 0 = ch.getD (4 * p + i % (cn.getD p.toNat 0)).toNat 0 + n := by rw [mx_sh_get (by omega) (by omega), if_pos rfl]
          have sg2 : (mx_sh ch p (i / (cn.getD p.toNat 0)) (i % (cn.getD p.toNat 0)) n).getD (4 * p + i / (cn.getD p.toNat 0)).toNat 0 = ch.getD (4 * p + i / (cn.getD p.toNat 0)).toNat 0 - n := by rw [mx_sh_get (by omega) (by omega), if_neg (by omega), if_pos rfl]
          refine fw_call 190 2 0 [.ref 66, fI e] [] rfl rfl rfl (Nat.le_of_ble_eq_true rfl) rfl rfl (fw_rec k_318 (fw_ftx rfl wv_n (wl_c rfl (wl_c rfl (wl_c rfl (wl_c rfl (wl_c rfl (wl_c rfl (wl_c rfl (wl_c v7 wl_n))))))))) g_318_66 rfl (by decide +kernel)) (cr_isFair (pl := pl) (f := fun j => ((0 :: 0 :: 0 :: 0 :: 0 :: 0 :: 0 :: f 7 :: f 8 :: 0 :: f 10 :: f 11 :: f 12 :: f 13 :: f 14 :: f 15 :: f 16 :: f 17 :: 0 :: 0 :: 0 :: 0 :: 0 :: 0 :: w1 :: 0 :: 0 :: 0 :: 0 :: 0 :: 0 :: 0 :: f 32 :: f 33 :: 0 :: 0 :: f 36 :: 0 :: 0 :: 0 :: 0 :: 0 :: 0 :: []) : List Int).getD j 0) (s := s) (cn := cn) (go := go) (ch := mx_sh ch p (i / (cn.getD p.toNat 0)) (i % (cn.getD p.toNat 0)) n) (gt := g1) (gd := d1) (xs := x1) (ys := y1) (ka := ka) (pa := pa) (fa := fa) (kb := kb) (pb := pb) (fb := fb) (r1 := s1) (r2 := s2) (e := e) (by omega) (by omega) rw1 (by omega) (by omega) (by omega) (by omega) (by omega) (by omega) (by omega) g_318_66 g_318_67 n67 g_318_68 n68 gs8 hl9 g_318_77 n77 g_318_78 n78 g_318_79 n79 g_318_80 n80 g_318_70 g_318_81 n81 g_318_82 n82 k_318) ?_
          rintro _ h_319 (⟨w'_319, gt'_319, gd'_319, xs'_319, ys'_319, r1'_319, r2'_319, rfl, e_319_66, e_319_77, m_319_77, e_319_78, m_319_78, e_319_79, m_319_79, e_319_80, m_319_80, e_319_81, m_319_81, e_319_82, m_319_82, p_319_0, F_319⟩ | ⟨w'_319, gt'_319, gd'_319, xs'_319, ys'_319, r1'_319, r2'_319, rfl, e_319_66, e_319_77, m_319_77, e_319_78, m_319_78, e_319_79, m_319_79, e_319_80, m_319_80, e_319_81, m_319_81, e_319_82, m_319_82, p_319_0, F_319⟩)
          · have k_319 : cL h_319 := F_319.1.trans k_318
            have fr_319 := hfr_cb fr_318 F_319 rfl
            have g_319_67 := (hfr_g F_319 67 rfl).trans g_318_67
            have g_319_68 := (hfr_g F_319 68 rfl).trans g_318_68
            have g_319_69 := (hfr_g F_319 69 rfl).trans gs8
            have g_319_70 := (hfr_g F_319 70 rfl).trans g_318_70
            have g_319_66 : cE h_319 66 (.inr (10, (fI pl :: .ref 67 :: .ref 68 :: .ref 69 :: fI ((s : Nat) : Int) :: .ref 70 :: .ref 71 :: fI (f 7) :: fI (f 8) :: .ref 72 :: fI (f 10) :: fI (f 11) :: fI (f 12) :: fJ (f 13) :: fI (f 14) :: fI (f 15) :: fI (f 16) :: fI (f 17) :: .ref 73 :: .ref 74 :: .ref 75 :: .ref 76 :: .ref 77 :: .ref 78 :: fI w'_319 :: .ref 79 :: .ref 80 :: .ref 81 :: .ref 82 :: .ref 83 :: .ref 84 :: .ref 85 :: fJ (f 32) :: fJ (f 33) :: .ref 86 :: .ref 87 :: fI (f 36) :: .ref 88 :: .ref 89 :: .ref 90 :: .ref 91 :: .ref 92 :: .ref 93 :: []))) := e_319_66
            have g_319_77 : cE h_319 77 (.inl (.int, fA gt'_319)) := e_319_77
            have g_319_78 : cE h_319 78 (.inl (.int, fA gd'_319)) := e_319_78
            have g_319_79 : cE h_319 79 (.inl (.long, fL xs'_319)) := e_319_79
            have g_319_80 : cE h_319 80 (.inl (.long, fL ys'_319)) := e_319_80
            have g_319_81 : cE h_319 81 (.inl (.long, fL r1'_319)) := e_319_81
            have g_319_82 : cE h_319 82 (.inl (.long, fL r2'_319)) := e_319_82
            refine ik_Wk 0 (pc_q := 130) (loc_q := [some (.ref 66), some (fI e), some (fI n), some (fI p), some (fI i), some (fI (i / (cn.getD p.toNat 0))), some (fI (i % (cn.getD p.toNat 0))), x7]) (st_q := [fI 1]) (h_q := h_319) (cl_q := 0) (sl_q := 0) rfl ?_
            refine ik_Wk 2 (pc_q := 133) (loc_q := [some (.ref 66), some (fI e), some (fI n), some (fI p), some (fI i), some (fI (i / (cn.getD p.toNat 0))), some (fI (i % (cn.getD p.toNat 0))), some (fI 1)]) (st_q := [.ref 66]) (h_q := h_319) (cl_q := 0) (sl_q := 0) rfl ?_
            refine fw_gf rfl rfl g_319_66 rfl ?_
            refine ik_Wk 2 (pc_q := 138) (loc_q := [some (.ref 66), some (fI e), some (fI n), some (fI p), some (fI i), some (fI (i / (cn.getD p.toNat 0))), some (fI (i % (cn.getD p.toNat 0))), some (fI 1)]) (st_q := [fI p, fI 4, .ref 69]) (h_q := h_319) (cl_q := 0) (sl_q := 0) rfl ?_
            refine fw_mul rfl ?_
            refine ik_Wk 1 (pc_q := 141) (loc_q := [some (.ref 66), some (fI e), some (fI n), some (fI p), some (fI i), some (fI (i / (cn.getD p.toNat 0))), some (fI (i % (cn.getD p.toNat 0))), some (fI 1)]) (st_q := [fI (i / (cn.getD p.toNat 0)), fI (4 * p), .ref 69]) (h_q := h_319) (cl_q := 0) (sl_q := 0) rfl ?_
            refine fw_add rfl ?_
            refine ik_Wk 1 (pc_q := 143) (loc_q := [some (.ref 66), some (fI e), some (fI n), some (fI p), some (fI i), some (fI (i / (cn.getD p.toNat 0))), some (fI (i % (cn.getD p.toNat 0))), some (fI 1)]) (st_q := [fI ((4 * p) + (i / (cn.getD p.toNat 0))), .ref 69, fI ((4 * p) + (i / (cn.getD p.toNat 0))), .ref 69]) (h_q := h_319) (cl_q := 0) (sl_q := 0) rfl ?_
            refine fw_ial rfl g_319_69 (by omega) (by omega) (by omega) ?_
            rw [show (mx_sh ch p (i / (cn.getD p.toNat 0)) (i % (cn.getD p.toNat 0)) n).getD ((4 * p) + (i / (cn.getD p.toNat 0))).toNat 0 = ch.getD (4 * p + i / (cn.getD p.toNat 0)).toNat 0 - n from sg2]
            refine ik_Wk 1 (pc_q := 145) (loc_q := [some (.ref 66), some (fI e), some (fI n), some (fI p), some (fI i), some (fI (i / (cn.getD p.toNat 0))), some (fI (i % (cn.getD p.toNat 0))), some (fI 1)]) (st_q := [fI n, fI (ch.getD (4 * p + i / (cn.getD p.toNat 0)).toNat 0 - n), fI ((4 * p) + (i / (cn.getD p.toNat 0))), .ref 69]) (h_q := h_319) (cl_q := 0) (sl_q := 0) rfl ?_
            refine fw_add rfl ?_
            have hl10 : ((mx_sh ch p (i / (cn.getD p.toNat 0)) (i % (cn.getD p.toNat 0)) n).set ((4 * p) + (i / (cn.getD p.toNat 0))).toNat ((ch.getD (4 * p + i / (cn.getD p.toNat 0)).toNat 0 - n) + n)).length = 48 := (List.length_set ..).trans hl9
            refine fx_ias rfl g_319_69 (by omega) (by omega) (by omega) ?_
            intro h_320 e_320 f_320 l_320
            have k_320 : cL h_320 := l_320.trans k_319
            have fr_320 := hfr_wb fr_319 f_320 l_320 rfl
            clear l_320
            have g_320_66 := (f_320 66 (Nat.ne_of_beq_eq_false rfl)).trans g_319_66
            have g_320_67 := (f_320 67 (Nat.ne_of_beq_eq_false rfl)).trans g_319_67
            have g_320_68 := (f_320 68 (Nat.ne_of_beq_eq_false rfl)).trans g_319_68
            have g_320_77 := (f_320 77 (Nat.ne_of_beq_eq_false rfl)).trans g_319_77
            have g_320_78 := (f_320 78 (Nat.ne_of_beq_eq_false rfl)).trans g_319_78
            have g_320_79 := (f_320 79 (Nat.ne_of_beq_eq_false rfl)).trans g_319_79
            have g_320_80 := (f_320 80 (Nat.ne_of_beq_eq_false rfl)).trans g_319_80
            have g_320_70 := (f_320 70 (Nat.ne_of_beq_eq_false rfl)).trans g_319_70
            have g_320_81 := (f_320 81 (Nat.ne_of_beq_eq_false rfl)).trans g_319_81
            have g_320_82 := (f_320 82 (Nat.ne_of_beq_eq_false rfl)).trans g_319_82
            have g_320_69 : cE h_320 69 (.inl (.int, fA ((mx_sh ch p (i / (cn.getD p.toNat 0)) (i % (cn.getD p.toNat 0)) n).set ((4 * p) + (i / (cn.getD p.toNat 0))).toNat ((ch.getD (4 * p + i / (cn.getD p.toNat 0)).toNat 0 - n) + n)))) := e_320
            refine ik_Wk 1 (pc_q := 148) (loc_q := [some (.ref 66), some (fI e), some (fI n), some (fI p), some (fI i), some (fI (i / (cn.getD p.toNat 0))), some (fI (i % (cn.getD p.toNat 0))), some (fI 1)]) (st_q := [.ref 66]) (h_q := h_320) (cl_q := 0) (sl_q := 0) rfl ?_
            refine fw_gf rfl rfl g_320_66 rfl ?_
            refine ik_Wk 2 (pc_q := 153) (loc_q := [some (.ref 66), some (fI e), some (fI n), some (fI p), some (fI i), some (fI (i / (cn.getD p.toNat 0))), some (fI (i % (cn.getD p.toNat 0))), some (fI 1)]) (st_q := [fI p, fI 4, .ref 69]) (h_q := h_320) (cl_q := 0) (sl_q := 0) rfl ?_
            refine fw_mul rfl ?_
            refine ik_Wk 1 (pc_q := 156) (loc_q := [some (.ref 66), some (fI e), some (fI n), some (fI p), some (fI i), some (fI (i / (cn.getD p.toNat 0))), some (fI (i % (cn.getD p.toNat 0))), some (fI 1)]) (st_q := [fI (i % (cn.getD p.toNat 0)), fI (4 * p), .ref 69]) (h_q := h_320) (cl_q := 0) (sl_q := 0) rfl ?_
            refine fw_add rfl ?_
            refine ik_Wk 1 (pc_q := 158) (loc_q := [some (.ref 66), some (fI e), some (fI n), some (fI p), some (fI i), some (fI (i / (cn.getD p.toNat 0))), some (fI (i % (cn.getD p.toNat 0))), some (fI 1)]) (st_q := [fI ((4 * p) + (i % (cn.getD p.toNat 0))), .ref 69, fI ((4 * p) + (i % (cn.getD p.toNat 0))), .ref 69]) (h_q := h_320) (cl_q := 0) (sl_q := 0) rfl ?_
            refine fw_ial rfl g_320_69 (by omega) (by omega) (by omega) ?_
            rw [show ((mx_sh ch p (i / (cn.getD p.toNat 0)) (i % (cn.getD p.toNat 0)) n).set ((4 * p) + (i / (cn.getD p.toNat 0))).toNat ((ch.getD (4 * p + i / (cn.getD p.toNat 0)).toNat 0 - n) + n)).getD ((4 * p) + (i % (cn.getD p.toNat 0))).toNat 0 = ch.getD (4 * p + i % (cn.getD p.toNat 0)).toNat 0 + n from by rw [fz_getD_set, if_neg (by omega)]; exact sg1]
            refine ik_Wk 1 (pc_q := 160) (loc_q := [some (.ref 66), some (fI e), some (fI n), some (fI p), some (fI i), some (fI (i / (cn.getD p.toNat 0))), some (fI (i % (cn.getD p.toNat 0))), some (fI 1)]) (st_q := [fI n, fI (ch.getD (4 * p + i % (cn.getD p.toNat 0)).toNat 0 + n), fI ((4 * p) + (i % (cn.getD p.toNat 0))), .ref 69]) (h_q := h_320) (cl_q := 0) (sl_q := 0) rfl ?_
            refine fw_sub rfl ?_
            have hl11 : (((mx_sh ch p (i / (cn.getD p.toNat 0)) (i % (cn.getD p.toNat 0)) n).set ((4 * p) + (i / (cn.getD p.toNat 0))).toNat ((ch.getD (4 * p + i / (cn.getD p.toNat 0)).toNat 0 - n) + n)).set ((4 * p) + (i % (cn.getD p.toNat 0))).toNat ((ch.getD (4 * p + i % (cn.getD p.toNat 0)).toNat 0 + n) - n)).length = 48 := (List.length_set ..).trans hl10
            refine fx_ias rfl g_320_69 (by omega) (by omega) (by omega) ?_
            intro h_321 e_321 f_321 l_321
            have k_321 : cL h_321 := l_321.trans k_320
            have fr_321 := hfr_wb fr_320 f_321 l_321 rfl
            clear l_321
            have g_321_66 := (f_321 66 (Nat.ne_of_beq_eq_false rfl)).trans g_320_66
            have g_321_67 := (f_321 67 (Nat.ne_of_beq_eq_false rfl)).trans g_320_67
            have g_321_68 := (f_321 68 (Nat.ne_of_beq_eq_false rfl)).trans g_320_68
            have g_321_77 := (f_321 77 (Nat.ne_of_beq_eq_false rfl)).trans g_320_77
            have g_321_78 := (f_321 78 (Nat.ne_of_beq_eq_false rfl)).trans g_320_78
            have g_321_79 := (f_321 79 (Nat.ne_of_beq_eq_false rfl)).trans g_320_79
            have g_321_80 := (f_321 80 (Nat.ne_of_beq_eq_false rfl)).trans g_320_80
            have g_321_70 := (f_321 70 (Nat.ne_of_beq_eq_false rfl)).trans g_320_70
            have g_321_81 := (f_321 81 (Nat.ne_of_beq_eq_false rfl)).trans g_320_81
            have g_321_82 := (f_321 82 (Nat.ne_of_beq_eq_false rfl)).trans g_320_82
            have g_321_69 : cE h_321 69 (.inl (.int, fA (((mx_sh ch p (i / (cn.getD p.toNat 0)) (i % (cn.getD p.toNat 0)) n).set ((4 * p) + (i / (cn.getD p.toNat 0))).toNat ((ch.getD (4 * p + i / (cn.getD p.toNat 0)).toNat 0 - n) + n)).set ((4 * p) + (i % (cn.getD p.toNat 0))).toNat ((ch.getD (4 * p + i % (cn.getD p.toNat 0)).toNat 0 + n) - n)))) := e_321
            refine ik_Wk 1 (pc_q := 164) (loc_q := [some (.ref 66), some (fI e), some (fI n), some (fI p), some (fI i), some (fI (i / (cn.getD p.toNat 0))), some (fI (i % (cn.getD p.toNat 0))), some (fI 1)]) (st_q := [fI 1]) (h_q := h_321) (cl_q := 0) (sl_q := 0) rfl ?_
            rw [mx_sh_r (by omega) (by omega) (by omega) (by omega) n69] at g_321_69
            refine fw_if_eq rfl rfl (by omega) (by omega) (fun hc12 => absurd hc12 (by omega)) (fun hc12 => ?_)
            refine fw_si rfl (by decide +kernel) ?_
            refine ik_Wk 1 (pc_q := 171) (loc_q := [some (.ref 66), some (fI e), some (fI n), some (fI p), some (fI i), some (fI (i / (cn.getD p.toNat 0))), some (fI (i % (cn.getD p.toNat 0))), some (fI 1)]) (st_q := [fI n, fI 10000]) (h_q := h_321) (cl_q := 0) (sl_q := 0) rfl ?_
            refine fw_mul rfl ?_
            refine fw_bi rfl (by decide +kernel) ?_
            refine ik_Wk 1 (pc_q := 175) (loc_q := [some (.ref 66), some (fI e), some (fI n), some (fI p), some (fI i), some (fI (i / (cn.getD p.toNat 0))), some (fI (i % (cn.getD p.toNat 0))), some (fI 1)]) (st_q := [fI p, fI 100, fI (10000 * n)]) (h_q := h_321) (cl_q := 0) (sl_q := 0) rfl ?_
            refine fw_mul rfl ?_
            refine fw_add rfl ?_
            refine fw_bi rfl (by decide +kernel) ?_
            refine ik_Wk 1 (pc_q := 181) (loc_q := [some (.ref 66), some (fI e), some (fI n), some (fI p), some (fI i), some (fI (i / (cn.getD p.toNat 0))), some (fI (i % (cn.getD p.toNat 0))), some (fI 1)]) (st_q := [fI (i / (cn.getD p.toNat 0)), fI 10, fI ((10000 * n) + (100 * p))]) (h_q := h_321) (cl_q := 0) (sl_q := 0) rfl ?_
            refine fw_mul rfl ?_
            refine fw_add rfl ?_
            refine ik_Wk 1 (pc_q := 185) (loc_q := [some (.ref 66), some (fI e), some (fI n), some (fI p), some (fI i), some (fI (i / (cn.getD p.toNat 0))), some (fI (i % (cn.getD p.toNat 0))), some (fI 1)]) (st_q := [fI (i % (cn.getD p.toNat 0)), fI (((10000 * n) + (100 * p)) + (10 * (i / (cn.getD p.toNat 0))))]) (h_q := h_321) (cl_q := 0) (sl_q := 0) rfl ?_
            refine fw_add rfl ?_
            have hG : (mk_gg cn go ch s pl ka pa fa kb pb fb e) n p (mk_ix (cn.getD p.toNat 0) i) = true := decide_eq_true (by rw [hib.2.2.1, hib.2.2.2]; exact ⟨by omega, by omega, by omega, by omega, p_319_0⟩)
            have hZ : (mk_fz cn go ch s pl ka pa fa kb pb fb e) = 10000 * n + 100 * p + 10 * (mk_ix (cn.getD p.toNat 0) i / 4) + mk_ix (cn.getD p.toNat 0) i % 4 := by
              rw [show _ = _ from he, if_pos (show i < cn.getD p.toNat 0 * cn.getD p.toNat 0 by omega), show (16 - mk_ix (cn.getD p.toNat 0) i).toNat = (16 - (mk_ix (cn.getD p.toNat 0) i + 1)).toNat + 1 by omega, mk_c1_s, if_pos hG]
            exact ik_Wret rfl rfl ⟨_, _, rfl, rfl, rfl, rfl, ⟨w'_319, gt'_319, gd'_319, xs'_319, ys'_319, r1'_319, r2'_319, (congrArg (fun z => [fI z]) (by rw [hZ, hib.2.2.1, hib.2.2.2])), g_321_66, g_321_77, m_319_77, g_321_78, m_319_78, g_321_79, m_319_79, g_321_80, m_319_80, g_321_81, m_319_81, g_321_82, m_319_82, g_321_69, n69, fr_321⟩⟩
          · have k_319 : cL h_319 := F_319.1.trans k_318
            have fr_319 := hfr_cb fr_318 F_319 rfl
            have g_319_67 := (hfr_g F_319 67 rfl).trans g_318_67
            have g_319_68 := (hfr_g F_319 68 rfl).trans g_318_68
            have g_319_69 := (hfr_g F_319 69 rfl).trans gs8
            have g_319_70 := (hfr_g F_319 70 rfl).trans g_318_70
            have g_319_66 : cE h_319 66 (.inr (10, (fI pl :: .ref 67 :: .ref 68 :: .ref 69 :: fI ((s : Nat) : Int) :: .ref 70 :: .ref 71 :: fI (f 7) :: fI (f 8) :: .ref 72 :: fI (f 10) :: fI (f 11) :: fI (f 12) :: fJ (f 13) :: fI (f 14) :: fI (f 15) :: fI (f 16) :: fI (f 17) :: .ref 73 :: .ref 74 :: .ref 75 :: .ref 76 :: .ref 77 :: .ref 78 :: fI w'_319 :: .ref 79 :: .ref 80 :: .ref 81 :: .ref 82 :: .ref 83 :: .ref 84 :: .ref 85 :: fJ (f 32) :: fJ (f 33) :: .ref 86 :: .ref 87 :: fI (f 36) :: .ref 88 :: .ref 89 :: .ref 90 :: .ref 91 :: .ref 92 :: .ref 93 :: []))) := e_319_66
            have g_319_77 : cE h_319 77 (.inl (.int, fA gt'_319)) := e_319_77
            have g_319_78 : cE h_319 78 (.inl (.int, fA gd'_319)) := e_319_78
            have g_319_79 : cE h_319 79 (.inl (.long, fL xs'_319)) := e_319_79
            have g_319_80 : cE h_319 80 (.inl (.long, fL ys'_319)) := e_319_80
            have g_319_81 : cE h_319 81 (.inl (.long, fL r1'_319)) := e_319_81
            have g_319_82 : cE h_319 82 (.inl (.long, fL r2'_319)) := e_319_82
            refine ik_Wk 0 (pc_q := 130) (loc_q := [some (.ref 66), some (fI e), some (fI n), some (fI p), some (fI i), some (fI (i / (cn.getD p.toNat 0))), some (fI (i % (cn.getD p.toNat 0))), x7]) (st_q := [fI 0]) (h_q := h_319) (cl_q := 0) (sl_q := 0) rfl ?_
            refine ik_Wk 2 (pc_q := 133) (loc_q := [some (.ref 66), some (fI e), some (fI n), some (fI p), some (fI i), some (fI (i / (cn.getD p.toNat 0))), some (fI (i % (cn.getD p.toNat 0))), some (fI 0)]) (st_q := [.ref 66]) (h_q := h_319) (cl_q := 0) (sl_q := 0) rfl ?_
            refine fw_gf rfl rfl g_319_66 rfl ?_
            refine ik_Wk 2 (pc_q := 138) (loc_q := [some (.ref 66), some (fI e), some (fI n), some (fI p), some (fI i), some (fI (i / (cn.getD p.toNat 0))), some (fI (i % (cn.getD p.toNat 0))), some (fI 0)]) (st_q := [fI p, fI 4, .ref 69]) (h_q := h_319) (cl_q := 0) (sl_q := 0) rfl ?_
            refine fw_mul rfl ?_
            refine ik_Wk 1 (pc_q := 141) (loc_q := [some (.ref 66), some (fI e), some (fI n), some (fI p), some (fI i), some (fI (i / (cn.getD p.toNat 0))), some (fI (i % (cn.getD p.toNat 0))), some (fI 0)]) (st_q := [fI (i / (cn.getD p.toNat 0)), fI (4 * p), .ref 69]) (h_q := h_319) (cl_q := 0) (sl_q := 0) rfl ?_
            refine fw_add rfl ?_
            refine ik_Wk 1 (pc_q := 143) (loc_q := [some (.ref 66), some (fI e), some (fI n), some (fI p), some (fI i), some (fI (i / (cn.getD p.toNat 0))), some (fI (i % (cn.getD p.toNat 0))), some (fI 0)]) (st_q := [fI ((4 * p) + (i / (cn.getD p.toNat 0))), .ref 69, fI ((4 * p) + (i / (cn.getD p.toNat 0))), .ref 69]) (h_q := h_319) (cl_q := 0) (sl_q := 0) rfl ?_
            refine fw_ial rfl g_319_69 (by omega) (by omega) (by omega) ?_
            rw [show (mx_sh ch p (i / (cn.getD p.toNat 0)) (i % (cn.getD p.toNat 0)) n).getD ((4 * p) + (i / (cn.getD p.toNat 0))).toNat 0 = ch.getD (4 * p + i / (cn.getD p.toNat 0)).toNat 0 - n from sg2]
            refine ik_Wk 1 (pc_q := 145) (loc_q := [some (.ref 66), some (fI e), some (fI n), some (fI p), some (fI i), some (fI (i / (cn.getD p.toNat 0))), some (fI (i % (cn.getD p.toNat 0))), some (fI 0)]) (st_q := [fI n, fI (ch.getD (4 * p + i / (cn.getD p.toNat 0)).toNat 0 - n), fI ((4 * p) + (i / (cn.getD p.toNat 0))), .ref 69]) (h_q := h_319) (cl_q := 0) (sl_q := 0) rfl ?_
            refine fw_add rfl ?_
            have hl13 : ((mx_sh ch p (i / (cn.getD p.toNat 0)) (i % (cn.getD p.toNat 0)) n).set ((4 * p) + (i / (cn.getD p.toNat 0))).toNat ((ch.getD (4 * p + i / (cn.getD p.toNat 0)).toNat 0 - n) + n)).length = 48 := (List.length_set ..).trans hl9
            refine fx_ias rfl g_319_69 (by omega) (by omega) (by omega) ?_
            intro h_322 e_322 f_322 l_322
            have k_322 : cL h_322 := l_322.trans k_319
            have fr_322 := hfr_wb fr_319 f_322 l_322 rfl
            clear l_322
            have g_322_66 := (f_322 66 (Nat.ne_of_beq_eq_false rfl)).trans g_319_66
            have g_322_67 := (f_322 67 (Nat.ne_of_beq_eq_false rfl)).trans g_319_67
            have g_322_68 := (f_322 68 (Nat.ne_of_beq_eq_false rfl)).trans g_319_68
            have g_322_77 := (f_322 77 (Nat.ne_of_beq_eq_false rfl)).trans g_319_77
            have g_322_78 := (f_322 78 (Nat.ne_of_beq_eq_false rfl)).trans g_319_78
            have g_322_79 := (f_322 79 (Nat.ne_of_beq_eq_false rfl)).trans g_319_79
            have g_322_80 := (f_322 80 (Nat.ne_of_beq_eq_false rfl)).trans g_319_80
            have g_322_70 := (f_322 70 (Nat.ne_of_beq_eq_false rfl)).trans g_319_70
            have g_322_81 := (f_322 81 (Nat.ne_of_beq_eq_false rfl)).trans g_319_81
            have g_322_82 := (f_322 82 (Nat.ne_of_beq_eq_false rfl)).trans g_319_82
            have g_322_69 : cE h_322 69 (.inl (.int, fA ((mx_sh ch p (i / (cn.getD p.toNat 0)) (i % (cn.getD p.toNat 0)) n).set ((4 * p) + (i / (cn.getD p.toNat 0))).toNat ((ch.getD (4 * p + i / (cn.getD p.toNat 0)).toNat 0 - n) + n)))) := e_322
            refine ik_Wk 1 (pc_q := 148) (loc_q := [some (.ref 66), some (fI e), some (fI n), some (fI p), some (fI i), some (fI (i / (cn.getD p.toNat 0))), some (fI (i % (cn.getD p.toNat 0))), some (fI 0)]) (st_q := [.ref 66]) (h_q := h_322) (cl_q := 0) (sl_q := 0) rfl ?_
            refine fw_gf rfl rfl g_322_66 rfl ?_
            refine ik_Wk 2 (pc_q := 153) (loc_q := [some (.ref 66), some (fI e), some (fI n), some (fI p), some (fI i), some (fI (i / (cn.getD p.toNat 0))), some (fI (i % (cn.getD p.toNat 0))), some (fI 0)]) (st_q := [fI p, fI 4, .ref 69]) (h_q := h_322) (cl_q := 0) (sl_q := 0) rfl ?_
            refine fw_mul rfl ?_
            refine ik_Wk 1 (pc_q := 156) (loc_q := [some (.ref 66), some (fI e), some (fI n), some (fI p), some (fI i), some (fI (i / (cn.getD p.toNat 0))), some (fI (i % (cn.getD p.toNat 0))), some (fI 0)]) (st_q := [fI (i % (cn.getD p.toNat 0)), fI (4 * p), .ref 69]) (h_q := h_322) (cl_q := 0) (sl_q := 0) rfl ?_
            refine fw_add rfl ?_
            refine ik_Wk 1 (pc_q := 158) (loc_q := [some (.ref 66), some (fI e), some (fI n), some (fI p), some (fI i), some (fI (i / (cn.getD p.toNat 0))), some (fI (i % (cn.getD p.toNat 0))), some (fI 0)]) (st_q := [fI ((4 * p) + (i % (cn.getD p.toNat 0))), .ref 69, fI ((4 * p) + (i % (cn.getD p.toNat 0))), .ref 69]) (h_q := h_322) (cl_q := 0) (sl_q := 0) rfl ?_
            refine fw_ial rfl g_322_69 (by omega) (by omega) (by omega) ?_
            rw [show ((mx_sh ch p (i / (cn.getD p.toNat 0)) (i % (cn.getD p.toNat 0)) n).set ((4 * p) + (i / (cn.getD p.toNat 0))).toNat ((ch.getD (4 * p + i / (cn.getD p.toNat 0)).toNat 0 - n) + n)).getD ((4 * p) + (i % (cn.getD p.toNat 0))).toNat 0 = ch.getD (4 * p + i % (cn.getD p.toNat 0)).toNat 0 + n from by rw [fz_getD_set, if_neg (by omega)]; exact sg1]
            refine ik_Wk 1 (pc_q := 160) (loc_q := [some (.ref 66), some (fI e), some (fI n), some (fI p), some (fI i), some (fI (i / (cn.getD p.toNat 0))), some (fI (i % (cn.getD p.toNat 0))), some (fI 0)]) (st_q := [fI n, fI (ch.getD (4 * p + i % (cn.getD p.toNat 0)).toNat 0 + n), fI ((4 * p) + (i % (cn.getD p.toNat 0))), .ref 69]) (h_q := h_322) (cl_q := 0) (sl_q := 0) rfl ?_
            refine fw_sub rfl ?_
            have hl14 : (((mx_sh ch p (i / (cn.getD p.toNat 0)) (i % (cn.getD p.toNat 0)) n).set ((4 * p) + (i / (cn.getD p.toNat 0))).toNat ((ch.getD (4 * p + i / (cn.getD p.toNat 0)).toNat 0 - n) + n)).set ((4 * p) + (i % (cn.getD p.toNat 0))).toNat ((ch.getD (4 * p + i % (cn.getD p.toNat 0)).toNat 0 + n) - n)).length = 48 := (List.length_set ..).trans hl13
            refine fx_ias rfl g_322_69 (by omega) (by omega) (by omega) ?_
            intro h_323 e_323 f_323 l_323
            have k_323 : cL h_323 := l_323.trans k_322
            have fr_323 := hfr_wb fr_322 f_323 l_323 rfl
            clear l_323
            have g_323_66 := (f_323 66 (Nat.ne_of_beq_eq_false rfl)).trans g_322_66
            have g_323_67 := (f_323 67 (Nat.ne_of_beq_eq_false rfl)).trans g_322_67
            have g_323_68 := (f_323 68 (Nat.ne_of_beq_eq_false rfl)).trans g_322_68
            have g_323_77 := (f_323 77 (Nat.ne_of_beq_eq_false rfl)).trans g_322_77
            have g_323_78 := (f_323 78 (Nat.ne_of_beq_eq_false rfl)).trans g_322_78
            have g_323_79 := (f_323 79 (Nat.ne_of_beq_eq_false rfl)).trans g_322_79
            have g_323_80 := (f_323 80 (Nat.ne_of_beq_eq_false rfl)).trans g_322_80
            have g_323_70 := (f_323 70 (Nat.ne_of_beq_eq_false rfl)).trans g_322_70
            have g_323_81 := (f_323 81 (Nat.ne_of_beq_eq_false rfl)).trans g_322_81
            have g_323_82 := (f_323 82 (Nat.ne_of_beq_eq_false rfl)).trans g_322_82
            have g_323_69 : cE h_323 69 (.inl (.int, fA (((mx_sh ch p (i / (cn.getD p.toNat 0)) (i % (cn.getD p.toNat 0)) n).set ((4 * p) + (i / (cn.getD p.toNat 0))).toNat ((ch.getD (4 * p + i / (cn.getD p.toNat 0)).toNat 0 - n) + n)).set ((4 * p) + (i % (cn.getD p.toNat 0))).toNat ((ch.getD (4 * p + i % (cn.getD p.toNat 0)).toNat 0 + n) - n)))) := e_323
            refine ik_Wk 1 (pc_q := 164) (loc_q := [some (.ref 66), some (fI e), some (fI n), some (fI p), some (fI i), some (fI (i / (cn.getD p.toNat 0))), some (fI (i % (cn.getD p.toNat 0))), some (fI 0)]) (st_q := [fI 0]) (h_q := h_323) (cl_q := 0) (sl_q := 0) rfl ?_
            rw [mx_sh_r (by omega) (by omega) (by omega) (by omega) n69] at g_323_69
            refine fw_if_eq rfl rfl (by omega) (by omega) (fun hc15 => ?_) (fun hc15 => absurd hc15 (by omega))
            refine fw_inc (a := i) (loc_q := [some (.ref 66), some (fI e), some (fI n), some (fI p), some (fI (i + 1)), some (fI (i / (cn.getD p.toNat 0))), some (fI (i % (cn.getD p.toNat 0))), some (fI 0)]) rfl rfl (Nat.le_of_ble_eq_true rfl) rfl ?_
            refine ik_Wk 1 (pc_q := 33) (loc_q := [some (.ref 66), some (fI e), some (fI n), some (fI p), some (fI (i + 1)), some (fI (i / (cn.getD p.toNat 0))), some (fI (i % (cn.getD p.toNat 0))), some (fI 0)]) (st_q := []) (h_q := h_323) (cl_q := 0) (sl_q := 0) rfl ?_
            have hG : (mk_gg cn go ch s pl ka pa fa kb pb fb e) n p (mk_ix (cn.getD p.toNat 0) i) = false := decide_eq_false (by rw [hib.2.2.1, hib.2.2.2]; omega)
            rw [if_pos (show i < cn.getD p.toNat 0 * cn.getD p.toNat 0 by omega), mk_ix_s hr (by omega) (by omega) hgf hG] at he
            exact ih (i + 1) w'_319 gt'_319 gd'_319 xs'_319 ys'_319 r1'_319 r2'_319 (some (fI (i / (cn.getD p.toNat 0)))) (some (fI (i % (cn.getD p.toNat 0)))) (some (fI 0)) h_323 g_323_66 g_323_67 n67 g_323_68 n68 g_323_69 n69 g_323_77 m_319_77 g_323_78 m_319_78 g_323_79 m_319_79 g_323_80 m_319_80 g_323_70 g_323_81 m_319_81 g_323_82 m_319_82 k_323 fr_323 (by omega) he rfl rfl rfl (by omega)

theorem cr_fairP {h : List ik_E} {pl : Int} {f : Nat → Int} {s : Nat} {cn : List Int} {go : List Int} {ch : List Int} {gt : List Int} {gd : List Int} {xs : List Int} {ys : List Int} {ka : Int} {pa : Int} {fa : Int} {kb : Int} {pb : Int} {fb : Int} {r1 : List Int} {r2 : List Int} {e : Int} (q0 : 0 ≤ pl ∧ pl ≤ 12) (q1 : s < 4096) (q2 : mx_rw pl cn go ch) (q3 : 0 ≤ ka ∧ ka ≤ 2) (q4 : 0 ≤ kb ∧ kb ≤ 2) (q5 : 0 ≤ pa ∧ pa < pl - 1) (q6 : 0 ≤ pb ∧ pb < pl - 1) (q7 : 0 ≤ fa ∧ fa ≤ 30) (q8 : 0 ≤ fb ∧ fb ≤ 30) (q9 : 0 ≤ e ∧ e ≤ 1000000) (n : Int) (hn : 1 ≤ n ∧ n ≤ 20) (z : Int)  (K : ∀ (w : List ik_E) (p2 : Int) (w1 : Int) (g1 : List Int) (d1 : List Int) (x1 : List Int) (y1 : List Int) (s1 : List Int) (s2 : List Int) (x4 : Option Value) (x5 : Option Value) (x6 : Option Value) (x7 : Option Value) (w66 : cE w 66 (.inr (10, (fI pl :: .ref 67 :: .ref 68 :: .ref 69 :: fI ((s : Nat) : Int) :: .ref 70 :: .ref 71 :: fI (f 7) :: fI (f 8) :: .ref 72 :: fI (f 10) :: fI (f 11) :: fI (f 12) :: fJ (f 13) :: fI (f 14) :: fI (f 15) :: fI (f 16) :: fI (f 17) :: .ref 73 :: .ref 74 :: .ref 75 :: .ref 76 :: .ref 77 :: .ref 78 :: fI w1 :: .ref 79 :: .ref 80 :: .ref 81 :: .ref 82 :: .ref 83 :: .ref 84 :: .ref 85 :: fJ (f 32) :: fJ (f 33) :: .ref 86 :: .ref 87 :: fI (f 36) :: .ref 88 :: .ref 89 :: .ref 90 :: .ref 91 :: .ref 92 :: .ref 93 :: [])))) (w67 : cE w 67 (.inl (.int, fA cn))) (nw_67 : cn.length = (12 : Nat)) (w68 : cE w 68 (.inl (.int, fA go))) (nw_68 : go.length = (48 : Nat)) (w69 : cE w 69 (.inl (.int, fA ch))) (nw_69 : ch.length = (48 : Nat)) (w77 : cE w 77 (.inl (.int, fA g1))) (nw_77 : g1.length = (5 : Nat)) (w78 : cE w 78 (.inl (.int, fA d1))) (nw_78 : d1.length = (5 : Nat)) (w79 : cE w 79 (.inl (.long, fL x1))) (nw_79 : x1.length = (12 : Nat)) (w80 : cE w 80 (.inl (.long, fL y1))) (nw_80 : y1.length = (12 : Nat)) (w70 : cE w 70 (.inl (.int, fA [ka, pa, fa, kb, pb, fb]))) (w81 : cE w 81 (.inl (.long, fL s1))) (nw_81 : s1.length = (201 : Nat)) (w82 : cE w 82 (.inl (.long, fL s2))) (nw_82 : s2.length = (201 : Nat)) (wl : w.length = (94 : Nat)) (F : hfr [66, 77, 78, 79, 80, 81, 82, 69] h w) (he : (mk_fz cn go ch s pl ka pa fa kb pb fb e) = z) (v4 : ik_wl 94 x4 = true) (v5 : ik_wl 94 x5 = true) (v6 : ik_wl 94 x6 = true) (v7 : ik_wl 94 x7 = true), ik_G 191 199 [some (.ref 66), some (fI e), some (fI n), some (fI p2), x4, x5, x6, x7] [] w (fun rv h_q => ∃ (w' : Int) (gt' : List Int) (gd' : List Int) (xs' : List Int) (ys' : List Int) (r1' : List Int) (r2' : List Int), rv = [fI (mk_fz cn go ch s pl ka pa fa kb pb fb e)] ∧ cE h_q 66 (.inr (10, (fI pl :: .ref 67 :: .ref 68 :: .ref 69 :: fI ((s : Nat) : Int) :: .ref 70 :: .ref 71 :: fI (f 7) :: fI (f 8) :: .ref 72 :: fI (f 10) :: fI (f 11) :: fI (f 12) :: fJ (f 13) :: fI (f 14) :: fI (f 15) :: fI (f 16) :: fI (f 17) :: .ref 73 :: .ref 74 :: .ref 75 :: .ref 76 :: .ref 77 :: .ref 78 :: fI w' :: .ref 79 :: .ref 80 :: .ref 81 :: .ref 82 :: .ref 83 :: .ref 84 :: .ref 85 :: fJ (f 32) :: fJ (f 33) :: .ref 86 :: .ref 87 :: fI (f 36) :: .ref 88 :: .ref 89 :: .ref 90 :: .ref 91 :: .ref 92 :: .ref 93 :: []))) ∧ cE h_q 77 (.inl (.int, fA gt')) ∧ gt'.length = (5 : Nat) ∧ cE h_q 78 (.inl (.int, fA gd')) ∧ gd'.length = (5 : Nat) ∧ cE h_q 79 (.inl (.long, fL xs')) ∧ xs'.length = (12 : Nat) ∧ cE h_q 80 (.inl (.long, fL ys')) ∧ ys'.length = (12 : Nat) ∧ cE h_q 81 (.inl (.long, fL r1')) ∧ r1'.length = (201 : Nat) ∧ cE h_q 82 (.inl (.long, fL r2')) ∧ r2'.length = (201 : Nat) ∧ cE h_q 69 (.inl (.int, fA ch)) ∧ ch.length = (48 : Nat) ∧ hfr [66, 77, 78, 79, 80, 81, 82, 69] h h_q)) : ∀ (k : Nat) (p : Int) (w1 : Int) (g1 : List Int) (d1 : List Int) (x1 : List Int) (y1 : List Int) (s1 : List Int) (s2 : List Int) (x4 : Option Value) (x5 : Option Value) (x6 : Option Value) (x7 : Option Value) (u : List ik_E) (u66 : cE u 66 (.inr (10, (fI pl :: .ref 67 :: .ref 68 :: .ref 69 :: fI ((s : Nat) : Int) :: .ref 70 :: .ref 71 :: fI (f 7) :: fI (f 8) :: .ref 72 :: fI (f 10) :: fI (f 11) :: fI (f 12) :: fJ (f 13) :: fI (f 14) :: fI (f 15) :: fI (f 16) :: fI (f 17) :: .ref 73 :: .ref 74 :: .ref 75 :: .ref 76 :: .ref 77 :: .ref 78 :: fI w1 :: .ref 79 :: .ref 80 :: .ref 81 :: .ref 82 :: .ref 83 :: .ref 84 :: .ref 85 :: fJ (f 32) :: fJ (f 33) :: .ref 86 :: .ref 87 :: fI (f 36) :: .ref 88 :: .ref 89 :: .ref 90 :: .ref 91 :: .ref 92 :: .ref 93 :: [])))) (u67 : cE u 67 (.inl (.int, fA cn))) (n67 : cn.length = (12 : Nat)) (u68 : cE u 68 (.inl (.int, fA go))) (n68 : go.length = (48 : Nat)) (u69 : cE u 69 (.inl (.int, fA ch))) (n69 : ch.length = (48 : Nat)) (u77 : cE u 77 (.inl (.int, fA g1))) (n77 : g1.length = (5 : Nat)) (u78 : cE u 78 (.inl (.int, fA d1))) (n78 : d1.length = (5 : Nat)) (u79 : cE u 79 (.inl (.long, fL x1))) (n79 : x1.length = (12 : Nat)) (u80 : cE u 80 (.inl (.long, fL y1))) (n80 : y1.length = (12 : Nat)) (u70 : cE u 70 (.inl (.int, fA [ka, pa, fa, kb, pb, fb]))) (u81 : cE u 81 (.inl (.long, fL s1))) (n81 : s1.length = (201 : Nat)) (u82 : cE u 82 (.inl (.long, fL s2))) (n82 : s2.length = (201 : Nat)) (ul : u.length = (94 : Nat)) (F : hfr [66, 77, 78, 79, 80, 81, 82, 69] h u) (hp : (0 : Int) ≤ p ∧ p ≤ pl - 1) (he : (mk_fz cn go ch s pl ka pa fa kb pb fb e) = mk_c2 (mk_gg cn go ch s pl ka pa fa kb pb fb e) n (pl - 1 - p).toNat p z) (v4 : ik_wl 94 x4 = true) (v5 : ik_wl 94 x5 = true) (v6 : ik_wl 94 x6 = true) (v7 : ik_wl 94 x7 = true) (hk : pl - 1 - p < (k : Int)), ik_G 191 20 [some (.ref 66), some (fI e), some (fI n), some (fI p), x4, x5, x6, x7] [] u (fun rv h_q => ∃ (w' : Int) (gt' : List Int) (gd' : List Int) (xs' : List Int) (ys' : List Int) (r1' : List Int) (r2' : List Int), rv = [fI (mk_fz cn go ch s pl ka pa fa kb pb fb e)] ∧ cE h_q 66 (.inr (10, (fI pl :: .ref 67 :: .ref 68 :: .ref 69 :: fI ((s : Nat) : Int) :: .ref 70 :: .ref 71 :: fI (f 7) :: fI (f 8) :: .ref 72 :: fI (f 10) :: fI (f 11) :: fI (f 12) :: fJ (f 13) :: fI (f 14) :: fI (f 15) :: fI (f 16) :: fI (f 17) :: .ref 73 :: .ref 74 :: .ref 75 :: .ref 76 :: .ref 77 :: .ref 78 :: fI w' :: .ref 79 :: .ref 80 :: .ref 81 :: .ref 82 :: .ref 83 :: .ref 84 :: .ref 85 :: fJ (f 32) :: fJ (f 33) :: .ref 86 :: .ref 87 :: fI (f 36) :: .ref 88 :: .ref 89 :: .ref 90 :: .ref 91 :: .ref 92 :: .ref 93 :: []))) ∧ cE h_q 77 (.inl (.int, fA gt')) ∧ gt'.length = (5 : Nat) ∧ cE h_q 78 (.inl (.int, fA gd')) ∧ gd'.length = (5 : Nat) ∧ cE h_q 79 (.inl (.long, fL xs')) ∧ xs'.length = (12 : Nat) ∧ cE h_q 80 (.inl (.long, fL ys')) ∧ ys'.length = (12 : Nat) ∧ cE h_q 81 (.inl (.long, fL r1')) ∧ r1'.length = (201 : Nat) ∧ cE h_q 82 (.inl (.long, fL r2')) ∧ r2'.length = (201 : Nat) ∧ cE h_q 69 (.inl (.int, fA ch)) ∧ ch.length = (48 : Nat) ∧ hfr [66, 77, 78, 79, 80, 81, 82, 69] h h_q) := by
  intro k
  induction k with
  | zero => intro p w1 g1 d1 x1 y1 s1 s2 x4 x5 x6 x7 u u66 u67 n67 u68 n68 u69 n69 u77 n77 u78 n78 u79 n79 u80 n80 u70 u81 n81 u82 n82 ul F hp he v4 v5 v6 v7 hk; clear he; omega
  | succ k ih =>
    intro p w1 g1 d1 x1 y1 s1 s2 x4 x5 x6 x7 u u66 u67 n67 u68 n68 u69 n69 u77 n77 u78 n78 u79 n79 u80 n80 u70 u81 n81 u82 n82 ul F hp he v4 v5 v6 v7 hk
    have hq := ik_hid_i he
    clear he
    have he := hq
    clear hq
    refine ik_Wk 2 (pc_q := 22) (loc_q := [some (.ref 66), some (fI e), some (fI n), some (fI p), x4, x5, x6, x7]) (st_q := [.ref 66, fI p]) (h_q := u) (cl_q := 0) (sl_q := 0) rfl ?_
    refine fw_gf rfl rfl u66 rfl ?_
    refine ik_Wk 1 (pc_q := 26) (loc_q := [some (.ref 66), some (fI e), some (fI n), some (fI p), x4, x5, x6, x7]) (st_q := [fI 1, fI pl, fI p]) (h_q := u) (cl_q := 0) (sl_q := 0) rfl ?_
    refine fw_sub rfl ?_
    refine fw_ic_ge rfl rfl (by omega) (by omega) (by omega) (by omega) (fun hc1 => ?_) (fun hc1 => ?_)
    · rw [show (pl - 1 - p).toNat = 0 by omega, mk_c2_0] at he
      exact K u p w1 g1 d1 x1 y1 s1 s2 x4 x5 x6 x7 u66 u67 n67 u68 n68 u69 n69 u77 n77 u78 n78 u79 n79 u80 n80 u70 u81 n81 u82 n82 ul F he v4 v5 v6 v7
    · refine ik_Wk 2 (pc_q := 33) (loc_q := [some (.ref 66), some (fI e), some (fI n), some (fI p), some (fI 0), x5, x6, x7]) (st_q := []) (h_q := u) (cl_q := 0) (sl_q := 0) rfl ?_
      have hr := (q2 p (by omega) (by omega)).1
      have hcc : 1 ≤ cn.getD p.toNat 0 * cn.getD p.toNat 0 ∧ cn.getD p.toNat 0 * cn.getD p.toNat 0 ≤ 16 := by
        obtain r_ | r_ | r_ | r_ : cn.getD p.toNat 0 = 1 ∨ cn.getD p.toNat 0 = 2 ∨ cn.getD p.toNat 0 = 3 ∨ cn.getD p.toNat 0 = 4 := by omega
        all_goals (rw [r_]; decide)
      have hi0 : mk_ix (cn.getD p.toNat 0) 0 = 0 := by unfold mk_ix; rw [Int.zero_ediv, Int.zero_emod]; rfl
      refine cr_fairK (pl := pl) (f := f) (s := s) (cn := cn) (go := go) (ch := ch) (gt := gt) (gd := gd) (xs := xs) (ys := ys) (ka := ka) (pa := pa) (fa := fa) (kb := kb) (pb := pb) (fb := fb) (r1 := r1) (r2 := r2) (e := e) q0 q1 q2 q3 q4 q5 q6 q7 q8 q9 n hn p (by omega) (mk_c2 (mk_gg cn go ch s pl ka pa fa kb pb fb e) n (pl - 1 - (p + 1)).toNat (p + 1) z)  (fun h_324 i2_324 w1_324 g1_324 d1_324 x1_324 y1_324 s1_324 s2_324 x5_324 x6_324 x7_324 g_324_66 g_324_67 m_324_67 g_324_68 m_324_68 g_324_69 m_324_69 g_324_77 m_324_77 g_324_78 m_324_78 g_324_79 m_324_79 g_324_80 m_324_80 g_324_70 g_324_81 m_324_81 g_324_82 m_324_82 k_324 fr_324 he_324 v5_324 v6_324 v7_324 => ?_) 17 0 w1 g1 d1 x1 y1 s1 s2 x5 x6 x7 u u66 u67 n67 u68 n68 u69 n69 u77 n77 u78 n78 u79 n79 u80 n80 u70 u81 n81 u82 n82 ul F (by omega) (by rw [if_pos (by omega), hi0, show _ = _ from he, show (pl - 1 - p).toNat = (pl - 1 - (p + 1)).toNat + 1 by omega, mk_c2_s, show (16 - (0 : Int)).toNat = 16 from rfl]) v5 v6 v7 (by omega)
      refine fw_inc (a := p) (loc_q := [some (.ref 66), some (fI e), some (fI n), some (fI (p + 1)), some (fI i2_324), x5_324, x6_324, x7_324]) rfl rfl (Nat.le_of_ble_eq_true rfl) rfl ?_
      refine ik_Wk 1 (pc_q := 20) (loc_q := [some (.ref 66), some (fI e), some (fI n), some (fI (p + 1)), some (fI i2_324), x5_324, x6_324, x7_324]) (st_q := []) (h_q := h_324) (cl_q := 0) (sl_q := 0) rfl ?_
      exact ih (p + 1) w1_324 g1_324 d1_324 x1_324 y1_324 s1_324 s2_324 (some (fI i2_324)) x5_324 x6_324 x7_324 h_324 g_324_66 g_324_67 m_324_67 g_324_68 m_324_68 g_324_69 m_324_69 g_324_77 m_324_77 g_324_78 m_324_78 g_324_79 m_324_79 g_324_80 m_324_80 g_324_70 g_324_81 m_324_81 g_324_82 m_324_82 k_324 fr_324 (by omega) he_324 rfl v5_324 v6_324 v7_324 (by omega)

theorem cr_fairN {h : List ik_E} {pl : Int} {f : Nat → Int} {s : Nat} {cn : List Int} {go : List Int} {ch : List Int} {gt : List Int} {gd : List Int} {xs : List Int} {ys : List Int} {ka : Int} {pa : Int} {fa : Int} {kb : Int} {pb : Int} {fb : Int} {r1 : List Int} {r2 : List Int} {e : Int} (q0 : 0 ≤ pl ∧ pl ≤ 12) (q1 : s < 4096) (q2 : mx_rw pl cn go ch) (q3 : 0 ≤ ka ∧ ka ≤ 2) (q4 : 0 ≤ kb ∧ kb ≤ 2) (q5 : 0 ≤ pa ∧ pa < pl - 1) (q6 : 0 ≤ pb ∧ pb < pl - 1) (q7 : 0 ≤ fa ∧ fa ≤ 30) (q8 : 0 ≤ fb ∧ fb ≤ 30) (q9 : 0 ≤ e ∧ e ≤ 1000000)  : ∀ (k : Nat) (n : Int) (w1 : Int) (g1 : List Int) (d1 : List Int) (x1 : List Int) (y1 : List Int) (s1 : List Int) (s2 : List Int) (x3 : Option Value) (x4 : Option Value) (x5 : Option Value) (x6 : Option Value) (x7 : Option Value) (u : List ik_E) (u66 : cE u 66 (.inr (10, (fI pl :: .ref 67 :: .ref 68 :: .ref 69 :: fI ((s : Nat) : Int) :: .ref 70 :: .ref 71 :: fI (f 7) :: fI (f 8) :: .ref 72 :: fI (f 10) :: fI (f 11) :: fI (f 12) :: fJ (f 13) :: fI (f 14) :: fI (f 15) :: fI (f 16) :: fI (f 17) :: .ref 73 :: .ref 74 :: .ref 75 :: .ref 76 :: .ref 77 :: .ref 78 :: fI w1 :: .ref 79 :: .ref 80 :: .ref 81 :: .ref 82 :: .ref 83 :: .ref 84 :: .ref 85 :: fJ (f 32) :: fJ (f 33) :: .ref 86 :: .ref 87 :: fI (f 36) :: .ref 88 :: .ref 89 :: .ref 90 :: .ref 91 :: .ref 92 :: .ref 93 :: [])))) (u67 : cE u 67 (.inl (.int, fA cn))) (n67 : cn.length = (12 : Nat)) (u68 : cE u 68 (.inl (.int, fA go))) (n68 : go.length = (48 : Nat)) (u69 : cE u 69 (.inl (.int, fA ch))) (n69 : ch.length = (48 : Nat)) (u77 : cE u 77 (.inl (.int, fA g1))) (n77 : g1.length = (5 : Nat)) (u78 : cE u 78 (.inl (.int, fA d1))) (n78 : d1.length = (5 : Nat)) (u79 : cE u 79 (.inl (.long, fL x1))) (n79 : x1.length = (12 : Nat)) (u80 : cE u 80 (.inl (.long, fL y1))) (n80 : y1.length = (12 : Nat)) (u70 : cE u 70 (.inl (.int, fA [ka, pa, fa, kb, pb, fb]))) (u81 : cE u 81 (.inl (.long, fL s1))) (n81 : s1.length = (201 : Nat)) (u82 : cE u 82 (.inl (.long, fL s2))) (n82 : s2.length = (201 : Nat)) (ul : u.length = (94 : Nat)) (F : hfr [66, 77, 78, 79, 80, 81, 82, 69] h u) (hn : (1 : Int) ≤ n ∧ n ≤ (21 : Int)) (he : (mk_fz cn go ch s pl ka pa fa kb pb fb e) = mk_c3 (mk_gg cn go ch s pl ka pa fa kb pb fb e) (pl - 1).toNat (21 - n).toNat n) (v3 : ik_wl 94 x3 = true) (v4 : ik_wl 94 x4 = true) (v5 : ik_wl 94 x5 = true) (v6 : ik_wl 94 x6 = true) (v7 : ik_wl 94 x7 = true) (hk : 21 - n < (k : Int)), ik_G 191 12 [some (.ref 66), some (fI e), some (fI n), x3, x4, x5, x6, x7] [] u (fun rv h_q => ∃ (w' : Int) (gt' : List Int) (gd' : List Int) (xs' : List Int) (ys' : List Int) (r1' : List Int) (r2' : List Int), rv = [fI (mk_fz cn go ch s pl ka pa fa kb pb fb e)] ∧ cE h_q 66 (.inr (10, (fI pl :: .ref 67 :: .ref 68 :: .ref 69 :: fI ((s : Nat) : Int) :: .ref 70 :: .ref 71 :: fI (f 7) :: fI (f 8) :: .ref 72 :: fI (f 10) :: fI (f 11) :: fI (f 12) :: fJ (f 13) :: fI (f 14) :: fI (f 15) :: fI (f 16) :: fI (f 17) :: .ref 73 :: .ref 74 :: .ref 75 :: .ref 76 :: .ref 77 :: .ref 78 :: fI w' :: .ref 79 :: .ref 80 :: .ref 81 :: .ref 82 :: .ref 83 :: .ref 84 :: .ref 85 :: fJ (f 32) :: fJ (f 33) :: .ref 86 :: .ref 87 :: fI (f 36) :: .ref 88 :: .ref 89 :: .ref 90 :: .ref 91 :: .ref 92 :: .ref 93 :: []))) ∧ cE h_q 77 (.inl (.int, fA gt')) ∧ gt'.length = (5 : Nat) ∧ cE h_q 78 (.inl (.int, fA gd')) ∧ gd'.length = (5 : Nat) ∧ cE h_q 79 (.inl (.long, fL xs')) ∧ xs'.length = (12 : Nat) ∧ cE h_q 80 (.inl (.long, fL ys')) ∧ ys'.length = (12 : Nat) ∧ cE h_q 81 (.inl (.long, fL r1')) ∧ r1'.length = (201 : Nat) ∧ cE h_q 82 (.inl (.long, fL r2')) ∧ r2'.length = (201 : Nat) ∧ cE h_q 69 (.inl (.int, fA ch)) ∧ ch.length = (48 : Nat) ∧ hfr [66, 77, 78, 79, 80, 81, 82, 69] h h_q) := by
  intro k
  induction k with
  | zero => intro n w1 g1 d1 x1 y1 s1 s2 x3 x4 x5 x6 x7 u u66 u67 n67 u68 n68 u69 n69 u77 n77 u78 n78 u79 n79 u80 n80 u70 u81 n81 u82 n82 ul F hn he v3 v4 v5 v6 v7 hk; clear he; omega
  | succ k ih =>
    intro n w1 g1 d1 x1 y1 s1 s2 x3 x4 x5 x6 x7 u u66 u67 n67 u68 n68 u69 n69 u77 n77 u78 n78 u79 n79 u80 n80 u70 u81 n81 u82 n82 ul F hn he v3 v4 v5 v6 v7 hk
    have hq := ik_hid_i he
    clear he
    have he := hq
    clear hq
    refine ik_Wk 1 (pc_q := 13) (loc_q := [some (.ref 66), some (fI e), some (fI n), x3, x4, x5, x6, x7]) (st_q := [fI n]) (h_q := u) (cl_q := 0) (sl_q := 0) rfl ?_
    refine fw_bi rfl (by decide +kernel) ?_
    refine fw_ic_gt rfl rfl (by omega) (by omega) (by omega) (by omega) (fun hc1 => ?_) (fun hc1 => ?_)
    · refine ik_Wk 1 (pc_q := 206) (loc_q := [some (.ref 66), some (fI e), some (fI n), x3, x4, x5, x6, x7]) (st_q := [fI (-1)]) (h_q := u) (cl_q := 0) (sl_q := 0) rfl ?_
      rw [show (21 - n).toNat = 0 by omega, mk_c3_0] at he
      exact ik_Wret rfl rfl ⟨_, _, rfl, rfl, rfl, rfl, ⟨w1, g1, d1, x1, y1, s1, s2, (congrArg (fun z => [fI z]) (Eq.symm (show _ = _ from he))), u66, u77, n77, u78, n78, u79, n79, u80, n80, u81, n81, u82, n82, u69, n69, F⟩⟩
    · refine ik_Wk 2 (pc_q := 20) (loc_q := [some (.ref 66), some (fI e), some (fI n), some (fI 0), x4, x5, x6, x7]) (st_q := []) (h_q := u) (cl_q := 0) (sl_q := 0) rfl ?_
      refine cr_fairP (pl := pl) (f := f) (s := s) (cn := cn) (go := go) (ch := ch) (gt := gt) (gd := gd) (xs := xs) (ys := ys) (ka := ka) (pa := pa) (fa := fa) (kb := kb) (pb := pb) (fb := fb) (r1 := r1) (r2 := r2) (e := e) q0 q1 q2 q3 q4 q5 q6 q7 q8 q9 n (by omega) (mk_c3 (mk_gg cn go ch s pl ka pa fa kb pb fb e) (pl - 1).toNat (21 - (n + 1)).toNat (n + 1))  (fun h_325 p2_325 w1_325 g1_325 d1_325 x1_325 y1_325 s1_325 s2_325 x4_325 x5_325 x6_325 x7_325 g_325_66 g_325_67 m_325_67 g_325_68 m_325_68 g_325_69 m_325_69 g_325_77 m_325_77 g_325_78 m_325_78 g_325_79 m_325_79 g_325_80 m_325_80 g_325_70 g_325_81 m_325_81 g_325_82 m_325_82 k_325 fr_325 he_325 v4_325 v5_325 v6_325 v7_325 => ?_) (pl.toNat + 1) 0 w1 g1 d1 x1 y1 s1 s2 x4 x5 x6 x7 u u66 u67 n67 u68 n68 u69 n69 u77 n77 u78 n78 u79 n79 u80 n80 u70 u81 n81 u82 n82 ul F (by omega) (by rw [show _ = _ from he, show (21 - n).toNat = (21 - (n + 1)).toNat + 1 by omega, mk_c3_s, Int.sub_zero]) v4 v5 v6 v7 (by omega)
      refine fw_inc (a := n) (loc_q := [some (.ref 66), some (fI e), some (fI (n + 1)), some (fI p2_325), x4_325, x5_325, x6_325, x7_325]) rfl rfl (Nat.le_of_ble_eq_true rfl) rfl ?_
      refine ik_Wk 1 (pc_q := 12) (loc_q := [some (.ref 66), some (fI e), some (fI (n + 1)), some (fI p2_325), x4_325, x5_325, x6_325, x7_325]) (st_q := []) (h_q := h_325) (cl_q := 0) (sl_q := 0) rfl ?_
      exact ih  (n + 1) w1_325 g1_325 d1_325 x1_325 y1_325 s1_325 s2_325 (some (fI p2_325)) x4_325 x5_325 x6_325 x7_325 h_325 g_325_66 g_325_67 m_325_67 g_325_68 m_325_68 g_325_69 m_325_69 g_325_77 m_325_77 g_325_78 m_325_78 g_325_79 m_325_79 g_325_80 m_325_80 g_325_70 g_325_81 m_325_81 g_325_82 m_325_82 k_325 fr_325 (by omega) he_325 rfl v4_325 v5_325 v6_325 v7_325 (by omega)

theorem cr_findFair {h : List ik_E} {pl : Int} {f : Nat → Int} {s : Nat} {cn : List Int} {go : List Int} {ch : List Int} {gt : List Int} {gd : List Int} {xs : List Int} {ys : List Int} {ka : Int} {pa : Int} {fa : Int} {kb : Int} {pb : Int} {fb : Int} {r1 : List Int} {r2 : List Int} {e : Int} (q0 : 0 ≤ pl ∧ pl ≤ 12) (q1 : s < 4096) (q2 : mx_rw pl cn go ch) (q3 : 0 ≤ ka ∧ ka ≤ 2) (q4 : 0 ≤ kb ∧ kb ≤ 2) (q5 : 0 ≤ pa ∧ pa < pl - 1) (q6 : 0 ≤ pb ∧ pb < pl - 1) (q7 : 0 ≤ fa ∧ fa ≤ 30) (q8 : 0 ≤ fb ∧ fb ≤ 30) (q9 : 0 ≤ e ∧ e ≤ 1000000) (h66 : cE h 66 (.inr (10, (fI pl :: .ref 67 :: .ref 68 :: .ref 69 :: fI ((s : Nat) : Int) :: .ref 70 :: .ref 71 :: fI (f 7) :: fI (f 8) :: .ref 72 :: fI (f 10) :: fI (f 11) :: fI (f 12) :: fJ (f 13) :: fI (f 14) :: fI (f 15) :: fI (f 16) :: fI (f 17) :: .ref 73 :: .ref 74 :: .ref 75 :: .ref 76 :: .ref 77 :: .ref 78 :: fI (f 24) :: .ref 79 :: .ref 80 :: .ref 81 :: .ref 82 :: .ref 83 :: .ref 84 :: .ref 85 :: fJ (f 32) :: fJ (f 33) :: .ref 86 :: .ref 87 :: fI (f 36) :: .ref 88 :: .ref 89 :: .ref 90 :: .ref 91 :: .ref 92 :: .ref 93 :: [])))) (h67 : cE h 67 (.inl (.int, fA cn))) (n67 : cn.length = (12 : Nat)) (h68 : cE h 68 (.inl (.int, fA go))) (n68 : go.length = (48 : Nat)) (h69 : cE h 69 (.inl (.int, fA ch))) (n69 : ch.length = (48 : Nat)) (h77 : cE h 77 (.inl (.int, fA gt))) (n77 : gt.length = (5 : Nat)) (h78 : cE h 78 (.inl (.int, fA gd))) (n78 : gd.length = (5 : Nat)) (h79 : cE h 79 (.inl (.long, fL xs))) (n79 : xs.length = (12 : Nat)) (h80 : cE h 80 (.inl (.long, fL ys))) (n80 : ys.length = (12 : Nat)) (h70 : cE h 70 (.inl (.int, fA [ka, pa, fa, kb, pb, fb]))) (h81 : cE h 81 (.inl (.long, fL r1))) (n81 : r1.length = (201 : Nat)) (h82 : cE h 82 (.inl (.long, fL r2))) (n82 : r2.length = (201 : Nat)) (hl : h.length = (94 : Nat)) : ik_F 191 [.ref 66, fI e] h (fun rv h_q => ∃ (w' : Int) (gt' : List Int) (gd' : List Int) (xs' : List Int) (ys' : List Int) (r1' : List Int) (r2' : List Int), rv = [fI (mk_fz cn go ch s pl ka pa fa kb pb fb e)] ∧ cE h_q 66 (.inr (10, (fI pl :: .ref 67 :: .ref 68 :: .ref 69 :: fI ((s : Nat) : Int) :: .ref 70 :: .ref 71 :: fI (f 7) :: fI (f 8) :: .ref 72 :: fI (f 10) :: fI (f 11) :: fI (f 12) :: fJ (f 13) :: fI (f 14) :: fI (f 15) :: fI (f 16) :: fI (f 17) :: .ref 73 :: .ref 74 :: .ref 75 :: .ref 76 :: .ref 77 :: .ref 78 :: fI w' :: .ref 79 :: .ref 80 :: .ref 81 :: .ref 82 :: .ref 83 :: .ref 84 :: .ref 85 :: fJ (f 32) :: fJ (f 33) :: .ref 86 :: .ref 87 :: fI (f 36) :: .ref 88 :: .ref 89 :: .ref 90 :: .ref 91 :: .ref 92 :: .ref 93 :: []))) ∧ cE h_q 77 (.inl (.int, fA gt')) ∧ gt'.length = (5 : Nat) ∧ cE h_q 78 (.inl (.int, fA gd')) ∧ gd'.length = (5 : Nat) ∧ cE h_q 79 (.inl (.long, fL xs')) ∧ xs'.length = (12 : Nat) ∧ cE h_q 80 (.inl (.long, fL ys')) ∧ ys'.length = (12 : Nat) ∧ cE h_q 81 (.inl (.long, fL r1')) ∧ r1'.length = (201 : Nat) ∧ cE h_q 82 (.inl (.long, fL r2')) ∧ r2'.length = (201 : Nat) ∧ cE h_q 69 (.inl (.int, fA ch)) ∧ ch.length = (48 : Nat) ∧ hfr [66, 77, 78, 79, 80, 81, 82, 69] h h_q) := by
  refine ik_Wk 2 (pc_q := 2) (loc_q := [some (.ref 66), some (fI e), none, none, none, none, none, none]) (st_q := [fI e, .ref 66]) (h_q := h) (cl_q := 0) (sl_q := 0) rfl ?_
  refine fw_call 190 2 0 [.ref 66, fI e] [] rfl rfl rfl (Nat.le_of_ble_eq_true rfl) rfl rfl (fw_rec hl rfl h66 rfl (Nat.le_of_ble_eq_true rfl)) (cr_isFair (pl := pl) (f := fun j => ((0 :: 0 :: 0 :: 0 :: 0 :: 0 :: 0 :: f 7 :: f 8 :: 0 :: f 10 :: f 11 :: f 12 :: f 13 :: f 14 :: f 15 :: f 16 :: f 17 :: 0 :: 0 :: 0 :: 0 :: 0 :: 0 :: f 24 :: 0 :: 0 :: 0 :: 0 :: 0 :: 0 :: 0 :: f 32 :: f 33 :: 0 :: 0 :: f 36 :: 0 :: 0 :: 0 :: 0 :: 0 :: 0 :: []) : List Int).getD j 0) (s := s) (cn := cn) (go := go) (ch := ch) (gt := gt) (gd := gd) (xs := xs) (ys := ys) (ka := ka) (pa := pa) (fa := fa) (kb := kb) (pb := pb) (fb := fb) (r1 := r1) (r2 := r2) (e := e) (by omega) (by omega) q2 (by omega) (by omega) (by omega) (by omega) (by omega) (by omega) (by omega) h66 h67 n67 h68 n68 h69 n69 h77 n77 h78 n78 h79 n79 h80 n80 h70 h81 n81 h82 n82 hl) ?_
  rintro _ h_326 (⟨w'_326, gt'_326, gd'_326, xs'_326, ys'_326, r1'_326, r2'_326, rfl, e_326_66, e_326_77, m_326_77, e_326_78, m_326_78, e_326_79, m_326_79, e_326_80, m_326_80, e_326_81, m_326_81, e_326_82, m_326_82, p_326_0, F_326⟩ | ⟨w'_326, gt'_326, gd'_326, xs'_326, ys'_326, r1'_326, r2'_326, rfl, e_326_66, e_326_77, m_326_77, e_326_78, m_326_78, e_326_79, m_326_79, e_326_80, m_326_80, e_326_81, m_326_81, e_326_82, m_326_82, p_326_0, F_326⟩)
  · have k_326 : cL h_326 := F_326.1.trans hl
    have fr_326 := hfr_cb (hfr_refl [66, 77, 78, 79, 80, 81, 82, 69] h) F_326 rfl
    have g_326_67 := (hfr_g F_326 67 rfl).trans h67
    have g_326_68 := (hfr_g F_326 68 rfl).trans h68
    have g_326_69 := (hfr_g F_326 69 rfl).trans h69
    have g_326_70 := (hfr_g F_326 70 rfl).trans h70
    have g_326_66 : cE h_326 66 (.inr (10, (fI pl :: .ref 67 :: .ref 68 :: .ref 69 :: fI ((s : Nat) : Int) :: .ref 70 :: .ref 71 :: fI (f 7) :: fI (f 8) :: .ref 72 :: fI (f 10) :: fI (f 11) :: fI (f 12) :: fJ (f 13) :: fI (f 14) :: fI (f 15) :: fI (f 16) :: fI (f 17) :: .ref 73 :: .ref 74 :: .ref 75 :: .ref 76 :: .ref 77 :: .ref 78 :: fI w'_326 :: .ref 79 :: .ref 80 :: .ref 81 :: .ref 82 :: .ref 83 :: .ref 84 :: .ref 85 :: fJ (f 32) :: fJ (f 33) :: .ref 86 :: .ref 87 :: fI (f 36) :: .ref 88 :: .ref 89 :: .ref 90 :: .ref 91 :: .ref 92 :: .ref 93 :: []))) := e_326_66
    have g_326_77 : cE h_326 77 (.inl (.int, fA gt'_326)) := e_326_77
    have g_326_78 : cE h_326 78 (.inl (.int, fA gd'_326)) := e_326_78
    have g_326_79 : cE h_326 79 (.inl (.long, fL xs'_326)) := e_326_79
    have g_326_80 : cE h_326 80 (.inl (.long, fL ys'_326)) := e_326_80
    have g_326_81 : cE h_326 81 (.inl (.long, fL r1'_326)) := e_326_81
    have g_326_82 : cE h_326 82 (.inl (.long, fL r2'_326)) := e_326_82
    refine ik_Wk 0 (pc_q := 5) (loc_q := [some (.ref 66), some (fI e), none, none, none, none, none, none]) (st_q := [fI 1]) (h_q := h_326) (cl_q := 0) (sl_q := 0) rfl ?_
    refine fw_if_eq rfl rfl (by decide +kernel) (by decide +kernel) (fun hc1 => absurd hc1 (by decide +kernel)) (fun hc1 => ?_)
    refine ik_Wk 1 (pc_q := 9) (loc_q := [some (.ref 66), some (fI e), none, none, none, none, none, none]) (st_q := [fI 0]) (h_q := h_326) (cl_q := 0) (sl_q := 0) rfl ?_
    exact ik_Wret rfl rfl ⟨_, _, rfl, rfl, rfl, rfl, ⟨w'_326, gt'_326, gd'_326, xs'_326, ys'_326, r1'_326, r2'_326, (congrArg (fun z => [fI z]) (mk_fz_y p_326_0).symm), g_326_66, g_326_77, m_326_77, g_326_78, m_326_78, g_326_79, m_326_79, g_326_80, m_326_80, g_326_81, m_326_81, g_326_82, m_326_82, g_326_69, n69, fr_326⟩⟩
  · have k_326 : cL h_326 := F_326.1.trans hl
    have fr_326 := hfr_cb (hfr_refl [66, 77, 78, 79, 80, 81, 82, 69] h) F_326 rfl
    have g_326_67 := (hfr_g F_326 67 rfl).trans h67
    have g_326_68 := (hfr_g F_326 68 rfl).trans h68
    have g_326_69 := (hfr_g F_326 69 rfl).trans h69
    have g_326_70 := (hfr_g F_326 70 rfl).trans h70
    have g_326_66 : cE h_326 66 (.inr (10, (fI pl :: .ref 67 :: .ref 68 :: .ref 69 :: fI ((s : Nat) : Int) :: .ref 70 :: .ref 71 :: fI (f 7) :: fI (f 8) :: .ref 72 :: fI (f 10) :: fI (f 11) :: fI (f 12) :: fJ (f 13) :: fI (f 14) :: fI (f 15) :: fI (f 16) :: fI (f 17) :: .ref 73 :: .ref 74 :: .ref 75 :: .ref 76 :: .ref 77 :: .ref 78 :: fI w'_326 :: .ref 79 :: .ref 80 :: .ref 81 :: .ref 82 :: .ref 83 :: .ref 84 :: .ref 85 :: fJ (f 32) :: fJ (f 33) :: .ref 86 :: .ref 87 :: fI (f 36) :: .ref 88 :: .ref 89 :: .ref 90 :: .ref 91 :: .ref 92 :: .ref 93 :: []))) := e_326_66
    have g_326_77 : cE h_326 77 (.inl (.int, fA gt'_326)) := e_326_77
    have g_326_78 : cE h_326 78 (.inl (.int, fA gd'_326)) := e_326_78
    have g_326_79 : cE h_326 79 (.inl (.long, fL xs'_326)) := e_326_79
    have g_326_80 : cE h_326 80 (.inl (.long, fL ys'_326)) := e_326_80
    have g_326_81 : cE h_326 81 (.inl (.long, fL r1'_326)) := e_326_81
    have g_326_82 : cE h_326 82 (.inl (.long, fL r2'_326)) := e_326_82
    refine ik_Wk 0 (pc_q := 5) (loc_q := [some (.ref 66), some (fI e), none, none, none, none, none, none]) (st_q := [fI 0]) (h_q := h_326) (cl_q := 0) (sl_q := 0) rfl ?_
    refine fw_if_eq rfl rfl (by decide +kernel) (by decide +kernel) (fun hc2 => ?_) (fun hc2 => absurd hc2 (by decide +kernel))
    refine ik_Wk 2 (pc_q := 12) (loc_q := [some (.ref 66), some (fI e), some (fI 1), none, none, none, none, none]) (st_q := []) (h_q := h_326) (cl_q := 0) (sl_q := 0) rfl ?_
    have hz : ¬ mk_gap cn go ch s pl ka pa fa kb pb fb ≤ e := by omega
    exact cr_fairN (pl := pl) (f := f) (s := s) (cn := cn) (go := go) (ch := ch) (gt := gt) (gd := gd) (xs := xs) (ys := ys) (ka := ka) (pa := pa) (fa := fa) (kb := kb) (pb := pb) (fb := fb) (r1 := r1) (r2 := r2) (e := e) q0 q1 q2 q3 q4 q5 q6 q7 q8 q9  21 1 w'_326 gt'_326 gd'_326 xs'_326 ys'_326 r1'_326 r2'_326 none none none none none h_326 g_326_66 g_326_67 n67 g_326_68 n68 g_326_69 n69 g_326_77 m_326_77 g_326_78 m_326_78 g_326_79 m_326_79 g_326_80 m_326_80 g_326_70 g_326_81 m_326_81 g_326_82 m_326_82 k_326 fr_326 (by omega) (mk_fz_n hz) rfl rfl rfl rfl rfl (by omega)

end