noncomputable section
/-! the class: its calls that seek (written by wip/fx/u19.py) -/
theorem an_fw_fo {Z z0 z1 z2 z3 what : Int} (h : mk_fo Z z0 z1 z2 z3) (hw : 0 ≤ what ∧ what ≤ 3) : ([z0, z1, z2, z3] : List Int).getD what.toNat 0 = an_fw Z what := by
  unfold an_fw
  rcases h with ⟨a, b, c, d, e⟩ | ⟨a, b, c, d, e⟩
  · rw [if_pos a]
    rcases (by omega : what = 0 ∨ what = 1 ∨ what = 2 ∨ what = 3) with w | w | w | w
    · subst w; rw [if_pos rfl]; exact b
    · subst w; rw [if_neg (by decide +kernel)]; exact c
    · subst w; rw [if_neg (by decide +kernel)]; exact d
    · subst w; rw [if_neg (by decide +kernel)]; exact e
  · rw [if_neg (show ¬ Z ≤ 0 by omega)]
    rcases (by omega : what = 0 ∨ what = 1 ∨ what = 2 ∨ what = 3) with w | w | w | w
    · subst w; rw [if_pos rfl]; exact b
    · subst w; rw [if_neg (by decide +kernel), if_pos rfl]; exact c
    · subst w; rw [if_neg (by decide +kernel), if_neg (by decide +kernel), if_pos rfl]; exact d
    · subst w; rw [if_neg (by decide +kernel), if_neg (by decide +kernel), if_neg (by decide +kernel)]; exact e
theorem cp_comes {h : List ik_E} {pl : Int} {lo : Int} {s : Nat} {bo : Int} {wg : List Int} {wc : List Int} {we : List Int} {W : Int → List (Int × Int)} {kd : Int} {p : Int} {t : Int} (q0 : 0 ≤ pl ∧ pl ≤ 12) (q1 : ∀ x : Int, (0 : Int) ≤ x → x < pl - 1 → mx_wy wg wc we x (W x)) (q2 : ∀ x : Int, (0 : Int) ≤ x → x < pl - 1 → mx_ok pl (W x)) (q3 : (-2147483648 : Int) ≤ kd ∧ kd < (2147483648 : Int)) (q4 : (-2147483648 : Int) ≤ p ∧ p < (2147483648 : Int)) (q5 : (-2147483648 : Int) ≤ t ∧ t < (2147483648 : Int)) (h0 : cE h 0 (.inr (9, [.ref 1, .ref 7, .ref 14, .ref 17, .ref 45, .ref 51, .ref 54, .ref 57]))) (h7 : cE h 7 (.inr (0, [fI pl, fI ((s : Nat) : Int), fI lo, .ref 8, .ref 9, .ref 10, .ref 11, .ref 12, .ref 13]))) (h11 : cE h 11 (.inl (.int, fA wg))) (n11 : wg.length = (60 : Nat)) (h12 : cE h 12 (.inl (.int, fA wc))) (n12 : wc.length = (60 : Nat)) (h13 : cE h 13 (.inl (.int, fA we))) (n13 : we.length = (12 : Nat)) (h17 : cE h 17 (.inr (8, [.ref 7, .ref 15, .ref 18, .ref 19, fJ bo, .ref 20]))) (h18 : cE h 18 (.inl (.object "SlowerCork$Course", [.ref 21, .ref 25, .ref 29, .ref 33, .ref 37, .ref 41]))) (h21 : mf_cr h 21 ) (hl : h.length = (94 : Nat)) : ik_F 96 [.ref 0, fI kd, fI p, fI t] h (fun rv h_q => rv = [fI (an_kp kd p pl t (mf_cm W (pl - 1) kd p t.toNat))] ∧ mf_cr h_q 21  ∧ hfr [21, 22, 23, 24] h h_q) := by
  refine ik_Wk 1 (pc_q := 1) (loc_q := [some (.ref 0), some (fI kd), some (fI p), some (fI t)]) (st_q := [fI kd]) (h_q := h) (cl_q := 0) (sl_q := 0) rfl ?_
  refine ik_Wc 122 1 3 [fI kd] [] rfl rfl rfl (by decide +kernel) rfl rfl (fw_sta hl rfl (by decide +kernel)) ?_
  refine ik_Wk 0 (pc_q := 0) (loc_q := [some (fI kd)]) (st_q := []) (h_q := h) (cl_q := 0) (sl_q := 0) rfl ?_
  refine ik_Wk 1 (pc_q := 1) (loc_q := [some (fI kd)]) (st_q := [fI kd]) (h_q := h) (cl_q := 0) (sl_q := 0) rfl ?_
  refine fw_if_lt rfl rfl (by omega) (by omega) (fun hc1 => ?_) (fun hc1 => ?_)
  · refine ik_Wk 1 (pc_q := 14) (loc_q := [some (fI kd)]) (st_q := [fI 0]) (h_q := h) (cl_q := 0) (sl_q := 0) rfl ?_
    refine ik_Wret rfl rfl ⟨_, _, rfl, rfl, ?_⟩
    refine ik_Wk 0 (pc_q := 4) (loc_q := [some (.ref 0), some (fI kd), some (fI p), some (fI t)]) (st_q := [fI 0]) (h_q := h) (cl_q := 0) (sl_q := 0) rfl ?_
    refine fw_if_eq rfl rfl (by decide +kernel) (by decide +kernel) (fun hc2 => ?_) (fun hc2 => absurd hc2 (by decide +kernel))
    refine fw_ld (-1000000001) rfl rfl (by decide +kernel) ?_
    exact ik_Wret rfl rfl ⟨_, _, rfl, rfl, rfl, rfl, ⟨(congrArg (fun z => [fI z]) (by unfold an_kp; (repeat' split) <;> first | rfl | omega)), h21, (hfr_refl [21, 22, 23, 24] h)⟩⟩
  · refine ik_Wk 2 (pc_q := 6) (loc_q := [some (fI kd)]) (st_q := [fI 2, fI kd]) (h_q := h) (cl_q := 0) (sl_q := 0) rfl ?_
    refine fw_ic_gt rfl rfl (by omega) (by omega) (by omega) (by omega) (fun hc3 => ?_) (fun hc3 => ?_)
    · refine ik_Wk 1 (pc_q := 14) (loc_q := [some (fI kd)]) (st_q := [fI 0]) (h_q := h) (cl_q := 0) (sl_q := 0) rfl ?_
      refine ik_Wret rfl rfl ⟨_, _, rfl, rfl, ?_⟩
      refine ik_Wk 0 (pc_q := 4) (loc_q := [some (.ref 0), some (fI kd), some (fI p), some (fI t)]) (st_q := [fI 0]) (h_q := h) (cl_q := 0) (sl_q := 0) rfl ?_
      refine fw_if_eq rfl rfl (by decide +kernel) (by decide +kernel) (fun hc4 => ?_) (fun hc4 => absurd hc4 (by decide +kernel))
      refine fw_ld (-1000000001) rfl rfl (by decide +kernel) ?_
      exact ik_Wret rfl rfl ⟨_, _, rfl, rfl, rfl, rfl, ⟨(congrArg (fun z => [fI z]) (by unfold an_kp; (repeat' split) <;> first | rfl | omega)), h21, (hfr_refl [21, 22, 23, 24] h)⟩⟩
    · refine ik_Wk 2 (pc_q := 14) (loc_q := [some (fI kd)]) (st_q := [fI 1]) (h_q := h) (cl_q := 0) (sl_q := 0) rfl ?_
      refine ik_Wret rfl rfl ⟨_, _, rfl, rfl, ?_⟩
      refine ik_Wk 0 (pc_q := 4) (loc_q := [some (.ref 0), some (fI kd), some (fI p), some (fI t)]) (st_q := [fI 1]) (h_q := h) (cl_q := 0) (sl_q := 0) rfl ?_
      refine fw_if_eq rfl rfl (by decide +kernel) (by decide +kernel) (fun hc5 => absurd hc5 (by decide +kernel)) (fun hc5 => ?_)
      refine ik_Wk 1 (pc_q := 8) (loc_q := [some (.ref 0), some (fI kd), some (fI p), some (fI t)]) (st_q := [.ref 0]) (h_q := h) (cl_q := 0) (sl_q := 0) rfl ?_
      refine fw_gf rfl rfl h0 rfl ?_
      refine ik_Wk 1 (pc_q := 12) (loc_q := [some (.ref 0), some (fI kd), some (fI p), some (fI t)]) (st_q := [fI p, .ref 7]) (h_q := h) (cl_q := 0) (sl_q := 0) rfl ?_
      refine ik_Wc 3 2 0 [.ref 7, fI p] [] rfl rfl rfl (by decide +kernel) rfl rfl (fw_rec hl rfl h7 rfl (Nat.le_of_ble_eq_true rfl)) ?_
      refine ik_Wk 0 (pc_q := 0) (loc_q := [some (.ref 7), some (fI p)]) (st_q := []) (h_q := h) (cl_q := 0) (sl_q := 0) rfl ?_
      refine ik_Wk 1 (pc_q := 1) (loc_q := [some (.ref 7), some (fI p)]) (st_q := [fI p]) (h_q := h) (cl_q := 0) (sl_q := 0) rfl ?_
      refine fw_if_lt rfl rfl (by omega) (by omega) (fun hc6 => ?_) (fun hc6 => ?_)
      · refine ik_Wk 1 (pc_q := 17) (loc_q := [some (.ref 7), some (fI p)]) (st_q := [fI 0]) (h_q := h) (cl_q := 0) (sl_q := 0) rfl ?_
        refine ik_Wret rfl rfl ⟨_, _, rfl, rfl, ?_⟩
        refine ik_Wk 0 (pc_q := 15) (loc_q := [some (.ref 0), some (fI kd), some (fI p), some (fI t)]) (st_q := [fI 0]) (h_q := h) (cl_q := 0) (sl_q := 0) rfl ?_
        refine fw_if_ne rfl rfl (by decide +kernel) (by decide +kernel) (fun hc7 => ?_) (fun hc7 => absurd hc7 (by decide +kernel))
        refine fw_ld (-1000000001) rfl rfl (by decide +kernel) ?_
        exact ik_Wret rfl rfl ⟨_, _, rfl, rfl, rfl, rfl, ⟨(congrArg (fun z => [fI z]) (by unfold an_kp; (repeat' split) <;> first | rfl | omega)), h21, (hfr_refl [21, 22, 23, 24] h)⟩⟩
      · refine ik_Wk 2 (pc_q := 6) (loc_q := [some (.ref 7), some (fI p)]) (st_q := [.ref 7, fI p]) (h_q := h) (cl_q := 0) (sl_q := 0) rfl ?_
        refine fw_gf rfl rfl h7 rfl ?_
        refine fw_ic_ge rfl rfl (by omega) (by omega) (by omega) (by omega) (fun hc8 => ?_) (fun hc8 => ?_)
        · refine ik_Wk 1 (pc_q := 17) (loc_q := [some (.ref 7), some (fI p)]) (st_q := [fI 0]) (h_q := h) (cl_q := 0) (sl_q := 0) rfl ?_
          refine ik_Wret rfl rfl ⟨_, _, rfl, rfl, ?_⟩
          refine ik_Wk 0 (pc_q := 15) (loc_q := [some (.ref 0), some (fI kd), some (fI p), some (fI t)]) (st_q := [fI 0]) (h_q := h) (cl_q := 0) (sl_q := 0) rfl ?_
          refine fw_if_ne rfl rfl (by decide +kernel) (by decide +kernel) (fun hc9 => ?_) (fun hc9 => absurd hc9 (by decide +kernel))
          refine fw_ld (-1000000001) rfl rfl (by decide +kernel) ?_
          exact ik_Wret rfl rfl ⟨_, _, rfl, rfl, rfl, rfl, ⟨(congrArg (fun z => [fI z]) (by unfold an_kp; (repeat' split) <;> first | rfl | omega)), h21, (hfr_refl [21, 22, 23, 24] h)⟩⟩
        · refine ik_Wk 2 (pc_q := 17) (loc_q := [some (.ref 7), some (fI p)]) (st_q := [fI 1]) (h_q := h) (cl_q := 0) (sl_q := 0) rfl ?_
          refine ik_Wret rfl rfl ⟨_, _, rfl, rfl, ?_⟩
          refine ik_Wk 0 (pc_q := 15) (loc_q := [some (.ref 0), some (fI kd), some (fI p), some (fI t)]) (st_q := [fI 1]) (h_q := h) (cl_q := 0) (sl_q := 0) rfl ?_
          refine fw_if_ne rfl rfl (by decide +kernel) (by decide +kernel) (fun hc10 => absurd hc10 (by decide +kernel)) (fun hc10 => ?_)
          refine ik_Wk 1 (pc_q := 22) (loc_q := [some (.ref 0), some (fI kd), some (fI p), some (fI t)]) (st_q := [fI t]) (h_q := h) (cl_q := 0) (sl_q := 0) rfl ?_
          refine ik_Wc 123 1 3 [fI t] [] rfl rfl rfl (by decide +kernel) rfl rfl (fw_sta hl rfl (by decide +kernel)) ?_
          refine ik_Wk 0 (pc_q := 0) (loc_q := [some (fI t)]) (st_q := []) (h_q := h) (cl_q := 0) (sl_q := 0) rfl ?_
          refine ik_Wk 1 (pc_q := 1) (loc_q := [some (fI t)]) (st_q := [fI t]) (h_q := h) (cl_q := 0) (sl_q := 0) rfl ?_
          refine fw_if_lt rfl rfl (by omega) (by omega) (fun hc11 => ?_) (fun hc11 => ?_)
          · refine ik_Wk 1 (pc_q := 16) (loc_q := [some (fI t)]) (st_q := [fI 0]) (h_q := h) (cl_q := 0) (sl_q := 0) rfl ?_
            refine ik_Wret rfl rfl ⟨_, _, rfl, rfl, ?_⟩
            refine ik_Wk 0 (pc_q := 25) (loc_q := [some (.ref 0), some (fI kd), some (fI p), some (fI t)]) (st_q := [fI 0]) (h_q := h) (cl_q := 0) (sl_q := 0) rfl ?_
            refine fw_if_ne rfl rfl (by decide +kernel) (by decide +kernel) (fun hc12 => ?_) (fun hc12 => absurd hc12 (by decide +kernel))
            refine fw_ld (-1000000002) rfl rfl (by decide +kernel) ?_
            exact ik_Wret rfl rfl ⟨_, _, rfl, rfl, rfl, rfl, ⟨(congrArg (fun z => [fI z]) (by unfold an_kp; (repeat' split) <;> first | rfl | omega)), h21, (hfr_refl [21, 22, 23, 24] h)⟩⟩
          · refine ik_Wk 1 (pc_q := 5) (loc_q := [some (fI t)]) (st_q := [fI t]) (h_q := h) (cl_q := 0) (sl_q := 0) rfl ?_
            refine fw_si rfl (by decide +kernel) ?_
            refine fw_ic_gt rfl rfl (by omega) (by omega) (by omega) (by omega) (fun hc13 => ?_) (fun hc13 => ?_)
            · refine ik_Wk 1 (pc_q := 16) (loc_q := [some (fI t)]) (st_q := [fI 0]) (h_q := h) (cl_q := 0) (sl_q := 0) rfl ?_
              refine ik_Wret rfl rfl ⟨_, _, rfl, rfl, ?_⟩
              refine ik_Wk 0 (pc_q := 25) (loc_q := [some (.ref 0), some (fI kd), some (fI p), some (fI t)]) (st_q := [fI 0]) (h_q := h) (cl_q := 0) (sl_q := 0) rfl ?_
              refine fw_if_ne rfl rfl (by decide +kernel) (by decide +kernel) (fun hc14 => ?_) (fun hc14 => absurd hc14 (by decide +kernel))
              refine fw_ld (-1000000002) rfl rfl (by decide +kernel) ?_
              exact ik_Wret rfl rfl ⟨_, _, rfl, rfl, rfl, rfl, ⟨(congrArg (fun z => [fI z]) (by unfold an_kp; (repeat' split) <;> first | rfl | omega)), h21, (hfr_refl [21, 22, 23, 24] h)⟩⟩
            · refine ik_Wk 2 (pc_q := 16) (loc_q := [some (fI t)]) (st_q := [fI 1]) (h_q := h) (cl_q := 0) (sl_q := 0) rfl ?_
              refine ik_Wret rfl rfl ⟨_, _, rfl, rfl, ?_⟩
              refine ik_Wk 0 (pc_q := 25) (loc_q := [some (.ref 0), some (fI kd), some (fI p), some (fI t)]) (st_q := [fI 1]) (h_q := h) (cl_q := 0) (sl_q := 0) rfl ?_
              refine fw_if_ne rfl rfl (by decide +kernel) (by decide +kernel) (fun hc15 => absurd hc15 (by decide +kernel)) (fun hc15 => ?_)
              refine ik_Wk 1 (pc_q := 32) (loc_q := [some (.ref 0), some (fI kd), some (fI p), some (fI t)]) (st_q := [.ref 0]) (h_q := h) (cl_q := 0) (sl_q := 0) rfl ?_
              refine fw_gf rfl rfl h0 rfl ?_
              refine fw_gf rfl rfl h17 rfl ?_
              refine ik_Wk 1 (pc_q := 39) (loc_q := [some (.ref 0), some (fI kd), some (fI p), some (fI t)]) (st_q := [fI 0, .ref 18]) (h_q := h) (cl_q := 0) (sl_q := 0) rfl ?_
              refine fx_aal (z := 0) rfl h18 (by decide +kernel) (by decide +kernel) rfl ?_
              refine ik_Wk 2 (pc_q := 42) (loc_q := [some (.ref 0), some (fI kd), some (fI p), some (fI t)]) (st_q := [fI p, fI kd, .ref 21]) (h_q := h) (cl_q := 0) (sl_q := 0) rfl ?_
              refine fw_call 30 3 0 [.ref 21, fI kd, fI p] [] rfl rfl rfl (Nat.le_of_ble_eq_true rfl) rfl rfl (fw_rec hl rfl (mf_cr_o h21).choose_spec rfl (by decide +kernel)) (cs_setIn (C := 21) (pl := pl) (lo := lo) (s := s) (kd := kd) (qp := p) (W := W) (by omega) (by omega) (by omega) h7 h21 hl) ?_
              rintro _ h_365 ⟨rfl, e_365_C, F_365⟩
              have k_365 : cL h_365 := F_365.1.trans hl
              have fr_365 := hfr_cb (hfr_refl [21, 22, 23, 24] h) F_365 rfl
              have g_365_0 := (hfr_g F_365 0 rfl).trans h0
              have g_365_7 := (hfr_g F_365 7 rfl).trans h7
              have g_365_11 := (hfr_g F_365 11 rfl).trans h11
              have g_365_12 := (hfr_g F_365 12 rfl).trans h12
              have g_365_13 := (hfr_g F_365 13 rfl).trans h13
              have g_365_17 := (hfr_g F_365 17 rfl).trans h17
              have g_365_18 := (hfr_g F_365 18 rfl).trans h18
              have g_365_21 : mf_cv h_365 21 W pl kd p 0 := e_365_C
              refine ik_Wk 0 (pc_q := 45) (loc_q := [some (.ref 0), some (fI kd), some (fI p), some (fI t)]) (st_q := [.ref 21]) (h_q := h_365) (cl_q := 0) (sl_q := 0) rfl ?_
              refine ik_Wk 1 (pc_q := 46) (loc_q := [some (.ref 0), some (fI kd), some (fI p), some (fI t)]) (st_q := [fI t, .ref 21]) (h_q := h_365) (cl_q := 0) (sl_q := 0) rfl ?_
              refine fw_call 31 2 0 [.ref 21, fI t] [] rfl rfl rfl (Nat.le_of_ble_eq_true rfl) rfl rfl (fw_rec k_365 rfl (mf_cv_o g_365_21).choose_spec rfl (by decide +kernel)) (cs_come (C := 21) (pl := pl) (lo := lo) (s := s) (t := t) (kd := kd) (qp := p) (ut := 0) (wg := wg) (wc := wc) (we := we) (W := W) (by omega) (by omega) (by omega) (by omega) q1 q2 (by omega) g_365_7 g_365_11 n11 g_365_12 n12 g_365_13 n13 g_365_21 k_365) ?_
              rintro _ h_366 ⟨u'_366, rfl, e_366_C, p_366_0, F_366⟩
              have k_366 : cL h_366 := F_366.1.trans k_365
              have fr_366 := hfr_cb fr_365 F_366 rfl
              have g_366_0 := (hfr_g F_366 0 rfl).trans g_365_0
              have g_366_7 := (hfr_g F_366 7 rfl).trans g_365_7
              have g_366_11 := (hfr_g F_366 11 rfl).trans g_365_11
              have g_366_12 := (hfr_g F_366 12 rfl).trans g_365_12
              have g_366_13 := (hfr_g F_366 13 rfl).trans g_365_13
              have g_366_17 := (hfr_g F_366 17 rfl).trans g_365_17
              have g_366_18 := (hfr_g F_366 18 rfl).trans g_365_18
              have g_366_21 : mf_cv h_366 21 W pl kd p u'_366 := e_366_C
              refine ik_Wk 0 (pc_q := 49) (loc_q := [some (.ref 0), some (fI kd), some (fI p), some (fI t)]) (st_q := [fI (mf_ct W pl kd p t)]) (h_q := h_366) (cl_q := 0) (sl_q := 0) rfl ?_
              have ev : mf_ct W pl kd p t = mf_cm W (pl - 1) kd p t.toNat := if_pos ⟨by omega, by omega⟩
              exact ik_Wret rfl rfl ⟨_, _, rfl, rfl, rfl, rfl, ⟨(congrArg (fun z => [fI z]) (by rw [ev]; unfold an_kp; (repeat' split) <;> first | rfl | omega)), (mf_cv_r g_366_21), fr_366⟩⟩

theorem cp_at {h : List ik_E} {pl : Int} {lo : Int} {s : Nat} {bo : Int} {wg : List Int} {wc : List Int} {we : List Int} {W : Int → List (Int × Int)} {kd : Int} {p : Int} {t : Int} {q : Int} (q0 : 0 ≤ pl ∧ pl ≤ 12) (q1 : ∀ x : Int, (0 : Int) ≤ x → x < pl - 1 → mx_wy wg wc we x (W x)) (q2 : ∀ x : Int, (0 : Int) ≤ x → x < pl - 1 → mx_ok pl (W x)) (q3 : (-2147483648 : Int) ≤ kd ∧ kd < (2147483648 : Int)) (q4 : (-2147483648 : Int) ≤ p ∧ p < (2147483648 : Int)) (q5 : (-2147483648 : Int) ≤ t ∧ t < (2147483648 : Int)) (q6 : (-2147483648 : Int) ≤ q ∧ q < (2147483648 : Int)) (h0 : cE h 0 (.inr (9, [.ref 1, .ref 7, .ref 14, .ref 17, .ref 45, .ref 51, .ref 54, .ref 57]))) (h7 : cE h 7 (.inr (0, [fI pl, fI ((s : Nat) : Int), fI lo, .ref 8, .ref 9, .ref 10, .ref 11, .ref 12, .ref 13]))) (h11 : cE h 11 (.inl (.int, fA wg))) (n11 : wg.length = (60 : Nat)) (h12 : cE h 12 (.inl (.int, fA wc))) (n12 : wc.length = (60 : Nat)) (h13 : cE h 13 (.inl (.int, fA we))) (n13 : we.length = (12 : Nat)) (h17 : cE h 17 (.inr (8, [.ref 7, .ref 15, .ref 18, .ref 19, fJ bo, .ref 20]))) (h18 : cE h 18 (.inl (.object "SlowerCork$Course", [.ref 21, .ref 25, .ref 29, .ref 33, .ref 37, .ref 41]))) (h21 : mf_cr h 21 ) (hl : h.length = (94 : Nat)) : ik_F 97 [.ref 0, fI kd, fI p, fI t, fI q] h (fun rv h_q => rv = [fI (an_kpq kd p q pl t (mf_od W (pl - 1) kd p t.toNat q.toNat))] ∧ mf_cr h_q 21  ∧ hfr [21, 22, 23, 24] h h_q) := by
  refine ik_Wk 1 (pc_q := 1) (loc_q := [some (.ref 0), some (fI kd), some (fI p), some (fI t), some (fI q)]) (st_q := [fI kd]) (h_q := h) (cl_q := 0) (sl_q := 0) rfl ?_
  refine ik_Wc 122 1 3 [fI kd] [] rfl rfl rfl (by decide +kernel) rfl rfl (fw_sta hl rfl (by decide +kernel)) ?_
  refine ik_Wk 0 (pc_q := 0) (loc_q := [some (fI kd)]) (st_q := []) (h_q := h) (cl_q := 0) (sl_q := 0) rfl ?_
  refine ik_Wk 1 (pc_q := 1) (loc_q := [some (fI kd)]) (st_q := [fI kd]) (h_q := h) (cl_q := 0) (sl_q := 0) rfl ?_
  refine fw_if_lt rfl rfl (by omega) (by omega) (fun hc1 => ?_) (fun hc1 => ?_)
  · refine ik_Wk 1 (pc_q := 14) (loc_q := [some (fI kd)]) (st_q := [fI 0]) (h_q := h) (cl_q := 0) (sl_q := 0) rfl ?_
    refine ik_Wret rfl rfl ⟨_, _, rfl, rfl, ?_⟩
    refine ik_Wk 0 (pc_q := 4) (loc_q := [some (.ref 0), some (fI kd), some (fI p), some (fI t), some (fI q)]) (st_q := [fI 0]) (h_q := h) (cl_q := 0) (sl_q := 0) rfl ?_
    refine fw_if_eq rfl rfl (by decide +kernel) (by decide +kernel) (fun hc2 => ?_) (fun hc2 => absurd hc2 (by decide +kernel))
    refine fw_ld (-1000000001) rfl rfl (by decide +kernel) ?_
    exact ik_Wret rfl rfl ⟨_, _, rfl, rfl, rfl, rfl, ⟨(congrArg (fun z => [fI z]) (by unfold an_kpq; (repeat' split) <;> first | rfl | omega)), h21, (hfr_refl [21, 22, 23, 24] h)⟩⟩
  · refine ik_Wk 2 (pc_q := 6) (loc_q := [some (fI kd)]) (st_q := [fI 2, fI kd]) (h_q := h) (cl_q := 0) (sl_q := 0) rfl ?_
    refine fw_ic_gt rfl rfl (by omega) (by omega) (by omega) (by omega) (fun hc3 => ?_) (fun hc3 => ?_)
    · refine ik_Wk 1 (pc_q := 14) (loc_q := [some (fI kd)]) (st_q := [fI 0]) (h_q := h) (cl_q := 0) (sl_q := 0) rfl ?_
      refine ik_Wret rfl rfl ⟨_, _, rfl, rfl, ?_⟩
      refine ik_Wk 0 (pc_q := 4) (loc_q := [some (.ref 0), some (fI kd), some (fI p), some (fI t), some (fI q)]) (st_q := [fI 0]) (h_q := h) (cl_q := 0) (sl_q := 0) rfl ?_
      refine fw_if_eq rfl rfl (by decide +kernel) (by decide +kernel) (fun hc4 => ?_) (fun hc4 => absurd hc4 (by decide +kernel))
      refine fw_ld (-1000000001) rfl rfl (by decide +kernel) ?_
      exact ik_Wret rfl rfl ⟨_, _, rfl, rfl, rfl, rfl, ⟨(congrArg (fun z => [fI z]) (by unfold an_kpq; (repeat' split) <;> first | rfl | omega)), h21, (hfr_refl [21, 22, 23, 24] h)⟩⟩
    · refine ik_Wk 2 (pc_q := 14) (loc_q := [some (fI kd)]) (st_q := [fI 1]) (h_q := h) (cl_q := 0) (sl_q := 0) rfl ?_
      refine ik_Wret rfl rfl ⟨_, _, rfl, rfl, ?_⟩
      refine ik_Wk 0 (pc_q := 4) (loc_q := [some (.ref 0), some (fI kd), some (fI p), some (fI t), some (fI q)]) (st_q := [fI 1]) (h_q := h) (cl_q := 0) (sl_q := 0) rfl ?_
      refine fw_if_eq rfl rfl (by decide +kernel) (by decide +kernel) (fun hc5 => absurd hc5 (by decide +kernel)) (fun hc5 => ?_)
      refine ik_Wk 1 (pc_q := 8) (loc_q := [some (.ref 0), some (fI kd), some (fI p), some (fI t), some (fI q)]) (st_q := [.ref 0]) (h_q := h) (cl_q := 0) (sl_q := 0) rfl ?_
      refine fw_gf rfl rfl h0 rfl ?_
      refine ik_Wk 1 (pc_q := 12) (loc_q := [some (.ref 0), some (fI kd), some (fI p), some (fI t), some (fI q)]) (st_q := [fI p, .ref 7]) (h_q := h) (cl_q := 0) (sl_q := 0) rfl ?_
      refine ik_Wc 3 2 0 [.ref 7, fI p] [] rfl rfl rfl (by decide +kernel) rfl rfl (fw_rec hl rfl h7 rfl (Nat.le_of_ble_eq_true rfl)) ?_
      refine ik_Wk 0 (pc_q := 0) (loc_q := [some (.ref 7), some (fI p)]) (st_q := []) (h_q := h) (cl_q := 0) (sl_q := 0) rfl ?_
      refine ik_Wk 1 (pc_q := 1) (loc_q := [some (.ref 7), some (fI p)]) (st_q := [fI p]) (h_q := h) (cl_q := 0) (sl_q := 0) rfl ?_
      refine fw_if_lt rfl rfl (by omega) (by omega) (fun hc6 => ?_) (fun hc6 => ?_)
      · refine ik_Wk 1 (pc_q := 17) (loc_q := [some (.ref 7), some (fI p)]) (st_q := [fI 0]) (h_q := h) (cl_q := 0) (sl_q := 0) rfl ?_
        refine ik_Wret rfl rfl ⟨_, _, rfl, rfl, ?_⟩
        refine ik_Wk 0 (pc_q := 15) (loc_q := [some (.ref 0), some (fI kd), some (fI p), some (fI t), some (fI q)]) (st_q := [fI 0]) (h_q := h) (cl_q := 0) (sl_q := 0) rfl ?_
        refine fw_if_eq rfl rfl (by decide +kernel) (by decide +kernel) (fun hc7 => ?_) (fun hc7 => absurd hc7 (by decide +kernel))
        refine fw_ld (-1000000001) rfl rfl (by decide +kernel) ?_
        exact ik_Wret rfl rfl ⟨_, _, rfl, rfl, rfl, rfl, ⟨(congrArg (fun z => [fI z]) (by unfold an_kpq; (repeat' split) <;> first | rfl | omega)), h21, (hfr_refl [21, 22, 23, 24] h)⟩⟩
      · refine ik_Wk 2 (pc_q := 6) (loc_q := [some (.ref 7), some (fI p)]) (st_q := [.ref 7, fI p]) (h_q := h) (cl_q := 0) (sl_q := 0) rfl ?_
        refine fw_gf rfl rfl h7 rfl ?_
        refine fw_ic_ge rfl rfl (by omega) (by omega) (by omega) (by omega) (fun hc8 => ?_) (fun hc8 => ?_)
        · refine ik_Wk 1 (pc_q := 17) (loc_q := [some (.ref 7), some (fI p)]) (st_q := [fI 0]) (h_q := h) (cl_q := 0) (sl_q := 0) rfl ?_
          refine ik_Wret rfl rfl ⟨_, _, rfl, rfl, ?_⟩
          refine ik_Wk 0 (pc_q := 15) (loc_q := [some (.ref 0), some (fI kd), some (fI p), some (fI t), some (fI q)]) (st_q := [fI 0]) (h_q := h) (cl_q := 0) (sl_q := 0) rfl ?_
          refine fw_if_eq rfl rfl (by decide +kernel) (by decide +kernel) (fun hc9 => ?_) (fun hc9 => absurd hc9 (by decide +kernel))
          refine fw_ld (-1000000001) rfl rfl (by decide +kernel) ?_
          exact ik_Wret rfl rfl ⟨_, _, rfl, rfl, rfl, rfl, ⟨(congrArg (fun z => [fI z]) (by unfold an_kpq; (repeat' split) <;> first | rfl | omega)), h21, (hfr_refl [21, 22, 23, 24] h)⟩⟩
        · refine ik_Wk 2 (pc_q := 17) (loc_q := [some (.ref 7), some (fI p)]) (st_q := [fI 1]) (h_q := h) (cl_q := 0) (sl_q := 0) rfl ?_
          refine ik_Wret rfl rfl ⟨_, _, rfl, rfl, ?_⟩
          refine ik_Wk 0 (pc_q := 15) (loc_q := [some (.ref 0), some (fI kd), some (fI p), some (fI t), some (fI q)]) (st_q := [fI 1]) (h_q := h) (cl_q := 0) (sl_q := 0) rfl ?_
          refine fw_if_eq rfl rfl (by decide +kernel) (by decide +kernel) (fun hc10 => absurd hc10 (by decide +kernel)) (fun hc10 => ?_)
          refine ik_Wk 1 (pc_q := 19) (loc_q := [some (.ref 0), some (fI kd), some (fI p), some (fI t), some (fI q)]) (st_q := [.ref 0]) (h_q := h) (cl_q := 0) (sl_q := 0) rfl ?_
          refine fw_gf rfl rfl h0 rfl ?_
          refine ik_Wk 1 (pc_q := 24) (loc_q := [some (.ref 0), some (fI kd), some (fI p), some (fI t), some (fI q)]) (st_q := [fI q, .ref 7]) (h_q := h) (cl_q := 0) (sl_q := 0) rfl ?_
          refine ik_Wc 3 2 0 [.ref 7, fI q] [] rfl rfl rfl (by decide +kernel) rfl rfl (fw_rec hl rfl h7 rfl (Nat.le_of_ble_eq_true rfl)) ?_
          refine ik_Wk 0 (pc_q := 0) (loc_q := [some (.ref 7), some (fI q)]) (st_q := []) (h_q := h) (cl_q := 0) (sl_q := 0) rfl ?_
          refine ik_Wk 1 (pc_q := 1) (loc_q := [some (.ref 7), some (fI q)]) (st_q := [fI q]) (h_q := h) (cl_q := 0) (sl_q := 0) rfl ?_
          refine fw_if_lt rfl rfl (by omega) (by omega) (fun hc11 => ?_) (fun hc11 => ?_)
          · refine ik_Wk 1 (pc_q := 17) (loc_q := [some (.ref 7), some (fI q)]) (st_q := [fI 0]) (h_q := h) (cl_q := 0) (sl_q := 0) rfl ?_
            refine ik_Wret rfl rfl ⟨_, _, rfl, rfl, ?_⟩
            refine ik_Wk 0 (pc_q := 27) (loc_q := [some (.ref 0), some (fI kd), some (fI p), some (fI t), some (fI q)]) (st_q := [fI 0]) (h_q := h) (cl_q := 0) (sl_q := 0) rfl ?_
            refine fw_if_ne rfl rfl (by decide +kernel) (by decide +kernel) (fun hc12 => ?_) (fun hc12 => absurd hc12 (by decide +kernel))
            refine fw_ld (-1000000001) rfl rfl (by decide +kernel) ?_
            exact ik_Wret rfl rfl ⟨_, _, rfl, rfl, rfl, rfl, ⟨(congrArg (fun z => [fI z]) (by unfold an_kpq; (repeat' split) <;> first | rfl | omega)), h21, (hfr_refl [21, 22, 23, 24] h)⟩⟩
          · refine ik_Wk 2 (pc_q := 6) (loc_q := [some (.ref 7), some (fI q)]) (st_q := [.ref 7, fI q]) (h_q := h) (cl_q := 0) (sl_q := 0) rfl ?_
            refine fw_gf rfl rfl h7 rfl ?_
            refine fw_ic_ge rfl rfl (by omega) (by omega) (by omega) (by omega) (fun hc13 => ?_) (fun hc13 => ?_)
            · refine ik_Wk 1 (pc_q := 17) (loc_q := [some (.ref 7), some (fI q)]) (st_q := [fI 0]) (h_q := h) (cl_q := 0) (sl_q := 0) rfl ?_
              refine ik_Wret rfl rfl ⟨_, _, rfl, rfl, ?_⟩
              refine ik_Wk 0 (pc_q := 27) (loc_q := [some (.ref 0), some (fI kd), some (fI p), some (fI t), some (fI q)]) (st_q := [fI 0]) (h_q := h) (cl_q := 0) (sl_q := 0) rfl ?_
              refine fw_if_ne rfl rfl (by decide +kernel) (by decide +kernel) (fun hc14 => ?_) (fun hc14 => absurd hc14 (by decide +kernel))
              refine fw_ld (-1000000001) rfl rfl (by decide +kernel) ?_
              exact ik_Wret rfl rfl ⟨_, _, rfl, rfl, rfl, rfl, ⟨(congrArg (fun z => [fI z]) (by unfold an_kpq; (repeat' split) <;> first | rfl | omega)), h21, (hfr_refl [21, 22, 23, 24] h)⟩⟩
            · refine ik_Wk 2 (pc_q := 17) (loc_q := [some (.ref 7), some (fI q)]) (st_q := [fI 1]) (h_q := h) (cl_q := 0) (sl_q := 0) rfl ?_
              refine ik_Wret rfl rfl ⟨_, _, rfl, rfl, ?_⟩
              refine ik_Wk 0 (pc_q := 27) (loc_q := [some (.ref 0), some (fI kd), some (fI p), some (fI t), some (fI q)]) (st_q := [fI 1]) (h_q := h) (cl_q := 0) (sl_q := 0) rfl ?_
              refine fw_if_ne rfl rfl (by decide +kernel) (by decide +kernel) (fun hc15 => absurd hc15 (by decide +kernel)) (fun hc15 => ?_)
              refine ik_Wk 1 (pc_q := 34) (loc_q := [some (.ref 0), some (fI kd), some (fI p), some (fI t), some (fI q)]) (st_q := [fI t]) (h_q := h) (cl_q := 0) (sl_q := 0) rfl ?_
              refine ik_Wc 123 1 3 [fI t] [] rfl rfl rfl (by decide +kernel) rfl rfl (fw_sta hl rfl (by decide +kernel)) ?_
              refine ik_Wk 0 (pc_q := 0) (loc_q := [some (fI t)]) (st_q := []) (h_q := h) (cl_q := 0) (sl_q := 0) rfl ?_
              refine ik_Wk 1 (pc_q := 1) (loc_q := [some (fI t)]) (st_q := [fI t]) (h_q := h) (cl_q := 0) (sl_q := 0) rfl ?_
              refine fw_if_lt rfl rfl (by omega) (by omega) (fun hc16 => ?_) (fun hc16 => ?_)
              · refine ik_Wk 1 (pc_q := 16) (loc_q := [some (fI t)]) (st_q := [fI 0]) (h_q := h) (cl_q := 0) (sl_q := 0) rfl ?_
                refine ik_Wret rfl rfl ⟨_, _, rfl, rfl, ?_⟩
                refine ik_Wk 0 (pc_q := 37) (loc_q := [some (.ref 0), some (fI kd), some (fI p), some (fI t), some (fI q)]) (st_q := [fI 0]) (h_q := h) (cl_q := 0) (sl_q := 0) rfl ?_
                refine fw_if_ne rfl rfl (by decide +kernel) (by decide +kernel) (fun hc17 => ?_) (fun hc17 => absurd hc17 (by decide +kernel))
                refine fw_ld (-1000000002) rfl rfl (by decide +kernel) ?_
                exact ik_Wret rfl rfl ⟨_, _, rfl, rfl, rfl, rfl, ⟨(congrArg (fun z => [fI z]) (by unfold an_kpq; (repeat' split) <;> first | rfl | omega)), h21, (hfr_refl [21, 22, 23, 24] h)⟩⟩
              · refine ik_Wk 1 (pc_q := 5) (loc_q := [some (fI t)]) (st_q := [fI t]) (h_q := h) (cl_q := 0) (sl_q := 0) rfl ?_
                refine fw_si rfl (by decide +kernel) ?_
                refine fw_ic_gt rfl rfl (by omega) (by omega) (by omega) (by omega) (fun hc18 => ?_) (fun hc18 => ?_)
                · refine ik_Wk 1 (pc_q := 16) (loc_q := [some (fI t)]) (st_q := [fI 0]) (h_q := h) (cl_q := 0) (sl_q := 0) rfl ?_
                  refine ik_Wret rfl rfl ⟨_, _, rfl, rfl, ?_⟩
                  refine ik_Wk 0 (pc_q := 37) (loc_q := [some (.ref 0), some (fI kd), some (fI p), some (fI t), some (fI q)]) (st_q := [fI 0]) (h_q := h) (cl_q := 0) (sl_q := 0) rfl ?_
                  refine fw_if_ne rfl rfl (by decide +kernel) (by decide +kernel) (fun hc19 => ?_) (fun hc19 => absurd hc19 (by decide +kernel))
                  refine fw_ld (-1000000002) rfl rfl (by decide +kernel) ?_
                  exact ik_Wret rfl rfl ⟨_, _, rfl, rfl, rfl, rfl, ⟨(congrArg (fun z => [fI z]) (by unfold an_kpq; (repeat' split) <;> first | rfl | omega)), h21, (hfr_refl [21, 22, 23, 24] h)⟩⟩
                · refine ik_Wk 2 (pc_q := 16) (loc_q := [some (fI t)]) (st_q := [fI 1]) (h_q := h) (cl_q := 0) (sl_q := 0) rfl ?_
                  refine ik_Wret rfl rfl ⟨_, _, rfl, rfl, ?_⟩
                  refine ik_Wk 0 (pc_q := 37) (loc_q := [some (.ref 0), some (fI kd), some (fI p), some (fI t), some (fI q)]) (st_q := [fI 1]) (h_q := h) (cl_q := 0) (sl_q := 0) rfl ?_
                  refine fw_if_ne rfl rfl (by decide +kernel) (by decide +kernel) (fun hc20 => absurd hc20 (by decide +kernel)) (fun hc20 => ?_)
                  refine ik_Wk 1 (pc_q := 44) (loc_q := [some (.ref 0), some (fI kd), some (fI p), some (fI t), some (fI q)]) (st_q := [.ref 0]) (h_q := h) (cl_q := 0) (sl_q := 0) rfl ?_
                  refine fw_gf rfl rfl h0 rfl ?_
                  refine fw_gf rfl rfl h17 rfl ?_
                  refine ik_Wk 1 (pc_q := 51) (loc_q := [some (.ref 0), some (fI kd), some (fI p), some (fI t), some (fI q)]) (st_q := [fI 0, .ref 18]) (h_q := h) (cl_q := 0) (sl_q := 0) rfl ?_
                  refine fx_aal (z := 0) rfl h18 (by decide +kernel) (by decide +kernel) rfl ?_
                  refine ik_Wk 2 (pc_q := 54) (loc_q := [some (.ref 0), some (fI kd), some (fI p), some (fI t), some (fI q)]) (st_q := [fI p, fI kd, .ref 21]) (h_q := h) (cl_q := 0) (sl_q := 0) rfl ?_
                  refine fw_call 30 3 0 [.ref 21, fI kd, fI p] [] rfl rfl rfl (Nat.le_of_ble_eq_true rfl) rfl rfl (fw_rec hl rfl (mf_cr_o h21).choose_spec rfl (by decide +kernel)) (cs_setIn (C := 21) (pl := pl) (lo := lo) (s := s) (kd := kd) (qp := p) (W := W) (by omega) (by omega) (by omega) h7 h21 hl) ?_
                  rintro _ h_367 ⟨rfl, e_367_C, F_367⟩
                  have k_367 : cL h_367 := F_367.1.trans hl
                  have fr_367 := hfr_cb (hfr_refl [21, 22, 23, 24] h) F_367 rfl
                  have g_367_0 := (hfr_g F_367 0 rfl).trans h0
                  have g_367_7 := (hfr_g F_367 7 rfl).trans h7
                  have g_367_11 := (hfr_g F_367 11 rfl).trans h11
                  have g_367_12 := (hfr_g F_367 12 rfl).trans h12
                  have g_367_13 := (hfr_g F_367 13 rfl).trans h13
                  have g_367_17 := (hfr_g F_367 17 rfl).trans h17
                  have g_367_18 := (hfr_g F_367 18 rfl).trans h18
                  have g_367_21 : mf_cv h_367 21 W pl kd p 0 := e_367_C
                  refine ik_Wk 0 (pc_q := 57) (loc_q := [some (.ref 0), some (fI kd), some (fI p), some (fI t), some (fI q)]) (st_q := [.ref 21]) (h_q := h_367) (cl_q := 0) (sl_q := 0) rfl ?_
                  refine ik_Wk 3 (pc_q := 61) (loc_q := [some (.ref 0), some (fI kd), some (fI p), some (fI t), some (fI q)]) (st_q := [fI q, fI 1, fI t, .ref 21]) (h_q := h_367) (cl_q := 0) (sl_q := 0) rfl ?_
                  refine fx_shl rfl (by omega) (by omega) ?_
                  refine fw_call 32 3 0 [.ref 21, fI t, fI ((1 <<< q.toNat : Nat) : Int)] [] rfl rfl rfl (Nat.le_of_ble_eq_true rfl) rfl rfl (fw_rec k_367 rfl (mf_cv_o g_367_21).choose_spec rfl (by decide +kernel)) (cs_oddsAt (C := 21) (pl := pl) (lo := lo) (s := s) (t := t) (kd := kd) (qp := p) (ut := 0) (wg := wg) (wc := wc) (we := we) (W := W) (B := 1 <<< q.toNat) (by omega) (by omega) (by omega) (by omega) q1 q2 (by omega) (by omega) (mj_12 (pl := pl) (mj_shl_lt (by omega)) (by omega)) g_367_7 g_367_11 n11 g_367_12 n12 g_367_13 n13 g_367_21 k_367) ?_
                  rintro _ h_368 ⟨rfl, e_368_C, F_368⟩
                  have k_368 : cL h_368 := F_368.1.trans k_367
                  have fr_368 := hfr_cb fr_367 F_368 rfl
                  have g_368_0 := (hfr_g F_368 0 rfl).trans g_367_0
                  have g_368_7 := (hfr_g F_368 7 rfl).trans g_367_7
                  have g_368_11 := (hfr_g F_368 11 rfl).trans g_367_11
                  have g_368_12 := (hfr_g F_368 12 rfl).trans g_367_12
                  have g_368_13 := (hfr_g F_368 13 rfl).trans g_367_13
                  have g_368_17 := (hfr_g F_368 17 rfl).trans g_367_17
                  have g_368_18 := (hfr_g F_368 18 rfl).trans g_367_18
                  have g_368_21 : mf_cv h_368 21 W pl kd p t := e_368_C
                  refine ik_Wk 0 (pc_q := 65) (loc_q := [some (.ref 0), some (fI kd), some (fI p), some (fI t), some (fI q)]) (st_q := [fI (mf_ss (1 <<< q.toNat) (mf_od W (pl - 1) kd p t.toNat) pl.toNat)]) (h_q := h_368) (cl_q := 0) (sl_q := 0) rfl ?_
                  have ev : mf_ss (1 <<< q.toNat) (mf_od W (pl - 1) kd p t.toNat) pl.toNat = mf_od W (pl - 1) kd p t.toNat q.toNat := mf_ss_1 _ (by omega)
                  exact ik_Wret rfl rfl ⟨_, _, rfl, rfl, rfl, rfl, ⟨(congrArg (fun z => [fI z]) (by rw [ev]; unfold an_kpq; (repeat' split) <;> first | rfl | omega)), (mf_cv_r g_368_21), fr_368⟩⟩

theorem cp_kept {h : List ik_E} {pl : Int} {s : Nat} {bo : Int} {wg : List Int} {wc : List Int} {we : List Int} {W : Int → List (Int × Int)} {B : Nat} {kd : Int} {p : Int} {t : Int} (q0 : 0 ≤ pl ∧ pl ≤ 12) (q1 : ∀ x : Int, (0 : Int) ≤ x → x < pl - 1 → mx_wy wg wc we x (W x)) (q2 : ∀ x : Int, (0 : Int) ≤ x → x < pl - 1 → mx_ok pl (W x)) (q3 : B < 4096) (q4 : (-2147483648 : Int) ≤ kd ∧ kd < (2147483648 : Int)) (q5 : (-2147483648 : Int) ≤ p ∧ p < (2147483648 : Int)) (q6 : (-2147483648 : Int) ≤ t ∧ t < (2147483648 : Int)) (h0 : cE h 0 (.inr (9, [.ref 1, .ref 7, .ref 14, .ref 17, .ref 45, .ref 51, .ref 54, .ref 57]))) (h7 : cE h 7 (.inr (0, [fI pl, fI ((s : Nat) : Int), fI ((B : Nat) : Int), .ref 8, .ref 9, .ref 10, .ref 11, .ref 12, .ref 13]))) (h11 : cE h 11 (.inl (.int, fA wg))) (n11 : wg.length = (60 : Nat)) (h12 : cE h 12 (.inl (.int, fA wc))) (n12 : wc.length = (60 : Nat)) (h13 : cE h 13 (.inl (.int, fA we))) (n13 : we.length = (12 : Nat)) (h17 : cE h 17 (.inr (8, [.ref 7, .ref 15, .ref 18, .ref 19, fJ bo, .ref 20]))) (h18 : cE h 18 (.inl (.object "SlowerCork$Course", [.ref 21, .ref 25, .ref 29, .ref 33, .ref 37, .ref 41]))) (h21 : mf_cr h 21 ) (hl : h.length = (94 : Nat)) : ik_F 98 [.ref 0, fI kd, fI p, fI t] h (fun rv h_q => rv = [fI (an_kp kd p pl t (mf_ss B (mf_od W (pl - 1) kd p t.toNat) pl.toNat))] ∧ mf_cr h_q 21  ∧ hfr [21, 22, 23, 24] h h_q) := by
  refine ik_Wk 1 (pc_q := 1) (loc_q := [some (.ref 0), some (fI kd), some (fI p), some (fI t)]) (st_q := [fI kd]) (h_q := h) (cl_q := 0) (sl_q := 0) rfl ?_
  refine ik_Wc 122 1 3 [fI kd] [] rfl rfl rfl (by decide +kernel) rfl rfl (fw_sta hl rfl (by decide +kernel)) ?_
  refine ik_Wk 0 (pc_q := 0) (loc_q := [some (fI kd)]) (st_q := []) (h_q := h) (cl_q := 0) (sl_q := 0) rfl ?_
  refine ik_Wk 1 (pc_q := 1) (loc_q := [some (fI kd)]) (st_q := [fI kd]) (h_q := h) (cl_q := 0) (sl_q := 0) rfl ?_
  refine fw_if_lt rfl rfl (by omega) (by omega) (fun hc1 => ?_) (fun hc1 => ?_)
  · refine ik_Wk 1 (pc_q := 14) (loc_q := [some (fI kd)]) (st_q := [fI 0]) (h_q := h) (cl_q := 0) (sl_q := 0) rfl ?_
    refine ik_Wret rfl rfl ⟨_, _, rfl, rfl, ?_⟩
    refine ik_Wk 0 (pc_q := 4) (loc_q := [some (.ref 0), some (fI kd), some (fI p), some (fI t)]) (st_q := [fI 0]) (h_q := h) (cl_q := 0) (sl_q := 0) rfl ?_
    refine fw_if_eq rfl rfl (by decide +kernel) (by decide +kernel) (fun hc2 => ?_) (fun hc2 => absurd hc2 (by decide +kernel))
    refine fw_ld (-1000000001) rfl rfl (by decide +kernel) ?_
    exact ik_Wret rfl rfl ⟨_, _, rfl, rfl, rfl, rfl, ⟨(congrArg (fun z => [fI z]) (by unfold an_kp; (repeat' split) <;> first | rfl | omega)), h21, (hfr_refl [21, 22, 23, 24] h)⟩⟩
  · refine ik_Wk 2 (pc_q := 6) (loc_q := [some (fI kd)]) (st_q := [fI 2, fI kd]) (h_q := h) (cl_q := 0) (sl_q := 0) rfl ?_
    refine fw_ic_gt rfl rfl (by omega) (by omega) (by omega) (by omega) (fun hc3 => ?_) (fun hc3 => ?_)
    · refine ik_Wk 1 (pc_q := 14) (loc_q := [some (fI kd)]) (st_q := [fI 0]) (h_q := h) (cl_q := 0) (sl_q := 0) rfl ?_
      refine ik_Wret rfl rfl ⟨_, _, rfl, rfl, ?_⟩
      refine ik_Wk 0 (pc_q := 4) (loc_q := [some (.ref 0), some (fI kd), some (fI p), some (fI t)]) (st_q := [fI 0]) (h_q := h) (cl_q := 0) (sl_q := 0) rfl ?_
      refine fw_if_eq rfl rfl (by decide +kernel) (by decide +kernel) (fun hc4 => ?_) (fun hc4 => absurd hc4 (by decide +kernel))
      refine fw_ld (-1000000001) rfl rfl (by decide +kernel) ?_
      exact ik_Wret rfl rfl ⟨_, _, rfl, rfl, rfl, rfl, ⟨(congrArg (fun z => [fI z]) (by unfold an_kp; (repeat' split) <;> first | rfl | omega)), h21, (hfr_refl [21, 22, 23, 24] h)⟩⟩
    · refine ik_Wk 2 (pc_q := 14) (loc_q := [some (fI kd)]) (st_q := [fI 1]) (h_q := h) (cl_q := 0) (sl_q := 0) rfl ?_
      refine ik_Wret rfl rfl ⟨_, _, rfl, rfl, ?_⟩
      refine ik_Wk 0 (pc_q := 4) (loc_q := [some (.ref 0), some (fI kd), some (fI p), some (fI t)]) (st_q := [fI 1]) (h_q := h) (cl_q := 0) (sl_q := 0) rfl ?_
      refine fw_if_eq rfl rfl (by decide +kernel) (by decide +kernel) (fun hc5 => absurd hc5 (by decide +kernel)) (fun hc5 => ?_)
      refine ik_Wk 1 (pc_q := 8) (loc_q := [some (.ref 0), some (fI kd), some (fI p), some (fI t)]) (st_q := [.ref 0]) (h_q := h) (cl_q := 0) (sl_q := 0) rfl ?_
      refine fw_gf rfl rfl h0 rfl ?_
      refine ik_Wk 1 (pc_q := 12) (loc_q := [some (.ref 0), some (fI kd), some (fI p), some (fI t)]) (st_q := [fI p, .ref 7]) (h_q := h) (cl_q := 0) (sl_q := 0) rfl ?_
      refine ik_Wc 3 2 0 [.ref 7, fI p] [] rfl rfl rfl (by decide +kernel) rfl rfl (fw_rec hl rfl h7 rfl (Nat.le_of_ble_eq_true rfl)) ?_
      refine ik_Wk 0 (pc_q := 0) (loc_q := [some (.ref 7), some (fI p)]) (st_q := []) (h_q := h) (cl_q := 0) (sl_q := 0) rfl ?_
      refine ik_Wk 1 (pc_q := 1) (loc_q := [some (.ref 7), some (fI p)]) (st_q := [fI p]) (h_q := h) (cl_q := 0) (sl_q := 0) rfl ?_
      refine fw_if_lt rfl rfl (by omega) (by omega) (fun hc6 => ?_) (fun hc6 => ?_)
      · refine ik_Wk 1 (pc_q := 17) (loc_q := [some (.ref 7), some (fI p)]) (st_q := [fI 0]) (h_q := h) (cl_q := 0) (sl_q := 0) rfl ?_
        refine ik_Wret rfl rfl ⟨_, _, rfl, rfl, ?_⟩
        refine ik_Wk 0 (pc_q := 15) (loc_q := [some (.ref 0), some (fI kd), some (fI p), some (fI t)]) (st_q := [fI 0]) (h_q := h) (cl_q := 0) (sl_q := 0) rfl ?_
        refine fw_if_ne rfl rfl (by decide +kernel) (by decide +kernel) (fun hc7 => ?_) (fun hc7 => absurd hc7 (by decide +kernel))
        refine fw_ld (-1000000001) rfl rfl (by decide +kernel) ?_
        exact ik_Wret rfl rfl ⟨_, _, rfl, rfl, rfl, rfl, ⟨(congrArg (fun z => [fI z]) (by unfold an_kp; (repeat' split) <;> first | rfl | omega)), h21, (hfr_refl [21, 22, 23, 24] h)⟩⟩
      · refine ik_Wk 2 (pc_q := 6) (loc_q := [some (.ref 7), some (fI p)]) (st_q := [.ref 7, fI p]) (h_q := h) (cl_q := 0) (sl_q := 0) rfl ?_
        refine fw_gf rfl rfl h7 rfl ?_
        refine fw_ic_ge rfl rfl (by omega) (by omega) (by omega) (by omega) (fun hc8 => ?_) (fun hc8 => ?_)
        · refine ik_Wk 1 (pc_q := 17) (loc_q := [some (.ref 7), some (fI p)]) (st_q := [fI 0]) (h_q := h) (cl_q := 0) (sl_q := 0) rfl ?_
          refine ik_Wret rfl rfl ⟨_, _, rfl, rfl, ?_⟩
          refine ik_Wk 0 (pc_q := 15) (loc_q := [some (.ref 0), some (fI kd), some (fI p), some (fI t)]) (st_q := [fI 0]) (h_q := h) (cl_q := 0) (sl_q := 0) rfl ?_
          refine fw_if_ne rfl rfl (by decide +kernel) (by decide +kernel) (fun hc9 => ?_) (fun hc9 => absurd hc9 (by decide +kernel))
          refine fw_ld (-1000000001) rfl rfl (by decide +kernel) ?_
          exact ik_Wret rfl rfl ⟨_, _, rfl, rfl, rfl, rfl, ⟨(congrArg (fun z => [fI z]) (by unfold an_kp; (repeat' split) <;> first | rfl | omega)), h21, (hfr_refl [21, 22, 23, 24] h)⟩⟩
        · refine ik_Wk 2 (pc_q := 17) (loc_q := [some (.ref 7), some (fI p)]) (st_q := [fI 1]) (h_q := h) (cl_q := 0) (sl_q := 0) rfl ?_
          refine ik_Wret rfl rfl ⟨_, _, rfl, rfl, ?_⟩
          refine ik_Wk 0 (pc_q := 15) (loc_q := [some (.ref 0), some (fI kd), some (fI p), some (fI t)]) (st_q := [fI 1]) (h_q := h) (cl_q := 0) (sl_q := 0) rfl ?_
          refine fw_if_ne rfl rfl (by decide +kernel) (by decide +kernel) (fun hc10 => absurd hc10 (by decide +kernel)) (fun hc10 => ?_)
          refine ik_Wk 1 (pc_q := 22) (loc_q := [some (.ref 0), some (fI kd), some (fI p), some (fI t)]) (st_q := [fI t]) (h_q := h) (cl_q := 0) (sl_q := 0) rfl ?_
          refine ik_Wc 123 1 3 [fI t] [] rfl rfl rfl (by decide +kernel) rfl rfl (fw_sta hl rfl (by decide +kernel)) ?_
          refine ik_Wk 0 (pc_q := 0) (loc_q := [some (fI t)]) (st_q := []) (h_q := h) (cl_q := 0) (sl_q := 0) rfl ?_
          refine ik_Wk 1 (pc_q := 1) (loc_q := [some (fI t)]) (st_q := [fI t]) (h_q := h) (cl_q := 0) (sl_q := 0) rfl ?_
          refine fw_if_lt rfl rfl (by omega) (by omega) (fun hc11 => ?_) (fun hc11 => ?_)
          · refine ik_Wk 1 (pc_q := 16) (loc_q := [some (fI t)]) (st_q := [fI 0]) (h_q := h) (cl_q := 0) (sl_q := 0) rfl ?_
            refine ik_Wret rfl rfl ⟨_, _, rfl, rfl, ?_⟩
            refine ik_Wk 0 (pc_q := 25) (loc_q := [some (.ref 0), some (fI kd), some (fI p), some (fI t)]) (st_q := [fI 0]) (h_q := h) (cl_q := 0) (sl_q := 0) rfl ?_
            refine fw_if_ne rfl rfl (by decide +kernel) (by decide +kernel) (fun hc12 => ?_) (fun hc12 => absurd hc12 (by decide +kernel))
            refine fw_ld (-1000000002) rfl rfl (by decide +kernel) ?_
            exact ik_Wret rfl rfl ⟨_, _, rfl, rfl, rfl, rfl, ⟨(congrArg (fun z => [fI z]) (by unfold an_kp; (repeat' split) <;> first | rfl | omega)), h21, (hfr_refl [21, 22, 23, 24] h)⟩⟩
          · refine ik_Wk 1 (pc_q := 5) (loc_q := [some (fI t)]) (st_q := [fI t]) (h_q := h) (cl_q := 0) (sl_q := 0) rfl ?_
            refine fw_si rfl (by decide +kernel) ?_
            refine fw_ic_gt rfl rfl (by omega) (by omega) (by omega) (by omega) (fun hc13 => ?_) (fun hc13 => ?_)
            · refine ik_Wk 1 (pc_q := 16) (loc_q := [some (fI t)]) (st_q := [fI 0]) (h_q := h) (cl_q := 0) (sl_q := 0) rfl ?_
              refine ik_Wret rfl rfl ⟨_, _, rfl, rfl, ?_⟩
              refine ik_Wk 0 (pc_q := 25) (loc_q := [some (.ref 0), some (fI kd), some (fI p), some (fI t)]) (st_q := [fI 0]) (h_q := h) (cl_q := 0) (sl_q := 0) rfl ?_
              refine fw_if_ne rfl rfl (by decide +kernel) (by decide +kernel) (fun hc14 => ?_) (fun hc14 => absurd hc14 (by decide +kernel))
              refine fw_ld (-1000000002) rfl rfl (by decide +kernel) ?_
              exact ik_Wret rfl rfl ⟨_, _, rfl, rfl, rfl, rfl, ⟨(congrArg (fun z => [fI z]) (by unfold an_kp; (repeat' split) <;> first | rfl | omega)), h21, (hfr_refl [21, 22, 23, 24] h)⟩⟩
            · refine ik_Wk 2 (pc_q := 16) (loc_q := [some (fI t)]) (st_q := [fI 1]) (h_q := h) (cl_q := 0) (sl_q := 0) rfl ?_
              refine ik_Wret rfl rfl ⟨_, _, rfl, rfl, ?_⟩
              refine ik_Wk 0 (pc_q := 25) (loc_q := [some (.ref 0), some (fI kd), some (fI p), some (fI t)]) (st_q := [fI 1]) (h_q := h) (cl_q := 0) (sl_q := 0) rfl ?_
              refine fw_if_ne rfl rfl (by decide +kernel) (by decide +kernel) (fun hc15 => absurd hc15 (by decide +kernel)) (fun hc15 => ?_)
              refine ik_Wk 1 (pc_q := 32) (loc_q := [some (.ref 0), some (fI kd), some (fI p), some (fI t)]) (st_q := [.ref 0]) (h_q := h) (cl_q := 0) (sl_q := 0) rfl ?_
              refine fw_gf rfl rfl h0 rfl ?_
              refine fw_gf rfl rfl h17 rfl ?_
              refine ik_Wk 1 (pc_q := 39) (loc_q := [some (.ref 0), some (fI kd), some (fI p), some (fI t)]) (st_q := [fI 0, .ref 18]) (h_q := h) (cl_q := 0) (sl_q := 0) rfl ?_
              refine fx_aal (z := 0) rfl h18 (by decide +kernel) (by decide +kernel) rfl ?_
              refine ik_Wk 2 (pc_q := 42) (loc_q := [some (.ref 0), some (fI kd), some (fI p), some (fI t)]) (st_q := [fI p, fI kd, .ref 21]) (h_q := h) (cl_q := 0) (sl_q := 0) rfl ?_
              refine fw_call 30 3 0 [.ref 21, fI kd, fI p] [] rfl rfl rfl (Nat.le_of_ble_eq_true rfl) rfl rfl (fw_rec hl rfl (mf_cr_o h21).choose_spec rfl (by decide +kernel)) (cs_setIn (C := 21) (pl := pl) (lo := ((B : Nat) : Int)) (s := s) (kd := kd) (qp := p) (W := W) (by omega) (by omega) (by omega) h7 h21 hl) ?_
              rintro _ h_369 ⟨rfl, e_369_C, F_369⟩
              have k_369 : cL h_369 := F_369.1.trans hl
              have fr_369 := hfr_cb (hfr_refl [21, 22, 23, 24] h) F_369 rfl
              have g_369_0 := (hfr_g F_369 0 rfl).trans h0
              have g_369_7 := (hfr_g F_369 7 rfl).trans h7
              have g_369_11 := (hfr_g F_369 11 rfl).trans h11
              have g_369_12 := (hfr_g F_369 12 rfl).trans h12
              have g_369_13 := (hfr_g F_369 13 rfl).trans h13
              have g_369_17 := (hfr_g F_369 17 rfl).trans h17
              have g_369_18 := (hfr_g F_369 18 rfl).trans h18
              have g_369_21 : mf_cv h_369 21 W pl kd p 0 := e_369_C
              refine ik_Wk 0 (pc_q := 45) (loc_q := [some (.ref 0), some (fI kd), some (fI p), some (fI t)]) (st_q := [.ref 21]) (h_q := h_369) (cl_q := 0) (sl_q := 0) rfl ?_
              refine ik_Wk 2 (pc_q := 47) (loc_q := [some (.ref 0), some (fI kd), some (fI p), some (fI t)]) (st_q := [.ref 0, fI t, .ref 21]) (h_q := h_369) (cl_q := 0) (sl_q := 0) rfl ?_
              refine fw_gf rfl rfl g_369_0 rfl ?_
              refine fw_gf rfl rfl g_369_7 rfl ?_
              refine fw_call 32 3 0 [.ref 21, fI t, fI ((B : Nat) : Int)] [] rfl rfl rfl (Nat.le_of_ble_eq_true rfl) rfl rfl (fw_rec k_369 rfl (mf_cv_o g_369_21).choose_spec rfl (by decide +kernel)) (cs_oddsAt (C := 21) (pl := pl) (lo := ((B : Nat) : Int)) (s := s) (t := t) (kd := kd) (qp := p) (ut := 0) (wg := wg) (wc := wc) (we := we) (W := W) (B := B) (by omega) (by omega) (by omega) (by omega) q1 q2 (by omega) (by omega) q3 g_369_7 g_369_11 n11 g_369_12 n12 g_369_13 n13 g_369_21 k_369) ?_
              rintro _ h_370 ⟨rfl, e_370_C, F_370⟩
              have k_370 : cL h_370 := F_370.1.trans k_369
              have fr_370 := hfr_cb fr_369 F_370 rfl
              have g_370_0 := (hfr_g F_370 0 rfl).trans g_369_0
              have g_370_7 := (hfr_g F_370 7 rfl).trans g_369_7
              have g_370_11 := (hfr_g F_370 11 rfl).trans g_369_11
              have g_370_12 := (hfr_g F_370 12 rfl).trans g_369_12
              have g_370_13 := (hfr_g F_370 13 rfl).trans g_369_13
              have g_370_17 := (hfr_g F_370 17 rfl).trans g_369_17
              have g_370_18 := (hfr_g F_370 18 rfl).trans g_369_18
              have g_370_21 : mf_cv h_370 21 W pl kd p t := e_370_C
              refine ik_Wk 0 (pc_q := 56) (loc_q := [some (.ref 0), some (fI kd), some (fI p), some (fI t)]) (st_q := [fI (mf_ss B (mf_od W (pl - 1) kd p t.toNat) pl.toNat)]) (h_q := h_370) (cl_q := 0) (sl_q := 0) rfl ?_
              exact ik_Wret rfl rfl ⟨_, _, rfl, rfl, rfl, rfl, ⟨(congrArg (fun z => [fI z]) (by unfold an_kp; (repeat' split) <;> first | rfl | omega)), (mf_cv_r g_370_21), fr_370⟩⟩

theorem cp_known {h : List ik_E} {pl : Int} {lo : Int} {s : Nat} {bo : Int} {wg : List Int} {wc : List Int} {we : List Int} {W : Int → List (Int × Int)} {kd : Int} {p : Int} {d : Int} (q0 : 0 ≤ pl ∧ pl ≤ 12) (q1 : ∀ x : Int, (0 : Int) ≤ x → x < pl - 1 → mx_wy wg wc we x (W x)) (q2 : ∀ x : Int, (0 : Int) ≤ x → x < pl - 1 → mx_ok pl (W x)) (q3 : (-2147483648 : Int) ≤ kd ∧ kd < (2147483648 : Int)) (q4 : (-2147483648 : Int) ≤ p ∧ p < (2147483648 : Int)) (q5 : (-2147483648 : Int) ≤ d ∧ d < (2147483648 : Int)) (h0 : cE h 0 (.inr (9, [.ref 1, .ref 7, .ref 14, .ref 17, .ref 45, .ref 51, .ref 54, .ref 57]))) (h7 : cE h 7 (.inr (0, [fI pl, fI ((s : Nat) : Int), fI lo, .ref 8, .ref 9, .ref 10, .ref 11, .ref 12, .ref 13]))) (h11 : cE h 11 (.inl (.int, fA wg))) (n11 : wg.length = (60 : Nat)) (h12 : cE h 12 (.inl (.int, fA wc))) (n12 : wc.length = (60 : Nat)) (h13 : cE h 13 (.inl (.int, fA we))) (n13 : we.length = (12 : Nat)) (h17 : cE h 17 (.inr (8, [.ref 7, .ref 15, .ref 18, .ref 19, fJ bo, .ref 20]))) (h18 : cE h 18 (.inl (.object "SlowerCork$Course", [.ref 21, .ref 25, .ref 29, .ref 33, .ref 37, .ref 41]))) (h21 : mf_cr h 21 ) (h25 : mf_cr h 25 ) (hl : h.length = (94 : Nat)) : ik_F 99 [.ref 0, fI kd, fI p, fI d] h (fun rv h_q => rv = [fI (an_kpd kd p pl d (mk_kn (mf_cm W (pl - 1) kd p) (mf_cm W (pl - 1) 0 p) d 201 0))] ∧ mf_cr h_q 21  ∧ mf_cr h_q 25  ∧ hfr [21, 22, 23, 24, 25, 26, 27, 28] h h_q) := by
  refine ik_Wk 1 (pc_q := 1) (loc_q := [some (.ref 0), some (fI kd), some (fI p), some (fI d)]) (st_q := [fI kd]) (h_q := h) (cl_q := 0) (sl_q := 0) rfl ?_
  refine ik_Wc 122 1 3 [fI kd] [] rfl rfl rfl (by decide +kernel) rfl rfl (fw_sta hl rfl (by decide +kernel)) ?_
  refine ik_Wk 0 (pc_q := 0) (loc_q := [some (fI kd)]) (st_q := []) (h_q := h) (cl_q := 0) (sl_q := 0) rfl ?_
  refine ik_Wk 1 (pc_q := 1) (loc_q := [some (fI kd)]) (st_q := [fI kd]) (h_q := h) (cl_q := 0) (sl_q := 0) rfl ?_
  refine fw_if_lt rfl rfl (by omega) (by omega) (fun hc1 => ?_) (fun hc1 => ?_)
  · refine ik_Wk 1 (pc_q := 14) (loc_q := [some (fI kd)]) (st_q := [fI 0]) (h_q := h) (cl_q := 0) (sl_q := 0) rfl ?_
    refine ik_Wret rfl rfl ⟨_, _, rfl, rfl, ?_⟩
    refine ik_Wk 0 (pc_q := 4) (loc_q := [some (.ref 0), some (fI kd), some (fI p), some (fI d)]) (st_q := [fI 0]) (h_q := h) (cl_q := 0) (sl_q := 0) rfl ?_
    refine fw_if_eq rfl rfl (by decide +kernel) (by decide +kernel) (fun hc2 => ?_) (fun hc2 => absurd hc2 (by decide +kernel))
    refine fw_ld (-1000000001) rfl rfl (by decide +kernel) ?_
    exact ik_Wret rfl rfl ⟨_, _, rfl, rfl, rfl, rfl, ⟨(congrArg (fun z => [fI z]) (by unfold an_kpd; (repeat' split) <;> first | rfl | omega)), h21, h25, (hfr_refl [21, 22, 23, 24, 25, 26, 27, 28] h)⟩⟩
  · refine ik_Wk 2 (pc_q := 6) (loc_q := [some (fI kd)]) (st_q := [fI 2, fI kd]) (h_q := h) (cl_q := 0) (sl_q := 0) rfl ?_
    refine fw_ic_gt rfl rfl (by omega) (by omega) (by omega) (by omega) (fun hc3 => ?_) (fun hc3 => ?_)
    · refine ik_Wk 1 (pc_q := 14) (loc_q := [some (fI kd)]) (st_q := [fI 0]) (h_q := h) (cl_q := 0) (sl_q := 0) rfl ?_
      refine ik_Wret rfl rfl ⟨_, _, rfl, rfl, ?_⟩
      refine ik_Wk 0 (pc_q := 4) (loc_q := [some (.ref 0), some (fI kd), some (fI p), some (fI d)]) (st_q := [fI 0]) (h_q := h) (cl_q := 0) (sl_q := 0) rfl ?_
      refine fw_if_eq rfl rfl (by decide +kernel) (by decide +kernel) (fun hc4 => ?_) (fun hc4 => absurd hc4 (by decide +kernel))
      refine fw_ld (-1000000001) rfl rfl (by decide +kernel) ?_
      exact ik_Wret rfl rfl ⟨_, _, rfl, rfl, rfl, rfl, ⟨(congrArg (fun z => [fI z]) (by unfold an_kpd; (repeat' split) <;> first | rfl | omega)), h21, h25, (hfr_refl [21, 22, 23, 24, 25, 26, 27, 28] h)⟩⟩
    · refine ik_Wk 2 (pc_q := 14) (loc_q := [some (fI kd)]) (st_q := [fI 1]) (h_q := h) (cl_q := 0) (sl_q := 0) rfl ?_
      refine ik_Wret rfl rfl ⟨_, _, rfl, rfl, ?_⟩
      refine ik_Wk 0 (pc_q := 4) (loc_q := [some (.ref 0), some (fI kd), some (fI p), some (fI d)]) (st_q := [fI 1]) (h_q := h) (cl_q := 0) (sl_q := 0) rfl ?_
      refine fw_if_eq rfl rfl (by decide +kernel) (by decide +kernel) (fun hc5 => absurd hc5 (by decide +kernel)) (fun hc5 => ?_)
      refine ik_Wk 1 (pc_q := 8) (loc_q := [some (.ref 0), some (fI kd), some (fI p), some (fI d)]) (st_q := [.ref 0]) (h_q := h) (cl_q := 0) (sl_q := 0) rfl ?_
      refine fw_gf rfl rfl h0 rfl ?_
      refine ik_Wk 1 (pc_q := 12) (loc_q := [some (.ref 0), some (fI kd), some (fI p), some (fI d)]) (st_q := [fI p, .ref 7]) (h_q := h) (cl_q := 0) (sl_q := 0) rfl ?_
      refine ik_Wc 3 2 0 [.ref 7, fI p] [] rfl rfl rfl (by decide +kernel) rfl rfl (fw_rec hl rfl h7 rfl (Nat.le_of_ble_eq_true rfl)) ?_
      refine ik_Wk 0 (pc_q := 0) (loc_q := [some (.ref 7), some (fI p)]) (st_q := []) (h_q := h) (cl_q := 0) (sl_q := 0) rfl ?_
      refine ik_Wk 1 (pc_q := 1) (loc_q := [some (.ref 7), some (fI p)]) (st_q := [fI p]) (h_q := h) (cl_q := 0) (sl_q := 0) rfl ?_
      refine fw_if_lt rfl rfl (by omega) (by omega) (fun hc6 => ?_) (fun hc6 => ?_)
      · refine ik_Wk 1 (pc_q := 17) (loc_q := [some (.ref 7), some (fI p)]) (st_q := [fI 0]) (h_q := h) (cl_q := 0) (sl_q := 0) rfl ?_
        refine ik_Wret rfl rfl ⟨_, _, rfl, rfl, ?_⟩
        refine ik_Wk 0 (pc_q := 15) (loc_q := [some (.ref 0), some (fI kd), some (fI p), some (fI d)]) (st_q := [fI 0]) (h_q := h) (cl_q := 0) (sl_q := 0) rfl ?_
        refine fw_if_ne rfl rfl (by decide +kernel) (by decide +kernel) (fun hc7 => ?_) (fun hc7 => absurd hc7 (by decide +kernel))
        refine fw_ld (-1000000001) rfl rfl (by decide +kernel) ?_
        exact ik_Wret rfl rfl ⟨_, _, rfl, rfl, rfl, rfl, ⟨(congrArg (fun z => [fI z]) (by unfold an_kpd; (repeat' split) <;> first | rfl | omega)), h21, h25, (hfr_refl [21, 22, 23, 24, 25, 26, 27, 28] h)⟩⟩
      · refine ik_Wk 2 (pc_q := 6) (loc_q := [some (.ref 7), some (fI p)]) (st_q := [.ref 7, fI p]) (h_q := h) (cl_q := 0) (sl_q := 0) rfl ?_
        refine fw_gf rfl rfl h7 rfl ?_
        refine fw_ic_ge rfl rfl (by omega) (by omega) (by omega) (by omega) (fun hc8 => ?_) (fun hc8 => ?_)
        · refine ik_Wk 1 (pc_q := 17) (loc_q := [some (.ref 7), some (fI p)]) (st_q := [fI 0]) (h_q := h) (cl_q := 0) (sl_q := 0) rfl ?_
          refine ik_Wret rfl rfl ⟨_, _, rfl, rfl, ?_⟩
          refine ik_Wk 0 (pc_q := 15) (loc_q := [some (.ref 0), some (fI kd), some (fI p), some (fI d)]) (st_q := [fI 0]) (h_q := h) (cl_q := 0) (sl_q := 0) rfl ?_
          refine fw_if_ne rfl rfl (by decide +kernel) (by decide +kernel) (fun hc9 => ?_) (fun hc9 => absurd hc9 (by decide +kernel))
          refine fw_ld (-1000000001) rfl rfl (by decide +kernel) ?_
          exact ik_Wret rfl rfl ⟨_, _, rfl, rfl, rfl, rfl, ⟨(congrArg (fun z => [fI z]) (by unfold an_kpd; (repeat' split) <;> first | rfl | omega)), h21, h25, (hfr_refl [21, 22, 23, 24, 25, 26, 27, 28] h)⟩⟩
        · refine ik_Wk 2 (pc_q := 17) (loc_q := [some (.ref 7), some (fI p)]) (st_q := [fI 1]) (h_q := h) (cl_q := 0) (sl_q := 0) rfl ?_
          refine ik_Wret rfl rfl ⟨_, _, rfl, rfl, ?_⟩
          refine ik_Wk 0 (pc_q := 15) (loc_q := [some (.ref 0), some (fI kd), some (fI p), some (fI d)]) (st_q := [fI 1]) (h_q := h) (cl_q := 0) (sl_q := 0) rfl ?_
          refine fw_if_ne rfl rfl (by decide +kernel) (by decide +kernel) (fun hc10 => absurd hc10 (by decide +kernel)) (fun hc10 => ?_)
          refine ik_Wk 2 (pc_q := 23) (loc_q := [some (.ref 0), some (fI kd), some (fI p), some (fI d)]) (st_q := [fI 1, fI d]) (h_q := h) (cl_q := 0) (sl_q := 0) rfl ?_
          refine fw_ic_lt rfl rfl (by omega) (by omega) (by omega) (by omega) (fun hc11 => ?_) (fun hc11 => ?_)
          · refine fw_ld (-1000000002) rfl rfl (by decide +kernel) ?_
            exact ik_Wret rfl rfl ⟨_, _, rfl, rfl, rfl, rfl, ⟨(congrArg (fun z => [fI z]) (by unfold an_kpd; (repeat' split) <;> first | rfl | omega)), h21, h25, (hfr_refl [21, 22, 23, 24, 25, 26, 27, 28] h)⟩⟩
          · refine ik_Wk 1 (pc_q := 27) (loc_q := [some (.ref 0), some (fI kd), some (fI p), some (fI d)]) (st_q := [fI d]) (h_q := h) (cl_q := 0) (sl_q := 0) rfl ?_
            refine fw_si rfl (by decide +kernel) ?_
            refine fw_ic_le rfl rfl (by omega) (by omega) (by omega) (by omega) (fun hc12 => ?_) (fun hc12 => ?_)
            · refine ik_Wk 1 (pc_q := 37) (loc_q := [some (.ref 0), some (fI kd), some (fI p), some (fI d)]) (st_q := [.ref 0]) (h_q := h) (cl_q := 0) (sl_q := 0) rfl ?_
              refine fw_gf rfl rfl h0 rfl ?_
              refine ik_Wk 3 (pc_q := 43) (loc_q := [some (.ref 0), some (fI kd), some (fI p), some (fI d)]) (st_q := [fI d, fI p, fI kd, .ref 17]) (h_q := h) (cl_q := 0) (sl_q := 0) rfl ?_
              refine fw_call 82 4 0 [.ref 17, fI kd, fI p, fI d] [] rfl rfl rfl (Nat.le_of_ble_eq_true rfl) rfl rfl (fw_rec hl rfl h17 rfl (Nat.le_of_ble_eq_true rfl)) (cs_firstApart (pl := pl) (lo := lo) (s := s) (kd := kd) (qp := p) (d := d) (bo := bo) (wg := wg) (wc := wc) (we := we) (by omega) (by omega) (by omega) (by omega) q1 q2 h7 h11 n11 h12 n12 h13 n13 h17 h18 h21 h25 hl) ?_
              rintro _ h_371 ⟨rfl, e_371_21, e_371_25, F_371⟩
              have k_371 : cL h_371 := F_371.1.trans hl
              have fr_371 := hfr_cb (hfr_refl [21, 22, 23, 24, 25, 26, 27, 28] h) F_371 rfl
              have g_371_0 := (hfr_g F_371 0 rfl).trans h0
              have g_371_7 := (hfr_g F_371 7 rfl).trans h7
              have g_371_11 := (hfr_g F_371 11 rfl).trans h11
              have g_371_12 := (hfr_g F_371 12 rfl).trans h12
              have g_371_13 := (hfr_g F_371 13 rfl).trans h13
              have g_371_17 := (hfr_g F_371 17 rfl).trans h17
              have g_371_18 := (hfr_g F_371 18 rfl).trans h18
              have g_371_21 : mf_cr h_371 21  := e_371_21
              have g_371_25 : mf_cr h_371 25  := e_371_25
              refine ik_Wk 0 (pc_q := 46) (loc_q := [some (.ref 0), some (fI kd), some (fI p), some (fI d)]) (st_q := [fI (mk_kn (mf_cm W (pl - 1) kd p) (mf_cm W (pl - 1) 0 p) d 201 0)]) (h_q := h_371) (cl_q := 0) (sl_q := 0) rfl ?_
              exact ik_Wret rfl rfl ⟨_, _, rfl, rfl, rfl, rfl, ⟨(congrArg (fun z => [fI z]) (by unfold an_kpd; (repeat' split) <;> first | rfl | omega)), g_371_21, g_371_25, fr_371⟩⟩
            · refine fw_ld (-1000000002) rfl rfl (by decide +kernel) ?_
              exact ik_Wret rfl rfl ⟨_, _, rfl, rfl, rfl, rfl, ⟨(congrArg (fun z => [fI z]) (by unfold an_kpd; (repeat' split) <;> first | rfl | omega)), h21, h25, (hfr_refl [21, 22, 23, 24, 25, 26, 27, 28] h)⟩⟩

theorem cp_later0 {h : List ik_E} {pl : Int} {lo : Int} {s : Nat} {bo : Int} {wg : List Int} {wc : List Int} {we : List Int} {W : Int → List (Int × Int)} {ka : Int} {pa : Int} {fa : Int} {kb : Int} {pb : Int} {fb : Int} {la : Int} {lb : Int} (q0 : 0 ≤ pl ∧ pl ≤ 12) (q1 : ∀ x : Int, (0 : Int) ≤ x → x < pl - 1 → mx_wy wg wc we x (W x)) (q2 : ∀ x : Int, (0 : Int) ≤ x → x < pl - 1 → mx_ok pl (W x)) (q3 : (1 : Int) < pl → (0 : Int) ≤ pa ∧ pa < pl - 1) (q4 : (1 : Int) < pl → (0 : Int) ≤ pb ∧ pb < pl - 1) (q5 : (0 : Int) ≤ ka ∧ ka ≤ (2 : Int) ∧ (0 : Int) ≤ kb ∧ kb ≤ (2 : Int)) (q6 : (0 : Int) ≤ fa ∧ fa ≤ (30 : Int) ∧ (0 : Int) ≤ fb ∧ fb ≤ (30 : Int)) (h0 : cE h 0 (.inr (9, [.ref 1, .ref 7, .ref 14, .ref 17, .ref 45, .ref 51, .ref 54, .ref 57]))) (h7 : cE h 7 (.inr (0, [fI pl, fI ((s : Nat) : Int), fI lo, .ref 8, .ref 9, .ref 10, .ref 11, .ref 12, .ref 13]))) (h11 : cE h 11 (.inl (.int, fA wg))) (n11 : wg.length = (60 : Nat)) (h12 : cE h 12 (.inl (.int, fA wc))) (n12 : wc.length = (60 : Nat)) (h13 : cE h 13 (.inl (.int, fA we))) (n13 : we.length = (12 : Nat)) (h17 : cE h 17 (.inr (8, [.ref 7, .ref 15, .ref 18, .ref 19, fJ bo, .ref 20]))) (h18 : cE h 18 (.inl (.object "SlowerCork$Course", [.ref 21, .ref 25, .ref 29, .ref 33, .ref 37, .ref 41]))) (h15 : cE h 15 (.inl (.int, fA [ka, pa, fa, kb, pb, fb]))) (h19 : cE h 19 (.inl (.long, fL [la, lb]))) (h21 : mf_cr h 21 ) (h33 : mf_cr h 33 ) (hl : h.length = (94 : Nat)) : ik_F 100 [.ref 0, fI 0] h (fun rv h_q => ∃ (l0 : Int) (l1 : Int) (l2 : Int), rv = [fI (an_la 0 pl (mr_w (mf_cm W (pl - 1) ka pa) fa (mf_cm W (pl - 1) kb pb) fb 0))] ∧ cE h_q 17 (.inr (8, [.ref 7, .ref 15, .ref 18, .ref 19, fJ l2, .ref 20])) ∧ cE h_q 19 (.inl (.long, fL [l0, l1])) ∧ mf_cr h_q 21  ∧ mf_cr h_q 33  ∧ hfr [17, 19, 21, 22, 23, 24, 33, 34, 35, 36] h h_q) := by
  refine ik_Wk 1 (pc_q := 1) (loc_q := [some (.ref 0), some (fI 0)]) (st_q := [fI 0]) (h_q := h) (cl_q := 0) (sl_q := 0) rfl ?_
  refine fw_if_lt rfl rfl (by decide +kernel) (by decide +kernel) (fun hc1 => absurd hc1 (by decide +kernel)) (fun hc1 => ?_)
  refine ik_Wk 2 (pc_q := 6) (loc_q := [some (.ref 0), some (fI 0)]) (st_q := [fI 2, fI 0]) (h_q := h) (cl_q := 0) (sl_q := 0) rfl ?_
  refine fw_ic_le rfl rfl (by decide +kernel) (by decide +kernel) (by decide +kernel) (by decide +kernel) (fun hc2 => ?_) (fun hc2 => absurd hc2 (by decide +kernel))
  refine ik_Wk 1 (pc_q := 13) (loc_q := [some (.ref 0), some (fI 0)]) (st_q := [.ref 0]) (h_q := h) (cl_q := 0) (sl_q := 0) rfl ?_
  refine fw_gf rfl rfl h0 rfl ?_
  refine ik_Wc 7 1 0 [.ref 7] [] rfl rfl rfl (by decide +kernel) rfl rfl (fw_rec hl rfl h7 rfl (Nat.le_of_ble_eq_true rfl)) ?_
  refine ik_Wk 0 (pc_q := 0) (loc_q := [some (.ref 7)]) (st_q := []) (h_q := h) (cl_q := 0) (sl_q := 0) rfl ?_
  refine ik_Wk 1 (pc_q := 1) (loc_q := [some (.ref 7)]) (st_q := [.ref 7]) (h_q := h) (cl_q := 0) (sl_q := 0) rfl ?_
  refine fw_gf rfl rfl h7 rfl ?_
  refine ik_Wk 1 (pc_q := 5) (loc_q := [some (.ref 7)]) (st_q := [fI 1, fI pl]) (h_q := h) (cl_q := 0) (sl_q := 0) rfl ?_
  refine fw_ic_le rfl rfl (by omega) (by omega) (by omega) (by omega) (fun hc3 => ?_) (fun hc3 => ?_)
  · refine ik_Wk 1 (pc_q := 13) (loc_q := [some (.ref 7)]) (st_q := [fI 0]) (h_q := h) (cl_q := 0) (sl_q := 0) rfl ?_
    refine ik_Wret rfl rfl ⟨_, _, rfl, rfl, ?_⟩
    refine ik_Wk 0 (pc_q := 19) (loc_q := [some (.ref 0), some (fI 0)]) (st_q := [fI 0]) (h_q := h) (cl_q := 0) (sl_q := 0) rfl ?_
    refine fw_if_ne rfl rfl (by decide +kernel) (by decide +kernel) (fun hc4 => ?_) (fun hc4 => absurd hc4 (by decide +kernel))
    refine fw_ld (-1000000003) rfl rfl (by decide +kernel) ?_
    exact ik_Wret rfl rfl ⟨_, _, rfl, rfl, rfl, rfl, ⟨la, lb, bo, (congrArg (fun z => [fI z]) (by unfold an_la; rw [if_pos (by decide +kernel), if_neg (by omega)])), h17, h19, h21, h33, (hfr_refl [17, 19, 21, 22, 23, 24, 33, 34, 35, 36] h)⟩⟩
  · refine ik_Wk 2 (pc_q := 13) (loc_q := [some (.ref 7)]) (st_q := [fI 1]) (h_q := h) (cl_q := 0) (sl_q := 0) rfl ?_
    refine ik_Wret rfl rfl ⟨_, _, rfl, rfl, ?_⟩
    refine ik_Wk 0 (pc_q := 19) (loc_q := [some (.ref 0), some (fI 0)]) (st_q := [fI 1]) (h_q := h) (cl_q := 0) (sl_q := 0) rfl ?_
    refine fw_if_ne rfl rfl (by decide +kernel) (by decide +kernel) (fun hc5 => absurd hc5 (by decide +kernel)) (fun hc5 => ?_)
    refine ik_Wk 1 (pc_q := 26) (loc_q := [some (.ref 0), some (fI 0)]) (st_q := [.ref 0]) (h_q := h) (cl_q := 0) (sl_q := 0) rfl ?_
    refine fw_gf rfl rfl h0 rfl ?_
    refine fw_ld 1000000 rfl rfl (by decide +kernel) ?_
    refine fw_call 79 2 0 [.ref 17, fI 1000000] [] rfl rfl rfl (Nat.le_of_ble_eq_true rfl) rfl rfl (fw_rec hl rfl h17 rfl (Nat.le_of_ble_eq_true rfl)) (cs_raceAsSet (pl := pl) (lo := lo) (s := s) (ka := ka) (pa := pa) (fa := fa) (kb := kb) (pb := pb) (fb := fb) (lim := 1000000) (bo := bo) (la := la) (lb := lb) (wg := wg) (wc := wc) (we := we) (W := W) (by omega) (by omega) (q3 (by omega)) (q4 (by omega)) (by omega) (by omega) q1 q2 h7 h11 n11 h12 n12 h13 n13 h15 h17 h18 h19 h21 h33 hl) ?_
    rintro _ h_372 ⟨l0_372, l1_372, l2_372, rfl, e_372_17, e_372_19, e_372_21, e_372_33, p_372_0, p_372_1, F_372⟩
    have k_372 : cL h_372 := F_372.1.trans hl
    have fr_372 := hfr_cb (hfr_refl [17, 19, 21, 22, 23, 24, 33, 34, 35, 36] h) F_372 rfl
    have g_372_0 := (hfr_g F_372 0 rfl).trans h0
    have g_372_7 := (hfr_g F_372 7 rfl).trans h7
    have g_372_11 := (hfr_g F_372 11 rfl).trans h11
    have g_372_12 := (hfr_g F_372 12 rfl).trans h12
    have g_372_13 := (hfr_g F_372 13 rfl).trans h13
    have g_372_18 := (hfr_g F_372 18 rfl).trans h18
    have g_372_15 := (hfr_g F_372 15 rfl).trans h15
    have g_372_17 : cE h_372 17 (.inr (8, [.ref 7, .ref 15, .ref 18, .ref 19, fJ l2_372, .ref 20])) := e_372_17
    have g_372_19 : cE h_372 19 (.inl (.long, fL [l0_372, l1_372])) := e_372_19
    have g_372_21 : mf_cr h_372 21  := e_372_21
    have g_372_33 : mf_cr h_372 33  := e_372_33
    refine ik_Wk 0 (pc_q := 34) (loc_q := [some (.ref 0), some (fI 0)]) (st_q := []) (h_q := h_372) (cl_q := 0) (sl_q := 0) rfl ?_
    have ka_372 := mr_ok_cm (W := W) (k := ka) q2 (q3 (by omega))
    have kb_372 := mr_ok_cm (W := W) (k := kb) q2 (q4 (by omega))
    have Fa_372 := mr_F_b ka_372 kb_372 fa (show 0 ≤ fb by omega)
    have Fb_372 := mr_F_b kb_372 ka_372 fb (show 0 ≤ fa by omega)
    have el_372 : l0_372 = mr_F0 (mf_cm W (pl - 1) ka pa) fa (mf_cm W (pl - 1) kb pb) fb ∧ l1_372 = mr_F0 (mf_cm W (pl - 1) kb pb) fb (mf_cm W (pl - 1) ka pa) fa := by
      rcases p_372_1 with e | e
      · exact ⟨e.1, e.2.1⟩
      · omega
    have ew_372 : (l0_372 / 1000 : Int) = (mr_w (mf_cm W (pl - 1) ka pa) fa (mf_cm W (pl - 1) kb pb) fb 0 : Int) := by rw [mr_w_0, el_372.1]
    have wb_372 := mr_w_b ka_372 kb_372 (show 0 ≤ fa by omega) (show 0 ≤ fb by omega) 0
    refine ik_Wk 2 (pc_q := 36) (loc_q := [some (.ref 0), some (fI 0)]) (st_q := [fI 2, fI 0]) (h_q := h_372) (cl_q := 0) (sl_q := 0) rfl ?_
    refine fw_ic_ne rfl rfl (by decide +kernel) (by decide +kernel) (by decide +kernel) (by decide +kernel) (fun hc6 => absurd hc6 (by decide +kernel)) (fun hc6 => ?_)
    refine ik_Wk 1 (pc_q := 50) (loc_q := [some (.ref 0), some (fI 0)]) (st_q := [.ref 0]) (h_q := h_372) (cl_q := 0) (sl_q := 0) rfl ?_
    refine fw_gf rfl rfl g_372_0 rfl ?_
    refine ik_Wk 1 (pc_q := 54) (loc_q := [some (.ref 0), some (fI 0)]) (st_q := [fI 0, .ref 17]) (h_q := h_372) (cl_q := 0) (sl_q := 0) rfl ?_
    refine ik_Wc 74 2 0 [.ref 17, fI 0] [] rfl rfl rfl (by decide +kernel) rfl rfl (fw_rec k_372 rfl g_372_17 rfl (Nat.le_of_ble_eq_true rfl)) ?_
    refine ik_Wk 0 (pc_q := 0) (loc_q := [some (.ref 17), some (fI 0)]) (st_q := []) (h_q := h_372) (cl_q := 0) (sl_q := 0) rfl ?_
    refine ik_Wk 1 (pc_q := 1) (loc_q := [some (.ref 17), some (fI 0)]) (st_q := [.ref 17]) (h_q := h_372) (cl_q := 0) (sl_q := 0) rfl ?_
    refine fw_gf rfl rfl g_372_17 rfl ?_
    refine ik_Wk 1 (pc_q := 5) (loc_q := [some (.ref 17), some (fI 0)]) (st_q := [fI 0, .ref 19]) (h_q := h_372) (cl_q := 0) (sl_q := 0) rfl ?_
    refine fx_lal (z := 0) rfl g_372_19 (by decide +kernel) (Nat.le_of_ble_eq_true rfl) (by decide +kernel) ?_
    refine ik_Wk 0 (pc_q := 6) (loc_q := [some (.ref 17), some (fI 0)]) (st_q := [fJ l0_372]) (h_q := h_372) (cl_q := 0) (sl_q := 0) rfl ?_
    refine fw_l2 1000 rfl rfl (by decide +kernel) ?_
    refine fx_ldiv rfl (by omega) (by omega) (by omega) (by omega) ?_
    refine fx_l2i rfl ?_
    refine ik_Wret rfl rfl ⟨_, _, rfl, rfl, ?_⟩
    refine ik_Wk 0 (pc_q := 57) (loc_q := [some (.ref 0), some (fI 0)]) (st_q := [fI (l0_372 / 1000)]) (h_q := h_372) (cl_q := 0) (sl_q := 0) rfl ?_
    exact ik_Wret rfl rfl ⟨_, _, rfl, rfl, rfl, rfl, ⟨l0_372, l1_372, l2_372, (congrArg (fun z => [fI z]) (by rw [ew_372]; unfold an_la; rw [if_pos (by decide +kernel), if_pos (by omega)])), g_372_17, g_372_19, g_372_21, g_372_33, fr_372⟩⟩

theorem cp_later1 {h : List ik_E} {pl : Int} {lo : Int} {s : Nat} {bo : Int} {wg : List Int} {wc : List Int} {we : List Int} {W : Int → List (Int × Int)} {ka : Int} {pa : Int} {fa : Int} {kb : Int} {pb : Int} {fb : Int} {la : Int} {lb : Int} (q0 : 0 ≤ pl ∧ pl ≤ 12) (q1 : ∀ x : Int, (0 : Int) ≤ x → x < pl - 1 → mx_wy wg wc we x (W x)) (q2 : ∀ x : Int, (0 : Int) ≤ x → x < pl - 1 → mx_ok pl (W x)) (q3 : (1 : Int) < pl → (0 : Int) ≤ pa ∧ pa < pl - 1) (q4 : (1 : Int) < pl → (0 : Int) ≤ pb ∧ pb < pl - 1) (q5 : (0 : Int) ≤ ka ∧ ka ≤ (2 : Int) ∧ (0 : Int) ≤ kb ∧ kb ≤ (2 : Int)) (q6 : (0 : Int) ≤ fa ∧ fa ≤ (30 : Int) ∧ (0 : Int) ≤ fb ∧ fb ≤ (30 : Int)) (h0 : cE h 0 (.inr (9, [.ref 1, .ref 7, .ref 14, .ref 17, .ref 45, .ref 51, .ref 54, .ref 57]))) (h7 : cE h 7 (.inr (0, [fI pl, fI ((s : Nat) : Int), fI lo, .ref 8, .ref 9, .ref 10, .ref 11, .ref 12, .ref 13]))) (h11 : cE h 11 (.inl (.int, fA wg))) (n11 : wg.length = (60 : Nat)) (h12 : cE h 12 (.inl (.int, fA wc))) (n12 : wc.length = (60 : Nat)) (h13 : cE h 13 (.inl (.int, fA we))) (n13 : we.length = (12 : Nat)) (h17 : cE h 17 (.inr (8, [.ref 7, .ref 15, .ref 18, .ref 19, fJ bo, .ref 20]))) (h18 : cE h 18 (.inl (.object "SlowerCork$Course", [.ref 21, .ref 25, .ref 29, .ref 33, .ref 37, .ref 41]))) (h15 : cE h 15 (.inl (.int, fA [ka, pa, fa, kb, pb, fb]))) (h19 : cE h 19 (.inl (.long, fL [la, lb]))) (h21 : mf_cr h 21 ) (h33 : mf_cr h 33 ) (hl : h.length = (94 : Nat)) : ik_F 100 [.ref 0, fI 1] h (fun rv h_q => ∃ (l0 : Int) (l1 : Int) (l2 : Int), rv = [fI (an_la 1 pl (mr_w (mf_cm W (pl - 1) ka pa) fa (mf_cm W (pl - 1) kb pb) fb 1))] ∧ cE h_q 17 (.inr (8, [.ref 7, .ref 15, .ref 18, .ref 19, fJ l2, .ref 20])) ∧ cE h_q 19 (.inl (.long, fL [l0, l1])) ∧ mf_cr h_q 21  ∧ mf_cr h_q 33  ∧ hfr [17, 19, 21, 22, 23, 24, 33, 34, 35, 36] h h_q) := by
  refine ik_Wk 1 (pc_q := 1) (loc_q := [some (.ref 0), some (fI 1)]) (st_q := [fI 1]) (h_q := h) (cl_q := 0) (sl_q := 0) rfl ?_
  refine fw_if_lt rfl rfl (by decide +kernel) (by decide +kernel) (fun hc1 => absurd hc1 (by decide +kernel)) (fun hc1 => ?_)
  refine ik_Wk 2 (pc_q := 6) (loc_q := [some (.ref 0), some (fI 1)]) (st_q := [fI 2, fI 1]) (h_q := h) (cl_q := 0) (sl_q := 0) rfl ?_
  refine fw_ic_le rfl rfl (by decide +kernel) (by decide +kernel) (by decide +kernel) (by decide +kernel) (fun hc2 => ?_) (fun hc2 => absurd hc2 (by decide +kernel))
  refine ik_Wk 1 (pc_q := 13) (loc_q := [some (.ref 0), some (fI 1)]) (st_q := [.ref 0]) (h_q := h) (cl_q := 0) (sl_q := 0) rfl ?_
  refine fw_gf rfl rfl h0 rfl ?_
  refine ik_Wc 7 1 0 [.ref 7] [] rfl rfl rfl (by decide +kernel) rfl rfl (fw_rec hl rfl h7 rfl (Nat.le_of_ble_eq_true rfl)) ?_
  refine ik_Wk 0 (pc_q := 0) (loc_q := [some (.ref 7)]) (st_q := []) (h_q := h) (cl_q := 0) (sl_q := 0) rfl ?_
  refine ik_Wk 1 (pc_q := 1) (loc_q := [some (.ref 7)]) (st_q := [.ref 7]) (h_q := h) (cl_q := 0) (sl_q := 0) rfl ?_
  refine fw_gf rfl rfl h7 rfl ?_
  refine ik_Wk 1 (pc_q := 5) (loc_q := [some (.ref 7)]) (st_q := [fI 1, fI pl]) (h_q := h) (cl_q := 0) (sl_q := 0) rfl ?_
  refine fw_ic_le rfl rfl (by omega) (by omega) (by omega) (by omega) (fun hc3 => ?_) (fun hc3 => ?_)
  · refine ik_Wk 1 (pc_q := 13) (loc_q := [some (.ref 7)]) (st_q := [fI 0]) (h_q := h) (cl_q := 0) (sl_q := 0) rfl ?_
    refine ik_Wret rfl rfl ⟨_, _, rfl, rfl, ?_⟩
    refine ik_Wk 0 (pc_q := 19) (loc_q := [some (.ref 0), some (fI 1)]) (st_q := [fI 0]) (h_q := h) (cl_q := 0) (sl_q := 0) rfl ?_
    refine fw_if_ne rfl rfl (by decide +kernel) (by decide +kernel) (fun hc4 => ?_) (fun hc4 => absurd hc4 (by decide +kernel))
    refine fw_ld (-1000000003) rfl rfl (by decide +kernel) ?_
    exact ik_Wret rfl rfl ⟨_, _, rfl, rfl, rfl, rfl, ⟨la, lb, bo, (congrArg (fun z => [fI z]) (by unfold an_la; rw [if_pos (by decide +kernel), if_neg (by omega)])), h17, h19, h21, h33, (hfr_refl [17, 19, 21, 22, 23, 24, 33, 34, 35, 36] h)⟩⟩
  · refine ik_Wk 2 (pc_q := 13) (loc_q := [some (.ref 7)]) (st_q := [fI 1]) (h_q := h) (cl_q := 0) (sl_q := 0) rfl ?_
    refine ik_Wret rfl rfl ⟨_, _, rfl, rfl, ?_⟩
    refine ik_Wk 0 (pc_q := 19) (loc_q := [some (.ref 0), some (fI 1)]) (st_q := [fI 1]) (h_q := h) (cl_q := 0) (sl_q := 0) rfl ?_
    refine fw_if_ne rfl rfl (by decide +kernel) (by decide +kernel) (fun hc5 => absurd hc5 (by decide +kernel)) (fun hc5 => ?_)
    refine ik_Wk 1 (pc_q := 26) (loc_q := [some (.ref 0), some (fI 1)]) (st_q := [.ref 0]) (h_q := h) (cl_q := 0) (sl_q := 0) rfl ?_
    refine fw_gf rfl rfl h0 rfl ?_
    refine fw_ld 1000000 rfl rfl (by decide +kernel) ?_
    refine fw_call 79 2 0 [.ref 17, fI 1000000] [] rfl rfl rfl (Nat.le_of_ble_eq_true rfl) rfl rfl (fw_rec hl rfl h17 rfl (Nat.le_of_ble_eq_true rfl)) (cs_raceAsSet (pl := pl) (lo := lo) (s := s) (ka := ka) (pa := pa) (fa := fa) (kb := kb) (pb := pb) (fb := fb) (lim := 1000000) (bo := bo) (la := la) (lb := lb) (wg := wg) (wc := wc) (we := we) (W := W) (by omega) (by omega) (q3 (by omega)) (q4 (by omega)) (by omega) (by omega) q1 q2 h7 h11 n11 h12 n12 h13 n13 h15 h17 h18 h19 h21 h33 hl) ?_
    rintro _ h_373 ⟨l0_373, l1_373, l2_373, rfl, e_373_17, e_373_19, e_373_21, e_373_33, p_373_0, p_373_1, F_373⟩
    have k_373 : cL h_373 := F_373.1.trans hl
    have fr_373 := hfr_cb (hfr_refl [17, 19, 21, 22, 23, 24, 33, 34, 35, 36] h) F_373 rfl
    have g_373_0 := (hfr_g F_373 0 rfl).trans h0
    have g_373_7 := (hfr_g F_373 7 rfl).trans h7
    have g_373_11 := (hfr_g F_373 11 rfl).trans h11
    have g_373_12 := (hfr_g F_373 12 rfl).trans h12
    have g_373_13 := (hfr_g F_373 13 rfl).trans h13
    have g_373_18 := (hfr_g F_373 18 rfl).trans h18
    have g_373_15 := (hfr_g F_373 15 rfl).trans h15
    have g_373_17 : cE h_373 17 (.inr (8, [.ref 7, .ref 15, .ref 18, .ref 19, fJ l2_373, .ref 20])) := e_373_17
    have g_373_19 : cE h_373 19 (.inl (.long, fL [l0_373, l1_373])) := e_373_19
    have g_373_21 : mf_cr h_373 21  := e_373_21
    have g_373_33 : mf_cr h_373 33  := e_373_33
    refine ik_Wk 0 (pc_q := 34) (loc_q := [some (.ref 0), some (fI 1)]) (st_q := []) (h_q := h_373) (cl_q := 0) (sl_q := 0) rfl ?_
    have ka_373 := mr_ok_cm (W := W) (k := ka) q2 (q3 (by omega))
    have kb_373 := mr_ok_cm (W := W) (k := kb) q2 (q4 (by omega))
    have Fa_373 := mr_F_b ka_373 kb_373 fa (show 0 ≤ fb by omega)
    have Fb_373 := mr_F_b kb_373 ka_373 fb (show 0 ≤ fa by omega)
    have el_373 : l0_373 = mr_F0 (mf_cm W (pl - 1) ka pa) fa (mf_cm W (pl - 1) kb pb) fb ∧ l1_373 = mr_F0 (mf_cm W (pl - 1) kb pb) fb (mf_cm W (pl - 1) ka pa) fa := by
      rcases p_373_1 with e | e
      · exact ⟨e.1, e.2.1⟩
      · omega
    have ew_373 : (l1_373 / 1000 : Int) = (mr_w (mf_cm W (pl - 1) ka pa) fa (mf_cm W (pl - 1) kb pb) fb 1 : Int) := by rw [mr_w_1, el_373.2]
    have wb_373 := mr_w_b ka_373 kb_373 (show 0 ≤ fa by omega) (show 0 ≤ fb by omega) 1
    refine ik_Wk 2 (pc_q := 36) (loc_q := [some (.ref 0), some (fI 1)]) (st_q := [fI 2, fI 1]) (h_q := h_373) (cl_q := 0) (sl_q := 0) rfl ?_
    refine fw_ic_ne rfl rfl (by decide +kernel) (by decide +kernel) (by decide +kernel) (by decide +kernel) (fun hc6 => absurd hc6 (by decide +kernel)) (fun hc6 => ?_)
    refine ik_Wk 1 (pc_q := 50) (loc_q := [some (.ref 0), some (fI 1)]) (st_q := [.ref 0]) (h_q := h_373) (cl_q := 0) (sl_q := 0) rfl ?_
    refine fw_gf rfl rfl g_373_0 rfl ?_
    refine ik_Wk 1 (pc_q := 54) (loc_q := [some (.ref 0), some (fI 1)]) (st_q := [fI 1, .ref 17]) (h_q := h_373) (cl_q := 0) (sl_q := 0) rfl ?_
    refine ik_Wc 74 2 0 [.ref 17, fI 1] [] rfl rfl rfl (by decide +kernel) rfl rfl (fw_rec k_373 rfl g_373_17 rfl (Nat.le_of_ble_eq_true rfl)) ?_
    refine ik_Wk 0 (pc_q := 0) (loc_q := [some (.ref 17), some (fI 1)]) (st_q := []) (h_q := h_373) (cl_q := 0) (sl_q := 0) rfl ?_
    refine ik_Wk 1 (pc_q := 1) (loc_q := [some (.ref 17), some (fI 1)]) (st_q := [.ref 17]) (h_q := h_373) (cl_q := 0) (sl_q := 0) rfl ?_
    refine fw_gf rfl rfl g_373_17 rfl ?_
    refine ik_Wk 1 (pc_q := 5) (loc_q := [some (.ref 17), some (fI 1)]) (st_q := [fI 1, .ref 19]) (h_q := h_373) (cl_q := 0) (sl_q := 0) rfl ?_
    refine fx_lal (z := 1) rfl g_373_19 (by decide +kernel) (Nat.le_of_ble_eq_true rfl) (by decide +kernel) ?_
    refine ik_Wk 0 (pc_q := 6) (loc_q := [some (.ref 17), some (fI 1)]) (st_q := [fJ l1_373]) (h_q := h_373) (cl_q := 0) (sl_q := 0) rfl ?_
    refine fw_l2 1000 rfl rfl (by decide +kernel) ?_
    refine fx_ldiv rfl (by omega) (by omega) (by omega) (by omega) ?_
    refine fx_l2i rfl ?_
    refine ik_Wret rfl rfl ⟨_, _, rfl, rfl, ?_⟩
    refine ik_Wk 0 (pc_q := 57) (loc_q := [some (.ref 0), some (fI 1)]) (st_q := [fI (l1_373 / 1000)]) (h_q := h_373) (cl_q := 0) (sl_q := 0) rfl ?_
    exact ik_Wret rfl rfl ⟨_, _, rfl, rfl, rfl, rfl, ⟨l0_373, l1_373, l2_373, (congrArg (fun z => [fI z]) (by rw [ew_373]; unfold an_la; rw [if_pos (by decide +kernel), if_pos (by omega)])), g_373_17, g_373_19, g_373_21, g_373_33, fr_373⟩⟩

theorem cp_later2 {h : List ik_E} {pl : Int} {lo : Int} {s : Nat} {bo : Int} {wg : List Int} {wc : List Int} {we : List Int} {W : Int → List (Int × Int)} {ka : Int} {pa : Int} {fa : Int} {kb : Int} {pb : Int} {fb : Int} {la : Int} {lb : Int} (q0 : 0 ≤ pl ∧ pl ≤ 12) (q1 : ∀ x : Int, (0 : Int) ≤ x → x < pl - 1 → mx_wy wg wc we x (W x)) (q2 : ∀ x : Int, (0 : Int) ≤ x → x < pl - 1 → mx_ok pl (W x)) (q3 : (1 : Int) < pl → (0 : Int) ≤ pa ∧ pa < pl - 1) (q4 : (1 : Int) < pl → (0 : Int) ≤ pb ∧ pb < pl - 1) (q5 : (0 : Int) ≤ ka ∧ ka ≤ (2 : Int) ∧ (0 : Int) ≤ kb ∧ kb ≤ (2 : Int)) (q6 : (0 : Int) ≤ fa ∧ fa ≤ (30 : Int) ∧ (0 : Int) ≤ fb ∧ fb ≤ (30 : Int)) (h0 : cE h 0 (.inr (9, [.ref 1, .ref 7, .ref 14, .ref 17, .ref 45, .ref 51, .ref 54, .ref 57]))) (h7 : cE h 7 (.inr (0, [fI pl, fI ((s : Nat) : Int), fI lo, .ref 8, .ref 9, .ref 10, .ref 11, .ref 12, .ref 13]))) (h11 : cE h 11 (.inl (.int, fA wg))) (n11 : wg.length = (60 : Nat)) (h12 : cE h 12 (.inl (.int, fA wc))) (n12 : wc.length = (60 : Nat)) (h13 : cE h 13 (.inl (.int, fA we))) (n13 : we.length = (12 : Nat)) (h17 : cE h 17 (.inr (8, [.ref 7, .ref 15, .ref 18, .ref 19, fJ bo, .ref 20]))) (h18 : cE h 18 (.inl (.object "SlowerCork$Course", [.ref 21, .ref 25, .ref 29, .ref 33, .ref 37, .ref 41]))) (h15 : cE h 15 (.inl (.int, fA [ka, pa, fa, kb, pb, fb]))) (h19 : cE h 19 (.inl (.long, fL [la, lb]))) (h21 : mf_cr h 21 ) (h33 : mf_cr h 33 ) (hl : h.length = (94 : Nat)) : ik_F 100 [.ref 0, fI 2] h (fun rv h_q => ∃ (l0 : Int) (l1 : Int) (l2 : Int), rv = [fI (an_la 2 pl (mr_w (mf_cm W (pl - 1) ka pa) fa (mf_cm W (pl - 1) kb pb) fb 2))] ∧ cE h_q 17 (.inr (8, [.ref 7, .ref 15, .ref 18, .ref 19, fJ l2, .ref 20])) ∧ cE h_q 19 (.inl (.long, fL [l0, l1])) ∧ mf_cr h_q 21  ∧ mf_cr h_q 33  ∧ hfr [17, 19, 21, 22, 23, 24, 33, 34, 35, 36] h h_q) := by
  refine ik_Wk 1 (pc_q := 1) (loc_q := [some (.ref 0), some (fI 2)]) (st_q := [fI 2]) (h_q := h) (cl_q := 0) (sl_q := 0) rfl ?_
  refine fw_if_lt rfl rfl (by decide +kernel) (by decide +kernel) (fun hc1 => absurd hc1 (by decide +kernel)) (fun hc1 => ?_)
  refine ik_Wk 2 (pc_q := 6) (loc_q := [some (.ref 0), some (fI 2)]) (st_q := [fI 2, fI 2]) (h_q := h) (cl_q := 0) (sl_q := 0) rfl ?_
  refine fw_ic_le rfl rfl (by decide +kernel) (by decide +kernel) (by decide +kernel) (by decide +kernel) (fun hc2 => ?_) (fun hc2 => absurd hc2 (by decide +kernel))
  refine ik_Wk 1 (pc_q := 13) (loc_q := [some (.ref 0), some (fI 2)]) (st_q := [.ref 0]) (h_q := h) (cl_q := 0) (sl_q := 0) rfl ?_
  refine fw_gf rfl rfl h0 rfl ?_
  refine ik_Wc 7 1 0 [.ref 7] [] rfl rfl rfl (by decide +kernel) rfl rfl (fw_rec hl rfl h7 rfl (Nat.le_of_ble_eq_true rfl)) ?_
  refine ik_Wk 0 (pc_q := 0) (loc_q := [some (.ref 7)]) (st_q := []) (h_q := h) (cl_q := 0) (sl_q := 0) rfl ?_
  refine ik_Wk 1 (pc_q := 1) (loc_q := [some (.ref 7)]) (st_q := [.ref 7]) (h_q := h) (cl_q := 0) (sl_q := 0) rfl ?_
  refine fw_gf rfl rfl h7 rfl ?_
  refine ik_Wk 1 (pc_q := 5) (loc_q := [some (.ref 7)]) (st_q := [fI 1, fI pl]) (h_q := h) (cl_q := 0) (sl_q := 0) rfl ?_
  refine fw_ic_le rfl rfl (by omega) (by omega) (by omega) (by omega) (fun hc3 => ?_) (fun hc3 => ?_)
  · refine ik_Wk 1 (pc_q := 13) (loc_q := [some (.ref 7)]) (st_q := [fI 0]) (h_q := h) (cl_q := 0) (sl_q := 0) rfl ?_
    refine ik_Wret rfl rfl ⟨_, _, rfl, rfl, ?_⟩
    refine ik_Wk 0 (pc_q := 19) (loc_q := [some (.ref 0), some (fI 2)]) (st_q := [fI 0]) (h_q := h) (cl_q := 0) (sl_q := 0) rfl ?_
    refine fw_if_ne rfl rfl (by decide +kernel) (by decide +kernel) (fun hc4 => ?_) (fun hc4 => absurd hc4 (by decide +kernel))
    refine fw_ld (-1000000003) rfl rfl (by decide +kernel) ?_
    exact ik_Wret rfl rfl ⟨_, _, rfl, rfl, rfl, rfl, ⟨la, lb, bo, (congrArg (fun z => [fI z]) (by unfold an_la; rw [if_pos (by decide +kernel), if_neg (by omega)])), h17, h19, h21, h33, (hfr_refl [17, 19, 21, 22, 23, 24, 33, 34, 35, 36] h)⟩⟩
  · refine ik_Wk 2 (pc_q := 13) (loc_q := [some (.ref 7)]) (st_q := [fI 1]) (h_q := h) (cl_q := 0) (sl_q := 0) rfl ?_
    refine ik_Wret rfl rfl ⟨_, _, rfl, rfl, ?_⟩
    refine ik_Wk 0 (pc_q := 19) (loc_q := [some (.ref 0), some (fI 2)]) (st_q := [fI 1]) (h_q := h) (cl_q := 0) (sl_q := 0) rfl ?_
    refine fw_if_ne rfl rfl (by decide +kernel) (by decide +kernel) (fun hc5 => absurd hc5 (by decide +kernel)) (fun hc5 => ?_)
    refine ik_Wk 1 (pc_q := 26) (loc_q := [some (.ref 0), some (fI 2)]) (st_q := [.ref 0]) (h_q := h) (cl_q := 0) (sl_q := 0) rfl ?_
    refine fw_gf rfl rfl h0 rfl ?_
    refine fw_ld 1000000 rfl rfl (by decide +kernel) ?_
    refine fw_call 79 2 0 [.ref 17, fI 1000000] [] rfl rfl rfl (Nat.le_of_ble_eq_true rfl) rfl rfl (fw_rec hl rfl h17 rfl (Nat.le_of_ble_eq_true rfl)) (cs_raceAsSet (pl := pl) (lo := lo) (s := s) (ka := ka) (pa := pa) (fa := fa) (kb := kb) (pb := pb) (fb := fb) (lim := 1000000) (bo := bo) (la := la) (lb := lb) (wg := wg) (wc := wc) (we := we) (W := W) (by omega) (by omega) (q3 (by omega)) (q4 (by omega)) (by omega) (by omega) q1 q2 h7 h11 n11 h12 n12 h13 n13 h15 h17 h18 h19 h21 h33 hl) ?_
    rintro _ h_374 ⟨l0_374, l1_374, l2_374, rfl, e_374_17, e_374_19, e_374_21, e_374_33, p_374_0, p_374_1, F_374⟩
    have k_374 : cL h_374 := F_374.1.trans hl
    have fr_374 := hfr_cb (hfr_refl [17, 19, 21, 22, 23, 24, 33, 34, 35, 36] h) F_374 rfl
    have g_374_0 := (hfr_g F_374 0 rfl).trans h0
    have g_374_7 := (hfr_g F_374 7 rfl).trans h7
    have g_374_11 := (hfr_g F_374 11 rfl).trans h11
    have g_374_12 := (hfr_g F_374 12 rfl).trans h12
    have g_374_13 := (hfr_g F_374 13 rfl).trans h13
    have g_374_18 := (hfr_g F_374 18 rfl).trans h18
    have g_374_15 := (hfr_g F_374 15 rfl).trans h15
    have g_374_17 : cE h_374 17 (.inr (8, [.ref 7, .ref 15, .ref 18, .ref 19, fJ l2_374, .ref 20])) := e_374_17
    have g_374_19 : cE h_374 19 (.inl (.long, fL [l0_374, l1_374])) := e_374_19
    have g_374_21 : mf_cr h_374 21  := e_374_21
    have g_374_33 : mf_cr h_374 33  := e_374_33
    refine ik_Wk 0 (pc_q := 34) (loc_q := [some (.ref 0), some (fI 2)]) (st_q := []) (h_q := h_374) (cl_q := 0) (sl_q := 0) rfl ?_
    have ka_374 := mr_ok_cm (W := W) (k := ka) q2 (q3 (by omega))
    have kb_374 := mr_ok_cm (W := W) (k := kb) q2 (q4 (by omega))
    have Fa_374 := mr_F_b ka_374 kb_374 fa (show 0 ≤ fb by omega)
    have Fb_374 := mr_F_b kb_374 ka_374 fb (show 0 ≤ fa by omega)
    have el_374 : l2_374 = mr_F2 (mf_cm W (pl - 1) ka pa) fa (mf_cm W (pl - 1) kb pb) fb := by
      rcases p_374_1 with e | e
      · exact e.2.2
      · omega
    have ew_374 : (l2_374 / 1000 : Int) = (mr_w (mf_cm W (pl - 1) ka pa) fa (mf_cm W (pl - 1) kb pb) fb 2 : Int) := by rw [mr_w_2, el_374]
    refine ik_Wk 2 (pc_q := 36) (loc_q := [some (.ref 0), some (fI 2)]) (st_q := [fI 2, fI 2]) (h_q := h_374) (cl_q := 0) (sl_q := 0) rfl ?_
    refine fw_ic_ne rfl rfl (by decide +kernel) (by decide +kernel) (by decide +kernel) (by decide +kernel) (fun hc6 => ?_) (fun hc6 => absurd hc6 (by decide +kernel))
    refine ik_Wk 1 (pc_q := 40) (loc_q := [some (.ref 0), some (fI 2)]) (st_q := [.ref 0]) (h_q := h_374) (cl_q := 0) (sl_q := 0) rfl ?_
    refine fw_gf rfl rfl g_374_0 rfl ?_
    refine ik_Wc 75 1 0 [.ref 17] [] rfl rfl rfl (by decide +kernel) rfl rfl (fw_rec k_374 rfl g_374_17 rfl (Nat.le_of_ble_eq_true rfl)) ?_
    refine ik_Wk 0 (pc_q := 0) (loc_q := [some (.ref 17)]) (st_q := []) (h_q := h_374) (cl_q := 0) (sl_q := 0) rfl ?_
    refine ik_Wk 1 (pc_q := 1) (loc_q := [some (.ref 17)]) (st_q := [.ref 17]) (h_q := h_374) (cl_q := 0) (sl_q := 0) rfl ?_
    refine fw_gf rfl rfl g_374_17 rfl ?_
    refine fw_l2 1000 rfl rfl (by decide +kernel) ?_
    refine fx_ldiv rfl (by omega) (by omega) (by omega) (by omega) ?_
    refine fx_l2i rfl ?_
    refine ik_Wret rfl rfl ⟨_, _, rfl, rfl, ?_⟩
    refine ik_Wk 0 (pc_q := 46) (loc_q := [some (.ref 0), some (fI 2)]) (st_q := [fI (l2_374 / 1000)]) (h_q := h_374) (cl_q := 0) (sl_q := 0) rfl ?_
    refine ik_Wk 1 (pc_q := 57) (loc_q := [some (.ref 0), some (fI 2)]) (st_q := [fI (l2_374 / 1000)]) (h_q := h_374) (cl_q := 0) (sl_q := 0) rfl ?_
    exact ik_Wret rfl rfl ⟨_, _, rfl, rfl, rfl, rfl, ⟨l0_374, l1_374, l2_374, (congrArg (fun z => [fI z]) (by rw [ew_374]; unfold an_la; rw [if_pos (by decide +kernel), if_pos (by omega)])), g_374_17, g_374_19, g_374_21, g_374_33, fr_374⟩⟩

theorem cp_laterE {h : List ik_E} {what : Int} (q0 : -2147483648 ≤ what ∧ what < 2147483648) (q1 : what < 0 ∨ 2 < what) (h0 : cE h 0 (.inr (9, [.ref 1, .ref 7, .ref 14, .ref 17, .ref 45, .ref 51, .ref 54, .ref 57]))) (hl : h.length = 94) : ik_F 100 [.ref 0, fI what] h (fun rv h_q => rv = [fI (-1000000002)] ∧ hfr [] h h_q) := by
  refine ik_Wk 1 (pc_q := 1) (loc_q := [some (.ref 0), some (fI what)]) (st_q := [fI what]) (h_q := h) (cl_q := 0) (sl_q := 0) rfl ?_
  refine fw_if_lt rfl rfl (by omega) (by omega) (fun hc1 => ?_) (fun hc1 => ?_)
  · refine fw_ld (-1000000002) rfl rfl (by decide +kernel) ?_
    exact ik_Wret rfl rfl ⟨_, _, rfl, rfl, rfl, rfl, ⟨rfl, (hfr_refl [] h)⟩⟩
  · refine ik_Wk 2 (pc_q := 6) (loc_q := [some (.ref 0), some (fI what)]) (st_q := [fI 2, fI what]) (h_q := h) (cl_q := 0) (sl_q := 0) rfl ?_
    refine fw_ic_le rfl rfl (by omega) (by omega) (by omega) (by omega) (fun hc2 => absurd hc2 (by omega)) (fun hc2 => ?_)
    refine fw_ld (-1000000002) rfl rfl (by decide +kernel) ?_
    exact ik_Wret rfl rfl ⟨_, _, rfl, rfl, rfl, rfl, ⟨rfl, (hfr_refl [] h)⟩⟩

theorem cp_best0 {h : List ik_E} {pl : Int} {lo : Int} {s : Nat} {bo : Int} {wg : List Int} {wc : List Int} {we : List Int} {W : Int → List (Int × Int)} {ka : Int} {pa : Int} {fa : Int} {kb : Int} {pb : Int} {fb : Int} {la : Int} {lb : Int} {t0 : Int} {t1 : Int} {t2 : Int} {t3 : Int} {m : Int} {what : Int} (q0 : 0 ≤ pl ∧ pl ≤ 12) (q1 : ∀ x : Int, (0 : Int) ≤ x → x < pl - 1 → mx_wy wg wc we x (W x)) (q2 : ∀ x : Int, (0 : Int) ≤ x → x < pl - 1 → mx_ok pl (W x)) (q3 : (1 : Int) < pl → (0 : Int) ≤ pa ∧ pa < pl - 1) (q4 : (1 : Int) < pl → (0 : Int) ≤ pb ∧ pb < pl - 1) (q5 : (0 : Int) ≤ ka ∧ ka ≤ (2 : Int) ∧ (0 : Int) ≤ kb ∧ kb ≤ (2 : Int)) (q6 : (0 : Int) ≤ fa ∧ fa ≤ (30 : Int) ∧ (0 : Int) ≤ fb ∧ fb ≤ (30 : Int)) (q7 : (-2147483648 : Int) ≤ m ∧ m < (2147483648 : Int)) (q8 : (-2147483648 : Int) ≤ what ∧ what < (2147483648 : Int)) (h0 : cE h 0 (.inr (9, [.ref 1, .ref 7, .ref 14, .ref 17, .ref 45, .ref 51, .ref 54, .ref 57]))) (h7 : cE h 7 (.inr (0, [fI pl, fI ((s : Nat) : Int), fI lo, .ref 8, .ref 9, .ref 10, .ref 11, .ref 12, .ref 13]))) (h11 : cE h 11 (.inl (.int, fA wg))) (n11 : wg.length = (60 : Nat)) (h12 : cE h 12 (.inl (.int, fA wc))) (n12 : wc.length = (60 : Nat)) (h13 : cE h 13 (.inl (.int, fA we))) (n13 : we.length = (12 : Nat)) (h17 : cE h 17 (.inr (8, [.ref 7, .ref 15, .ref 18, .ref 19, fJ bo, .ref 20]))) (h18 : cE h 18 (.inl (.object "SlowerCork$Course", [.ref 21, .ref 25, .ref 29, .ref 33, .ref 37, .ref 41]))) (h15 : cE h 15 (.inl (.int, fA [ka, pa, fa, kb, pb, fb]))) (h19 : cE h 19 (.inl (.long, fL [la, lb]))) (h21 : mf_cr h 21 ) (h33 : mf_cr h 33 ) (h20 : cE h 20 (.inl (.int, fA [t0, t1, t2, t3]))) (hl : h.length = (94 : Nat)) : ik_F 101 [.ref 0, fI 0, fI m, fI what] h (fun rv h_q => ∃ (l0 : Int) (l1 : Int) (l2 : Int) (z0 : Int) (z1 : Int) (z2 : Int) (z3 : Int), rv = [fI (an_be m what pl (if what = 0 then (mk_bp (mk_vb W pl ka pa fa kb pb fb 0) (m.toNat + 1) (pl - 1).toNat 0 0 0 1000001).1 else if what = 1 then (mk_bp (mk_vb W pl ka pa fa kb pb fb 0) (m.toNat + 1) (pl - 1).toNat 0 0 0 1000001).2.1 else (mk_bp (mk_vb W pl ka pa fa kb pb fb 0) (m.toNat + 1) (pl - 1).toNat 0 0 0 1000001).2.2))] ∧ cE h_q 17 (.inr (8, [.ref 7, .ref 15, .ref 18, .ref 19, fJ l2, .ref 20])) ∧ cE h_q 19 (.inl (.long, fL [l0, l1])) ∧ mf_cr h_q 21  ∧ mf_cr h_q 33  ∧ cE h_q 20 (.inl (.int, fA [z0, z1, z2, z3])) ∧ hfr [17, 19, 20, 21, 22, 23, 24, 33, 34, 35, 36] h h_q) := by
  refine ik_Wk 1 (pc_q := 1) (loc_q := [some (.ref 0), some (fI 0), some (fI m), some (fI what)]) (st_q := [fI 0]) (h_q := h) (cl_q := 0) (sl_q := 0) rfl ?_
  refine ik_Wc 121 1 3 [fI 0] [] rfl rfl rfl (by decide +kernel) rfl rfl (fw_sta hl rfl (by decide +kernel)) ?_
  refine ik_Wk 0 (pc_q := 0) (loc_q := [some (fI 0)]) (st_q := []) (h_q := h) (cl_q := 0) (sl_q := 0) rfl ?_
  refine ik_Wk 1 (pc_q := 1) (loc_q := [some (fI 0)]) (st_q := [fI 0]) (h_q := h) (cl_q := 0) (sl_q := 0) rfl ?_
  refine fw_if_eq rfl rfl (by decide +kernel) (by decide +kernel) (fun hc1 => ?_) (fun hc1 => absurd hc1 (by decide +kernel))
  refine ik_Wk 2 (pc_q := 14) (loc_q := [some (fI 0)]) (st_q := [fI 1]) (h_q := h) (cl_q := 0) (sl_q := 0) rfl ?_
  refine ik_Wret rfl rfl ⟨_, _, rfl, rfl, ?_⟩
  refine ik_Wk 0 (pc_q := 4) (loc_q := [some (.ref 0), some (fI 0), some (fI m), some (fI what)]) (st_q := [fI 1]) (h_q := h) (cl_q := 0) (sl_q := 0) rfl ?_
  refine fw_if_ne rfl rfl (by decide +kernel) (by decide +kernel) (fun hc2 => absurd hc2 (by decide +kernel)) (fun hc2 => ?_)
  refine ik_Wk 1 (pc_q := 11) (loc_q := [some (.ref 0), some (fI 0), some (fI m), some (fI what)]) (st_q := [fI m]) (h_q := h) (cl_q := 0) (sl_q := 0) rfl ?_
  refine fw_if_lt rfl rfl (by omega) (by omega) (fun hc3 => ?_) (fun hc3 => ?_)
  · refine fw_ld (-1000000002) rfl rfl (by decide +kernel) ?_
    exact ik_Wret rfl rfl ⟨_, _, rfl, rfl, rfl, rfl, ⟨la, lb, bo, t0, t1, t2, t3, (congrArg (fun z => [fI z]) (by unfold an_be; (repeat' split) <;> first | rfl | omega)), h17, h19, h21, h33, h20, (hfr_refl [17, 19, 20, 21, 22, 23, 24, 33, 34, 35, 36] h)⟩⟩
  · refine ik_Wk 1 (pc_q := 15) (loc_q := [some (.ref 0), some (fI 0), some (fI m), some (fI what)]) (st_q := [fI m]) (h_q := h) (cl_q := 0) (sl_q := 0) rfl ?_
    refine fw_bi rfl (by decide +kernel) ?_
    refine fw_ic_gt rfl rfl (by omega) (by omega) (by omega) (by omega) (fun hc4 => ?_) (fun hc4 => ?_)
    · refine fw_ld (-1000000002) rfl rfl (by decide +kernel) ?_
      exact ik_Wret rfl rfl ⟨_, _, rfl, rfl, rfl, rfl, ⟨la, lb, bo, t0, t1, t2, t3, (congrArg (fun z => [fI z]) (by unfold an_be; (repeat' split) <;> first | rfl | omega)), h17, h19, h21, h33, h20, (hfr_refl [17, 19, 20, 21, 22, 23, 24, 33, 34, 35, 36] h)⟩⟩
    · refine ik_Wk 1 (pc_q := 21) (loc_q := [some (.ref 0), some (fI 0), some (fI m), some (fI what)]) (st_q := [fI what]) (h_q := h) (cl_q := 0) (sl_q := 0) rfl ?_
      refine fw_if_lt rfl rfl (by omega) (by omega) (fun hc5 => ?_) (fun hc5 => ?_)
      · refine fw_ld (-1000000002) rfl rfl (by decide +kernel) ?_
        exact ik_Wret rfl rfl ⟨_, _, rfl, rfl, rfl, rfl, ⟨la, lb, bo, t0, t1, t2, t3, (congrArg (fun z => [fI z]) (by unfold an_be; (repeat' split) <;> first | rfl | omega)), h17, h19, h21, h33, h20, (hfr_refl [17, 19, 20, 21, 22, 23, 24, 33, 34, 35, 36] h)⟩⟩
      · refine ik_Wk 2 (pc_q := 26) (loc_q := [some (.ref 0), some (fI 0), some (fI m), some (fI what)]) (st_q := [fI 2, fI what]) (h_q := h) (cl_q := 0) (sl_q := 0) rfl ?_
        refine fw_ic_le rfl rfl (by omega) (by omega) (by omega) (by omega) (fun hc6 => ?_) (fun hc6 => ?_)
        · refine ik_Wk 1 (pc_q := 33) (loc_q := [some (.ref 0), some (fI 0), some (fI m), some (fI what)]) (st_q := [.ref 0]) (h_q := h) (cl_q := 0) (sl_q := 0) rfl ?_
          refine fw_gf rfl rfl h0 rfl ?_
          refine ik_Wc 7 1 0 [.ref 7] [] rfl rfl rfl (by decide +kernel) rfl rfl (fw_rec hl rfl h7 rfl (Nat.le_of_ble_eq_true rfl)) ?_
          refine ik_Wk 0 (pc_q := 0) (loc_q := [some (.ref 7)]) (st_q := []) (h_q := h) (cl_q := 0) (sl_q := 0) rfl ?_
          refine ik_Wk 1 (pc_q := 1) (loc_q := [some (.ref 7)]) (st_q := [.ref 7]) (h_q := h) (cl_q := 0) (sl_q := 0) rfl ?_
          refine fw_gf rfl rfl h7 rfl ?_
          refine ik_Wk 1 (pc_q := 5) (loc_q := [some (.ref 7)]) (st_q := [fI 1, fI pl]) (h_q := h) (cl_q := 0) (sl_q := 0) rfl ?_
          refine fw_ic_le rfl rfl (by omega) (by omega) (by omega) (by omega) (fun hc7 => ?_) (fun hc7 => ?_)
          · refine ik_Wk 1 (pc_q := 13) (loc_q := [some (.ref 7)]) (st_q := [fI 0]) (h_q := h) (cl_q := 0) (sl_q := 0) rfl ?_
            refine ik_Wret rfl rfl ⟨_, _, rfl, rfl, ?_⟩
            refine ik_Wk 0 (pc_q := 39) (loc_q := [some (.ref 0), some (fI 0), some (fI m), some (fI what)]) (st_q := [fI 0]) (h_q := h) (cl_q := 0) (sl_q := 0) rfl ?_
            refine fw_if_ne rfl rfl (by decide +kernel) (by decide +kernel) (fun hc8 => ?_) (fun hc8 => absurd hc8 (by decide +kernel))
            refine fw_ld (-1000000003) rfl rfl (by decide +kernel) ?_
            exact ik_Wret rfl rfl ⟨_, _, rfl, rfl, rfl, rfl, ⟨la, lb, bo, t0, t1, t2, t3, (congrArg (fun z => [fI z]) (by unfold an_be; (repeat' split) <;> first | rfl | omega)), h17, h19, h21, h33, h20, (hfr_refl [17, 19, 20, 21, 22, 23, 24, 33, 34, 35, 36] h)⟩⟩
          · refine ik_Wk 2 (pc_q := 13) (loc_q := [some (.ref 7)]) (st_q := [fI 1]) (h_q := h) (cl_q := 0) (sl_q := 0) rfl ?_
            refine ik_Wret rfl rfl ⟨_, _, rfl, rfl, ?_⟩
            refine ik_Wk 0 (pc_q := 39) (loc_q := [some (.ref 0), some (fI 0), some (fI m), some (fI what)]) (st_q := [fI 1]) (h_q := h) (cl_q := 0) (sl_q := 0) rfl ?_
            refine fw_if_ne rfl rfl (by decide +kernel) (by decide +kernel) (fun hc9 => absurd hc9 (by decide +kernel)) (fun hc9 => ?_)
            refine ik_Wk 1 (pc_q := 46) (loc_q := [some (.ref 0), some (fI 0), some (fI m), some (fI what)]) (st_q := [.ref 0]) (h_q := h) (cl_q := 0) (sl_q := 0) rfl ?_
            refine fw_gf rfl rfl h0 rfl ?_
            refine ik_Wk 2 (pc_q := 51) (loc_q := [some (.ref 0), some (fI 0), some (fI m), some (fI what)]) (st_q := [fI m, fI 0, .ref 17]) (h_q := h) (cl_q := 0) (sl_q := 0) rfl ?_
            refine fw_call 83 3 0 [.ref 17, fI 0, fI m] [] rfl rfl rfl (Nat.le_of_ble_eq_true rfl) rfl rfl (fw_rec hl rfl h17 rfl (Nat.le_of_ble_eq_true rfl)) (cs_best0 (pl := pl) (lo := lo) (s := s) (m := m) (ka := ka) (pa := pa) (fa := fa) (kb := kb) (pb := pb) (fb := fb) (bo := bo) (la := la) (lb := lb) (t0 := t0) (t1 := t1) (t2 := t2) (t3 := t3) (wg := wg) (wc := wc) (we := we) (W := W) (by omega) (by omega) (q3 (by omega)) (q4 (by omega)) (by omega) q1 q2 (by omega) h7 h11 n11 h12 n12 h13 n13 h15 h17 h18 h19 h20 h21 h33 hl) ?_
            rintro _ h_375 ⟨l0_375, l1_375, l2_375, t'_375, rfl, e_375_17, e_375_19, e_375_20, e_375_21, e_375_33, F_375⟩
            have k_375 : cL h_375 := F_375.1.trans hl
            have fr_375 := hfr_cb (hfr_refl [17, 19, 20, 21, 22, 23, 24, 33, 34, 35, 36] h) F_375 rfl
            have g_375_0 := (hfr_g F_375 0 rfl).trans h0
            have g_375_7 := (hfr_g F_375 7 rfl).trans h7
            have g_375_11 := (hfr_g F_375 11 rfl).trans h11
            have g_375_12 := (hfr_g F_375 12 rfl).trans h12
            have g_375_13 := (hfr_g F_375 13 rfl).trans h13
            have g_375_18 := (hfr_g F_375 18 rfl).trans h18
            have g_375_15 := (hfr_g F_375 15 rfl).trans h15
            have g_375_17 : cE h_375 17 (.inr (8, [.ref 7, .ref 15, .ref 18, .ref 19, fJ l2_375, .ref 20])) := e_375_17
            have g_375_19 : cE h_375 19 (.inl (.long, fL [l0_375, l1_375])) := e_375_19
            have g_375_20 : cE h_375 20 (.inl (.int, fA [(mk_bp (mk_vb W pl ka pa fa kb pb fb 0) (m.toNat + 1) (pl - 1).toNat 0 0 0 1000001).1, (mk_bp (mk_vb W pl ka pa fa kb pb fb 0) (m.toNat + 1) (pl - 1).toNat 0 0 0 1000001).2.1, (mk_bp (mk_vb W pl ka pa fa kb pb fb 0) (m.toNat + 1) (pl - 1).toNat 0 0 0 1000001).2.2, t'_375])) := e_375_20
            have g_375_21 : mf_cr h_375 21  := e_375_21
            have g_375_33 : mf_cr h_375 33  := e_375_33
            refine ik_Wk 0 (pc_q := 54) (loc_q := [some (.ref 0), some (fI 0), some (fI m), some (fI what)]) (st_q := []) (h_q := h_375) (cl_q := 0) (sl_q := 0) rfl ?_
            refine ik_Wk 1 (pc_q := 55) (loc_q := [some (.ref 0), some (fI 0), some (fI m), some (fI what)]) (st_q := [.ref 0]) (h_q := h_375) (cl_q := 0) (sl_q := 0) rfl ?_
            refine fw_gf rfl rfl g_375_0 rfl ?_
            refine fw_gf rfl rfl g_375_17 rfl ?_
            refine ik_Wk 1 (pc_q := 62) (loc_q := [some (.ref 0), some (fI 0), some (fI m), some (fI what)]) (st_q := [fI what, .ref 20]) (h_q := h_375) (cl_q := 0) (sl_q := 0) rfl ?_
            refine fw_ial rfl g_375_20 (by omega) (show what.toNat < 4 by omega) (by omega) ?_
            have ew : what = 0 ∨ what = 1 ∨ what = 2 := by omega
            exact ik_Wret rfl rfl ⟨_, _, rfl, rfl, rfl, rfl, ⟨l0_375, l1_375, l2_375, ((mk_bp (mk_vb W pl ka pa fa kb pb fb 0) (m.toNat + 1) (pl - 1).toNat 0 0 0 1000001).1), ((mk_bp (mk_vb W pl ka pa fa kb pb fb 0) (m.toNat + 1) (pl - 1).toNat 0 0 0 1000001).2.1), ((mk_bp (mk_vb W pl ka pa fa kb pb fb 0) (m.toNat + 1) (pl - 1).toNat 0 0 0 1000001).2.2), t'_375, (congrArg (fun z => [fI z]) (by unfold an_be; rw [if_pos (by omega), if_pos (by omega)]; rcases ew with z | z | z <;> subst z <;> rfl)), g_375_17, g_375_19, g_375_21, g_375_33, g_375_20, fr_375⟩⟩
        · refine fw_ld (-1000000002) rfl rfl (by decide +kernel) ?_
          exact ik_Wret rfl rfl ⟨_, _, rfl, rfl, rfl, rfl, ⟨la, lb, bo, t0, t1, t2, t3, (congrArg (fun z => [fI z]) (by unfold an_be; (repeat' split) <;> first | rfl | omega)), h17, h19, h21, h33, h20, (hfr_refl [17, 19, 20, 21, 22, 23, 24, 33, 34, 35, 36] h)⟩⟩

theorem cp_best1 {h : List ik_E} {pl : Int} {lo : Int} {s : Nat} {bo : Int} {wg : List Int} {wc : List Int} {we : List Int} {W : Int → List (Int × Int)} {ka : Int} {pa : Int} {fa : Int} {kb : Int} {pb : Int} {fb : Int} {la : Int} {lb : Int} {t0 : Int} {t1 : Int} {t2 : Int} {t3 : Int} {m : Int} {what : Int} (q0 : 0 ≤ pl ∧ pl ≤ 12) (q1 : ∀ x : Int, (0 : Int) ≤ x → x < pl - 1 → mx_wy wg wc we x (W x)) (q2 : ∀ x : Int, (0 : Int) ≤ x → x < pl - 1 → mx_ok pl (W x)) (q3 : (1 : Int) < pl → (0 : Int) ≤ pa ∧ pa < pl - 1) (q4 : (1 : Int) < pl → (0 : Int) ≤ pb ∧ pb < pl - 1) (q5 : (0 : Int) ≤ ka ∧ ka ≤ (2 : Int) ∧ (0 : Int) ≤ kb ∧ kb ≤ (2 : Int)) (q6 : (0 : Int) ≤ fa ∧ fa ≤ (30 : Int) ∧ (0 : Int) ≤ fb ∧ fb ≤ (30 : Int)) (q7 : (-2147483648 : Int) ≤ m ∧ m < (2147483648 : Int)) (q8 : (-2147483648 : Int) ≤ what ∧ what < (2147483648 : Int)) (h0 : cE h 0 (.inr (9, [.ref 1, .ref 7, .ref 14, .ref 17, .ref 45, .ref 51, .ref 54, .ref 57]))) (h7 : cE h 7 (.inr (0, [fI pl, fI ((s : Nat) : Int), fI lo, .ref 8, .ref 9, .ref 10, .ref 11, .ref 12, .ref 13]))) (h11 : cE h 11 (.inl (.int, fA wg))) (n11 : wg.length = (60 : Nat)) (h12 : cE h 12 (.inl (.int, fA wc))) (n12 : wc.length = (60 : Nat)) (h13 : cE h 13 (.inl (.int, fA we))) (n13 : we.length = (12 : Nat)) (h17 : cE h 17 (.inr (8, [.ref 7, .ref 15, .ref 18, .ref 19, fJ bo, .ref 20]))) (h18 : cE h 18 (.inl (.object "SlowerCork$Course", [.ref 21, .ref 25, .ref 29, .ref 33, .ref 37, .ref 41]))) (h15 : cE h 15 (.inl (.int, fA [ka, pa, fa, kb, pb, fb]))) (h19 : cE h 19 (.inl (.long, fL [la, lb]))) (h21 : mf_cr h 21 ) (h33 : mf_cr h 33 ) (h20 : cE h 20 (.inl (.int, fA [t0, t1, t2, t3]))) (hl : h.length = (94 : Nat)) : ik_F 101 [.ref 0, fI 1, fI m, fI what] h (fun rv h_q => ∃ (l0 : Int) (l1 : Int) (l2 : Int) (z0 : Int) (z1 : Int) (z2 : Int) (z3 : Int), rv = [fI (an_be m what pl (if what = 0 then (mk_bp (mk_vb W pl ka pa fa kb pb fb 1) (m.toNat + 1) (pl - 1).toNat 0 0 0 1000001).1 else if what = 1 then (mk_bp (mk_vb W pl ka pa fa kb pb fb 1) (m.toNat + 1) (pl - 1).toNat 0 0 0 1000001).2.1 else (mk_bp (mk_vb W pl ka pa fa kb pb fb 1) (m.toNat + 1) (pl - 1).toNat 0 0 0 1000001).2.2))] ∧ cE h_q 17 (.inr (8, [.ref 7, .ref 15, .ref 18, .ref 19, fJ l2, .ref 20])) ∧ cE h_q 19 (.inl (.long, fL [l0, l1])) ∧ mf_cr h_q 21  ∧ mf_cr h_q 33  ∧ cE h_q 20 (.inl (.int, fA [z0, z1, z2, z3])) ∧ hfr [17, 19, 20, 21, 22, 23, 24, 33, 34, 35, 36] h h_q) := by
  refine ik_Wk 1 (pc_q := 1) (loc_q := [some (.ref 0), some (fI 1), some (fI m), some (fI what)]) (st_q := [fI 1]) (h_q := h) (cl_q := 0) (sl_q := 0) rfl ?_
  refine ik_Wc 121 1 3 [fI 1] [] rfl rfl rfl (by decide +kernel) rfl rfl (fw_sta hl rfl (by decide +kernel)) ?_
  refine ik_Wk 0 (pc_q := 0) (loc_q := [some (fI 1)]) (st_q := []) (h_q := h) (cl_q := 0) (sl_q := 0) rfl ?_
  refine ik_Wk 1 (pc_q := 1) (loc_q := [some (fI 1)]) (st_q := [fI 1]) (h_q := h) (cl_q := 0) (sl_q := 0) rfl ?_
  refine fw_if_eq rfl rfl (by decide +kernel) (by decide +kernel) (fun hc1 => absurd hc1 (by decide +kernel)) (fun hc1 => ?_)
  refine ik_Wk 2 (pc_q := 6) (loc_q := [some (fI 1)]) (st_q := [fI 1, fI 1]) (h_q := h) (cl_q := 0) (sl_q := 0) rfl ?_
  refine fw_ic_ne rfl rfl (by decide +kernel) (by decide +kernel) (by decide +kernel) (by decide +kernel) (fun hc2 => ?_) (fun hc2 => absurd hc2 (by decide +kernel))
  refine ik_Wk 2 (pc_q := 14) (loc_q := [some (fI 1)]) (st_q := [fI 1]) (h_q := h) (cl_q := 0) (sl_q := 0) rfl ?_
  refine ik_Wret rfl rfl ⟨_, _, rfl, rfl, ?_⟩
  refine ik_Wk 0 (pc_q := 4) (loc_q := [some (.ref 0), some (fI 1), some (fI m), some (fI what)]) (st_q := [fI 1]) (h_q := h) (cl_q := 0) (sl_q := 0) rfl ?_
  refine fw_if_ne rfl rfl (by decide +kernel) (by decide +kernel) (fun hc3 => absurd hc3 (by decide +kernel)) (fun hc3 => ?_)
  refine ik_Wk 1 (pc_q := 11) (loc_q := [some (.ref 0), some (fI 1), some (fI m), some (fI what)]) (st_q := [fI m]) (h_q := h) (cl_q := 0) (sl_q := 0) rfl ?_
  refine fw_if_lt rfl rfl (by omega) (by omega) (fun hc4 => ?_) (fun hc4 => ?_)
  · refine fw_ld (-1000000002) rfl rfl (by decide +kernel) ?_
    exact ik_Wret rfl rfl ⟨_, _, rfl, rfl, rfl, rfl, ⟨la, lb, bo, t0, t1, t2, t3, (congrArg (fun z => [fI z]) (by unfold an_be; (repeat' split) <;> first | rfl | omega)), h17, h19, h21, h33, h20, (hfr_refl [17, 19, 20, 21, 22, 23, 24, 33, 34, 35, 36] h)⟩⟩
  · refine ik_Wk 1 (pc_q := 15) (loc_q := [some (.ref 0), some (fI 1), some (fI m), some (fI what)]) (st_q := [fI m]) (h_q := h) (cl_q := 0) (sl_q := 0) rfl ?_
    refine fw_bi rfl (by decide +kernel) ?_
    refine fw_ic_gt rfl rfl (by omega) (by omega) (by omega) (by omega) (fun hc5 => ?_) (fun hc5 => ?_)
    · refine fw_ld (-1000000002) rfl rfl (by decide +kernel) ?_
      exact ik_Wret rfl rfl ⟨_, _, rfl, rfl, rfl, rfl, ⟨la, lb, bo, t0, t1, t2, t3, (congrArg (fun z => [fI z]) (by unfold an_be; (repeat' split) <;> first | rfl | omega)), h17, h19, h21, h33, h20, (hfr_refl [17, 19, 20, 21, 22, 23, 24, 33, 34, 35, 36] h)⟩⟩
    · refine ik_Wk 1 (pc_q := 21) (loc_q := [some (.ref 0), some (fI 1), some (fI m), some (fI what)]) (st_q := [fI what]) (h_q := h) (cl_q := 0) (sl_q := 0) rfl ?_
      refine fw_if_lt rfl rfl (by omega) (by omega) (fun hc6 => ?_) (fun hc6 => ?_)
      · refine fw_ld (-1000000002) rfl rfl (by decide +kernel) ?_
        exact ik_Wret rfl rfl ⟨_, _, rfl, rfl, rfl, rfl, ⟨la, lb, bo, t0, t1, t2, t3, (congrArg (fun z => [fI z]) (by unfold an_be; (repeat' split) <;> first | rfl | omega)), h17, h19, h21, h33, h20, (hfr_refl [17, 19, 20, 21, 22, 23, 24, 33, 34, 35, 36] h)⟩⟩
      · refine ik_Wk 2 (pc_q := 26) (loc_q := [some (.ref 0), some (fI 1), some (fI m), some (fI what)]) (st_q := [fI 2, fI what]) (h_q := h) (cl_q := 0) (sl_q := 0) rfl ?_
        refine fw_ic_le rfl rfl (by omega) (by omega) (by omega) (by omega) (fun hc7 => ?_) (fun hc7 => ?_)
        · refine ik_Wk 1 (pc_q := 33) (loc_q := [some (.ref 0), some (fI 1), some (fI m), some (fI what)]) (st_q := [.ref 0]) (h_q := h) (cl_q := 0) (sl_q := 0) rfl ?_
          refine fw_gf rfl rfl h0 rfl ?_
          refine ik_Wc 7 1 0 [.ref 7] [] rfl rfl rfl (by decide +kernel) rfl rfl (fw_rec hl rfl h7 rfl (Nat.le_of_ble_eq_true rfl)) ?_
          refine ik_Wk 0 (pc_q := 0) (loc_q := [some (.ref 7)]) (st_q := []) (h_q := h) (cl_q := 0) (sl_q := 0) rfl ?_
          refine ik_Wk 1 (pc_q := 1) (loc_q := [some (.ref 7)]) (st_q := [.ref 7]) (h_q := h) (cl_q := 0) (sl_q := 0) rfl ?_
          refine fw_gf rfl rfl h7 rfl ?_
          refine ik_Wk 1 (pc_q := 5) (loc_q := [some (.ref 7)]) (st_q := [fI 1, fI pl]) (h_q := h) (cl_q := 0) (sl_q := 0) rfl ?_
          refine fw_ic_le rfl rfl (by omega) (by omega) (by omega) (by omega) (fun hc8 => ?_) (fun hc8 => ?_)
          · refine ik_Wk 1 (pc_q := 13) (loc_q := [some (.ref 7)]) (st_q := [fI 0]) (h_q := h) (cl_q := 0) (sl_q := 0) rfl ?_
            refine ik_Wret rfl rfl ⟨_, _, rfl, rfl, ?_⟩
            refine ik_Wk 0 (pc_q := 39) (loc_q := [some (.ref 0), some (fI 1), some (fI m), some (fI what)]) (st_q := [fI 0]) (h_q := h) (cl_q := 0) (sl_q := 0) rfl ?_
            refine fw_if_ne rfl rfl (by decide +kernel) (by decide +kernel) (fun hc9 => ?_) (fun hc9 => absurd hc9 (by decide +kernel))
            refine fw_ld (-1000000003) rfl rfl (by decide +kernel) ?_
            exact ik_Wret rfl rfl ⟨_, _, rfl, rfl, rfl, rfl, ⟨la, lb, bo, t0, t1, t2, t3, (congrArg (fun z => [fI z]) (by unfold an_be; (repeat' split) <;> first | rfl | omega)), h17, h19, h21, h33, h20, (hfr_refl [17, 19, 20, 21, 22, 23, 24, 33, 34, 35, 36] h)⟩⟩
          · refine ik_Wk 2 (pc_q := 13) (loc_q := [some (.ref 7)]) (st_q := [fI 1]) (h_q := h) (cl_q := 0) (sl_q := 0) rfl ?_
            refine ik_Wret rfl rfl ⟨_, _, rfl, rfl, ?_⟩
            refine ik_Wk 0 (pc_q := 39) (loc_q := [some (.ref 0), some (fI 1), some (fI m), some (fI what)]) (st_q := [fI 1]) (h_q := h) (cl_q := 0) (sl_q := 0) rfl ?_
            refine fw_if_ne rfl rfl (by decide +kernel) (by decide +kernel) (fun hc10 => absurd hc10 (by decide +kernel)) (fun hc10 => ?_)
            refine ik_Wk 1 (pc_q := 46) (loc_q := [some (.ref 0), some (fI 1), some (fI m), some (fI what)]) (st_q := [.ref 0]) (h_q := h) (cl_q := 0) (sl_q := 0) rfl ?_
            refine fw_gf rfl rfl h0 rfl ?_
            refine ik_Wk 2 (pc_q := 51) (loc_q := [some (.ref 0), some (fI 1), some (fI m), some (fI what)]) (st_q := [fI m, fI 1, .ref 17]) (h_q := h) (cl_q := 0) (sl_q := 0) rfl ?_
            refine fw_call 83 3 0 [.ref 17, fI 1, fI m] [] rfl rfl rfl (Nat.le_of_ble_eq_true rfl) rfl rfl (fw_rec hl rfl h17 rfl (Nat.le_of_ble_eq_true rfl)) (cs_best1 (pl := pl) (lo := lo) (s := s) (m := m) (ka := ka) (pa := pa) (fa := fa) (kb := kb) (pb := pb) (fb := fb) (bo := bo) (la := la) (lb := lb) (t0 := t0) (t1 := t1) (t2 := t2) (t3 := t3) (wg := wg) (wc := wc) (we := we) (W := W) (by omega) (by omega) (q3 (by omega)) (q4 (by omega)) (by omega) q1 q2 (by omega) h7 h11 n11 h12 n12 h13 n13 h15 h17 h18 h19 h20 h21 h33 hl) ?_
            rintro _ h_376 ⟨l0_376, l1_376, l2_376, t'_376, rfl, e_376_17, e_376_19, e_376_20, e_376_21, e_376_33, F_376⟩
            have k_376 : cL h_376 := F_376.1.trans hl
            have fr_376 := hfr_cb (hfr_refl [17, 19, 20, 21, 22, 23, 24, 33, 34, 35, 36] h) F_376 rfl
            have g_376_0 := (hfr_g F_376 0 rfl).trans h0
            have g_376_7 := (hfr_g F_376 7 rfl).trans h7
            have g_376_11 := (hfr_g F_376 11 rfl).trans h11
            have g_376_12 := (hfr_g F_376 12 rfl).trans h12
            have g_376_13 := (hfr_g F_376 13 rfl).trans h13
            have g_376_18 := (hfr_g F_376 18 rfl).trans h18
            have g_376_15 := (hfr_g F_376 15 rfl).trans h15
            have g_376_17 : cE h_376 17 (.inr (8, [.ref 7, .ref 15, .ref 18, .ref 19, fJ l2_376, .ref 20])) := e_376_17
            have g_376_19 : cE h_376 19 (.inl (.long, fL [l0_376, l1_376])) := e_376_19
            have g_376_20 : cE h_376 20 (.inl (.int, fA [(mk_bp (mk_vb W pl ka pa fa kb pb fb 1) (m.toNat + 1) (pl - 1).toNat 0 0 0 1000001).1, (mk_bp (mk_vb W pl ka pa fa kb pb fb 1) (m.toNat + 1) (pl - 1).toNat 0 0 0 1000001).2.1, (mk_bp (mk_vb W pl ka pa fa kb pb fb 1) (m.toNat + 1) (pl - 1).toNat 0 0 0 1000001).2.2, t'_376])) := e_376_20
            have g_376_21 : mf_cr h_376 21  := e_376_21
            have g_376_33 : mf_cr h_376 33  := e_376_33
            refine ik_Wk 0 (pc_q := 54) (loc_q := [some (.ref 0), some (fI 1), some (fI m), some (fI what)]) (st_q := []) (h_q := h_376) (cl_q := 0) (sl_q := 0) rfl ?_
            refine ik_Wk 1 (pc_q := 55) (loc_q := [some (.ref 0), some (fI 1), some (fI m), some (fI what)]) (st_q := [.ref 0]) (h_q := h_376) (cl_q := 0) (sl_q := 0) rfl ?_
            refine fw_gf rfl rfl g_376_0 rfl ?_
            refine fw_gf rfl rfl g_376_17 rfl ?_
            refine ik_Wk 1 (pc_q := 62) (loc_q := [some (.ref 0), some (fI 1), some (fI m), some (fI what)]) (st_q := [fI what, .ref 20]) (h_q := h_376) (cl_q := 0) (sl_q := 0) rfl ?_
            refine fw_ial rfl g_376_20 (by omega) (show what.toNat < 4 by omega) (by omega) ?_
            have ew : what = 0 ∨ what = 1 ∨ what = 2 := by omega
            exact ik_Wret rfl rfl ⟨_, _, rfl, rfl, rfl, rfl, ⟨l0_376, l1_376, l2_376, ((mk_bp (mk_vb W pl ka pa fa kb pb fb 1) (m.toNat + 1) (pl - 1).toNat 0 0 0 1000001).1), ((mk_bp (mk_vb W pl ka pa fa kb pb fb 1) (m.toNat + 1) (pl - 1).toNat 0 0 0 1000001).2.1), ((mk_bp (mk_vb W pl ka pa fa kb pb fb 1) (m.toNat + 1) (pl - 1).toNat 0 0 0 1000001).2.2), t'_376, (congrArg (fun z => [fI z]) (by unfold an_be; rw [if_pos (by omega), if_pos (by omega)]; rcases ew with z | z | z <;> subst z <;> rfl)), g_376_17, g_376_19, g_376_21, g_376_33, g_376_20, fr_376⟩⟩
        · refine fw_ld (-1000000002) rfl rfl (by decide +kernel) ?_
          exact ik_Wret rfl rfl ⟨_, _, rfl, rfl, rfl, rfl, ⟨la, lb, bo, t0, t1, t2, t3, (congrArg (fun z => [fI z]) (by unfold an_be; (repeat' split) <;> first | rfl | omega)), h17, h19, h21, h33, h20, (hfr_refl [17, 19, 20, 21, 22, 23, 24, 33, 34, 35, 36] h)⟩⟩

theorem cp_most0 {h : List ik_E} {pl : Int} {lo : Int} {s : Nat} {bo : Int} {wg : List Int} {wc : List Int} {we : List Int} {ka : Int} {pa : Int} {fa : Int} {kb : Int} {pb : Int} {fb : Int} {la : Int} {lb : Int} {t0 : Int} {t1 : Int} {t2 : Int} {t3 : Int} {what : Int} {cn : List Int} {go : List Int} {ch : List Int} (q0 : 0 ≤ pl ∧ pl ≤ 12) (q1 : ∀ x : Int, (0 : Int) ≤ x → x < pl - 1 → mx_wy wg wc we x (mx_w cn go ch s x)) (q2 : mx_rw pl cn go ch) (q3 : s < 4096) (q4 : (1 : Int) < pl → (0 : Int) ≤ pa ∧ pa < pl - 1) (q5 : (1 : Int) < pl → (0 : Int) ≤ pb ∧ pb < pl - 1) (q6 : (0 : Int) ≤ ka ∧ ka ≤ (2 : Int) ∧ (0 : Int) ≤ kb ∧ kb ≤ (2 : Int)) (q7 : (0 : Int) ≤ fa ∧ fa ≤ (30 : Int) ∧ (0 : Int) ≤ fb ∧ fb ≤ (30 : Int)) (q8 : (-2147483648 : Int) ≤ what ∧ what < (2147483648 : Int)) (h0 : cE h 0 (.inr (9, [.ref 1, .ref 7, .ref 14, .ref 17, .ref 45, .ref 51, .ref 54, .ref 57]))) (h7 : cE h 7 (.inr (0, [fI pl, fI ((s : Nat) : Int), fI lo, .ref 8, .ref 9, .ref 10, .ref 11, .ref 12, .ref 13]))) (h11 : cE h 11 (.inl (.int, fA wg))) (n11 : wg.length = (60 : Nat)) (h12 : cE h 12 (.inl (.int, fA wc))) (n12 : wc.length = (60 : Nat)) (h13 : cE h 13 (.inl (.int, fA we))) (n13 : we.length = (12 : Nat)) (h17 : cE h 17 (.inr (8, [.ref 7, .ref 15, .ref 18, .ref 19, fJ bo, .ref 20]))) (h18 : cE h 18 (.inl (.object "SlowerCork$Course", [.ref 21, .ref 25, .ref 29, .ref 33, .ref 37, .ref 41]))) (h15 : cE h 15 (.inl (.int, fA [ka, pa, fa, kb, pb, fb]))) (h19 : cE h 19 (.inl (.long, fL [la, lb]))) (h21 : mf_cr h 21 ) (h33 : mf_cr h 33 ) (h8 : cE h 8 (.inl (.int, fA cn))) (n8 : cn.length = (12 : Nat)) (h9 : cE h 9 (.inl (.int, fA go))) (n9 : go.length = (48 : Nat)) (h10 : cE h 10 (.inl (.int, fA ch))) (n10 : ch.length = (48 : Nat)) (h20 : cE h 20 (.inl (.int, fA [t0, t1, t2, t3]))) (hl : h.length = (94 : Nat)) : ik_F 104 [.ref 0, fI 0, fI what] h (fun rv h_q => ∃ (l0 : Int) (l1 : Int) (l2 : Int) (wg' : List Int) (wc' : List Int) (we' : List Int) (z0 : Int) (z1 : Int) (z2 : Int) (z3 : Int), rv = [fI (an_mo what pl (if what = 0 then (mk_mo (mk_vm cn go ch s pl ka pa fa kb pb fb 0) (pl - 1).toNat 0 (-1) 0).1 else (mk_mo (mk_vm cn go ch s pl ka pa fa kb pb fb 0) (pl - 1).toNat 0 (-1) 0).2))] ∧ cE h_q 7 (.inr (0, [fI pl, fI ((s : Nat) : Int), fI lo, .ref 8, .ref 9, .ref 10, .ref 11, .ref 12, .ref 13])) ∧ cE h_q 11 (.inl (.int, fA wg')) ∧ wg'.length = (60 : Nat) ∧ cE h_q 12 (.inl (.int, fA wc')) ∧ wc'.length = (60 : Nat) ∧ cE h_q 13 (.inl (.int, fA we')) ∧ we'.length = (12 : Nat) ∧ cE h_q 17 (.inr (8, [.ref 7, .ref 15, .ref 18, .ref 19, fJ l2, .ref 20])) ∧ cE h_q 19 (.inl (.long, fL [l0, l1])) ∧ mf_cr h_q 21  ∧ mf_cr h_q 33  ∧ cE h_q 20 (.inl (.int, fA [z0, z1, z2, z3])) ∧ (∀ x : Int, (0 : Int) ≤ x → x < pl - 1 → mx_wy wg' wc' we' x (mx_w cn go ch s x)) ∧ hfr [7, 11, 12, 13, 17, 19, 20, 21, 22, 23, 24, 33, 34, 35, 36] h h_q) := by
  refine ik_Wk 1 (pc_q := 1) (loc_q := [some (.ref 0), some (fI 0), some (fI what)]) (st_q := [fI 0]) (h_q := h) (cl_q := 0) (sl_q := 0) rfl ?_
  refine ik_Wc 121 1 3 [fI 0] [] rfl rfl rfl (by decide +kernel) rfl rfl (fw_sta hl rfl (by decide +kernel)) ?_
  refine ik_Wk 0 (pc_q := 0) (loc_q := [some (fI 0)]) (st_q := []) (h_q := h) (cl_q := 0) (sl_q := 0) rfl ?_
  refine ik_Wk 1 (pc_q := 1) (loc_q := [some (fI 0)]) (st_q := [fI 0]) (h_q := h) (cl_q := 0) (sl_q := 0) rfl ?_
  refine fw_if_eq rfl rfl (by decide +kernel) (by decide +kernel) (fun hc1 => ?_) (fun hc1 => absurd hc1 (by decide +kernel))
  refine ik_Wk 2 (pc_q := 14) (loc_q := [some (fI 0)]) (st_q := [fI 1]) (h_q := h) (cl_q := 0) (sl_q := 0) rfl ?_
  refine ik_Wret rfl rfl ⟨_, _, rfl, rfl, ?_⟩
  refine ik_Wk 0 (pc_q := 4) (loc_q := [some (.ref 0), some (fI 0), some (fI what)]) (st_q := [fI 1]) (h_q := h) (cl_q := 0) (sl_q := 0) rfl ?_
  refine fw_if_ne rfl rfl (by decide +kernel) (by decide +kernel) (fun hc2 => absurd hc2 (by decide +kernel)) (fun hc2 => ?_)
  refine ik_Wk 1 (pc_q := 11) (loc_q := [some (.ref 0), some (fI 0), some (fI what)]) (st_q := [fI what]) (h_q := h) (cl_q := 0) (sl_q := 0) rfl ?_
  refine fw_if_lt rfl rfl (by omega) (by omega) (fun hc3 => ?_) (fun hc3 => ?_)
  · refine fw_ld (-1000000002) rfl rfl (by decide +kernel) ?_
    exact ik_Wret rfl rfl ⟨_, _, rfl, rfl, rfl, rfl, ⟨la, lb, bo, wg, wc, we, t0, t1, t2, t3, (congrArg (fun z => [fI z]) (by unfold an_mo; (repeat' split) <;> first | rfl | omega)), h7, h11, n11, h12, n12, h13, n13, h17, h19, h21, h33, h20, q1, (hfr_refl [7, 11, 12, 13, 17, 19, 20, 21, 22, 23, 24, 33, 34, 35, 36] h)⟩⟩
  · refine ik_Wk 2 (pc_q := 16) (loc_q := [some (.ref 0), some (fI 0), some (fI what)]) (st_q := [fI 1, fI what]) (h_q := h) (cl_q := 0) (sl_q := 0) rfl ?_
    refine fw_ic_le rfl rfl (by omega) (by omega) (by omega) (by omega) (fun hc4 => ?_) (fun hc4 => ?_)
    · refine ik_Wk 1 (pc_q := 23) (loc_q := [some (.ref 0), some (fI 0), some (fI what)]) (st_q := [.ref 0]) (h_q := h) (cl_q := 0) (sl_q := 0) rfl ?_
      refine fw_gf rfl rfl h0 rfl ?_
      refine ik_Wc 7 1 0 [.ref 7] [] rfl rfl rfl (by decide +kernel) rfl rfl (fw_rec hl rfl h7 rfl (Nat.le_of_ble_eq_true rfl)) ?_
      refine ik_Wk 0 (pc_q := 0) (loc_q := [some (.ref 7)]) (st_q := []) (h_q := h) (cl_q := 0) (sl_q := 0) rfl ?_
      refine ik_Wk 1 (pc_q := 1) (loc_q := [some (.ref 7)]) (st_q := [.ref 7]) (h_q := h) (cl_q := 0) (sl_q := 0) rfl ?_
      refine fw_gf rfl rfl h7 rfl ?_
      refine ik_Wk 1 (pc_q := 5) (loc_q := [some (.ref 7)]) (st_q := [fI 1, fI pl]) (h_q := h) (cl_q := 0) (sl_q := 0) rfl ?_
      refine fw_ic_le rfl rfl (by omega) (by omega) (by omega) (by omega) (fun hc5 => ?_) (fun hc5 => ?_)
      · refine ik_Wk 1 (pc_q := 13) (loc_q := [some (.ref 7)]) (st_q := [fI 0]) (h_q := h) (cl_q := 0) (sl_q := 0) rfl ?_
        refine ik_Wret rfl rfl ⟨_, _, rfl, rfl, ?_⟩
        refine ik_Wk 0 (pc_q := 29) (loc_q := [some (.ref 0), some (fI 0), some (fI what)]) (st_q := [fI 0]) (h_q := h) (cl_q := 0) (sl_q := 0) rfl ?_
        refine fw_if_ne rfl rfl (by decide +kernel) (by decide +kernel) (fun hc6 => ?_) (fun hc6 => absurd hc6 (by decide +kernel))
        refine fw_ld (-1000000003) rfl rfl (by decide +kernel) ?_
        exact ik_Wret rfl rfl ⟨_, _, rfl, rfl, rfl, rfl, ⟨la, lb, bo, wg, wc, we, t0, t1, t2, t3, (congrArg (fun z => [fI z]) (by unfold an_mo; (repeat' split) <;> first | rfl | omega)), h7, h11, n11, h12, n12, h13, n13, h17, h19, h21, h33, h20, q1, (hfr_refl [7, 11, 12, 13, 17, 19, 20, 21, 22, 23, 24, 33, 34, 35, 36] h)⟩⟩
      · refine ik_Wk 2 (pc_q := 13) (loc_q := [some (.ref 7)]) (st_q := [fI 1]) (h_q := h) (cl_q := 0) (sl_q := 0) rfl ?_
        refine ik_Wret rfl rfl ⟨_, _, rfl, rfl, ?_⟩
        refine ik_Wk 0 (pc_q := 29) (loc_q := [some (.ref 0), some (fI 0), some (fI what)]) (st_q := [fI 1]) (h_q := h) (cl_q := 0) (sl_q := 0) rfl ?_
        refine fw_if_ne rfl rfl (by decide +kernel) (by decide +kernel) (fun hc7 => absurd hc7 (by decide +kernel)) (fun hc7 => ?_)
        refine ik_Wk 1 (pc_q := 36) (loc_q := [some (.ref 0), some (fI 0), some (fI what)]) (st_q := [.ref 0]) (h_q := h) (cl_q := 0) (sl_q := 0) rfl ?_
        refine fw_gf rfl rfl h0 rfl ?_
        refine ik_Wk 1 (pc_q := 40) (loc_q := [some (.ref 0), some (fI 0), some (fI what)]) (st_q := [fI 0, .ref 17]) (h_q := h) (cl_q := 0) (sl_q := 0) rfl ?_
        refine fw_call 85 2 0 [.ref 17, fI 0] [] rfl rfl rfl (Nat.le_of_ble_eq_true rfl) rfl rfl (fw_rec hl rfl h17 rfl (Nat.le_of_ble_eq_true rfl)) (cs_most0 (pl := pl) (lo := lo) (s := s) (ka := ka) (pa := pa) (fa := fa) (kb := kb) (pb := pb) (fb := fb) (bo := bo) (la := la) (lb := lb) (t0 := t0) (t1 := t1) (t2 := t2) (t3 := t3) (wg := wg) (wc := wc) (we := we) (cn := cn) (go := go) (ch := ch) (by omega) (by omega) (q4 (by omega)) (q5 (by omega)) (by omega) q1 q2 trivial q3 h7 h8 n8 h9 n9 h10 n10 h11 n11 h12 n12 h13 n13 h15 h17 h18 h19 h20 h21 h33 hl) ?_
        rintro _ h_377 ⟨l0_377, l1_377, l2_377, wg'_377, wc'_377, we'_377, rfl, e_377_7, e_377_11, m_377_11, e_377_12, m_377_12, e_377_13, m_377_13, e_377_17, e_377_19, e_377_20, e_377_21, e_377_33, p_377_0, F_377⟩
        have k_377 : cL h_377 := F_377.1.trans hl
        have fr_377 := hfr_cb (hfr_refl [7, 11, 12, 13, 17, 19, 20, 21, 22, 23, 24, 33, 34, 35, 36] h) F_377 rfl
        have g_377_0 := (hfr_g F_377 0 rfl).trans h0
        have g_377_18 := (hfr_g F_377 18 rfl).trans h18
        have g_377_15 := (hfr_g F_377 15 rfl).trans h15
        have g_377_8 := (hfr_g F_377 8 rfl).trans h8
        have g_377_9 := (hfr_g F_377 9 rfl).trans h9
        have g_377_10 := (hfr_g F_377 10 rfl).trans h10
        have g_377_7 : cE h_377 7 (.inr (0, [fI pl, fI ((s : Nat) : Int), fI lo, .ref 8, .ref 9, .ref 10, .ref 11, .ref 12, .ref 13])) := e_377_7
        have g_377_11 : cE h_377 11 (.inl (.int, fA wg'_377)) := e_377_11
        have g_377_12 : cE h_377 12 (.inl (.int, fA wc'_377)) := e_377_12
        have g_377_13 : cE h_377 13 (.inl (.int, fA we'_377)) := e_377_13
        have g_377_17 : cE h_377 17 (.inr (8, [.ref 7, .ref 15, .ref 18, .ref 19, fJ l2_377, .ref 20])) := e_377_17
        have g_377_19 : cE h_377 19 (.inl (.long, fL [l0_377, l1_377])) := e_377_19
        have g_377_20 : cE h_377 20 (.inl (.int, fA [(mk_mo (mk_vm cn go ch s pl ka pa fa kb pb fb 0) (pl - 1).toNat 0 (-1) 0).1, (mk_mo (mk_vm cn go ch s pl ka pa fa kb pb fb 0) (pl - 1).toNat 0 (-1) 0).2, -1, -1])) := e_377_20
        have g_377_21 : mf_cr h_377 21  := e_377_21
        have g_377_33 : mf_cr h_377 33  := e_377_33
        refine ik_Wk 0 (pc_q := 43) (loc_q := [some (.ref 0), some (fI 0), some (fI what)]) (st_q := []) (h_q := h_377) (cl_q := 0) (sl_q := 0) rfl ?_
        refine ik_Wk 1 (pc_q := 44) (loc_q := [some (.ref 0), some (fI 0), some (fI what)]) (st_q := [.ref 0]) (h_q := h_377) (cl_q := 0) (sl_q := 0) rfl ?_
        refine fw_gf rfl rfl g_377_0 rfl ?_
        refine fw_gf rfl rfl g_377_17 rfl ?_
        refine ik_Wk 1 (pc_q := 51) (loc_q := [some (.ref 0), some (fI 0), some (fI what)]) (st_q := [fI what, .ref 20]) (h_q := h_377) (cl_q := 0) (sl_q := 0) rfl ?_
        refine fw_ial rfl g_377_20 (by omega) (show what.toNat < 4 by omega) (by omega) ?_
        have ew : what = 0 ∨ what = 1 := by omega
        exact ik_Wret rfl rfl ⟨_, _, rfl, rfl, rfl, rfl, ⟨l0_377, l1_377, l2_377, wg'_377, wc'_377, we'_377, ((mk_mo (mk_vm cn go ch s pl ka pa fa kb pb fb 0) (pl - 1).toNat 0 (-1) 0).1), ((mk_mo (mk_vm cn go ch s pl ka pa fa kb pb fb 0) (pl - 1).toNat 0 (-1) 0).2), (-1), (-1), (congrArg (fun z => [fI z]) (by unfold an_mo; rw [if_pos (by omega), if_pos (by omega)]; rcases ew with z | z <;> subst z <;> rfl)), g_377_7, g_377_11, m_377_11, g_377_12, m_377_12, g_377_13, m_377_13, g_377_17, g_377_19, g_377_21, g_377_33, g_377_20, p_377_0, fr_377⟩⟩
    · refine fw_ld (-1000000002) rfl rfl (by decide +kernel) ?_
      exact ik_Wret rfl rfl ⟨_, _, rfl, rfl, rfl, rfl, ⟨la, lb, bo, wg, wc, we, t0, t1, t2, t3, (congrArg (fun z => [fI z]) (by unfold an_mo; (repeat' split) <;> first | rfl | omega)), h7, h11, n11, h12, n12, h13, n13, h17, h19, h21, h33, h20, q1, (hfr_refl [7, 11, 12, 13, 17, 19, 20, 21, 22, 23, 24, 33, 34, 35, 36] h)⟩⟩

theorem cp_most1 {h : List ik_E} {pl : Int} {lo : Int} {s : Nat} {bo : Int} {wg : List Int} {wc : List Int} {we : List Int} {ka : Int} {pa : Int} {fa : Int} {kb : Int} {pb : Int} {fb : Int} {la : Int} {lb : Int} {t0 : Int} {t1 : Int} {t2 : Int} {t3 : Int} {what : Int} {cn : List Int} {go : List Int} {ch : List Int} (q0 : 0 ≤ pl ∧ pl ≤ 12) (q1 : ∀ x : Int, (0 : Int) ≤ x → x < pl - 1 → mx_wy wg wc we x (mx_w cn go ch s x)) (q2 : mx_rw pl cn go ch) (q3 : s < 4096) (q4 : (1 : Int) < pl → (0 : Int) ≤ pa ∧ pa < pl - 1) (q5 : (1 : Int) < pl → (0 : Int) ≤ pb ∧ pb < pl - 1) (q6 : (0 : Int) ≤ ka ∧ ka ≤ (2 : Int) ∧ (0 : Int) ≤ kb ∧ kb ≤ (2 : Int)) (q7 : (0 : Int) ≤ fa ∧ fa ≤ (30 : Int) ∧ (0 : Int) ≤ fb ∧ fb ≤ (30 : Int)) (q8 : (-2147483648 : Int) ≤ what ∧ what < (2147483648 : Int)) (h0 : cE h 0 (.inr (9, [.ref 1, .ref 7, .ref 14, .ref 17, .ref 45, .ref 51, .ref 54, .ref 57]))) (h7 : cE h 7 (.inr (0, [fI pl, fI ((s : Nat) : Int), fI lo, .ref 8, .ref 9, .ref 10, .ref 11, .ref 12, .ref 13]))) (h11 : cE h 11 (.inl (.int, fA wg))) (n11 : wg.length = (60 : Nat)) (h12 : cE h 12 (.inl (.int, fA wc))) (n12 : wc.length = (60 : Nat)) (h13 : cE h 13 (.inl (.int, fA we))) (n13 : we.length = (12 : Nat)) (h17 : cE h 17 (.inr (8, [.ref 7, .ref 15, .ref 18, .ref 19, fJ bo, .ref 20]))) (h18 : cE h 18 (.inl (.object "SlowerCork$Course", [.ref 21, .ref 25, .ref 29, .ref 33, .ref 37, .ref 41]))) (h15 : cE h 15 (.inl (.int, fA [ka, pa, fa, kb, pb, fb]))) (h19 : cE h 19 (.inl (.long, fL [la, lb]))) (h21 : mf_cr h 21 ) (h33 : mf_cr h 33 ) (h8 : cE h 8 (.inl (.int, fA cn))) (n8 : cn.length = (12 : Nat)) (h9 : cE h 9 (.inl (.int, fA go))) (n9 : go.length = (48 : Nat)) (h10 : cE h 10 (.inl (.int, fA ch))) (n10 : ch.length = (48 : Nat)) (h20 : cE h 20 (.inl (.int, fA [t0, t1, t2, t3]))) (hl : h.length = (94 : Nat)) : ik_F 104 [.ref 0, fI 1, fI what] h (fun rv h_q => ∃ (l0 : Int) (l1 : Int) (l2 : Int) (wg' : List Int) (wc' : List Int) (we' : List Int) (z0 : Int) (z1 : Int) (z2 : Int) (z3 : Int), rv = [fI (an_mo what pl (if what = 0 then (mk_mo (mk_vm cn go ch s pl ka pa fa kb pb fb 1) (pl - 1).toNat 0 (-1) 0).1 else (mk_mo (mk_vm cn go ch s pl ka pa fa kb pb fb 1) (pl - 1).toNat 0 (-1) 0).2))] ∧ cE h_q 7 (.inr (0, [fI pl, fI ((s : Nat) : Int), fI lo, .ref 8, .ref 9, .ref 10, .ref 11, .ref 12, .ref 13])) ∧ cE h_q 11 (.inl (.int, fA wg')) ∧ wg'.length = (60 : Nat) ∧ cE h_q 12 (.inl (.int, fA wc')) ∧ wc'.length = (60 : Nat) ∧ cE h_q 13 (.inl (.int, fA we')) ∧ we'.length = (12 : Nat) ∧ cE h_q 17 (.inr (8, [.ref 7, .ref 15, .ref 18, .ref 19, fJ l2, .ref 20])) ∧ cE h_q 19 (.inl (.long, fL [l0, l1])) ∧ mf_cr h_q 21  ∧ mf_cr h_q 33  ∧ cE h_q 20 (.inl (.int, fA [z0, z1, z2, z3])) ∧ (∀ x : Int, (0 : Int) ≤ x → x < pl - 1 → mx_wy wg' wc' we' x (mx_w cn go ch s x)) ∧ hfr [7, 11, 12, 13, 17, 19, 20, 21, 22, 23, 24, 33, 34, 35, 36] h h_q) := by
  refine ik_Wk 1 (pc_q := 1) (loc_q := [some (.ref 0), some (fI 1), some (fI what)]) (st_q := [fI 1]) (h_q := h) (cl_q := 0) (sl_q := 0) rfl ?_
  refine ik_Wc 121 1 3 [fI 1] [] rfl rfl rfl (by decide +kernel) rfl rfl (fw_sta hl rfl (by decide +kernel)) ?_
  refine ik_Wk 0 (pc_q := 0) (loc_q := [some (fI 1)]) (st_q := []) (h_q := h) (cl_q := 0) (sl_q := 0) rfl ?_
  refine ik_Wk 1 (pc_q := 1) (loc_q := [some (fI 1)]) (st_q := [fI 1]) (h_q := h) (cl_q := 0) (sl_q := 0) rfl ?_
  refine fw_if_eq rfl rfl (by decide +kernel) (by decide +kernel) (fun hc1 => absurd hc1 (by decide +kernel)) (fun hc1 => ?_)
  refine ik_Wk 2 (pc_q := 6) (loc_q := [some (fI 1)]) (st_q := [fI 1, fI 1]) (h_q := h) (cl_q := 0) (sl_q := 0) rfl ?_
  refine fw_ic_ne rfl rfl (by decide +kernel) (by decide +kernel) (by decide +kernel) (by decide +kernel) (fun hc2 => ?_) (fun hc2 => absurd hc2 (by decide +kernel))
  refine ik_Wk 2 (pc_q := 14) (loc_q := [some (fI 1)]) (st_q := [fI 1]) (h_q := h) (cl_q := 0) (sl_q := 0) rfl ?_
  refine ik_Wret rfl rfl ⟨_, _, rfl, rfl, ?_⟩
  refine ik_Wk 0 (pc_q := 4) (loc_q := [some (.ref 0), some (fI 1), some (fI what)]) (st_q := [fI 1]) (h_q := h) (cl_q := 0) (sl_q := 0) rfl ?_
  refine fw_if_ne rfl rfl (by decide +kernel) (by decide +kernel) (fun hc3 => absurd hc3 (by decide +kernel)) (fun hc3 => ?_)
  refine ik_Wk 1 (pc_q := 11) (loc_q := [some (.ref 0), some (fI 1), some (fI what)]) (st_q := [fI what]) (h_q := h) (cl_q := 0) (sl_q := 0) rfl ?_
  refine fw_if_lt rfl rfl (by omega) (by omega) (fun hc4 => ?_) (fun hc4 => ?_)
  · refine fw_ld (-1000000002) rfl rfl (by decide +kernel) ?_
    exact ik_Wret rfl rfl ⟨_, _, rfl, rfl, rfl, rfl, ⟨la, lb, bo, wg, wc, we, t0, t1, t2, t3, (congrArg (fun z => [fI z]) (by unfold an_mo; (repeat' split) <;> first | rfl | omega)), h7, h11, n11, h12, n12, h13, n13, h17, h19, h21, h33, h20, q1, (hfr_refl [7, 11, 12, 13, 17, 19, 20, 21, 22, 23, 24, 33, 34, 35, 36] h)⟩⟩
  · refine ik_Wk 2 (pc_q := 16) (loc_q := [some (.ref 0), some (fI 1), some (fI what)]) (st_q := [fI 1, fI what]) (h_q := h) (cl_q := 0) (sl_q := 0) rfl ?_
    refine fw_ic_le rfl rfl (by omega) (by omega) (by omega) (by omega) (fun hc5 => ?_) (fun hc5 => ?_)
    · refine ik_Wk 1 (pc_q := 23) (loc_q := [some (.ref 0), some (fI 1), some (fI what)]) (st_q := [.ref 0]) (h_q := h) (cl_q := 0) (sl_q := 0) rfl ?_
      refine fw_gf rfl rfl h0 rfl ?_
      refine ik_Wc 7 1 0 [.ref 7] [] rfl rfl rfl (by decide +kernel) rfl rfl (fw_rec hl rfl h7 rfl (Nat.le_of_ble_eq_true rfl)) ?_
      refine ik_Wk 0 (pc_q := 0) (loc_q := [some (.ref 7)]) (st_q := []) (h_q := h) (cl_q := 0) (sl_q := 0) rfl ?_
      refine ik_Wk 1 (pc_q := 1) (loc_q := [some (.ref 7)]) (st_q := [.ref 7]) (h_q := h) (cl_q := 0) (sl_q := 0) rfl ?_
      refine fw_gf rfl rfl h7 rfl ?_
      refine ik_Wk 1 (pc_q := 5) (loc_q := [some (.ref 7)]) (st_q := [fI 1, fI pl]) (h_q := h) (cl_q := 0) (sl_q := 0) rfl ?_
      refine fw_ic_le rfl rfl (by omega) (by omega) (by omega) (by omega) (fun hc6 => ?_) (fun hc6 => ?_)
      · refine ik_Wk 1 (pc_q := 13) (loc_q := [some (.ref 7)]) (st_q := [fI 0]) (h_q := h) (cl_q := 0) (sl_q := 0) rfl ?_
        refine ik_Wret rfl rfl ⟨_, _, rfl, rfl, ?_⟩
        refine ik_Wk 0 (pc_q := 29) (loc_q := [some (.ref 0), some (fI 1), some (fI what)]) (st_q := [fI 0]) (h_q := h) (cl_q := 0) (sl_q := 0) rfl ?_
        refine fw_if_ne rfl rfl (by decide +kernel) (by decide +kernel) (fun hc7 => ?_) (fun hc7 => absurd hc7 (by decide +kernel))
        refine fw_ld (-1000000003) rfl rfl (by decide +kernel) ?_
        exact ik_Wret rfl rfl ⟨_, _, rfl, rfl, rfl, rfl, ⟨la, lb, bo, wg, wc, we, t0, t1, t2, t3, (congrArg (fun z => [fI z]) (by unfold an_mo; (repeat' split) <;> first | rfl | omega)), h7, h11, n11, h12, n12, h13, n13, h17, h19, h21, h33, h20, q1, (hfr_refl [7, 11, 12, 13, 17, 19, 20, 21, 22, 23, 24, 33, 34, 35, 36] h)⟩⟩
      · refine ik_Wk 2 (pc_q := 13) (loc_q := [some (.ref 7)]) (st_q := [fI 1]) (h_q := h) (cl_q := 0) (sl_q := 0) rfl ?_
        refine ik_Wret rfl rfl ⟨_, _, rfl, rfl, ?_⟩
        refine ik_Wk 0 (pc_q := 29) (loc_q := [some (.ref 0), some (fI 1), some (fI what)]) (st_q := [fI 1]) (h_q := h) (cl_q := 0) (sl_q := 0) rfl ?_
        refine fw_if_ne rfl rfl (by decide +kernel) (by decide +kernel) (fun hc8 => absurd hc8 (by decide +kernel)) (fun hc8 => ?_)
        refine ik_Wk 1 (pc_q := 36) (loc_q := [some (.ref 0), some (fI 1), some (fI what)]) (st_q := [.ref 0]) (h_q := h) (cl_q := 0) (sl_q := 0) rfl ?_
        refine fw_gf rfl rfl h0 rfl ?_
        refine ik_Wk 1 (pc_q := 40) (loc_q := [some (.ref 0), some (fI 1), some (fI what)]) (st_q := [fI 1, .ref 17]) (h_q := h) (cl_q := 0) (sl_q := 0) rfl ?_
        refine fw_call 85 2 0 [.ref 17, fI 1] [] rfl rfl rfl (Nat.le_of_ble_eq_true rfl) rfl rfl (fw_rec hl rfl h17 rfl (Nat.le_of_ble_eq_true rfl)) (cs_most1 (pl := pl) (lo := lo) (s := s) (ka := ka) (pa := pa) (fa := fa) (kb := kb) (pb := pb) (fb := fb) (bo := bo) (la := la) (lb := lb) (t0 := t0) (t1 := t1) (t2 := t2) (t3 := t3) (wg := wg) (wc := wc) (we := we) (cn := cn) (go := go) (ch := ch) (by omega) (by omega) (q4 (by omega)) (q5 (by omega)) (by omega) q1 q2 trivial q3 h7 h8 n8 h9 n9 h10 n10 h11 n11 h12 n12 h13 n13 h15 h17 h18 h19 h20 h21 h33 hl) ?_
        rintro _ h_378 ⟨l0_378, l1_378, l2_378, wg'_378, wc'_378, we'_378, rfl, e_378_7, e_378_11, m_378_11, e_378_12, m_378_12, e_378_13, m_378_13, e_378_17, e_378_19, e_378_20, e_378_21, e_378_33, p_378_0, F_378⟩
        have k_378 : cL h_378 := F_378.1.trans hl
        have fr_378 := hfr_cb (hfr_refl [7, 11, 12, 13, 17, 19, 20, 21, 22, 23, 24, 33, 34, 35, 36] h) F_378 rfl
        have g_378_0 := (hfr_g F_378 0 rfl).trans h0
        have g_378_18 := (hfr_g F_378 18 rfl).trans h18
        have g_378_15 := (hfr_g F_378 15 rfl).trans h15
        have g_378_8 := (hfr_g F_378 8 rfl).trans h8
        have g_378_9 := (hfr_g F_378 9 rfl).trans h9
        have g_378_10 := (hfr_g F_378 10 rfl).trans h10
        have g_378_7 : cE h_378 7 (.inr (0, [fI pl, fI ((s : Nat) : Int), fI lo, .ref 8, .ref 9, .ref 10, .ref 11, .ref 12, .ref 13])) := e_378_7
        have g_378_11 : cE h_378 11 (.inl (.int, fA wg'_378)) := e_378_11
        have g_378_12 : cE h_378 12 (.inl (.int, fA wc'_378)) := e_378_12
        have g_378_13 : cE h_378 13 (.inl (.int, fA we'_378)) := e_378_13
        have g_378_17 : cE h_378 17 (.inr (8, [.ref 7, .ref 15, .ref 18, .ref 19, fJ l2_378, .ref 20])) := e_378_17
        have g_378_19 : cE h_378 19 (.inl (.long, fL [l0_378, l1_378])) := e_378_19
        have g_378_20 : cE h_378 20 (.inl (.int, fA [(mk_mo (mk_vm cn go ch s pl ka pa fa kb pb fb 1) (pl - 1).toNat 0 (-1) 0).1, (mk_mo (mk_vm cn go ch s pl ka pa fa kb pb fb 1) (pl - 1).toNat 0 (-1) 0).2, -1, -1])) := e_378_20
        have g_378_21 : mf_cr h_378 21  := e_378_21
        have g_378_33 : mf_cr h_378 33  := e_378_33
        refine ik_Wk 0 (pc_q := 43) (loc_q := [some (.ref 0), some (fI 1), some (fI what)]) (st_q := []) (h_q := h_378) (cl_q := 0) (sl_q := 0) rfl ?_
        refine ik_Wk 1 (pc_q := 44) (loc_q := [some (.ref 0), some (fI 1), some (fI what)]) (st_q := [.ref 0]) (h_q := h_378) (cl_q := 0) (sl_q := 0) rfl ?_
        refine fw_gf rfl rfl g_378_0 rfl ?_
        refine fw_gf rfl rfl g_378_17 rfl ?_
        refine ik_Wk 1 (pc_q := 51) (loc_q := [some (.ref 0), some (fI 1), some (fI what)]) (st_q := [fI what, .ref 20]) (h_q := h_378) (cl_q := 0) (sl_q := 0) rfl ?_
        refine fw_ial rfl g_378_20 (by omega) (show what.toNat < 4 by omega) (by omega) ?_
        have ew : what = 0 ∨ what = 1 := by omega
        exact ik_Wret rfl rfl ⟨_, _, rfl, rfl, rfl, rfl, ⟨l0_378, l1_378, l2_378, wg'_378, wc'_378, we'_378, ((mk_mo (mk_vm cn go ch s pl ka pa fa kb pb fb 1) (pl - 1).toNat 0 (-1) 0).1), ((mk_mo (mk_vm cn go ch s pl ka pa fa kb pb fb 1) (pl - 1).toNat 0 (-1) 0).2), (-1), (-1), (congrArg (fun z => [fI z]) (by unfold an_mo; rw [if_pos (by omega), if_pos (by omega)]; rcases ew with z | z <;> subst z <;> rfl)), g_378_7, g_378_11, m_378_11, g_378_12, m_378_12, g_378_13, m_378_13, g_378_17, g_378_19, g_378_21, g_378_33, g_378_20, p_378_0, fr_378⟩⟩
    · refine fw_ld (-1000000002) rfl rfl (by decide +kernel) ?_
      exact ik_Wret rfl rfl ⟨_, _, rfl, rfl, rfl, rfl, ⟨la, lb, bo, wg, wc, we, t0, t1, t2, t3, (congrArg (fun z => [fI z]) (by unfold an_mo; (repeat' split) <;> first | rfl | omega)), h7, h11, n11, h12, n12, h13, n13, h17, h19, h21, h33, h20, q1, (hfr_refl [7, 11, 12, 13, 17, 19, 20, 21, 22, 23, 24, 33, 34, 35, 36] h)⟩⟩

theorem cp_fit {h : List ik_E} {pl : Int} {lo : Int} {s : Nat} {bo : Int} {r : Int} {rp : List Int} {rt : List Int} {wg : List Int} {wc : List Int} {we : List Int} {cn : List Int} {go : List Int} {ch : List Int} {p : Int} (q0 : 0 ≤ pl ∧ pl ≤ 12) (q1 : 0 ≤ r ∧ r ≤ 12) (q2 : mk_rr pl r rp rt) (q3 : ∀ x : Int, (0 : Int) ≤ x → x < pl - 1 → mx_wy wg wc we x (mx_w cn go ch s x)) (q4 : mx_rw pl cn go ch) (q5 : s < 4096) (q6 : (-2147483648 : Int) ≤ p ∧ p < (2147483648 : Int)) (h0 : cE h 0 (.inr (9, [.ref 1, .ref 7, .ref 14, .ref 17, .ref 45, .ref 51, .ref 54, .ref 57]))) (h7 : cE h 7 (.inr (0, [fI pl, fI ((s : Nat) : Int), fI lo, .ref 8, .ref 9, .ref 10, .ref 11, .ref 12, .ref 13]))) (h8 : cE h 8 (.inl (.int, fA cn))) (n8 : cn.length = (12 : Nat)) (h9 : cE h 9 (.inl (.int, fA go))) (n9 : go.length = (48 : Nat)) (h10 : cE h 10 (.inl (.int, fA ch))) (n10 : ch.length = (48 : Nat)) (h11 : cE h 11 (.inl (.int, fA wg))) (n11 : wg.length = (60 : Nat)) (h12 : cE h 12 (.inl (.int, fA wc))) (n12 : wc.length = (60 : Nat)) (h13 : cE h 13 (.inl (.int, fA we))) (n13 : we.length = (12 : Nat)) (h17 : cE h 17 (.inr (8, [.ref 7, .ref 15, .ref 18, .ref 19, fJ bo, .ref 20]))) (h18 : cE h 18 (.inl (.object "SlowerCork$Course", [.ref 21, .ref 25, .ref 29, .ref 33, .ref 37, .ref 41]))) (h51 : cE h 51 (.inr (7, [.ref 7, fI r, .ref 52, .ref 53]))) (h52 : cE h 52 (.inl (.int, fA rp))) (n52 : rp.length = (12 : Nat)) (h53 : cE h 53 (.inl (.int, fA rt))) (n53 : rt.length = (12 : Nat)) (h21 : mf_cr h 21 ) (hl : h.length = (94 : Nat)) : ik_F 107 [.ref 0, fI p] h (fun rv h_q => ∃ (wg' : List Int) (wc' : List Int) (we' : List Int), rv = [fI (an_fi p pl (mk_fv cn go ch s pl rp rt r) (mk_vs cn go ch s pl rp rt r p))] ∧ cE h_q 7 (.inr (0, [fI pl, fI ((s : Nat) : Int), fI lo, .ref 8, .ref 9, .ref 10, .ref 11, .ref 12, .ref 13])) ∧ cE h_q 11 (.inl (.int, fA wg')) ∧ wg'.length = (60 : Nat) ∧ cE h_q 12 (.inl (.int, fA wc')) ∧ wc'.length = (60 : Nat) ∧ cE h_q 13 (.inl (.int, fA we')) ∧ we'.length = (12 : Nat) ∧ mf_cr h_q 21  ∧ (∀ x : Int, (0 : Int) ≤ x → x < pl - 1 → mx_wy wg' wc' we' x (mx_w cn go ch s x)) ∧ hfr [7, 11, 12, 13, 21, 22, 23, 24] h h_q) := by
  refine ik_Wk 2 (pc_q := 2) (loc_q := [some (.ref 0), some (fI p)]) (st_q := [fI (-1), fI p]) (h_q := h) (cl_q := 0) (sl_q := 0) rfl ?_
  refine fw_ic_ne rfl rfl (by omega) (by omega) (by omega) (by omega) (fun hc1 => ?_) (fun hc1 => ?_)
  · refine ik_Wk 1 (pc_q := 6) (loc_q := [some (.ref 0), some (fI p)]) (st_q := [.ref 0]) (h_q := h) (cl_q := 0) (sl_q := 0) rfl ?_
    refine fw_gf rfl rfl h0 rfl ?_
    refine ik_Wk 1 (pc_q := 10) (loc_q := [some (.ref 0), some (fI p)]) (st_q := [.ref 0, .ref 51]) (h_q := h) (cl_q := 0) (sl_q := 0) rfl ?_
    refine fw_gf rfl rfl h0 rfl ?_
    refine fw_gf rfl rfl h17 rfl ?_
    refine ik_Wk 1 (pc_q := 17) (loc_q := [some (.ref 0), some (fI p)]) (st_q := [fI 0, .ref 18, .ref 51]) (h_q := h) (cl_q := 0) (sl_q := 0) rfl ?_
    refine fx_aal (z := 0) rfl h18 (by decide +kernel) (by decide +kernel) rfl ?_
    refine fw_call 70 2 0 [.ref 51, .ref 21] [] rfl rfl rfl (Nat.le_of_ble_eq_true rfl) rfl rfl (fw_rec hl rfl h51 rfl (Nat.le_of_ble_eq_true rfl)) (cs_fit (pl := pl) (lo := lo) (s := s) (r := r) (rp := rp) (rt := rt) (wg := wg) (wc := wc) (we := we) (W := (fun x => mx_w cn go ch s x)) (by omega) (by omega) q2 q3 (mx_rw_ok q4 _) h7 h11 n11 h12 n12 h13 n13 h51 h52 n52 h53 n53 h21 hl) ?_
    rintro _ h_379 ⟨rfl, e_379_21, F_379⟩
    have k_379 : cL h_379 := F_379.1.trans hl
    have fr_379 := hfr_cb (hfr_refl [7, 11, 12, 13, 21, 22, 23, 24] h) F_379 rfl
    have g_379_0 := (hfr_g F_379 0 rfl).trans h0
    have g_379_7 := (hfr_g F_379 7 rfl).trans h7
    have g_379_8 := (hfr_g F_379 8 rfl).trans h8
    have g_379_9 := (hfr_g F_379 9 rfl).trans h9
    have g_379_10 := (hfr_g F_379 10 rfl).trans h10
    have g_379_11 := (hfr_g F_379 11 rfl).trans h11
    have g_379_12 := (hfr_g F_379 12 rfl).trans h12
    have g_379_13 := (hfr_g F_379 13 rfl).trans h13
    have g_379_17 := (hfr_g F_379 17 rfl).trans h17
    have g_379_18 := (hfr_g F_379 18 rfl).trans h18
    have g_379_51 := (hfr_g F_379 51 rfl).trans h51
    have g_379_52 := (hfr_g F_379 52 rfl).trans h52
    have g_379_53 := (hfr_g F_379 53 rfl).trans h53
    have g_379_21 : mf_cr h_379 21  := e_379_21
    refine ik_Wk 0 (pc_q := 21) (loc_q := [some (.ref 0), some (fI p)]) (st_q := [fI (mk_ft (mk_J (fun x => mx_w cn go ch s x) pl rp rt) r.toNat)]) (h_q := h_379) (cl_q := 0) (sl_q := 0) rfl ?_
    exact ik_Wret rfl rfl ⟨_, _, rfl, rfl, rfl, rfl, ⟨wg, wc, we, (congrArg (fun z => [fI z]) (by unfold an_fi; (repeat' split) <;> first | rfl | omega)), g_379_7, g_379_11, n11, g_379_12, n12, g_379_13, n13, g_379_21, q3, fr_379⟩⟩
  · refine ik_Wk 1 (pc_q := 23) (loc_q := [some (.ref 0), some (fI p)]) (st_q := [.ref 0]) (h_q := h) (cl_q := 0) (sl_q := 0) rfl ?_
    refine fw_gf rfl rfl h0 rfl ?_
    refine ik_Wk 1 (pc_q := 27) (loc_q := [some (.ref 0), some (fI p)]) (st_q := [fI p, .ref 7]) (h_q := h) (cl_q := 0) (sl_q := 0) rfl ?_
    refine ik_Wc 4 2 0 [.ref 7, fI p] [] rfl rfl rfl (by decide +kernel) rfl rfl (fw_rec hl rfl h7 rfl (Nat.le_of_ble_eq_true rfl)) ?_
    refine ik_Wk 0 (pc_q := 0) (loc_q := [some (.ref 7), some (fI p)]) (st_q := []) (h_q := h) (cl_q := 0) (sl_q := 0) rfl ?_
    refine ik_Wk 1 (pc_q := 1) (loc_q := [some (.ref 7), some (fI p)]) (st_q := [fI p]) (h_q := h) (cl_q := 0) (sl_q := 0) rfl ?_
    refine fw_if_lt rfl rfl (by omega) (by omega) (fun hc2 => ?_) (fun hc2 => ?_)
    · refine ik_Wk 1 (pc_q := 19) (loc_q := [some (.ref 7), some (fI p)]) (st_q := [fI 0]) (h_q := h) (cl_q := 0) (sl_q := 0) rfl ?_
      refine ik_Wret rfl rfl ⟨_, _, rfl, rfl, ?_⟩
      refine ik_Wk 0 (pc_q := 30) (loc_q := [some (.ref 0), some (fI p)]) (st_q := [fI 0]) (h_q := h) (cl_q := 0) (sl_q := 0) rfl ?_
      refine fw_if_ne rfl rfl (by decide +kernel) (by decide +kernel) (fun hc3 => ?_) (fun hc3 => absurd hc3 (by decide +kernel))
      refine fw_ld (-1000000001) rfl rfl (by decide +kernel) ?_
      exact ik_Wret rfl rfl ⟨_, _, rfl, rfl, rfl, rfl, ⟨wg, wc, we, (congrArg (fun z => [fI z]) (by unfold an_fi; (repeat' split) <;> first | rfl | omega)), h7, h11, n11, h12, n12, h13, n13, h21, q3, (hfr_refl [7, 11, 12, 13, 21, 22, 23, 24] h)⟩⟩
    · refine ik_Wk 2 (pc_q := 6) (loc_q := [some (.ref 7), some (fI p)]) (st_q := [.ref 7, fI p]) (h_q := h) (cl_q := 0) (sl_q := 0) rfl ?_
      refine fw_gf rfl rfl h7 rfl ?_
      refine ik_Wk 1 (pc_q := 10) (loc_q := [some (.ref 7), some (fI p)]) (st_q := [fI 1, fI pl, fI p]) (h_q := h) (cl_q := 0) (sl_q := 0) rfl ?_
      refine fw_sub rfl ?_
      refine fw_ic_ge rfl rfl (by omega) (by omega) (by omega) (by omega) (fun hc4 => ?_) (fun hc4 => ?_)
      · refine ik_Wk 1 (pc_q := 19) (loc_q := [some (.ref 7), some (fI p)]) (st_q := [fI 0]) (h_q := h) (cl_q := 0) (sl_q := 0) rfl ?_
        refine ik_Wret rfl rfl ⟨_, _, rfl, rfl, ?_⟩
        refine ik_Wk 0 (pc_q := 30) (loc_q := [some (.ref 0), some (fI p)]) (st_q := [fI 0]) (h_q := h) (cl_q := 0) (sl_q := 0) rfl ?_
        refine fw_if_ne rfl rfl (by decide +kernel) (by decide +kernel) (fun hc5 => ?_) (fun hc5 => absurd hc5 (by decide +kernel))
        refine fw_ld (-1000000001) rfl rfl (by decide +kernel) ?_
        exact ik_Wret rfl rfl ⟨_, _, rfl, rfl, rfl, rfl, ⟨wg, wc, we, (congrArg (fun z => [fI z]) (by unfold an_fi; (repeat' split) <;> first | rfl | omega)), h7, h11, n11, h12, n12, h13, n13, h21, q3, (hfr_refl [7, 11, 12, 13, 21, 22, 23, 24] h)⟩⟩
      · refine ik_Wk 2 (pc_q := 19) (loc_q := [some (.ref 7), some (fI p)]) (st_q := [fI 1]) (h_q := h) (cl_q := 0) (sl_q := 0) rfl ?_
        refine ik_Wret rfl rfl ⟨_, _, rfl, rfl, ?_⟩
        refine ik_Wk 0 (pc_q := 30) (loc_q := [some (.ref 0), some (fI p)]) (st_q := [fI 1]) (h_q := h) (cl_q := 0) (sl_q := 0) rfl ?_
        refine fw_if_ne rfl rfl (by decide +kernel) (by decide +kernel) (fun hc6 => absurd hc6 (by decide +kernel)) (fun hc6 => ?_)
        refine ik_Wk 1 (pc_q := 37) (loc_q := [some (.ref 0), some (fI p)]) (st_q := [.ref 0]) (h_q := h) (cl_q := 0) (sl_q := 0) rfl ?_
        refine fw_gf rfl rfl h0 rfl ?_
        refine ik_Wk 2 (pc_q := 42) (loc_q := [some (.ref 0), some (fI p)]) (st_q := [.ref 0, fI p, .ref 51]) (h_q := h) (cl_q := 0) (sl_q := 0) rfl ?_
        refine fw_gf rfl rfl h0 rfl ?_
        refine fw_gf rfl rfl h17 rfl ?_
        refine ik_Wk 1 (pc_q := 49) (loc_q := [some (.ref 0), some (fI p)]) (st_q := [fI 0, .ref 18, fI p, .ref 51]) (h_q := h) (cl_q := 0) (sl_q := 0) rfl ?_
        refine fx_aal (z := 0) rfl h18 (by decide +kernel) (by decide +kernel) rfl ?_
        refine fw_call 71 3 0 [.ref 51, fI p, .ref 21] [] rfl rfl rfl (Nat.le_of_ble_eq_true rfl) rfl rfl (fw_rec hl rfl h51 rfl (Nat.le_of_ble_eq_true rfl)) (cs_fitOther (p := p) (pl := pl) (lo := lo) (s := s) (r := r) (rp := rp) (rt := rt) (wg := wg) (wc := wc) (we := we) (cn := cn) (go := go) (ch := ch) (by omega) (by omega) q2 q3 q4 trivial q5 (by omega) h7 h8 n8 h9 n9 h10 n10 h11 n11 h12 n12 h13 n13 h51 h52 n52 h53 n53 h21 hl) ?_
        rintro _ h_380 ⟨wg'_380, wc'_380, we'_380, rfl, e_380_7, e_380_11, m_380_11, e_380_12, m_380_12, e_380_13, m_380_13, e_380_21, p_380_0, F_380⟩
        have k_380 : cL h_380 := F_380.1.trans hl
        have fr_380 := hfr_cb (hfr_refl [7, 11, 12, 13, 21, 22, 23, 24] h) F_380 rfl
        have g_380_0 := (hfr_g F_380 0 rfl).trans h0
        have g_380_8 := (hfr_g F_380 8 rfl).trans h8
        have g_380_9 := (hfr_g F_380 9 rfl).trans h9
        have g_380_10 := (hfr_g F_380 10 rfl).trans h10
        have g_380_17 := (hfr_g F_380 17 rfl).trans h17
        have g_380_18 := (hfr_g F_380 18 rfl).trans h18
        have g_380_51 := (hfr_g F_380 51 rfl).trans h51
        have g_380_52 := (hfr_g F_380 52 rfl).trans h52
        have g_380_53 := (hfr_g F_380 53 rfl).trans h53
        have g_380_7 : cE h_380 7 (.inr (0, [fI pl, fI ((s : Nat) : Int), fI lo, .ref 8, .ref 9, .ref 10, .ref 11, .ref 12, .ref 13])) := e_380_7
        have g_380_11 : cE h_380 11 (.inl (.int, fA wg'_380)) := e_380_11
        have g_380_12 : cE h_380 12 (.inl (.int, fA wc'_380)) := e_380_12
        have g_380_13 : cE h_380 13 (.inl (.int, fA we'_380)) := e_380_13
        have g_380_21 : mf_cr h_380 21  := e_380_21
        refine ik_Wk 0 (pc_q := 53) (loc_q := [some (.ref 0), some (fI p)]) (st_q := [fI (mk_ft (mk_J (fun x => mx_w cn go ch (s ^^^ 1 <<< p.toNat) x) pl rp rt) r.toNat)]) (h_q := h_380) (cl_q := 0) (sl_q := 0) rfl ?_
        exact ik_Wret rfl rfl ⟨_, _, rfl, rfl, rfl, rfl, ⟨wg'_380, wc'_380, we'_380, (congrArg (fun z => [fI z]) (by unfold an_fi; (repeat' split) <;> first | rfl | omega)), g_380_7, g_380_11, m_380_11, g_380_12, m_380_12, g_380_13, m_380_13, g_380_21, p_380_0, fr_380⟩⟩

theorem cp_stoned {h : List ik_E} {pl : Int} {lo : Int} {s : Nat} {bo : Int} {r : Int} {rp : List Int} {rt : List Int} {wg : List Int} {wc : List Int} {we : List Int} {cn : List Int} {go : List Int} {ch : List Int} (q0 : 0 ≤ pl ∧ pl ≤ 12) (q1 : 0 ≤ r ∧ r ≤ 12) (q2 : mk_rr pl r rp rt) (q3 : ∀ x : Int, (0 : Int) ≤ x → x < pl - 1 → mx_wy wg wc we x (mx_w cn go ch s x)) (q4 : mx_rw pl cn go ch) (q5 : s < 4096) (h0 : cE h 0 (.inr (9, [.ref 1, .ref 7, .ref 14, .ref 17, .ref 45, .ref 51, .ref 54, .ref 57]))) (h7 : cE h 7 (.inr (0, [fI pl, fI ((s : Nat) : Int), fI lo, .ref 8, .ref 9, .ref 10, .ref 11, .ref 12, .ref 13]))) (h8 : cE h 8 (.inl (.int, fA cn))) (n8 : cn.length = (12 : Nat)) (h9 : cE h 9 (.inl (.int, fA go))) (n9 : go.length = (48 : Nat)) (h10 : cE h 10 (.inl (.int, fA ch))) (n10 : ch.length = (48 : Nat)) (h11 : cE h 11 (.inl (.int, fA wg))) (n11 : wg.length = (60 : Nat)) (h12 : cE h 12 (.inl (.int, fA wc))) (n12 : wc.length = (60 : Nat)) (h13 : cE h 13 (.inl (.int, fA we))) (n13 : we.length = (12 : Nat)) (h17 : cE h 17 (.inr (8, [.ref 7, .ref 15, .ref 18, .ref 19, fJ bo, .ref 20]))) (h18 : cE h 18 (.inl (.object "SlowerCork$Course", [.ref 21, .ref 25, .ref 29, .ref 33, .ref 37, .ref 41]))) (h51 : cE h 51 (.inr (7, [.ref 7, fI r, .ref 52, .ref 53]))) (h52 : cE h 52 (.inl (.int, fA rp))) (n52 : rp.length = (12 : Nat)) (h53 : cE h 53 (.inl (.int, fA rt))) (n53 : rt.length = (12 : Nat)) (h21 : mf_cr h 21 ) (hl : h.length = (94 : Nat)) : ik_F 108 [.ref 0] h (fun rv h_q => ∃ (wg' : List Int) (wc' : List Int) (we' : List Int), rv = [fI (mk_so (mk_vs cn go ch s pl rp rt r) (pl - 1).toNat 0 (mk_fv cn go ch s pl rp rt r) (-1))] ∧ cE h_q 7 (.inr (0, [fI pl, fI ((s : Nat) : Int), fI lo, .ref 8, .ref 9, .ref 10, .ref 11, .ref 12, .ref 13])) ∧ cE h_q 11 (.inl (.int, fA wg')) ∧ wg'.length = (60 : Nat) ∧ cE h_q 12 (.inl (.int, fA wc')) ∧ wc'.length = (60 : Nat) ∧ cE h_q 13 (.inl (.int, fA we')) ∧ we'.length = (12 : Nat) ∧ mf_cr h_q 21  ∧ (∀ x : Int, (0 : Int) ≤ x → x < pl - 1 → mx_wy wg' wc' we' x (mx_w cn go ch s x)) ∧ hfr [7, 11, 12, 13, 21, 22, 23, 24] h h_q) := by
  refine ik_Wk 1 (pc_q := 1) (loc_q := [some (.ref 0)]) (st_q := [.ref 0]) (h_q := h) (cl_q := 0) (sl_q := 0) rfl ?_
  refine fw_gf rfl rfl h0 rfl ?_
  refine ik_Wk 1 (pc_q := 5) (loc_q := [some (.ref 0)]) (st_q := [.ref 0, .ref 51]) (h_q := h) (cl_q := 0) (sl_q := 0) rfl ?_
  refine fw_gf rfl rfl h0 rfl ?_
  refine fw_gf rfl rfl h17 rfl ?_
  refine ik_Wk 1 (pc_q := 12) (loc_q := [some (.ref 0)]) (st_q := [fI 0, .ref 18, .ref 51]) (h_q := h) (cl_q := 0) (sl_q := 0) rfl ?_
  refine fx_aal (z := 0) rfl h18 (by decide +kernel) (by decide +kernel) rfl ?_
  refine fw_call 72 2 0 [.ref 51, .ref 21] [] rfl rfl rfl (Nat.le_of_ble_eq_true rfl) rfl rfl (fw_rec hl rfl h51 rfl (Nat.le_of_ble_eq_true rfl)) (cs_findStone (pl := pl) (lo := lo) (s := s) (r := r) (rp := rp) (rt := rt) (wg := wg) (wc := wc) (we := we) (cn := cn) (go := go) (ch := ch) (by omega) (by omega) q2 q3 q4 trivial q5 h7 h8 n8 h9 n9 h10 n10 h11 n11 h12 n12 h13 n13 h51 h52 n52 h53 n53 h21 hl) ?_
  rintro _ h_381 ⟨wg'_381, wc'_381, we'_381, rfl, e_381_7, e_381_11, m_381_11, e_381_12, m_381_12, e_381_13, m_381_13, e_381_21, p_381_0, F_381⟩
  have k_381 : cL h_381 := F_381.1.trans hl
  have fr_381 := hfr_cb (hfr_refl [7, 11, 12, 13, 21, 22, 23, 24] h) F_381 rfl
  have g_381_0 := (hfr_g F_381 0 rfl).trans h0
  have g_381_8 := (hfr_g F_381 8 rfl).trans h8
  have g_381_9 := (hfr_g F_381 9 rfl).trans h9
  have g_381_10 := (hfr_g F_381 10 rfl).trans h10
  have g_381_17 := (hfr_g F_381 17 rfl).trans h17
  have g_381_18 := (hfr_g F_381 18 rfl).trans h18
  have g_381_51 := (hfr_g F_381 51 rfl).trans h51
  have g_381_52 := (hfr_g F_381 52 rfl).trans h52
  have g_381_53 := (hfr_g F_381 53 rfl).trans h53
  have g_381_7 : cE h_381 7 (.inr (0, [fI pl, fI ((s : Nat) : Int), fI lo, .ref 8, .ref 9, .ref 10, .ref 11, .ref 12, .ref 13])) := e_381_7
  have g_381_11 : cE h_381 11 (.inl (.int, fA wg'_381)) := e_381_11
  have g_381_12 : cE h_381 12 (.inl (.int, fA wc'_381)) := e_381_12
  have g_381_13 : cE h_381 13 (.inl (.int, fA we'_381)) := e_381_13
  have g_381_21 : mf_cr h_381 21  := e_381_21
  refine ik_Wk 0 (pc_q := 16) (loc_q := [some (.ref 0)]) (st_q := [fI (mk_so (mk_vs cn go ch s pl rp rt r) (pl - 1).toNat 0 (mk_ft (mk_J (fun x => mx_w cn go ch s x) pl rp rt) r.toNat) (-1))]) (h_q := h_381) (cl_q := 0) (sl_q := 0) rfl ?_
  exact ik_Wret rfl rfl ⟨_, _, rfl, rfl, rfl, rfl, ⟨wg'_381, wc'_381, we'_381, rfl, g_381_7, g_381_11, m_381_11, g_381_12, m_381_12, g_381_13, m_381_13, g_381_21, p_381_0, fr_381⟩⟩

theorem cp_fair {h : List ik_E} {pl : Int} {lo : Int} {s : Nat} {bo : Int} {wg : List Int} {wc : List Int} {we : List Int} {ka : Int} {pa : Int} {fa : Int} {kb : Int} {pb : Int} {fb : Int} {la : Int} {lb : Int} {t0 : Int} {t1 : Int} {t2 : Int} {t3 : Int} {cn : List Int} {go : List Int} {ch : List Int} {e : Int} {what : Int} (q0 : 0 ≤ pl ∧ pl ≤ 12) (q1 : ∀ x : Int, (0 : Int) ≤ x → x < pl - 1 → mx_wy wg wc we x (mx_w cn go ch s x)) (q2 : mx_rw pl cn go ch) (q3 : s < 4096) (q4 : (1 : Int) < pl → (0 : Int) ≤ pa ∧ pa < pl - 1) (q5 : (1 : Int) < pl → (0 : Int) ≤ pb ∧ pb < pl - 1) (q6 : (0 : Int) ≤ ka ∧ ka ≤ (2 : Int) ∧ (0 : Int) ≤ kb ∧ kb ≤ (2 : Int)) (q7 : (0 : Int) ≤ fa ∧ fa ≤ (30 : Int) ∧ (0 : Int) ≤ fb ∧ fb ≤ (30 : Int)) (q8 : (-2147483648 : Int) ≤ e ∧ e < (2147483648 : Int)) (q9 : (-2147483648 : Int) ≤ what ∧ what < (2147483648 : Int)) (h0 : cE h 0 (.inr (9, [.ref 1, .ref 7, .ref 14, .ref 17, .ref 45, .ref 51, .ref 54, .ref 57]))) (h7 : cE h 7 (.inr (0, [fI pl, fI ((s : Nat) : Int), fI lo, .ref 8, .ref 9, .ref 10, .ref 11, .ref 12, .ref 13]))) (h11 : cE h 11 (.inl (.int, fA wg))) (n11 : wg.length = (60 : Nat)) (h12 : cE h 12 (.inl (.int, fA wc))) (n12 : wc.length = (60 : Nat)) (h13 : cE h 13 (.inl (.int, fA we))) (n13 : we.length = (12 : Nat)) (h17 : cE h 17 (.inr (8, [.ref 7, .ref 15, .ref 18, .ref 19, fJ bo, .ref 20]))) (h18 : cE h 18 (.inl (.object "SlowerCork$Course", [.ref 21, .ref 25, .ref 29, .ref 33, .ref 37, .ref 41]))) (h15 : cE h 15 (.inl (.int, fA [ka, pa, fa, kb, pb, fb]))) (h19 : cE h 19 (.inl (.long, fL [la, lb]))) (h21 : mf_cr h 21 ) (h33 : mf_cr h 33 ) (h8 : cE h 8 (.inl (.int, fA cn))) (n8 : cn.length = (12 : Nat)) (h9 : cE h 9 (.inl (.int, fA go))) (n9 : go.length = (48 : Nat)) (h10 : cE h 10 (.inl (.int, fA ch))) (n10 : ch.length = (48 : Nat)) (h20 : cE h 20 (.inl (.int, fA [t0, t1, t2, t3]))) (hl : h.length = (94 : Nat)) : ik_F 110 [.ref 0, fI e, fI what] h (fun rv h_q => ∃ (l0 : Int) (l1 : Int) (l2 : Int) (wg' : List Int) (wc' : List Int) (we' : List Int) (z0 : Int) (z1 : Int) (z2 : Int) (z3 : Int), rv = [fI (an_fa e what pl (an_fw (mk_fz cn go ch s pl ka pa fa kb pb fb e) what))] ∧ cE h_q 10 (.inl (.int, fA ch)) ∧ ch.length = (48 : Nat) ∧ cE h_q 11 (.inl (.int, fA wg')) ∧ wg'.length = (60 : Nat) ∧ cE h_q 12 (.inl (.int, fA wc')) ∧ wc'.length = (60 : Nat) ∧ cE h_q 13 (.inl (.int, fA we')) ∧ we'.length = (12 : Nat) ∧ cE h_q 17 (.inr (8, [.ref 7, .ref 15, .ref 18, .ref 19, fJ l2, .ref 20])) ∧ cE h_q 19 (.inl (.long, fL [l0, l1])) ∧ mf_cr h_q 21  ∧ mf_cr h_q 33  ∧ cE h_q 20 (.inl (.int, fA [z0, z1, z2, z3])) ∧ (∀ x : Int, (0 : Int) ≤ x → x < pl - 1 → mx_wy wg' wc' we' x (mx_w cn go ch s x)) ∧ hfr [10, 11, 12, 13, 17, 19, 20, 21, 22, 23, 24, 33, 34, 35, 36] h h_q) := by
  refine ik_Wk 1 (pc_q := 1) (loc_q := [some (.ref 0), some (fI e), some (fI what)]) (st_q := [fI e]) (h_q := h) (cl_q := 0) (sl_q := 0) rfl ?_
  refine fw_if_lt rfl rfl (by omega) (by omega) (fun hc1 => ?_) (fun hc1 => ?_)
  · refine fw_ld (-1000000002) rfl rfl (by decide +kernel) ?_
    exact ik_Wret rfl rfl ⟨_, _, rfl, rfl, rfl, rfl, ⟨la, lb, bo, wg, wc, we, t0, t1, t2, t3, (congrArg (fun z => [fI z]) (by unfold an_fa; (repeat' split) <;> first | rfl | omega)), h10, n10, h11, n11, h12, n12, h13, n13, h17, h19, h21, h33, h20, q1, (hfr_refl [10, 11, 12, 13, 17, 19, 20, 21, 22, 23, 24, 33, 34, 35, 36] h)⟩⟩
  · refine ik_Wk 1 (pc_q := 5) (loc_q := [some (.ref 0), some (fI e), some (fI what)]) (st_q := [fI e]) (h_q := h) (cl_q := 0) (sl_q := 0) rfl ?_
    refine fw_ld 1000000 rfl rfl (by decide +kernel) ?_
    refine fw_ic_gt rfl rfl (by omega) (by omega) (by omega) (by omega) (fun hc2 => ?_) (fun hc2 => ?_)
    · refine fw_ld (-1000000002) rfl rfl (by decide +kernel) ?_
      exact ik_Wret rfl rfl ⟨_, _, rfl, rfl, rfl, rfl, ⟨la, lb, bo, wg, wc, we, t0, t1, t2, t3, (congrArg (fun z => [fI z]) (by unfold an_fa; (repeat' split) <;> first | rfl | omega)), h10, n10, h11, n11, h12, n12, h13, n13, h17, h19, h21, h33, h20, q1, (hfr_refl [10, 11, 12, 13, 17, 19, 20, 21, 22, 23, 24, 33, 34, 35, 36] h)⟩⟩
    · refine ik_Wk 1 (pc_q := 11) (loc_q := [some (.ref 0), some (fI e), some (fI what)]) (st_q := [fI what]) (h_q := h) (cl_q := 0) (sl_q := 0) rfl ?_
      refine fw_if_lt rfl rfl (by omega) (by omega) (fun hc3 => ?_) (fun hc3 => ?_)
      · refine fw_ld (-1000000002) rfl rfl (by decide +kernel) ?_
        exact ik_Wret rfl rfl ⟨_, _, rfl, rfl, rfl, rfl, ⟨la, lb, bo, wg, wc, we, t0, t1, t2, t3, (congrArg (fun z => [fI z]) (by unfold an_fa; (repeat' split) <;> first | rfl | omega)), h10, n10, h11, n11, h12, n12, h13, n13, h17, h19, h21, h33, h20, q1, (hfr_refl [10, 11, 12, 13, 17, 19, 20, 21, 22, 23, 24, 33, 34, 35, 36] h)⟩⟩
      · refine ik_Wk 2 (pc_q := 16) (loc_q := [some (.ref 0), some (fI e), some (fI what)]) (st_q := [fI 3, fI what]) (h_q := h) (cl_q := 0) (sl_q := 0) rfl ?_
        refine fw_ic_le rfl rfl (by omega) (by omega) (by omega) (by omega) (fun hc4 => ?_) (fun hc4 => ?_)
        · refine ik_Wk 1 (pc_q := 23) (loc_q := [some (.ref 0), some (fI e), some (fI what)]) (st_q := [.ref 0]) (h_q := h) (cl_q := 0) (sl_q := 0) rfl ?_
          refine fw_gf rfl rfl h0 rfl ?_
          refine ik_Wc 7 1 0 [.ref 7] [] rfl rfl rfl (by decide +kernel) rfl rfl (fw_rec hl rfl h7 rfl (Nat.le_of_ble_eq_true rfl)) ?_
          refine ik_Wk 0 (pc_q := 0) (loc_q := [some (.ref 7)]) (st_q := []) (h_q := h) (cl_q := 0) (sl_q := 0) rfl ?_
          refine ik_Wk 1 (pc_q := 1) (loc_q := [some (.ref 7)]) (st_q := [.ref 7]) (h_q := h) (cl_q := 0) (sl_q := 0) rfl ?_
          refine fw_gf rfl rfl h7 rfl ?_
          refine ik_Wk 1 (pc_q := 5) (loc_q := [some (.ref 7)]) (st_q := [fI 1, fI pl]) (h_q := h) (cl_q := 0) (sl_q := 0) rfl ?_
          refine fw_ic_le rfl rfl (by omega) (by omega) (by omega) (by omega) (fun hc5 => ?_) (fun hc5 => ?_)
          · refine ik_Wk 1 (pc_q := 13) (loc_q := [some (.ref 7)]) (st_q := [fI 0]) (h_q := h) (cl_q := 0) (sl_q := 0) rfl ?_
            refine ik_Wret rfl rfl ⟨_, _, rfl, rfl, ?_⟩
            refine ik_Wk 0 (pc_q := 29) (loc_q := [some (.ref 0), some (fI e), some (fI what)]) (st_q := [fI 0]) (h_q := h) (cl_q := 0) (sl_q := 0) rfl ?_
            refine fw_if_ne rfl rfl (by decide +kernel) (by decide +kernel) (fun hc6 => ?_) (fun hc6 => absurd hc6 (by decide +kernel))
            refine fw_ld (-1000000003) rfl rfl (by decide +kernel) ?_
            exact ik_Wret rfl rfl ⟨_, _, rfl, rfl, rfl, rfl, ⟨la, lb, bo, wg, wc, we, t0, t1, t2, t3, (congrArg (fun z => [fI z]) (by unfold an_fa; (repeat' split) <;> first | rfl | omega)), h10, n10, h11, n11, h12, n12, h13, n13, h17, h19, h21, h33, h20, q1, (hfr_refl [10, 11, 12, 13, 17, 19, 20, 21, 22, 23, 24, 33, 34, 35, 36] h)⟩⟩
          · refine ik_Wk 2 (pc_q := 13) (loc_q := [some (.ref 7)]) (st_q := [fI 1]) (h_q := h) (cl_q := 0) (sl_q := 0) rfl ?_
            refine ik_Wret rfl rfl ⟨_, _, rfl, rfl, ?_⟩
            refine ik_Wk 0 (pc_q := 29) (loc_q := [some (.ref 0), some (fI e), some (fI what)]) (st_q := [fI 1]) (h_q := h) (cl_q := 0) (sl_q := 0) rfl ?_
            refine fw_if_ne rfl rfl (by decide +kernel) (by decide +kernel) (fun hc7 => absurd hc7 (by decide +kernel)) (fun hc7 => ?_)
            refine ik_Wk 1 (pc_q := 36) (loc_q := [some (.ref 0), some (fI e), some (fI what)]) (st_q := [.ref 0]) (h_q := h) (cl_q := 0) (sl_q := 0) rfl ?_
            refine fw_gf rfl rfl h0 rfl ?_
            refine ik_Wk 1 (pc_q := 40) (loc_q := [some (.ref 0), some (fI e), some (fI what)]) (st_q := [fI e, .ref 17]) (h_q := h) (cl_q := 0) (sl_q := 0) rfl ?_
            refine fw_call 86 2 0 [.ref 17, fI e] [] rfl rfl rfl (Nat.le_of_ble_eq_true rfl) rfl rfl (fw_rec hl rfl h17 rfl (Nat.le_of_ble_eq_true rfl)) (cs_findFair (pl := pl) (lo := lo) (s := s) (ka := ka) (pa := pa) (fa := fa) (kb := kb) (pb := pb) (fb := fb) (bo := bo) (la := la) (lb := lb) (t0 := t0) (t1 := t1) (t2 := t2) (t3 := t3) (wg := wg) (wc := wc) (we := we) (cn := cn) (go := go) (ch := ch) (e := e) (by omega) (by omega) (q4 (by omega)) (q5 (by omega)) (by omega) q1 q2 trivial q3 (by omega) h7 h8 n8 h9 n9 h10 n10 h11 n11 h12 n12 h13 n13 h15 h17 h18 h19 h20 h21 h33 hl) ?_
            rintro _ h_382 ⟨l0_382, l1_382, l2_382, wg'_382, wc'_382, we'_382, z0_382, z1_382, z2_382, z3_382, rfl, e_382_10, m_382_10, e_382_11, m_382_11, e_382_12, m_382_12, e_382_13, m_382_13, e_382_17, e_382_19, e_382_21, e_382_33, e_382_20, p_382_0, p_382_1, F_382⟩
            have k_382 : cL h_382 := F_382.1.trans hl
            have fr_382 := hfr_cb (hfr_refl [10, 11, 12, 13, 17, 19, 20, 21, 22, 23, 24, 33, 34, 35, 36] h) F_382 rfl
            have g_382_0 := (hfr_g F_382 0 rfl).trans h0
            have g_382_7 := (hfr_g F_382 7 rfl).trans h7
            have g_382_18 := (hfr_g F_382 18 rfl).trans h18
            have g_382_15 := (hfr_g F_382 15 rfl).trans h15
            have g_382_8 := (hfr_g F_382 8 rfl).trans h8
            have g_382_9 := (hfr_g F_382 9 rfl).trans h9
            have g_382_10 : cE h_382 10 (.inl (.int, fA ch)) := e_382_10
            have g_382_11 : cE h_382 11 (.inl (.int, fA wg'_382)) := e_382_11
            have g_382_12 : cE h_382 12 (.inl (.int, fA wc'_382)) := e_382_12
            have g_382_13 : cE h_382 13 (.inl (.int, fA we'_382)) := e_382_13
            have g_382_17 : cE h_382 17 (.inr (8, [.ref 7, .ref 15, .ref 18, .ref 19, fJ l2_382, .ref 20])) := e_382_17
            have g_382_19 : cE h_382 19 (.inl (.long, fL [l0_382, l1_382])) := e_382_19
            have g_382_21 : mf_cr h_382 21  := e_382_21
            have g_382_33 : mf_cr h_382 33  := e_382_33
            have g_382_20 : cE h_382 20 (.inl (.int, fA [z0_382, z1_382, z2_382, z3_382])) := e_382_20
            refine ik_Wk 0 (pc_q := 43) (loc_q := [some (.ref 0), some (fI e), some (fI what)]) (st_q := []) (h_q := h_382) (cl_q := 0) (sl_q := 0) rfl ?_
            refine ik_Wk 1 (pc_q := 44) (loc_q := [some (.ref 0), some (fI e), some (fI what)]) (st_q := [.ref 0]) (h_q := h_382) (cl_q := 0) (sl_q := 0) rfl ?_
            refine fw_gf rfl rfl g_382_0 rfl ?_
            refine fw_gf rfl rfl g_382_17 rfl ?_
            refine ik_Wk 1 (pc_q := 51) (loc_q := [some (.ref 0), some (fI e), some (fI what)]) (st_q := [fI what, .ref 20]) (h_q := h_382) (cl_q := 0) (sl_q := 0) rfl ?_
            refine fw_ial rfl g_382_20 (by omega) (show what.toNat < 4 by omega) (by omega) ?_
            exact ik_Wret rfl rfl ⟨_, _, rfl, rfl, rfl, rfl, ⟨l0_382, l1_382, l2_382, wg'_382, wc'_382, we'_382, z0_382, z1_382, z2_382, z3_382, (congrArg (fun z => [fI z]) (by unfold an_fa; rw [if_pos (by omega), if_pos (by omega)]; exact an_fw_fo p_382_1 (by omega))), g_382_10, m_382_10, g_382_11, m_382_11, g_382_12, m_382_12, g_382_13, m_382_13, g_382_17, g_382_19, g_382_21, g_382_33, g_382_20, p_382_0, fr_382⟩⟩
        · refine fw_ld (-1000000002) rfl rfl (by decide +kernel) ?_
          exact ik_Wret rfl rfl ⟨_, _, rfl, rfl, rfl, rfl, ⟨la, lb, bo, wg, wc, we, t0, t1, t2, t3, (congrArg (fun z => [fI z]) (by unfold an_fa; (repeat' split) <;> first | rfl | omega)), h10, n10, h11, n11, h12, n12, h13, n13, h17, h19, h21, h33, h20, q1, (hfr_refl [10, 11, 12, 13, 17, 19, 20, 21, 22, 23, 24, 33, 34, 35, 36] h)⟩⟩

theorem cp_judge0 {h : List ik_E} {pl : Int} {lo : Int} {s : Nat} {n0 : Int} {n1 : Int} {ka : Int} {pa : Int} {fa : Int} {kb : Int} {pb : Int} {fb : Int} {lr : List Int} {wg : List Int} {wc : List Int} {we : List Int} {W : Int → List (Int × Int)} {mi : Int} {dr : Int} (q0 : 0 ≤ pl ∧ pl ≤ 12) (q1 : ∀ x : Int, (0 : Int) ≤ x → x < pl - 1 → mx_wy wg wc we x (W x)) (q2 : ∀ x : Int, (0 : Int) ≤ x → x < pl - 1 → mx_ok pl (W x)) (q3 : (0 : Int) ≤ ka ∧ ka ≤ (2 : Int)) (q4 : (0 : Int) ≤ pa ∧ pa ≤ (11 : Int)) (q5 : (0 : Int) ≤ fa ∧ fa ≤ (30 : Int)) (q6 : (0 : Int) ≤ n0 ∧ n0 ≤ (40 : Int)) (q7 : ∀ j : Nat, (j : Int) < n0 → lr.getD (0 + j) 0 = 12 ∨ (0 ≤ lr.getD (0 + j) 0 ∧ lr.getD (0 + j) (0 : Int) < pl)) (h0 : cE h 0 (.inr (9, [.ref 1, .ref 7, .ref 14, .ref 17, .ref 45, .ref 51, .ref 54, .ref 57]))) (h7 : cE h 7 (.inr (0, [fI pl, fI ((s : Nat) : Int), fI lo, .ref 8, .ref 9, .ref 10, .ref 11, .ref 12, .ref 13]))) (h11 : cE h 11 (.inl (.int, fA wg))) (n11 : wg.length = (60 : Nat)) (h12 : cE h 12 (.inl (.int, fA wc))) (n12 : wc.length = (60 : Nat)) (h13 : cE h 13 (.inl (.int, fA we))) (n13 : we.length = (12 : Nat)) (h14 : cE h 14 (.inr (1, [.ref 7, .ref 15, .ref 16, fI mi, fJ dr]))) (h15 : cE h 15 (.inl (.int, fA [ka, pa, fa, kb, pb, fb]))) (h54 : cE h 54 (.inr (4, [.ref 55, .ref 56]))) (h55 : cE h 55 (.inl (.int, fA lr))) (n55 : lr.length = (80 : Nat)) (h56 : cE h 56 (.inl (.int, fA [n0, n1]))) (hl : h.length = (94 : Nat)) : ik_F 117 [.ref 0, fI 0] h (fun rv h_q => rv = [fI (mj_fw (mj_ok W pl ka pa fa lr 0) n0.toNat 0)] ∧ hfr [] h h_q) := by
  refine ik_Wk 1 (pc_q := 1) (loc_q := [some (.ref 0), some (fI 0)]) (st_q := [fI 0]) (h_q := h) (cl_q := 0) (sl_q := 0) rfl ?_
  refine ik_Wc 121 1 3 [fI 0] [] rfl rfl rfl (by decide +kernel) rfl rfl (fw_sta hl rfl (by decide +kernel)) ?_
  refine ik_Wk 0 (pc_q := 0) (loc_q := [some (fI 0)]) (st_q := []) (h_q := h) (cl_q := 0) (sl_q := 0) rfl ?_
  refine ik_Wk 1 (pc_q := 1) (loc_q := [some (fI 0)]) (st_q := [fI 0]) (h_q := h) (cl_q := 0) (sl_q := 0) rfl ?_
  refine fw_if_eq rfl rfl (by decide +kernel) (by decide +kernel) (fun hc1 => ?_) (fun hc1 => absurd hc1 (by decide +kernel))
  refine ik_Wk 2 (pc_q := 14) (loc_q := [some (fI 0)]) (st_q := [fI 1]) (h_q := h) (cl_q := 0) (sl_q := 0) rfl ?_
  refine ik_Wret rfl rfl ⟨_, _, rfl, rfl, ?_⟩
  refine ik_Wk 0 (pc_q := 4) (loc_q := [some (.ref 0), some (fI 0)]) (st_q := [fI 1]) (h_q := h) (cl_q := 0) (sl_q := 0) rfl ?_
  refine fw_if_ne rfl rfl (by decide +kernel) (by decide +kernel) (fun hc2 => absurd hc2 (by decide +kernel)) (fun hc2 => ?_)
  refine ik_Wk 1 (pc_q := 11) (loc_q := [some (.ref 0), some (fI 0)]) (st_q := [.ref 0]) (h_q := h) (cl_q := 0) (sl_q := 0) rfl ?_
  refine fw_gf rfl rfl h0 rfl ?_
  refine ik_Wk 2 (pc_q := 16) (loc_q := [some (.ref 0), some (fI 0)]) (st_q := [.ref 0, fI 0, .ref 54]) (h_q := h) (cl_q := 0) (sl_q := 0) rfl ?_
  refine fw_gf rfl rfl h0 rfl ?_
  refine ik_Wk 1 (pc_q := 20) (loc_q := [some (.ref 0), some (fI 0)]) (st_q := [.ref 0, .ref 7, fI 0, .ref 54]) (h_q := h) (cl_q := 0) (sl_q := 0) rfl ?_
  refine fw_gf rfl rfl h0 rfl ?_
  refine fw_gf rfl rfl h14 rfl ?_
  refine fw_call 39 4 0 [.ref 54, fI 0, .ref 7, .ref 15] [] rfl rfl rfl (Nat.le_of_ble_eq_true rfl) rfl rfl (fw_rec hl rfl h54 rfl (Nat.le_of_ble_eq_true rfl)) (cs_wrong0 (pl := pl) (lo := lo) (s := s) (n0 := n0) (n1 := n1) (ka := ka) (pa := pa) (fa := fa) (kb := kb) (pb := pb) (fb := fb) (lr := lr) (wg := wg) (wc := wc) (we := we) (by omega) q1 q2 (by omega) (by omega) (by omega) (by omega) q7 h7 h11 n11 h12 n12 h13 n13 h15 h54 h55 n55 h56 hl) ?_
  rintro _ h_383 ⟨rfl, F_383⟩
  have k_383 : cL h_383 := F_383.1.trans hl
  have fr_383 := hfr_cb (hfr_refl [] h) F_383 rfl
  have g_383_0 := (hfr_g F_383 0 rfl).trans h0
  have g_383_7 := (hfr_g F_383 7 rfl).trans h7
  have g_383_11 := (hfr_g F_383 11 rfl).trans h11
  have g_383_12 := (hfr_g F_383 12 rfl).trans h12
  have g_383_13 := (hfr_g F_383 13 rfl).trans h13
  have g_383_14 := (hfr_g F_383 14 rfl).trans h14
  have g_383_15 := (hfr_g F_383 15 rfl).trans h15
  have g_383_54 := (hfr_g F_383 54 rfl).trans h54
  have g_383_55 := (hfr_g F_383 55 rfl).trans h55
  have g_383_56 := (hfr_g F_383 56 rfl).trans h56
  refine ik_Wk 0 (pc_q := 29) (loc_q := [some (.ref 0), some (fI 0)]) (st_q := [fI (mj_fw (mj_ok W pl ka pa fa lr 0) n0.toNat 0)]) (h_q := h_383) (cl_q := 0) (sl_q := 0) rfl ?_
  exact ik_Wret rfl rfl ⟨_, _, rfl, rfl, rfl, rfl, ⟨rfl, fr_383⟩⟩

theorem cp_judge1 {h : List ik_E} {pl : Int} {lo : Int} {s : Nat} {n0 : Int} {n1 : Int} {ka : Int} {pa : Int} {fa : Int} {kb : Int} {pb : Int} {fb : Int} {lr : List Int} {wg : List Int} {wc : List Int} {we : List Int} {W : Int → List (Int × Int)} {mi : Int} {dr : Int} (q0 : 0 ≤ pl ∧ pl ≤ 12) (q1 : ∀ x : Int, (0 : Int) ≤ x → x < pl - 1 → mx_wy wg wc we x (W x)) (q2 : ∀ x : Int, (0 : Int) ≤ x → x < pl - 1 → mx_ok pl (W x)) (q3 : (0 : Int) ≤ kb ∧ kb ≤ (2 : Int)) (q4 : (0 : Int) ≤ pb ∧ pb ≤ (11 : Int)) (q5 : (0 : Int) ≤ fb ∧ fb ≤ (30 : Int)) (q6 : (0 : Int) ≤ n1 ∧ n1 ≤ (40 : Int)) (q7 : ∀ j : Nat, (j : Int) < n1 → lr.getD (40 + j) 0 = 12 ∨ (0 ≤ lr.getD (40 + j) 0 ∧ lr.getD (40 + j) (0 : Int) < pl)) (h0 : cE h 0 (.inr (9, [.ref 1, .ref 7, .ref 14, .ref 17, .ref 45, .ref 51, .ref 54, .ref 57]))) (h7 : cE h 7 (.inr (0, [fI pl, fI ((s : Nat) : Int), fI lo, .ref 8, .ref 9, .ref 10, .ref 11, .ref 12, .ref 13]))) (h11 : cE h 11 (.inl (.int, fA wg))) (n11 : wg.length = (60 : Nat)) (h12 : cE h 12 (.inl (.int, fA wc))) (n12 : wc.length = (60 : Nat)) (h13 : cE h 13 (.inl (.int, fA we))) (n13 : we.length = (12 : Nat)) (h14 : cE h 14 (.inr (1, [.ref 7, .ref 15, .ref 16, fI mi, fJ dr]))) (h15 : cE h 15 (.inl (.int, fA [ka, pa, fa, kb, pb, fb]))) (h54 : cE h 54 (.inr (4, [.ref 55, .ref 56]))) (h55 : cE h 55 (.inl (.int, fA lr))) (n55 : lr.length = (80 : Nat)) (h56 : cE h 56 (.inl (.int, fA [n0, n1]))) (hl : h.length = (94 : Nat)) : ik_F 117 [.ref 0, fI 1] h (fun rv h_q => rv = [fI (mj_fw (mj_ok W pl kb pb fb lr 40) n1.toNat 0)] ∧ hfr [] h h_q) := by
  refine ik_Wk 1 (pc_q := 1) (loc_q := [some (.ref 0), some (fI 1)]) (st_q := [fI 1]) (h_q := h) (cl_q := 0) (sl_q := 0) rfl ?_
  refine ik_Wc 121 1 3 [fI 1] [] rfl rfl rfl (by decide +kernel) rfl rfl (fw_sta hl rfl (by decide +kernel)) ?_
  refine ik_Wk 0 (pc_q := 0) (loc_q := [some (fI 1)]) (st_q := []) (h_q := h) (cl_q := 0) (sl_q := 0) rfl ?_
  refine ik_Wk 1 (pc_q := 1) (loc_q := [some (fI 1)]) (st_q := [fI 1]) (h_q := h) (cl_q := 0) (sl_q := 0) rfl ?_
  refine fw_if_eq rfl rfl (by decide +kernel) (by decide +kernel) (fun hc1 => absurd hc1 (by decide +kernel)) (fun hc1 => ?_)
  refine ik_Wk 2 (pc_q := 6) (loc_q := [some (fI 1)]) (st_q := [fI 1, fI 1]) (h_q := h) (cl_q := 0) (sl_q := 0) rfl ?_
  refine fw_ic_ne rfl rfl (by decide +kernel) (by decide +kernel) (by decide +kernel) (by decide +kernel) (fun hc2 => ?_) (fun hc2 => absurd hc2 (by decide +kernel))
  refine ik_Wk 2 (pc_q := 14) (loc_q := [some (fI 1)]) (st_q := [fI 1]) (h_q := h) (cl_q := 0) (sl_q := 0) rfl ?_
  refine ik_Wret rfl rfl ⟨_, _, rfl, rfl, ?_⟩
  refine ik_Wk 0 (pc_q := 4) (loc_q := [some (.ref 0), some (fI 1)]) (st_q := [fI 1]) (h_q := h) (cl_q := 0) (sl_q := 0) rfl ?_
  refine fw_if_ne rfl rfl (by decide +kernel) (by decide +kernel) (fun hc3 => absurd hc3 (by decide +kernel)) (fun hc3 => ?_)
  refine ik_Wk 1 (pc_q := 11) (loc_q := [some (.ref 0), some (fI 1)]) (st_q := [.ref 0]) (h_q := h) (cl_q := 0) (sl_q := 0) rfl ?_
  refine fw_gf rfl rfl h0 rfl ?_
  refine ik_Wk 2 (pc_q := 16) (loc_q := [some (.ref 0), some (fI 1)]) (st_q := [.ref 0, fI 1, .ref 54]) (h_q := h) (cl_q := 0) (sl_q := 0) rfl ?_
  refine fw_gf rfl rfl h0 rfl ?_
  refine ik_Wk 1 (pc_q := 20) (loc_q := [some (.ref 0), some (fI 1)]) (st_q := [.ref 0, .ref 7, fI 1, .ref 54]) (h_q := h) (cl_q := 0) (sl_q := 0) rfl ?_
  refine fw_gf rfl rfl h0 rfl ?_
  refine fw_gf rfl rfl h14 rfl ?_
  refine fw_call 39 4 0 [.ref 54, fI 1, .ref 7, .ref 15] [] rfl rfl rfl (Nat.le_of_ble_eq_true rfl) rfl rfl (fw_rec hl rfl h54 rfl (Nat.le_of_ble_eq_true rfl)) (cs_wrong1 (pl := pl) (lo := lo) (s := s) (n0 := n0) (n1 := n1) (ka := ka) (pa := pa) (fa := fa) (kb := kb) (pb := pb) (fb := fb) (lr := lr) (wg := wg) (wc := wc) (we := we) (by omega) q1 q2 (by omega) (by omega) (by omega) (by omega) q7 h7 h11 n11 h12 n12 h13 n13 h15 h54 h55 n55 h56 hl) ?_
  rintro _ h_384 ⟨rfl, F_384⟩
  have k_384 : cL h_384 := F_384.1.trans hl
  have fr_384 := hfr_cb (hfr_refl [] h) F_384 rfl
  have g_384_0 := (hfr_g F_384 0 rfl).trans h0
  have g_384_7 := (hfr_g F_384 7 rfl).trans h7
  have g_384_11 := (hfr_g F_384 11 rfl).trans h11
  have g_384_12 := (hfr_g F_384 12 rfl).trans h12
  have g_384_13 := (hfr_g F_384 13 rfl).trans h13
  have g_384_14 := (hfr_g F_384 14 rfl).trans h14
  have g_384_15 := (hfr_g F_384 15 rfl).trans h15
  have g_384_54 := (hfr_g F_384 54 rfl).trans h54
  have g_384_55 := (hfr_g F_384 55 rfl).trans h55
  have g_384_56 := (hfr_g F_384 56 rfl).trans h56
  refine ik_Wk 0 (pc_q := 29) (loc_q := [some (.ref 0), some (fI 1)]) (st_q := [fI (mj_fw (mj_ok W pl kb pb fb lr 40) n1.toNat 0)]) (h_q := h_384) (cl_q := 0) (sl_q := 0) rfl ?_
  exact ik_Wret rfl rfl ⟨_, _, rfl, rfl, rfl, rfl, ⟨rfl, fr_384⟩⟩

theorem cp_bestE {h : List ik_E} {side : Int} {m : Int} {what : Int} (q0 : -2147483648 ≤ side ∧ side < 2147483648) (q1 : ¬ side = 0) (q2 : ¬ side = 1) (h0 : cE h 0 (.inr (9, [.ref 1, .ref 7, .ref 14, .ref 17, .ref 45, .ref 51, .ref 54, .ref 57]))) (hl : h.length = 94) : ik_F 101 [.ref 0, fI side, fI m, fI what] h (fun rv h_q => rv = [fI (-1000000001)] ∧ hfr [] h h_q) := by
  refine ik_Wk 1 (pc_q := 1) (loc_q := [some (.ref 0), some (fI side), some (fI m), some (fI what)]) (st_q := [fI side]) (h_q := h) (cl_q := 0) (sl_q := 0) rfl ?_
  refine ik_Wc 121 1 3 [fI side] [] rfl rfl rfl (by decide +kernel) rfl rfl (fw_sta hl rfl (by decide +kernel)) ?_
  refine ik_Wk 0 (pc_q := 0) (loc_q := [some (fI side)]) (st_q := []) (h_q := h) (cl_q := 0) (sl_q := 0) rfl ?_
  refine ik_Wk 1 (pc_q := 1) (loc_q := [some (fI side)]) (st_q := [fI side]) (h_q := h) (cl_q := 0) (sl_q := 0) rfl ?_
  refine fw_if_eq rfl rfl (by omega) (by omega) (fun hc1 => absurd hc1 (by omega)) (fun hc1 => ?_)
  refine ik_Wk 2 (pc_q := 6) (loc_q := [some (fI side)]) (st_q := [fI 1, fI side]) (h_q := h) (cl_q := 0) (sl_q := 0) rfl ?_
  refine fw_ic_ne rfl rfl (by omega) (by omega) (by omega) (by omega) (fun hc2 => absurd hc2 (by omega)) (fun hc2 => ?_)
  refine ik_Wk 1 (pc_q := 14) (loc_q := [some (fI side)]) (st_q := [fI 0]) (h_q := h) (cl_q := 0) (sl_q := 0) rfl ?_
  refine ik_Wret rfl rfl ⟨_, _, rfl, rfl, ?_⟩
  refine ik_Wk 0 (pc_q := 4) (loc_q := [some (.ref 0), some (fI side), some (fI m), some (fI what)]) (st_q := [fI 0]) (h_q := h) (cl_q := 0) (sl_q := 0) rfl ?_
  refine fw_if_ne rfl rfl (by decide +kernel) (by decide +kernel) (fun hc3 => ?_) (fun hc3 => absurd hc3 (by decide +kernel))
  refine fw_ld (-1000000001) rfl rfl (by decide +kernel) ?_
  exact ik_Wret rfl rfl ⟨_, _, rfl, rfl, rfl, rfl, ⟨rfl, (hfr_refl [] h)⟩⟩

theorem rp_bestE {h : List ik_E} {side : Int} {m : Int} {what : Int} {f : Nat → Int} (q0 : -2147483648 ≤ side ∧ side < 2147483648) (q1 : ¬ side = 0) (q2 : ¬ side = 1) (h66 : cE h 66 (.inr (10, (fI (f 0) :: .ref 67 :: .ref 68 :: .ref 69 :: fI (f 4) :: .ref 70 :: .ref 71 :: fI (f 7) :: fI (f 8) :: .ref 72 :: fI (f 10) :: fI (f 11) :: fI (f 12) :: fJ (f 13) :: fI (f 14) :: fI (f 15) :: fI (f 16) :: fI (f 17) :: .ref 73 :: .ref 74 :: .ref 75 :: .ref 76 :: .ref 77 :: .ref 78 :: fI (f 24) :: .ref 79 :: .ref 80 :: .ref 81 :: .ref 82 :: .ref 83 :: .ref 84 :: .ref 85 :: fJ (f 32) :: fJ (f 33) :: .ref 86 :: .ref 87 :: fI (f 36) :: .ref 88 :: .ref 89 :: .ref 90 :: .ref 91 :: .ref 92 :: .ref 93 :: [])))) (hl : h.length = 94) : ik_F 171 [.ref 66, fI side, fI m, fI what] h (fun rv h_q => rv = [fI (-1000000001)] ∧ hfr [] h h_q) := by
  refine ik_Wk 1 (pc_q := 1) (loc_q := [some (.ref 66), some (fI side), some (fI m), some (fI what), none, none, none, none, none, none, none, none]) (st_q := [fI side]) (h_q := h) (cl_q := 0) (sl_q := 0) rfl ?_
  refine ik_Wc 132 1 3 [fI side] [] rfl rfl rfl (by decide +kernel) rfl rfl (fw_sta hl rfl (by decide +kernel)) ?_
  refine ik_Wk 0 (pc_q := 0) (loc_q := [some (fI side)]) (st_q := []) (h_q := h) (cl_q := 0) (sl_q := 0) rfl ?_
  refine ik_Wk 1 (pc_q := 1) (loc_q := [some (fI side)]) (st_q := [fI side]) (h_q := h) (cl_q := 0) (sl_q := 0) rfl ?_
  refine fw_i2l rfl (by omega) (by omega) ?_
  refine fw_lc (z := 0) rfl (by decide +kernel) ?_
  refine fw_lc (z := 1) rfl (by decide +kernel) ?_
  refine fw_call 127 3 3 [fJ side, fJ 0, fJ 1] [] rfl rfl rfl (Nat.le_of_ble_eq_true rfl) rfl rfl (fw_sta hl rfl (by decide +kernel)) (cr_in (v := side) (a := 0) (b := 1) (by omega) (by omega) (by omega)  hl) ?_
  rintro _ h_385 (⟨rfl, p_385_0, F_385⟩ | ⟨rfl, p_385_0, F_385⟩)
  · have k_385 : cL h_385 := F_385.1.trans hl
    have fr_385 := hfr_cb (hfr_refl [] h) F_385 rfl
    have g_385_66 := (hfr_g F_385 66 rfl).trans h66
    omega
  · have k_385 : cL h_385 := F_385.1.trans hl
    have fr_385 := hfr_cb (hfr_refl [] h) F_385 rfl
    have g_385_66 := (hfr_g F_385 66 rfl).trans h66
    refine ik_Wk 0 (pc_q := 7) (loc_q := [some (fI side)]) (st_q := [fI 0]) (h_q := h_385) (cl_q := 0) (sl_q := 0) rfl ?_
    refine ik_Wret rfl rfl ⟨_, _, rfl, rfl, ?_⟩
    refine ik_Wk 0 (pc_q := 4) (loc_q := [some (.ref 66), some (fI side), some (fI m), some (fI what), none, none, none, none, none, none, none, none]) (st_q := [fI 0]) (h_q := h_385) (cl_q := 0) (sl_q := 0) rfl ?_
    refine fw_if_ne rfl rfl (by decide +kernel) (by decide +kernel) (fun hc1 => ?_) (fun hc1 => absurd hc1 (by decide +kernel))
    refine fw_ld (-1000000001) rfl rfl (by decide +kernel) ?_
    exact ik_Wret rfl rfl ⟨_, _, rfl, rfl, rfl, rfl, ⟨rfl, fr_385⟩⟩

theorem cp_mostE {h : List ik_E} {side : Int} {what : Int} (q0 : -2147483648 ≤ side ∧ side < 2147483648) (q1 : ¬ side = 0) (q2 : ¬ side = 1) (h0 : cE h 0 (.inr (9, [.ref 1, .ref 7, .ref 14, .ref 17, .ref 45, .ref 51, .ref 54, .ref 57]))) (hl : h.length = 94) : ik_F 104 [.ref 0, fI side, fI what] h (fun rv h_q => rv = [fI (-1000000001)] ∧ hfr [] h h_q) := by
  refine ik_Wk 1 (pc_q := 1) (loc_q := [some (.ref 0), some (fI side), some (fI what)]) (st_q := [fI side]) (h_q := h) (cl_q := 0) (sl_q := 0) rfl ?_
  refine ik_Wc 121 1 3 [fI side] [] rfl rfl rfl (by decide +kernel) rfl rfl (fw_sta hl rfl (by decide +kernel)) ?_
  refine ik_Wk 0 (pc_q := 0) (loc_q := [some (fI side)]) (st_q := []) (h_q := h) (cl_q := 0) (sl_q := 0) rfl ?_
  refine ik_Wk 1 (pc_q := 1) (loc_q := [some (fI side)]) (st_q := [fI side]) (h_q := h) (cl_q := 0) (sl_q := 0) rfl ?_
  refine fw_if_eq rfl rfl (by omega) (by omega) (fun hc1 => absurd hc1 (by omega)) (fun hc1 => ?_)
  refine ik_Wk 2 (pc_q := 6) (loc_q := [some (fI side)]) (st_q := [fI 1, fI side]) (h_q := h) (cl_q := 0) (sl_q := 0) rfl ?_
  refine fw_ic_ne rfl rfl (by omega) (by omega) (by omega) (by omega) (fun hc2 => absurd hc2 (by omega)) (fun hc2 => ?_)
  refine ik_Wk 1 (pc_q := 14) (loc_q := [some (fI side)]) (st_q := [fI 0]) (h_q := h) (cl_q := 0) (sl_q := 0) rfl ?_
  refine ik_Wret rfl rfl ⟨_, _, rfl, rfl, ?_⟩
  refine ik_Wk 0 (pc_q := 4) (loc_q := [some (.ref 0), some (fI side), some (fI what)]) (st_q := [fI 0]) (h_q := h) (cl_q := 0) (sl_q := 0) rfl ?_
  refine fw_if_ne rfl rfl (by decide +kernel) (by decide +kernel) (fun hc3 => ?_) (fun hc3 => absurd hc3 (by decide +kernel))
  refine fw_ld (-1000000001) rfl rfl (by decide +kernel) ?_
  exact ik_Wret rfl rfl ⟨_, _, rfl, rfl, rfl, rfl, ⟨rfl, (hfr_refl [] h)⟩⟩

theorem rp_mostE {h : List ik_E} {side : Int} {what : Int} {f : Nat → Int} (q0 : -2147483648 ≤ side ∧ side < 2147483648) (q1 : ¬ side = 0) (q2 : ¬ side = 1) (h66 : cE h 66 (.inr (10, (fI (f 0) :: .ref 67 :: .ref 68 :: .ref 69 :: fI (f 4) :: .ref 70 :: .ref 71 :: fI (f 7) :: fI (f 8) :: .ref 72 :: fI (f 10) :: fI (f 11) :: fI (f 12) :: fJ (f 13) :: fI (f 14) :: fI (f 15) :: fI (f 16) :: fI (f 17) :: .ref 73 :: .ref 74 :: .ref 75 :: .ref 76 :: .ref 77 :: .ref 78 :: fI (f 24) :: .ref 79 :: .ref 80 :: .ref 81 :: .ref 82 :: .ref 83 :: .ref 84 :: .ref 85 :: fJ (f 32) :: fJ (f 33) :: .ref 86 :: .ref 87 :: fI (f 36) :: .ref 88 :: .ref 89 :: .ref 90 :: .ref 91 :: .ref 92 :: .ref 93 :: [])))) (hl : h.length = 94) : ik_F 182 [.ref 66, fI side, fI what] h (fun rv h_q => rv = [fI (-1000000001)] ∧ hfr [] h h_q) := by
  refine ik_Wk 1 (pc_q := 1) (loc_q := [some (.ref 66), some (fI side), some (fI what), none, none, none, none, none, none]) (st_q := [fI side]) (h_q := h) (cl_q := 0) (sl_q := 0) rfl ?_
  refine ik_Wc 132 1 3 [fI side] [] rfl rfl rfl (by decide +kernel) rfl rfl (fw_sta hl rfl (by decide +kernel)) ?_
  refine ik_Wk 0 (pc_q := 0) (loc_q := [some (fI side)]) (st_q := []) (h_q := h) (cl_q := 0) (sl_q := 0) rfl ?_
  refine ik_Wk 1 (pc_q := 1) (loc_q := [some (fI side)]) (st_q := [fI side]) (h_q := h) (cl_q := 0) (sl_q := 0) rfl ?_
  refine fw_i2l rfl (by omega) (by omega) ?_
  refine fw_lc (z := 0) rfl (by decide +kernel) ?_
  refine fw_lc (z := 1) rfl (by decide +kernel) ?_
  refine fw_call 127 3 3 [fJ side, fJ 0, fJ 1] [] rfl rfl rfl (Nat.le_of_ble_eq_true rfl) rfl rfl (fw_sta hl rfl (by decide +kernel)) (cr_in (v := side) (a := 0) (b := 1) (by omega) (by omega) (by omega)  hl) ?_
  rintro _ h_386 (⟨rfl, p_386_0, F_386⟩ | ⟨rfl, p_386_0, F_386⟩)
  · have k_386 : cL h_386 := F_386.1.trans hl
    have fr_386 := hfr_cb (hfr_refl [] h) F_386 rfl
    have g_386_66 := (hfr_g F_386 66 rfl).trans h66
    omega
  · have k_386 : cL h_386 := F_386.1.trans hl
    have fr_386 := hfr_cb (hfr_refl [] h) F_386 rfl
    have g_386_66 := (hfr_g F_386 66 rfl).trans h66
    refine ik_Wk 0 (pc_q := 7) (loc_q := [some (fI side)]) (st_q := [fI 0]) (h_q := h_386) (cl_q := 0) (sl_q := 0) rfl ?_
    refine ik_Wret rfl rfl ⟨_, _, rfl, rfl, ?_⟩
    refine ik_Wk 0 (pc_q := 4) (loc_q := [some (.ref 66), some (fI side), some (fI what), none, none, none, none, none, none]) (st_q := [fI 0]) (h_q := h_386) (cl_q := 0) (sl_q := 0) rfl ?_
    refine fw_if_ne rfl rfl (by decide +kernel) (by decide +kernel) (fun hc1 => ?_) (fun hc1 => absurd hc1 (by decide +kernel))
    refine fw_ld (-1000000001) rfl rfl (by decide +kernel) ?_
    exact ik_Wret rfl rfl ⟨_, _, rfl, rfl, rfl, rfl, ⟨rfl, fr_386⟩⟩

theorem cp_judgeE {h : List ik_E} {side : Int} (q0 : -2147483648 ≤ side ∧ side < 2147483648) (q1 : ¬ side = 0) (q2 : ¬ side = 1) (h0 : cE h 0 (.inr (9, [.ref 1, .ref 7, .ref 14, .ref 17, .ref 45, .ref 51, .ref 54, .ref 57]))) (hl : h.length = 94) : ik_F 117 [.ref 0, fI side] h (fun rv h_q => rv = [fI (-1000000001)] ∧ hfr [] h h_q) := by
  refine ik_Wk 1 (pc_q := 1) (loc_q := [some (.ref 0), some (fI side)]) (st_q := [fI side]) (h_q := h) (cl_q := 0) (sl_q := 0) rfl ?_
  refine ik_Wc 121 1 3 [fI side] [] rfl rfl rfl (by decide +kernel) rfl rfl (fw_sta hl rfl (by decide +kernel)) ?_
  refine ik_Wk 0 (pc_q := 0) (loc_q := [some (fI side)]) (st_q := []) (h_q := h) (cl_q := 0) (sl_q := 0) rfl ?_
  refine ik_Wk 1 (pc_q := 1) (loc_q := [some (fI side)]) (st_q := [fI side]) (h_q := h) (cl_q := 0) (sl_q := 0) rfl ?_
  refine fw_if_eq rfl rfl (by omega) (by omega) (fun hc1 => absurd hc1 (by omega)) (fun hc1 => ?_)
  refine ik_Wk 2 (pc_q := 6) (loc_q := [some (fI side)]) (st_q := [fI 1, fI side]) (h_q := h) (cl_q := 0) (sl_q := 0) rfl ?_
  refine fw_ic_ne rfl rfl (by omega) (by omega) (by omega) (by omega) (fun hc2 => absurd hc2 (by omega)) (fun hc2 => ?_)
  refine ik_Wk 1 (pc_q := 14) (loc_q := [some (fI side)]) (st_q := [fI 0]) (h_q := h) (cl_q := 0) (sl_q := 0) rfl ?_
  refine ik_Wret rfl rfl ⟨_, _, rfl, rfl, ?_⟩
  refine ik_Wk 0 (pc_q := 4) (loc_q := [some (.ref 0), some (fI side)]) (st_q := [fI 0]) (h_q := h) (cl_q := 0) (sl_q := 0) rfl ?_
  refine fw_if_ne rfl rfl (by decide +kernel) (by decide +kernel) (fun hc3 => ?_) (fun hc3 => absurd hc3 (by decide +kernel))
  refine fw_ld (-1000000001) rfl rfl (by decide +kernel) ?_
  exact ik_Wret rfl rfl ⟨_, _, rfl, rfl, rfl, rfl, ⟨rfl, (hfr_refl [] h)⟩⟩

theorem rp_judgeE {h : List ik_E} {side : Int} {f : Nat → Int} (q0 : -2147483648 ≤ side ∧ side < 2147483648) (q1 : ¬ side = 0) (q2 : ¬ side = 1) (h66 : cE h 66 (.inr (10, (fI (f 0) :: .ref 67 :: .ref 68 :: .ref 69 :: fI (f 4) :: .ref 70 :: .ref 71 :: fI (f 7) :: fI (f 8) :: .ref 72 :: fI (f 10) :: fI (f 11) :: fI (f 12) :: fJ (f 13) :: fI (f 14) :: fI (f 15) :: fI (f 16) :: fI (f 17) :: .ref 73 :: .ref 74 :: .ref 75 :: .ref 76 :: .ref 77 :: .ref 78 :: fI (f 24) :: .ref 79 :: .ref 80 :: .ref 81 :: .ref 82 :: .ref 83 :: .ref 84 :: .ref 85 :: fJ (f 32) :: fJ (f 33) :: .ref 86 :: .ref 87 :: fI (f 36) :: .ref 88 :: .ref 89 :: .ref 90 :: .ref 91 :: .ref 92 :: .ref 93 :: [])))) (hl : h.length = 94) : ik_F 207 [.ref 66, fI side] h (fun rv h_q => rv = [fI (-1000000001)] ∧ hfr [] h h_q) := by
  refine ik_Wk 1 (pc_q := 1) (loc_q := [some (.ref 66), some (fI side), none]) (st_q := [fI side]) (h_q := h) (cl_q := 0) (sl_q := 0) rfl ?_
  refine ik_Wc 132 1 3 [fI side] [] rfl rfl rfl (by decide +kernel) rfl rfl (fw_sta hl rfl (by decide +kernel)) ?_
  refine ik_Wk 0 (pc_q := 0) (loc_q := [some (fI side)]) (st_q := []) (h_q := h) (cl_q := 0) (sl_q := 0) rfl ?_
  refine ik_Wk 1 (pc_q := 1) (loc_q := [some (fI side)]) (st_q := [fI side]) (h_q := h) (cl_q := 0) (sl_q := 0) rfl ?_
  refine fw_i2l rfl (by omega) (by omega) ?_
  refine fw_lc (z := 0) rfl (by decide +kernel) ?_
  refine fw_lc (z := 1) rfl (by decide +kernel) ?_
  refine fw_call 127 3 3 [fJ side, fJ 0, fJ 1] [] rfl rfl rfl (Nat.le_of_ble_eq_true rfl) rfl rfl (fw_sta hl rfl (by decide +kernel)) (cr_in (v := side) (a := 0) (b := 1) (by omega) (by omega) (by omega)  hl) ?_
  rintro _ h_387 (⟨rfl, p_387_0, F_387⟩ | ⟨rfl, p_387_0, F_387⟩)
  · have k_387 : cL h_387 := F_387.1.trans hl
    have fr_387 := hfr_cb (hfr_refl [] h) F_387 rfl
    have g_387_66 := (hfr_g F_387 66 rfl).trans h66
    omega
  · have k_387 : cL h_387 := F_387.1.trans hl
    have fr_387 := hfr_cb (hfr_refl [] h) F_387 rfl
    have g_387_66 := (hfr_g F_387 66 rfl).trans h66
    refine ik_Wk 0 (pc_q := 7) (loc_q := [some (fI side)]) (st_q := [fI 0]) (h_q := h_387) (cl_q := 0) (sl_q := 0) rfl ?_
    refine ik_Wret rfl rfl ⟨_, _, rfl, rfl, ?_⟩
    refine ik_Wk 0 (pc_q := 4) (loc_q := [some (.ref 66), some (fI side), none]) (st_q := [fI 0]) (h_q := h_387) (cl_q := 0) (sl_q := 0) rfl ?_
    refine fw_if_ne rfl rfl (by decide +kernel) (by decide +kernel) (fun hc1 => ?_) (fun hc1 => absurd hc1 (by decide +kernel))
    refine fw_ld (-1000000001) rfl rfl (by decide +kernel) ?_
    exact ik_Wret rfl rfl ⟨_, _, rfl, rfl, rfl, rfl, ⟨rfl, fr_387⟩⟩

theorem cp_whereE {h : List ik_E} {side : Int} (q0 : -2147483648 ≤ side ∧ side < 2147483648) (q1 : ¬ side = 0) (q2 : ¬ side = 1) (h0 : cE h 0 (.inr (9, [.ref 1, .ref 7, .ref 14, .ref 17, .ref 45, .ref 51, .ref 54, .ref 57]))) (hl : h.length = 94) : ik_F 112 [.ref 0, fI side] h (fun rv h_q => rv = [fI (-1000000001)] ∧ hfr [] h h_q) := by
  refine ik_Wk 1 (pc_q := 1) (loc_q := [some (.ref 0), some (fI side)]) (st_q := [fI side]) (h_q := h) (cl_q := 0) (sl_q := 0) rfl ?_
  refine ik_Wc 121 1 3 [fI side] [] rfl rfl rfl (by decide +kernel) rfl rfl (fw_sta hl rfl (by decide +kernel)) ?_
  refine ik_Wk 0 (pc_q := 0) (loc_q := [some (fI side)]) (st_q := []) (h_q := h) (cl_q := 0) (sl_q := 0) rfl ?_
  refine ik_Wk 1 (pc_q := 1) (loc_q := [some (fI side)]) (st_q := [fI side]) (h_q := h) (cl_q := 0) (sl_q := 0) rfl ?_
  refine fw_if_eq rfl rfl (by omega) (by omega) (fun hc1 => absurd hc1 (by omega)) (fun hc1 => ?_)
  refine ik_Wk 2 (pc_q := 6) (loc_q := [some (fI side)]) (st_q := [fI 1, fI side]) (h_q := h) (cl_q := 0) (sl_q := 0) rfl ?_
  refine fw_ic_ne rfl rfl (by omega) (by omega) (by omega) (by omega) (fun hc2 => absurd hc2 (by omega)) (fun hc2 => ?_)
  refine ik_Wk 1 (pc_q := 14) (loc_q := [some (fI side)]) (st_q := [fI 0]) (h_q := h) (cl_q := 0) (sl_q := 0) rfl ?_
  refine ik_Wret rfl rfl ⟨_, _, rfl, rfl, ?_⟩
  refine ik_Wk 0 (pc_q := 4) (loc_q := [some (.ref 0), some (fI side)]) (st_q := [fI 0]) (h_q := h) (cl_q := 0) (sl_q := 0) rfl ?_
  refine fw_if_ne rfl rfl (by decide +kernel) (by decide +kernel) (fun hc3 => ?_) (fun hc3 => absurd hc3 (by decide +kernel))
  refine fw_ld (-1000000001) rfl rfl (by decide +kernel) ?_
  exact ik_Wret rfl rfl ⟨_, _, rfl, rfl, rfl, rfl, ⟨rfl, (hfr_refl [] h)⟩⟩

theorem rp_whereE {h : List ik_E} {side : Int} {f : Nat → Int} (q0 : -2147483648 ≤ side ∧ side < 2147483648) (q1 : ¬ side = 0) (q2 : ¬ side = 1) (h66 : cE h 66 (.inr (10, (fI (f 0) :: .ref 67 :: .ref 68 :: .ref 69 :: fI (f 4) :: .ref 70 :: .ref 71 :: fI (f 7) :: fI (f 8) :: .ref 72 :: fI (f 10) :: fI (f 11) :: fI (f 12) :: fJ (f 13) :: fI (f 14) :: fI (f 15) :: fI (f 16) :: fI (f 17) :: .ref 73 :: .ref 74 :: .ref 75 :: .ref 76 :: .ref 77 :: .ref 78 :: fI (f 24) :: .ref 79 :: .ref 80 :: .ref 81 :: .ref 82 :: .ref 83 :: .ref 84 :: .ref 85 :: fJ (f 32) :: fJ (f 33) :: .ref 86 :: .ref 87 :: fI (f 36) :: .ref 88 :: .ref 89 :: .ref 90 :: .ref 91 :: .ref 92 :: .ref 93 :: [])))) (hl : h.length = 94) : ik_F 200 [.ref 66, fI side] h (fun rv h_q => rv = [fI (-1000000001)] ∧ hfr [] h h_q) := by
  refine ik_Wk 1 (pc_q := 1) (loc_q := [some (.ref 66), some (fI side)]) (st_q := [fI side]) (h_q := h) (cl_q := 0) (sl_q := 0) rfl ?_
  refine ik_Wc 132 1 3 [fI side] [] rfl rfl rfl (by decide +kernel) rfl rfl (fw_sta hl rfl (by decide +kernel)) ?_
  refine ik_Wk 0 (pc_q := 0) (loc_q := [some (fI side)]) (st_q := []) (h_q := h) (cl_q := 0) (sl_q := 0) rfl ?_
  refine ik_Wk 1 (pc_q := 1) (loc_q := [some (fI side)]) (st_q := [fI side]) (h_q := h) (cl_q := 0) (sl_q := 0) rfl ?_
  refine fw_i2l rfl (by omega) (by omega) ?_
  refine fw_lc (z := 0) rfl (by decide +kernel) ?_
  refine fw_lc (z := 1) rfl (by decide +kernel) ?_
  refine fw_call 127 3 3 [fJ side, fJ 0, fJ 1] [] rfl rfl rfl (Nat.le_of_ble_eq_true rfl) rfl rfl (fw_sta hl rfl (by decide +kernel)) (cr_in (v := side) (a := 0) (b := 1) (by omega) (by omega) (by omega)  hl) ?_
  rintro _ h_388 (⟨rfl, p_388_0, F_388⟩ | ⟨rfl, p_388_0, F_388⟩)
  · have k_388 : cL h_388 := F_388.1.trans hl
    have fr_388 := hfr_cb (hfr_refl [] h) F_388 rfl
    have g_388_66 := (hfr_g F_388 66 rfl).trans h66
    omega
  · have k_388 : cL h_388 := F_388.1.trans hl
    have fr_388 := hfr_cb (hfr_refl [] h) F_388 rfl
    have g_388_66 := (hfr_g F_388 66 rfl).trans h66
    refine ik_Wk 0 (pc_q := 7) (loc_q := [some (fI side)]) (st_q := [fI 0]) (h_q := h_388) (cl_q := 0) (sl_q := 0) rfl ?_
    refine ik_Wret rfl rfl ⟨_, _, rfl, rfl, ?_⟩
    refine ik_Wk 0 (pc_q := 4) (loc_q := [some (.ref 66), some (fI side)]) (st_q := [fI 0]) (h_q := h_388) (cl_q := 0) (sl_q := 0) rfl ?_
    refine fw_if_ne rfl rfl (by decide +kernel) (by decide +kernel) (fun hc1 => ?_) (fun hc1 => absurd hc1 (by decide +kernel))
    refine fw_ld (-1000000001) rfl rfl (by decide +kernel) ?_
    exact ik_Wret rfl rfl ⟨_, _, rfl, rfl, rfl, rfl, ⟨rfl, fr_388⟩⟩

theorem cp_logE {h : List ik_E} {side : Int} {p : Int} (q0 : -2147483648 ≤ side ∧ side < 2147483648) (q1 : ¬ side = 0) (q2 : ¬ side = 1) (h0 : cE h 0 (.inr (9, [.ref 1, .ref 7, .ref 14, .ref 17, .ref 45, .ref 51, .ref 54, .ref 57]))) (hl : h.length = 94) : ik_F 115 [.ref 0, fI side, fI p] h (fun rv h_q => rv = [fI (-1000000001)] ∧ hfr [] h h_q) := by
  refine ik_Wk 1 (pc_q := 1) (loc_q := [some (.ref 0), some (fI side), some (fI p)]) (st_q := [fI side]) (h_q := h) (cl_q := 0) (sl_q := 0) rfl ?_
  refine ik_Wc 121 1 3 [fI side] [] rfl rfl rfl (by decide +kernel) rfl rfl (fw_sta hl rfl (by decide +kernel)) ?_
  refine ik_Wk 0 (pc_q := 0) (loc_q := [some (fI side)]) (st_q := []) (h_q := h) (cl_q := 0) (sl_q := 0) rfl ?_
  refine ik_Wk 1 (pc_q := 1) (loc_q := [some (fI side)]) (st_q := [fI side]) (h_q := h) (cl_q := 0) (sl_q := 0) rfl ?_
  refine fw_if_eq rfl rfl (by omega) (by omega) (fun hc1 => absurd hc1 (by omega)) (fun hc1 => ?_)
  refine ik_Wk 2 (pc_q := 6) (loc_q := [some (fI side)]) (st_q := [fI 1, fI side]) (h_q := h) (cl_q := 0) (sl_q := 0) rfl ?_
  refine fw_ic_ne rfl rfl (by omega) (by omega) (by omega) (by omega) (fun hc2 => absurd hc2 (by omega)) (fun hc2 => ?_)
  refine ik_Wk 1 (pc_q := 14) (loc_q := [some (fI side)]) (st_q := [fI 0]) (h_q := h) (cl_q := 0) (sl_q := 0) rfl ?_
  refine ik_Wret rfl rfl ⟨_, _, rfl, rfl, ?_⟩
  refine ik_Wk 0 (pc_q := 4) (loc_q := [some (.ref 0), some (fI side), some (fI p)]) (st_q := [fI 0]) (h_q := h) (cl_q := 0) (sl_q := 0) rfl ?_
  refine fw_if_eq rfl rfl (by decide +kernel) (by decide +kernel) (fun hc3 => ?_) (fun hc3 => absurd hc3 (by decide +kernel))
  refine fw_ld (-1000000001) rfl rfl (by decide +kernel) ?_
  exact ik_Wret rfl rfl ⟨_, _, rfl, rfl, rfl, rfl, ⟨rfl, (hfr_refl [] h)⟩⟩

theorem rp_logE {h : List ik_E} {side : Int} {p : Int} {f : Nat → Int} (q0 : -2147483648 ≤ side ∧ side < 2147483648) (q1 : ¬ side = 0) (q2 : ¬ side = 1) (h66 : cE h 66 (.inr (10, (fI (f 0) :: .ref 67 :: .ref 68 :: .ref 69 :: fI (f 4) :: .ref 70 :: .ref 71 :: fI (f 7) :: fI (f 8) :: .ref 72 :: fI (f 10) :: fI (f 11) :: fI (f 12) :: fJ (f 13) :: fI (f 14) :: fI (f 15) :: fI (f 16) :: fI (f 17) :: .ref 73 :: .ref 74 :: .ref 75 :: .ref 76 :: .ref 77 :: .ref 78 :: fI (f 24) :: .ref 79 :: .ref 80 :: .ref 81 :: .ref 82 :: .ref 83 :: .ref 84 :: .ref 85 :: fJ (f 32) :: fJ (f 33) :: .ref 86 :: .ref 87 :: fI (f 36) :: .ref 88 :: .ref 89 :: .ref 90 :: .ref 91 :: .ref 92 :: .ref 93 :: [])))) (hl : h.length = 94) : ik_F 203 [.ref 66, fI side, fI p] h (fun rv h_q => rv = [fI (-1000000001)] ∧ hfr [] h h_q) := by
  refine ik_Wk 1 (pc_q := 1) (loc_q := [some (.ref 66), some (fI side), some (fI p)]) (st_q := [fI side]) (h_q := h) (cl_q := 0) (sl_q := 0) rfl ?_
  refine ik_Wc 132 1 3 [fI side] [] rfl rfl rfl (by decide +kernel) rfl rfl (fw_sta hl rfl (by decide +kernel)) ?_
  refine ik_Wk 0 (pc_q := 0) (loc_q := [some (fI side)]) (st_q := []) (h_q := h) (cl_q := 0) (sl_q := 0) rfl ?_
  refine ik_Wk 1 (pc_q := 1) (loc_q := [some (fI side)]) (st_q := [fI side]) (h_q := h) (cl_q := 0) (sl_q := 0) rfl ?_
  refine fw_i2l rfl (by omega) (by omega) ?_
  refine fw_lc (z := 0) rfl (by decide +kernel) ?_
  refine fw_lc (z := 1) rfl (by decide +kernel) ?_
  refine fw_call 127 3 3 [fJ side, fJ 0, fJ 1] [] rfl rfl rfl (Nat.le_of_ble_eq_true rfl) rfl rfl (fw_sta hl rfl (by decide +kernel)) (cr_in (v := side) (a := 0) (b := 1) (by omega) (by omega) (by omega)  hl) ?_
  rintro _ h_389 (⟨rfl, p_389_0, F_389⟩ | ⟨rfl, p_389_0, F_389⟩)
  · have k_389 : cL h_389 := F_389.1.trans hl
    have fr_389 := hfr_cb (hfr_refl [] h) F_389 rfl
    have g_389_66 := (hfr_g F_389 66 rfl).trans h66
    omega
  · have k_389 : cL h_389 := F_389.1.trans hl
    have fr_389 := hfr_cb (hfr_refl [] h) F_389 rfl
    have g_389_66 := (hfr_g F_389 66 rfl).trans h66
    refine ik_Wk 0 (pc_q := 7) (loc_q := [some (fI side)]) (st_q := [fI 0]) (h_q := h_389) (cl_q := 0) (sl_q := 0) rfl ?_
    refine ik_Wret rfl rfl ⟨_, _, rfl, rfl, ?_⟩
    refine ik_Wk 0 (pc_q := 4) (loc_q := [some (.ref 66), some (fI side), some (fI p)]) (st_q := [fI 0]) (h_q := h_389) (cl_q := 0) (sl_q := 0) rfl ?_
    refine fw_if_eq rfl rfl (by decide +kernel) (by decide +kernel) (fun hc1 => ?_) (fun hc1 => absurd hc1 (by decide +kernel))
    refine fw_ld (-1000000001) rfl rfl (by decide +kernel) ?_
    exact ik_Wret rfl rfl ⟨_, _, rfl, rfl, rfl, rfl, ⟨rfl, fr_389⟩⟩

end