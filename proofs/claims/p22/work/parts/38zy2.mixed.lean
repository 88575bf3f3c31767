/-! 38zy2.mixed -/
noncomputable section
theorem cp_mixed1 {h : List ik_E} {pl : Int} {lo : Int} {s : Nat} {ka : Int} {pa : Int} {fa : Int} {kb : Int} {pb : Int} {fb : Int} {bo : Int} {la : Int} {lb : Int} {wg : List Int} {wc : List Int} {we : List Int} {W : Int → List (Int × Int)} {fe : List Int} {bo_ : List Int} {sh : List Int} {wh : List Int} {wo : List Int} {p : Int} {what : Int} (q0 : 0 ≤ pl ∧ pl ≤ 12) (q1 : 1 < pl → 0 ≤ ka ∧ ka ≤ 2 ∧ 0 ≤ kb ∧ kb ≤ 2) (q2 : ∀ x : Int, (0 : Int) ≤ x → x < pl - 1 → mx_wy wg wc we x (W x)) (q3 : ∀ x : Int, (0 : Int) ≤ x → x < pl - 1 → mx_ok pl (W x)) (q4 : ∀ i : Int, (0 : Int) ≤ i → i < (9 : Int) → 0 ≤ fe.getD i.toNat 0 ∧ fe.getD i.toNat 0 ≤ 1000) (q5 : (-2147483648 : Int) ≤ p ∧ p < (2147483648 : Int)) (q6 : (-2147483648 : Int) ≤ what ∧ what < (2147483648 : Int)) (h0 : cE h 0 (.inr (9, [.ref 1, .ref 7, .ref 14, .ref 17, .ref 45, .ref 51, .ref 54, .ref 57]))) (h7 : cE h 7 (.inr (0, [fI pl, fI ((s : Nat) : Int), fI lo, .ref 8, .ref 9, .ref 10, .ref 11, .ref 12, .ref 13]))) (h11 : cE h 11 (.inl (.int, fA wg))) (n11 : wg.length = (60 : Nat)) (h12 : cE h 12 (.inl (.int, fA wc))) (n12 : wc.length = (60 : Nat)) (h13 : cE h 13 (.inl (.int, fA we))) (n13 : we.length = (12 : Nat)) (h15 : cE h 15 (.inl (.int, fA [ka, pa, fa, kb, pb, fb]))) (h17 : cE h 17 (.inr (8, [.ref 7, .ref 15, .ref 18, .ref 19, fJ bo, .ref 20]))) (h18 : cE h 18 (.inl (.object "SlowerCork$Course", [.ref 21, .ref 25, .ref 29, .ref 33, .ref 37, .ref 41]))) (h19 : cE h 19 (.inl (.long, fL [la, lb]))) (h21 : mf_cr h 21 ) (h25 : mf_cr h 25 ) (h29 : mf_cr h 29 ) (h33 : mf_cr h 33 ) (h37 : mf_cr h 37 ) (h41 : mf_cr h 41 ) (h46 : cE h 46 (.inl (.int, fA fe))) (n46 : fe.length = (9 : Nat)) (h45 : cE h 45 (.inr (5, [.ref 46, .ref 47, .ref 48, .ref 49, .ref 50]))) (h47 : cE h 47 (.inl (.long, fL bo_))) (n47 : bo_.length = (12 : Nat)) (h48 : cE h 48 (.inl (.long, fL sh))) (n48 : sh.length = (6 : Nat)) (h49 : cE h 49 (.inl (.long, fL wh))) (n49 : wh.length = (2 : Nat)) (h50 : cE h 50 (.inl (.long, fL wo))) (n50 : wo.length = (2 : Nat)) (hl : h.length = (94 : Nat)) : ik_F 102 [.ref 0, fI p, fI 1, fI what] h (fun rv h_q => ∃ (l0 : Int) (l1 : Int) (l2 : Int) (fe' : List Int) (bo' : List Int) (sh' : List Int) (wh' : List Int) (wo' : List Int) (v : Int), rv = [fI v] ∧ cE h_q 17 (.inr (8, [.ref 7, .ref 15, .ref 18, .ref 19, fJ l2, .ref 20])) ∧ cE h_q 19 (.inl (.long, fL [l0, l1])) ∧ mf_cr h_q 21  ∧ mf_cr h_q 25  ∧ mf_cr h_q 29  ∧ mf_cr h_q 33  ∧ mf_cr h_q 37  ∧ mf_cr h_q 41  ∧ cE h_q 46 (.inl (.int, fA fe')) ∧ fe'.length = (9 : Nat) ∧ cE h_q 47 (.inl (.long, fL bo')) ∧ bo'.length = (12 : Nat) ∧ cE h_q 48 (.inl (.long, fL sh')) ∧ sh'.length = (6 : Nat) ∧ cE h_q 49 (.inl (.long, fL wh')) ∧ wh'.length = (2 : Nat) ∧ cE h_q 50 (.inl (.long, fL wo')) ∧ wo'.length = (2 : Nat) ∧ (∀ i : Int, (0 : Int) ≤ i → i < (9 : Int) → 0 ≤ fe'.getD i.toNat 0 ∧ fe'.getD i.toNat 0 ≤ 1000) ∧ hfr [17, 19, 46, 47, 48, 49, 50, 21, 22, 23, 24, 25, 26, 27, 28, 29, 30, 31, 32, 33, 34, 35, 36, 37, 38, 39, 40, 41, 42, 43, 44] h h_q) := by
  refine ik_Wk 1 (pc_q := 1) (loc_q := [some (.ref 0), some (fI p), some (fI 1), some (fI what)]) (st_q := [.ref 0]) (h_q := h) (cl_q := 0) (sl_q := 0) rfl ?_
  refine fw_gf rfl rfl h0 rfl ?_
  refine ik_Wk 1 (pc_q := 5) (loc_q := [some (.ref 0), some (fI p), some (fI 1), some (fI what)]) (st_q := [fI p, .ref 7]) (h_q := h) (cl_q := 0) (sl_q := 0) rfl ?_
  refine ik_Wc 4 2 0 [.ref 7, fI p] [] rfl rfl rfl (by decide +kernel) rfl rfl (fw_rec hl rfl h7 rfl (Nat.le_of_ble_eq_true rfl)) ?_
  refine ik_Wk 0 (pc_q := 0) (loc_q := [some (.ref 7), some (fI p)]) (st_q := []) (h_q := h) (cl_q := 0) (sl_q := 0) rfl ?_
  refine ik_Wk 1 (pc_q := 1) (loc_q := [some (.ref 7), some (fI p)]) (st_q := [fI p]) (h_q := h) (cl_q := 0) (sl_q := 0) rfl ?_
  refine fw_if_lt rfl rfl (by omega) (by omega) (fun hc1 => ?_) (fun hc1 => ?_)
  · refine ik_Wk 1 (pc_q := 19) (loc_q := [some (.ref 7), some (fI p)]) (st_q := [fI 0]) (h_q := h) (cl_q := 0) (sl_q := 0) rfl ?_
    refine ik_Wret rfl rfl ⟨_, _, rfl, rfl, ?_⟩
    refine ik_Wk 0 (pc_q := 8) (loc_q := [some (.ref 0), some (fI p), some (fI 1), some (fI what)]) (st_q := [fI 0]) (h_q := h) (cl_q := 0) (sl_q := 0) rfl ?_
    refine fw_if_eq rfl rfl (by decide +kernel) (by decide +kernel) (fun hc2 => ?_) (fun hc2 => absurd hc2 (by decide +kernel))
    refine fw_ld (-1000000001) rfl rfl (by decide +kernel) ?_
    exact ik_Wret rfl rfl ⟨_, _, rfl, rfl, rfl, rfl, ⟨la, lb, bo, fe, bo_, sh, wh, wo, (-1000000001), rfl, h17, h19, h21, h25, h29, h33, h37, h41, h46, n46, h47, n47, h48, n48, h49, n49, h50, n50, q4, (hfr_refl [17, 19, 46, 47, 48, 49, 50, 21, 22, 23, 24, 25, 26, 27, 28, 29, 30, 31, 32, 33, 34, 35, 36, 37, 38, 39, 40, 41, 42, 43, 44] h)⟩⟩
  · refine ik_Wk 2 (pc_q := 6) (loc_q := [some (.ref 7), some (fI p)]) (st_q := [.ref 7, fI p]) (h_q := h) (cl_q := 0) (sl_q := 0) rfl ?_
    refine fw_gf rfl rfl h7 rfl ?_
    refine ik_Wk 1 (pc_q := 10) (loc_q := [some (.ref 7), some (fI p)]) (st_q := [fI 1, fI pl, fI p]) (h_q := h) (cl_q := 0) (sl_q := 0) rfl ?_
    refine fw_sub rfl ?_
    refine fw_ic_ge rfl rfl (by omega) (by omega) (by omega) (by omega) (fun hc3 => ?_) (fun hc3 => ?_)
    · refine ik_Wk 1 (pc_q := 19) (loc_q := [some (.ref 7), some (fI p)]) (st_q := [fI 0]) (h_q := h) (cl_q := 0) (sl_q := 0) rfl ?_
      refine ik_Wret rfl rfl ⟨_, _, rfl, rfl, ?_⟩
      refine ik_Wk 0 (pc_q := 8) (loc_q := [some (.ref 0), some (fI p), some (fI 1), some (fI what)]) (st_q := [fI 0]) (h_q := h) (cl_q := 0) (sl_q := 0) rfl ?_
      refine fw_if_eq rfl rfl (by decide +kernel) (by decide +kernel) (fun hc4 => ?_) (fun hc4 => absurd hc4 (by decide +kernel))
      refine fw_ld (-1000000001) rfl rfl (by decide +kernel) ?_
      exact ik_Wret rfl rfl ⟨_, _, rfl, rfl, rfl, rfl, ⟨la, lb, bo, fe, bo_, sh, wh, wo, (-1000000001), rfl, h17, h19, h21, h25, h29, h33, h37, h41, h46, n46, h47, n47, h48, n48, h49, n49, h50, n50, q4, (hfr_refl [17, 19, 46, 47, 48, 49, 50, 21, 22, 23, 24, 25, 26, 27, 28, 29, 30, 31, 32, 33, 34, 35, 36, 37, 38, 39, 40, 41, 42, 43, 44] h)⟩⟩
    · refine ik_Wk 2 (pc_q := 19) (loc_q := [some (.ref 7), some (fI p)]) (st_q := [fI 1]) (h_q := h) (cl_q := 0) (sl_q := 0) rfl ?_
      refine ik_Wret rfl rfl ⟨_, _, rfl, rfl, ?_⟩
      refine ik_Wk 0 (pc_q := 8) (loc_q := [some (.ref 0), some (fI p), some (fI 1), some (fI what)]) (st_q := [fI 1]) (h_q := h) (cl_q := 0) (sl_q := 0) rfl ?_
      refine fw_if_eq rfl rfl (by decide +kernel) (by decide +kernel) (fun hc5 => absurd hc5 (by decide +kernel)) (fun hc5 => ?_)
      refine ik_Wk 2 (pc_q := 13) (loc_q := [some (.ref 0), some (fI p), some (fI 1), some (fI what)]) (st_q := [.ref 0, fI 1]) (h_q := h) (cl_q := 0) (sl_q := 0) rfl ?_
      refine fw_gf rfl rfl h0 rfl ?_
      refine ik_Wc 2 1 0 [.ref 7] [fI 1] rfl rfl rfl (by decide +kernel) rfl rfl (fw_rec hl rfl h7 rfl (Nat.le_of_ble_eq_true rfl)) ?_
      refine ik_Wk 0 (pc_q := 0) (loc_q := [some (.ref 7)]) (st_q := []) (h_q := h) (cl_q := 0) (sl_q := 0) rfl ?_
      refine ik_Wk 1 (pc_q := 1) (loc_q := [some (.ref 7)]) (st_q := [.ref 7]) (h_q := h) (cl_q := 0) (sl_q := 0) rfl ?_
      refine fw_gf rfl rfl h7 rfl ?_
      refine ik_Wk 1 (pc_q := 5) (loc_q := [some (.ref 7)]) (st_q := [fI 1, fI pl]) (h_q := h) (cl_q := 0) (sl_q := 0) rfl ?_
      refine fw_sub rfl ?_
      refine ik_Wret rfl rfl ⟨_, _, rfl, rfl, ?_⟩
      refine ik_Wk 0 (pc_q := 19) (loc_q := [some (.ref 0), some (fI p), some (fI 1), some (fI what)]) (st_q := [fI (pl - 1), fI 1]) (h_q := h) (cl_q := 0) (sl_q := 0) rfl ?_
      refine ik_Wk 1 (pc_q := 20) (loc_q := [some (.ref 0), some (fI p), some (fI 1), some (fI what)]) (st_q := [fI p, fI (pl - 1), fI 1]) (h_q := h) (cl_q := 0) (sl_q := 0) rfl ?_
      refine fw_sub rfl ?_
      refine fw_ic_le rfl rfl (by omega) (by omega) (by omega) (by omega) (fun hc6 => ?_) (fun hc6 => ?_)
      · refine ik_Wk 2 (pc_q := 29) (loc_q := [some (.ref 0), some (fI p), some (fI 1), some (fI what)]) (st_q := [fI 1, fI 1]) (h_q := h) (cl_q := 0) (sl_q := 0) rfl ?_
        refine fw_ic_lt rfl rfl (by decide +kernel) (by decide +kernel) (by decide +kernel) (by decide +kernel) (fun hc7 => absurd hc7 (by decide +kernel)) (fun hc7 => ?_)
        refine ik_Wk 2 (pc_q := 34) (loc_q := [some (.ref 0), some (fI p), some (fI 1), some (fI what)]) (st_q := [fI 3, fI 1]) (h_q := h) (cl_q := 0) (sl_q := 0) rfl ?_
        refine fw_ic_gt rfl rfl (by decide +kernel) (by decide +kernel) (by decide +kernel) (by decide +kernel) (fun hc8 => absurd hc8 (by decide +kernel)) (fun hc8 => ?_)
        refine ik_Wk 1 (pc_q := 38) (loc_q := [some (.ref 0), some (fI p), some (fI 1), some (fI what)]) (st_q := [fI what]) (h_q := h) (cl_q := 0) (sl_q := 0) rfl ?_
        refine fw_if_lt rfl rfl (by omega) (by omega) (fun hc9 => ?_) (fun hc9 => ?_)
        · refine fw_ld (-1000000002) rfl rfl (by decide +kernel) ?_
          exact ik_Wret rfl rfl ⟨_, _, rfl, rfl, rfl, rfl, ⟨la, lb, bo, fe, bo_, sh, wh, wo, (-1000000002), rfl, h17, h19, h21, h25, h29, h33, h37, h41, h46, n46, h47, n47, h48, n48, h49, n49, h50, n50, q4, (hfr_refl [17, 19, 46, 47, 48, 49, 50, 21, 22, 23, 24, 25, 26, 27, 28, 29, 30, 31, 32, 33, 34, 35, 36, 37, 38, 39, 40, 41, 42, 43, 44] h)⟩⟩
        · refine ik_Wk 1 (pc_q := 42) (loc_q := [some (.ref 0), some (fI p), some (fI 1), some (fI what)]) (st_q := [fI what]) (h_q := h) (cl_q := 0) (sl_q := 0) rfl ?_
          refine fw_bi rfl (by decide +kernel) ?_
          refine fw_ic_le rfl rfl (by omega) (by omega) (by omega) (by omega) (fun hc10 => ?_) (fun hc10 => ?_)
          · refine ik_Wk 1 (pc_q := 51) (loc_q := [some (.ref 0), some (fI p), some (fI 1), some (fI what)]) (st_q := [.ref 0]) (h_q := h) (cl_q := 0) (sl_q := 0) rfl ?_
            refine fw_gf rfl rfl h0 rfl ?_
            refine ik_Wk 3 (pc_q := 57) (loc_q := [some (.ref 0), some (fI p), some (fI 1), some (fI what)]) (st_q := [.ref 0, fI 1, fI p, .ref 17]) (h_q := h) (cl_q := 0) (sl_q := 0) rfl ?_
            refine fw_gf rfl rfl h0 rfl ?_
            refine fw_gf rfl rfl h45 rfl ?_
            refine fw_call 84 4 0 [.ref 17, fI p, fI 1, .ref 46] [] rfl rfl rfl (Nat.le_of_ble_eq_true rfl) rfl rfl (fw_rec hl rfl h17 rfl (Nat.le_of_ble_eq_true rfl)) (cs_fears1 (pl := pl) (lo := lo) (s := s) (ka := ka) (pa := pa) (fa := fa) (kb := kb) (pb := pb) (fb := fb) (bo := bo) (la := la) (lb := lb) (p := p) (wg := wg) (wc := wc) (we := we) (fe := fe) (W := W) (by omega) (q1 (by omega)) (by omega) q2 q3 q4 h7 h11 n11 h12 n12 h13 n13 h15 h17 h18 h19 h21 h25 h29 h33 h37 h41 h46 n46 hl) ?_
            rintro _ h_730 ⟨l0_730, l1_730, l2_730, fe'_730, rfl, e_730_17, e_730_19, e_730_21, e_730_25, e_730_29, e_730_33, e_730_37, e_730_41, e_730_46, m_730_46, p_730_0, F_730⟩
            have k_730 : cL h_730 := F_730.1.trans hl
            have fr_730 := hfr_cb (hfr_refl [17, 19, 46, 47, 48, 49, 50, 21, 22, 23, 24, 25, 26, 27, 28, 29, 30, 31, 32, 33, 34, 35, 36, 37, 38, 39, 40, 41, 42, 43, 44] h) F_730 rfl
            have g_730_0 := (hfr_g F_730 0 rfl).trans h0
            have g_730_7 := (hfr_g F_730 7 rfl).trans h7
            have g_730_11 := (hfr_g F_730 11 rfl).trans h11
            have g_730_12 := (hfr_g F_730 12 rfl).trans h12
            have g_730_13 := (hfr_g F_730 13 rfl).trans h13
            have g_730_15 := (hfr_g F_730 15 rfl).trans h15
            have g_730_18 := (hfr_g F_730 18 rfl).trans h18
            have g_730_45 := (hfr_g F_730 45 rfl).trans h45
            have g_730_47 := (hfr_g F_730 47 rfl).trans h47
            have g_730_48 := (hfr_g F_730 48 rfl).trans h48
            have g_730_49 := (hfr_g F_730 49 rfl).trans h49
            have g_730_50 := (hfr_g F_730 50 rfl).trans h50
            have g_730_17 : cE h_730 17 (.inr (8, [.ref 7, .ref 15, .ref 18, .ref 19, fJ l2_730, .ref 20])) := e_730_17
            have g_730_19 : cE h_730 19 (.inl (.long, fL [l0_730, l1_730])) := e_730_19
            have g_730_21 : mf_cr h_730 21  := e_730_21
            have g_730_25 : mf_cr h_730 25  := e_730_25
            have g_730_29 : mf_cr h_730 29  := e_730_29
            have g_730_33 : mf_cr h_730 33  := e_730_33
            have g_730_37 : mf_cr h_730 37  := e_730_37
            have g_730_41 : mf_cr h_730 41  := e_730_41
            have g_730_46 : cE h_730 46 (.inl (.int, fA fe'_730)) := e_730_46
            refine ik_Wk 0 (pc_q := 66) (loc_q := [some (.ref 0), some (fI p), some (fI 1), some (fI what)]) (st_q := []) (h_q := h_730) (cl_q := 0) (sl_q := 0) rfl ?_
            refine ik_Wk 1 (pc_q := 67) (loc_q := [some (.ref 0), some (fI p), some (fI 1), some (fI what)]) (st_q := [.ref 0]) (h_q := h_730) (cl_q := 0) (sl_q := 0) rfl ?_
            refine fw_gf rfl rfl g_730_0 rfl ?_
            refine ik_Wk 1 (pc_q := 71) (loc_q := [some (.ref 0), some (fI p), some (fI 1), some (fI what)]) (st_q := [fI 1, .ref 45]) (h_q := h_730) (cl_q := 0) (sl_q := 0) rfl ?_
            refine fw_call 43 2 0 [.ref 45, fI 1] [] rfl rfl rfl (Nat.le_of_ble_eq_true rfl) rfl rfl (fw_rec k_730 rfl g_730_45 rfl (Nat.le_of_ble_eq_true rfl)) (cs_findPair (n := 1) (fe := fe'_730) (bo_ := bo_) (sh := sh) (wh := wh) (wo := wo) (by omega) p_730_0 g_730_45 g_730_46 m_730_46 g_730_47 n47 g_730_48 n48 g_730_49 n49 g_730_50 n50 k_730) ?_
            rintro _ h_731 ⟨bo'_731, sh'_731, wh'_731, wo'_731, b_731, rfl, e_731_47, m_731_47, e_731_48, m_731_48, e_731_49, m_731_49, e_731_50, m_731_50, p_731_0, F_731⟩
            have k_731 : cL h_731 := F_731.1.trans k_730
            have fr_731 := hfr_cb fr_730 F_731 rfl
            have g_731_0 := (hfr_g F_731 0 rfl).trans g_730_0
            have g_731_7 := (hfr_g F_731 7 rfl).trans g_730_7
            have g_731_11 := (hfr_g F_731 11 rfl).trans g_730_11
            have g_731_12 := (hfr_g F_731 12 rfl).trans g_730_12
            have g_731_13 := (hfr_g F_731 13 rfl).trans g_730_13
            have g_731_15 := (hfr_g F_731 15 rfl).trans g_730_15
            have g_731_17 := (hfr_g F_731 17 rfl).trans g_730_17
            have g_731_18 := (hfr_g F_731 18 rfl).trans g_730_18
            have g_731_19 := (hfr_g F_731 19 rfl).trans g_730_19
            have g_731_21 := mf_cr_f g_730_21 (hfr_g F_731 21 rfl) (hfr_g F_731 22 rfl) (hfr_g F_731 23 rfl) (hfr_g F_731 24 rfl)
            have g_731_25 := mf_cr_f g_730_25 (hfr_g F_731 25 rfl) (hfr_g F_731 26 rfl) (hfr_g F_731 27 rfl) (hfr_g F_731 28 rfl)
            have g_731_29 := mf_cr_f g_730_29 (hfr_g F_731 29 rfl) (hfr_g F_731 30 rfl) (hfr_g F_731 31 rfl) (hfr_g F_731 32 rfl)
            have g_731_33 := mf_cr_f g_730_33 (hfr_g F_731 33 rfl) (hfr_g F_731 34 rfl) (hfr_g F_731 35 rfl) (hfr_g F_731 36 rfl)
            have g_731_37 := mf_cr_f g_730_37 (hfr_g F_731 37 rfl) (hfr_g F_731 38 rfl) (hfr_g F_731 39 rfl) (hfr_g F_731 40 rfl)
            have g_731_41 := mf_cr_f g_730_41 (hfr_g F_731 41 rfl) (hfr_g F_731 42 rfl) (hfr_g F_731 43 rfl) (hfr_g F_731 44 rfl)
            have g_731_46 := (hfr_g F_731 46 rfl).trans g_730_46
            have g_731_45 := (hfr_g F_731 45 rfl).trans g_730_45
            have g_731_47 : cE h_731 47 (.inl (.long, fL bo'_731)) := e_731_47
            have g_731_48 : cE h_731 48 (.inl (.long, fL sh'_731)) := e_731_48
            have g_731_49 : cE h_731 49 (.inl (.long, fL wh'_731)) := e_731_49
            have g_731_50 : cE h_731 50 (.inl (.long, fL wo'_731)) := e_731_50
            refine ik_Wk 0 (pc_q := 74) (loc_q := [some (.ref 0), some (fI p), some (fI 1), some (fI what)]) (st_q := [fI b_731]) (h_q := h_731) (cl_q := 0) (sl_q := 0) rfl ?_
            refine fw_if_ne rfl rfl (by omega) (by omega) (fun hc11 => ?_) (fun hc11 => ?_)
            · refine fw_ld (-1000000003) rfl rfl (by decide +kernel) ?_
              exact ik_Wret rfl rfl ⟨_, _, rfl, rfl, rfl, rfl, ⟨l0_730, l1_730, l2_730, fe'_730, bo'_731, sh'_731, wh'_731, wo'_731, (-1000000003), rfl, g_731_17, g_731_19, g_731_21, g_731_25, g_731_29, g_731_33, g_731_37, g_731_41, g_731_46, m_730_46, g_731_47, m_731_47, g_731_48, m_731_48, g_731_49, m_731_49, g_731_50, m_731_50, p_730_0, fr_731⟩⟩
            · refine ik_Wk 1 (pc_q := 81) (loc_q := [some (.ref 0), some (fI p), some (fI 1), some (fI what)]) (st_q := [fI what]) (h_q := h_731) (cl_q := 0) (sl_q := 0) rfl ?_
              refine fw_if_ne rfl rfl (by omega) (by omega) (fun hc12 => ?_) (fun hc12 => ?_)
              · refine ik_Wk 1 (pc_q := 85) (loc_q := [some (.ref 0), some (fI p), some (fI 1), some (fI what)]) (st_q := [.ref 0]) (h_q := h_731) (cl_q := 0) (sl_q := 0) rfl ?_
                refine fw_gf rfl rfl g_731_0 rfl ?_
                refine ik_Wc 41 1 0 [.ref 45] [] rfl rfl rfl (by decide +kernel) rfl rfl (fw_rec k_731 rfl g_731_45 rfl (Nat.le_of_ble_eq_true rfl)) ?_
                refine ik_Wk 0 (pc_q := 0) (loc_q := [some (.ref 45)]) (st_q := []) (h_q := h_731) (cl_q := 0) (sl_q := 0) rfl ?_
                refine ik_Wk 1 (pc_q := 1) (loc_q := [some (.ref 45)]) (st_q := [.ref 45]) (h_q := h_731) (cl_q := 0) (sl_q := 0) rfl ?_
                refine fw_gf rfl rfl g_731_45 rfl ?_
                refine ik_Wk 1 (pc_q := 5) (loc_q := [some (.ref 45)]) (st_q := [fI 0, .ref 49]) (h_q := h_731) (cl_q := 0) (sl_q := 0) rfl ?_
                refine fx_lal rfl g_731_49 (by omega) (by omega) (by omega) ?_
                refine fw_lc (z := 0) rfl (by decide +kernel) ?_
                refine fx_lcx rfl (fun zc13 rzc13 szc13 => ?_)
                refine fw_if_le rfl rfl (by omega) (by omega) (fun hc14 => ?_) (fun hc14 => ?_)
                · refine ik_Wk 1 (pc_q := 33) (loc_q := [some (.ref 45)]) (st_q := [fI 0]) (h_q := h_731) (cl_q := 0) (sl_q := 0) rfl ?_
                  refine ik_Wret rfl rfl ⟨_, _, rfl, rfl, ?_⟩
                  refine ik_Wk 0 (pc_q := 91) (loc_q := [some (.ref 0), some (fI p), some (fI 1), some (fI what)]) (st_q := [fI 0]) (h_q := h_731) (cl_q := 0) (sl_q := 0) rfl ?_
                  refine ik_Wk 1 (pc_q := 111) (loc_q := [some (.ref 0), some (fI p), some (fI 1), some (fI what)]) (st_q := [fI 0]) (h_q := h_731) (cl_q := 0) (sl_q := 0) rfl ?_
                  exact ik_Wret rfl rfl ⟨_, _, rfl, rfl, rfl, rfl, ⟨l0_730, l1_730, l2_730, fe'_730, bo'_731, sh'_731, wh'_731, wo'_731, 0, rfl, g_731_17, g_731_19, g_731_21, g_731_25, g_731_29, g_731_33, g_731_37, g_731_41, g_731_46, m_730_46, g_731_47, m_731_47, g_731_48, m_731_48, g_731_49, m_731_49, g_731_50, m_731_50, p_730_0, fr_731⟩⟩
                · refine ik_Wk 1 (pc_q := 12) (loc_q := [some (.ref 45)]) (st_q := [.ref 45]) (h_q := h_731) (cl_q := 0) (sl_q := 0) rfl ?_
                  refine fw_gf rfl rfl g_731_45 rfl ?_
                  refine ik_Wk 1 (pc_q := 16) (loc_q := [some (.ref 45)]) (st_q := [fI 0, .ref 50]) (h_q := h_731) (cl_q := 0) (sl_q := 0) rfl ?_
                  refine fx_lal rfl g_731_50 (by omega) (by omega) (by omega) ?_
                  refine fw_l2 1000 rfl rfl (by decide +kernel) ?_
                  refine fw_lmul rfl ?_
                  refine ik_Wk 1 (pc_q := 22) (loc_q := [some (.ref 45)]) (st_q := [.ref 45, fJ ((wo'_731.getD (0 : Int).toNat 0) * 1000)]) (h_q := h_731) (cl_q := 0) (sl_q := 0) rfl ?_
                  refine fw_gf rfl rfl g_731_45 rfl ?_
                  refine ik_Wk 1 (pc_q := 26) (loc_q := [some (.ref 45)]) (st_q := [fI 0, .ref 49, fJ ((wo'_731.getD (0 : Int).toNat 0) * 1000)]) (h_q := h_731) (cl_q := 0) (sl_q := 0) rfl ?_
                  refine fx_lal rfl g_731_49 (by omega) (by omega) (by omega) ?_
                  refine fx_ldo rfl (by rcases szc13 with w | w; omega; exact fun e => w (e.trans (by decide +kernel))) (fun qd15 => ?_)
                  refine fx_l2i rfl ?_
                  refine ik_Wk 1 (pc_q := 33) (loc_q := [some (.ref 45)]) (st_q := [fI qd15]) (h_q := h_731) (cl_q := 0) (sl_q := 0) rfl ?_
                  refine ik_Wret rfl rfl ⟨_, _, rfl, rfl, ?_⟩
                  refine ik_Wk 0 (pc_q := 91) (loc_q := [some (.ref 0), some (fI p), some (fI 1), some (fI what)]) (st_q := [fI qd15]) (h_q := h_731) (cl_q := 0) (sl_q := 0) rfl ?_
                  refine ik_Wk 1 (pc_q := 111) (loc_q := [some (.ref 0), some (fI p), some (fI 1), some (fI what)]) (st_q := [fI qd15]) (h_q := h_731) (cl_q := 0) (sl_q := 0) rfl ?_
                  exact ik_Wret rfl rfl ⟨_, _, rfl, rfl, rfl, rfl, ⟨l0_730, l1_730, l2_730, fe'_730, bo'_731, sh'_731, wh'_731, wo'_731, qd15, rfl, g_731_17, g_731_19, g_731_21, g_731_25, g_731_29, g_731_33, g_731_37, g_731_41, g_731_46, m_730_46, g_731_47, m_731_47, g_731_48, m_731_48, g_731_49, m_731_49, g_731_50, m_731_50, p_730_0, fr_731⟩⟩
              · refine ik_Wk 1 (pc_q := 95) (loc_q := [some (.ref 0), some (fI p), some (fI 1), some (fI what)]) (st_q := [.ref 0]) (h_q := h_731) (cl_q := 0) (sl_q := 0) rfl ?_
                refine fw_gf rfl rfl g_731_0 rfl ?_
                refine ik_Wk 2 (pc_q := 100) (loc_q := [some (.ref 0), some (fI p), some (fI 1), some (fI what)]) (st_q := [fI 1, fI what, .ref 45]) (h_q := h_731) (cl_q := 0) (sl_q := 0) rfl ?_
                refine fw_sub rfl ?_
                refine ik_Wk 1 (pc_q := 102) (loc_q := [some (.ref 0), some (fI p), some (fI 1), some (fI what)]) (st_q := [fI 3, fI (what - 1), .ref 45]) (h_q := h_731) (cl_q := 0) (sl_q := 0) rfl ?_
                refine fx_idiv rfl (by omega) (by omega) (by omega) (by omega) ?_
                refine ik_Wk 2 (pc_q := 105) (loc_q := [some (.ref 0), some (fI p), some (fI 1), some (fI what)]) (st_q := [fI 1, fI what, fI ((what - 1) / 3), .ref 45]) (h_q := h_731) (cl_q := 0) (sl_q := 0) rfl ?_
                refine fw_sub rfl ?_
                refine ik_Wk 1 (pc_q := 107) (loc_q := [some (.ref 0), some (fI p), some (fI 1), some (fI what)]) (st_q := [fI 3, fI (what - 1), fI ((what - 1) / 3), .ref 45]) (h_q := h_731) (cl_q := 0) (sl_q := 0) rfl ?_
                refine fx_irem rfl (by omega) (by omega) (by omega) (by omega) ?_
                refine ik_Wc 42 3 0 [.ref 45, fI ((what - 1) / 3), fI ((what - 1) % 3)] [] rfl rfl rfl (by decide +kernel) rfl rfl (fw_rec k_731 rfl g_731_45 rfl (Nat.le_of_ble_eq_true rfl)) ?_
                refine ik_Wk 0 (pc_q := 0) (loc_q := [some (.ref 45), some (fI ((what - 1) / 3)), some (fI ((what - 1) % 3))]) (st_q := []) (h_q := h_731) (cl_q := 0) (sl_q := 0) rfl ?_
                refine ik_Wk 1 (pc_q := 1) (loc_q := [some (.ref 45), some (fI ((what - 1) / 3)), some (fI ((what - 1) % 3))]) (st_q := [.ref 45]) (h_q := h_731) (cl_q := 0) (sl_q := 0) rfl ?_
                refine fw_gf rfl rfl g_731_45 rfl ?_
                refine ik_Wk 1 (pc_q := 5) (loc_q := [some (.ref 45), some (fI ((what - 1) / 3)), some (fI ((what - 1) % 3))]) (st_q := [fI ((what - 1) / 3), .ref 49]) (h_q := h_731) (cl_q := 0) (sl_q := 0) rfl ?_
                refine fx_lal rfl g_731_49 (by omega) (by omega) (by omega) ?_
                refine fw_lc (z := 0) rfl (by decide +kernel) ?_
                refine fx_lcx rfl (fun zc16 rzc16 szc16 => ?_)
                refine fw_if_le rfl rfl (by omega) (by omega) (fun hc17 => ?_) (fun hc17 => ?_)
                · refine ik_Wk 1 (pc_q := 37) (loc_q := [some (.ref 45), some (fI ((what - 1) / 3)), some (fI ((what - 1) % 3))]) (st_q := [fI 0]) (h_q := h_731) (cl_q := 0) (sl_q := 0) rfl ?_
                  refine ik_Wret rfl rfl ⟨_, _, rfl, rfl, ?_⟩
                  refine ik_Wk 0 (pc_q := 111) (loc_q := [some (.ref 0), some (fI p), some (fI 1), some (fI what)]) (st_q := [fI 0]) (h_q := h_731) (cl_q := 0) (sl_q := 0) rfl ?_
                  exact ik_Wret rfl rfl ⟨_, _, rfl, rfl, rfl, rfl, ⟨l0_730, l1_730, l2_730, fe'_730, bo'_731, sh'_731, wh'_731, wo'_731, 0, rfl, g_731_17, g_731_19, g_731_21, g_731_25, g_731_29, g_731_33, g_731_37, g_731_41, g_731_46, m_730_46, g_731_47, m_731_47, g_731_48, m_731_48, g_731_49, m_731_49, g_731_50, m_731_50, p_730_0, fr_731⟩⟩
                · refine ik_Wk 1 (pc_q := 12) (loc_q := [some (.ref 45), some (fI ((what - 1) / 3)), some (fI ((what - 1) % 3))]) (st_q := [.ref 45]) (h_q := h_731) (cl_q := 0) (sl_q := 0) rfl ?_
                  refine fw_gf rfl rfl g_731_45 rfl ?_
                  refine ik_Wk 2 (pc_q := 17) (loc_q := [some (.ref 45), some (fI ((what - 1) / 3)), some (fI ((what - 1) % 3))]) (st_q := [fI 3, fI ((what - 1) / 3), .ref 48]) (h_q := h_731) (cl_q := 0) (sl_q := 0) rfl ?_
                  refine fx_mulc rfl ?_
                  refine ik_Wk 1 (pc_q := 19) (loc_q := [some (.ref 45), some (fI ((what - 1) / 3)), some (fI ((what - 1) % 3))]) (st_q := [fI ((what - 1) % 3), fI (3 * ((what - 1) / 3)), .ref 48]) (h_q := h_731) (cl_q := 0) (sl_q := 0) rfl ?_
                  refine fw_add rfl ?_
                  refine fx_lal rfl g_731_48 (by omega) (by omega) (by omega) ?_
                  refine fw_l2 1000000 rfl rfl (by decide +kernel) ?_
                  refine fw_lmul rfl ?_
                  refine ik_Wk 1 (pc_q := 26) (loc_q := [some (.ref 45), some (fI ((what - 1) / 3)), some (fI ((what - 1) % 3))]) (st_q := [.ref 45, fJ ((sh'_731.getD ((3 * ((what - 1) / 3)) + ((what - 1) % 3)).toNat 0) * 1000000)]) (h_q := h_731) (cl_q := 0) (sl_q := 0) rfl ?_
                  refine fw_gf rfl rfl g_731_45 rfl ?_
                  refine ik_Wk 1 (pc_q := 30) (loc_q := [some (.ref 45), some (fI ((what - 1) / 3)), some (fI ((what - 1) % 3))]) (st_q := [fI ((what - 1) / 3), .ref 49, fJ ((sh'_731.getD ((3 * ((what - 1) / 3)) + ((what - 1) % 3)).toNat 0) * 1000000)]) (h_q := h_731) (cl_q := 0) (sl_q := 0) rfl ?_
                  refine fx_lal rfl g_731_49 (by omega) (by omega) (by omega) ?_
                  refine fx_ldo rfl (by rcases szc16 with w | w; omega; exact fun e => w (e.trans (by decide +kernel))) (fun qd18 => ?_)
                  refine fx_l2i rfl ?_
                  refine ik_Wk 1 (pc_q := 37) (loc_q := [some (.ref 45), some (fI ((what - 1) / 3)), some (fI ((what - 1) % 3))]) (st_q := [fI qd18]) (h_q := h_731) (cl_q := 0) (sl_q := 0) rfl ?_
                  refine ik_Wret rfl rfl ⟨_, _, rfl, rfl, ?_⟩
                  refine ik_Wk 0 (pc_q := 111) (loc_q := [some (.ref 0), some (fI p), some (fI 1), some (fI what)]) (st_q := [fI qd18]) (h_q := h_731) (cl_q := 0) (sl_q := 0) rfl ?_
                  exact ik_Wret rfl rfl ⟨_, _, rfl, rfl, rfl, rfl, ⟨l0_730, l1_730, l2_730, fe'_730, bo'_731, sh'_731, wh'_731, wo'_731, qd18, rfl, g_731_17, g_731_19, g_731_21, g_731_25, g_731_29, g_731_33, g_731_37, g_731_41, g_731_46, m_730_46, g_731_47, m_731_47, g_731_48, m_731_48, g_731_49, m_731_49, g_731_50, m_731_50, p_730_0, fr_731⟩⟩
          · refine fw_ld (-1000000002) rfl rfl (by decide +kernel) ?_
            exact ik_Wret rfl rfl ⟨_, _, rfl, rfl, rfl, rfl, ⟨la, lb, bo, fe, bo_, sh, wh, wo, (-1000000002), rfl, h17, h19, h21, h25, h29, h33, h37, h41, h46, n46, h47, n47, h48, n48, h49, n49, h50, n50, q4, (hfr_refl [17, 19, 46, 47, 48, 49, 50, 21, 22, 23, 24, 25, 26, 27, 28, 29, 30, 31, 32, 33, 34, 35, 36, 37, 38, 39, 40, 41, 42, 43, 44] h)⟩⟩
      · refine fw_ld (-1000000001) rfl rfl (by decide +kernel) ?_
        exact ik_Wret rfl rfl ⟨_, _, rfl, rfl, rfl, rfl, ⟨la, lb, bo, fe, bo_, sh, wh, wo, (-1000000001), rfl, h17, h19, h21, h25, h29, h33, h37, h41, h46, n46, h47, n47, h48, n48, h49, n49, h50, n50, q4, (hfr_refl [17, 19, 46, 47, 48, 49, 50, 21, 22, 23, 24, 25, 26, 27, 28, 29, 30, 31, 32, 33, 34, 35, 36, 37, 38, 39, 40, 41, 42, 43, 44] h)⟩⟩

theorem cp_mixed2 {h : List ik_E} {pl : Int} {lo : Int} {s : Nat} {ka : Int} {pa : Int} {fa : Int} {kb : Int} {pb : Int} {fb : Int} {bo : Int} {la : Int} {lb : Int} {wg : List Int} {wc : List Int} {we : List Int} {W : Int → List (Int × Int)} {fe : List Int} {bo_ : List Int} {sh : List Int} {wh : List Int} {wo : List Int} {p : Int} {what : Int} (q0 : 0 ≤ pl ∧ pl ≤ 12) (q1 : 1 < pl → 0 ≤ ka ∧ ka ≤ 2 ∧ 0 ≤ kb ∧ kb ≤ 2) (q2 : ∀ x : Int, (0 : Int) ≤ x → x < pl - 1 → mx_wy wg wc we x (W x)) (q3 : ∀ x : Int, (0 : Int) ≤ x → x < pl - 1 → mx_ok pl (W x)) (q4 : ∀ i : Int, (0 : Int) ≤ i → i < (9 : Int) → 0 ≤ fe.getD i.toNat 0 ∧ fe.getD i.toNat 0 ≤ 1000) (q5 : (-2147483648 : Int) ≤ p ∧ p < (2147483648 : Int)) (q6 : (-2147483648 : Int) ≤ what ∧ what < (2147483648 : Int)) (h0 : cE h 0 (.inr (9, [.ref 1, .ref 7, .ref 14, .ref 17, .ref 45, .ref 51, .ref 54, .ref 57]))) (h7 : cE h 7 (.inr (0, [fI pl, fI ((s : Nat) : Int), fI lo, .ref 8, .ref 9, .ref 10, .ref 11, .ref 12, .ref 13]))) (h11 : cE h 11 (.inl (.int, fA wg))) (n11 : wg.length = (60 : Nat)) (h12 : cE h 12 (.inl (.int, fA wc))) (n12 : wc.length = (60 : Nat)) (h13 : cE h 13 (.inl (.int, fA we))) (n13 : we.length = (12 : Nat)) (h15 : cE h 15 (.inl (.int, fA [ka, pa, fa, kb, pb, fb]))) (h17 : cE h 17 (.inr (8, [.ref 7, .ref 15, .ref 18, .ref 19, fJ bo, .ref 20]))) (h18 : cE h 18 (.inl (.object "SlowerCork$Course", [.ref 21, .ref 25, .ref 29, .ref 33, .ref 37, .ref 41]))) (h19 : cE h 19 (.inl (.long, fL [la, lb]))) (h21 : mf_cr h 21 ) (h25 : mf_cr h 25 ) (h29 : mf_cr h 29 ) (h33 : mf_cr h 33 ) (h37 : mf_cr h 37 ) (h41 : mf_cr h 41 ) (h46 : cE h 46 (.inl (.int, fA fe))) (n46 : fe.length = (9 : Nat)) (h45 : cE h 45 (.inr (5, [.ref 46, .ref 47, .ref 48, .ref 49, .ref 50]))) (h47 : cE h 47 (.inl (.long, fL bo_))) (n47 : bo_.length = (12 : Nat)) (h48 : cE h 48 (.inl (.long, fL sh))) (n48 : sh.length = (6 : Nat)) (h49 : cE h 49 (.inl (.long, fL wh))) (n49 : wh.length = (2 : Nat)) (h50 : cE h 50 (.inl (.long, fL wo))) (n50 : wo.length = (2 : Nat)) (hl : h.length = (94 : Nat)) : ik_F 102 [.ref 0, fI p, fI 2, fI what] h (fun rv h_q => ∃ (l0 : Int) (l1 : Int) (l2 : Int) (fe' : List Int) (bo' : List Int) (sh' : List Int) (wh' : List Int) (wo' : List Int) (v : Int), rv = [fI v] ∧ cE h_q 17 (.inr (8, [.ref 7, .ref 15, .ref 18, .ref 19, fJ l2, .ref 20])) ∧ cE h_q 19 (.inl (.long, fL [l0, l1])) ∧ mf_cr h_q 21  ∧ mf_cr h_q 25  ∧ mf_cr h_q 29  ∧ mf_cr h_q 33  ∧ mf_cr h_q 37  ∧ mf_cr h_q 41  ∧ cE h_q 46 (.inl (.int, fA fe')) ∧ fe'.length = (9 : Nat) ∧ cE h_q 47 (.inl (.long, fL bo')) ∧ bo'.length = (12 : Nat) ∧ cE h_q 48 (.inl (.long, fL sh')) ∧ sh'.length = (6 : Nat) ∧ cE h_q 49 (.inl (.long, fL wh')) ∧ wh'.length = (2 : Nat) ∧ cE h_q 50 (.inl (.long, fL wo')) ∧ wo'.length = (2 : Nat) ∧ (∀ i : Int, (0 : Int) ≤ i → i < (9 : Int) → 0 ≤ fe'.getD i.toNat 0 ∧ fe'.getD i.toNat 0 ≤ 1000) ∧ hfr [17, 19, 46, 47, 48, 49, 50, 21, 22, 23, 24, 25, 26, 27, 28, 29, 30, 31, 32, 33, 34, 35, 36, 37, 38, 39, 40, 41, 42, 43, 44] h h_q) := by
  refine ik_Wk 1 (pc_q := 1) (loc_q := [some (.ref 0), some (fI p), some (fI 2), some (fI what)]) (st_q := [.ref 0]) (h_q := h) (cl_q := 0) (sl_q := 0) rfl ?_
  refine fw_gf rfl rfl h0 rfl ?_
  refine ik_Wk 1 (pc_q := 5) (loc_q := [some (.ref 0), some (fI p), some (fI 2), some (fI what)]) (st_q := [fI p, .ref 7]) (h_q := h) (cl_q := 0) (sl_q := 0) rfl ?_
  refine ik_Wc 4 2 0 [.ref 7, fI p] [] rfl rfl rfl (by decide +kernel) rfl rfl (fw_rec hl rfl h7 rfl (Nat.le_of_ble_eq_true rfl)) ?_
  refine ik_Wk 0 (pc_q := 0) (loc_q := [some (.ref 7), some (fI p)]) (st_q := []) (h_q := h) (cl_q := 0) (sl_q := 0) rfl ?_
  refine ik_Wk 1 (pc_q := 1) (loc_q := [some (.ref 7), some (fI p)]) (st_q := [fI p]) (h_q := h) (cl_q := 0) (sl_q := 0) rfl ?_
  refine fw_if_lt rfl rfl (by omega) (by omega) (fun hc1 => ?_) (fun hc1 => ?_)
  · refine ik_Wk 1 (pc_q := 19) (loc_q := [some (.ref 7), some (fI p)]) (st_q := [fI 0]) (h_q := h) (cl_q := 0) (sl_q := 0) rfl ?_
    refine ik_Wret rfl rfl ⟨_, _, rfl, rfl, ?_⟩
    refine ik_Wk 0 (pc_q := 8) (loc_q := [some (.ref 0), some (fI p), some (fI 2), some (fI what)]) (st_q := [fI 0]) (h_q := h) (cl_q := 0) (sl_q := 0) rfl ?_
    refine fw_if_eq rfl rfl (by decide +kernel) (by decide +kernel) (fun hc2 => ?_) (fun hc2 => absurd hc2 (by decide +kernel))
    refine fw_ld (-1000000001) rfl rfl (by decide +kernel) ?_
    exact ik_Wret rfl rfl ⟨_, _, rfl, rfl, rfl, rfl, ⟨la, lb, bo, fe, bo_, sh, wh, wo, (-1000000001), rfl, h17, h19, h21, h25, h29, h33, h37, h41, h46, n46, h47, n47, h48, n48, h49, n49, h50, n50, q4, (hfr_refl [17, 19, 46, 47, 48, 49, 50, 21, 22, 23, 24, 25, 26, 27, 28, 29, 30, 31, 32, 33, 34, 35, 36, 37, 38, 39, 40, 41, 42, 43, 44] h)⟩⟩
  · refine ik_Wk 2 (pc_q := 6) (loc_q := [some (.ref 7), some (fI p)]) (st_q := [.ref 7, fI p]) (h_q := h) (cl_q := 0) (sl_q := 0) rfl ?_
    refine fw_gf rfl rfl h7 rfl ?_
    refine ik_Wk 1 (pc_q := 10) (loc_q := [some (.ref 7), some (fI p)]) (st_q := [fI 1, fI pl, fI p]) (h_q := h) (cl_q := 0) (sl_q := 0) rfl ?_
    refine fw_sub rfl ?_
    refine fw_ic_ge rfl rfl (by omega) (by omega) (by omega) (by omega) (fun hc3 => ?_) (fun hc3 => ?_)
    · refine ik_Wk 1 (pc_q := 19) (loc_q := [some (.ref 7), some (fI p)]) (st_q := [fI 0]) (h_q := h) (cl_q := 0) (sl_q := 0) rfl ?_
      refine ik_Wret rfl rfl ⟨_, _, rfl, rfl, ?_⟩
      refine ik_Wk 0 (pc_q := 8) (loc_q := [some (.ref 0), some (fI p), some (fI 2), some (fI what)]) (st_q := [fI 0]) (h_q := h) (cl_q := 0) (sl_q := 0) rfl ?_
      refine fw_if_eq rfl rfl (by decide +kernel) (by decide +kernel) (fun hc4 => ?_) (fun hc4 => absurd hc4 (by decide +kernel))
      refine fw_ld (-1000000001) rfl rfl (by decide +kernel) ?_
      exact ik_Wret rfl rfl ⟨_, _, rfl, rfl, rfl, rfl, ⟨la, lb, bo, fe, bo_, sh, wh, wo, (-1000000001), rfl, h17, h19, h21, h25, h29, h33, h37, h41, h46, n46, h47, n47, h48, n48, h49, n49, h50, n50, q4, (hfr_refl [17, 19, 46, 47, 48, 49, 50, 21, 22, 23, 24, 25, 26, 27, 28, 29, 30, 31, 32, 33, 34, 35, 36, 37, 38, 39, 40, 41, 42, 43, 44] h)⟩⟩
    · refine ik_Wk 2 (pc_q := 19) (loc_q := [some (.ref 7), some (fI p)]) (st_q := [fI 1]) (h_q := h) (cl_q := 0) (sl_q := 0) rfl ?_
      refine ik_Wret rfl rfl ⟨_, _, rfl, rfl, ?_⟩
      refine ik_Wk 0 (pc_q := 8) (loc_q := [some (.ref 0), some (fI p), some (fI 2), some (fI what)]) (st_q := [fI 1]) (h_q := h) (cl_q := 0) (sl_q := 0) rfl ?_
      refine fw_if_eq rfl rfl (by decide +kernel) (by decide +kernel) (fun hc5 => absurd hc5 (by decide +kernel)) (fun hc5 => ?_)
      refine ik_Wk 2 (pc_q := 13) (loc_q := [some (.ref 0), some (fI p), some (fI 2), some (fI what)]) (st_q := [.ref 0, fI 2]) (h_q := h) (cl_q := 0) (sl_q := 0) rfl ?_
      refine fw_gf rfl rfl h0 rfl ?_
      refine ik_Wc 2 1 0 [.ref 7] [fI 2] rfl rfl rfl (by decide +kernel) rfl rfl (fw_rec hl rfl h7 rfl (Nat.le_of_ble_eq_true rfl)) ?_
      refine ik_Wk 0 (pc_q := 0) (loc_q := [some (.ref 7)]) (st_q := []) (h_q := h) (cl_q := 0) (sl_q := 0) rfl ?_
      refine ik_Wk 1 (pc_q := 1) (loc_q := [some (.ref 7)]) (st_q := [.ref 7]) (h_q := h) (cl_q := 0) (sl_q := 0) rfl ?_
      refine fw_gf rfl rfl h7 rfl ?_
      refine ik_Wk 1 (pc_q := 5) (loc_q := [some (.ref 7)]) (st_q := [fI 1, fI pl]) (h_q := h) (cl_q := 0) (sl_q := 0) rfl ?_
      refine fw_sub rfl ?_
      refine ik_Wret rfl rfl ⟨_, _, rfl, rfl, ?_⟩
      refine ik_Wk 0 (pc_q := 19) (loc_q := [some (.ref 0), some (fI p), some (fI 2), some (fI what)]) (st_q := [fI (pl - 1), fI 2]) (h_q := h) (cl_q := 0) (sl_q := 0) rfl ?_
      refine ik_Wk 1 (pc_q := 20) (loc_q := [some (.ref 0), some (fI p), some (fI 2), some (fI what)]) (st_q := [fI p, fI (pl - 1), fI 2]) (h_q := h) (cl_q := 0) (sl_q := 0) rfl ?_
      refine fw_sub rfl ?_
      refine fw_ic_le rfl rfl (by omega) (by omega) (by omega) (by omega) (fun hc6 => ?_) (fun hc6 => ?_)
      · refine ik_Wk 2 (pc_q := 29) (loc_q := [some (.ref 0), some (fI p), some (fI 2), some (fI what)]) (st_q := [fI 1, fI 2]) (h_q := h) (cl_q := 0) (sl_q := 0) rfl ?_
        refine fw_ic_lt rfl rfl (by decide +kernel) (by decide +kernel) (by decide +kernel) (by decide +kernel) (fun hc7 => absurd hc7 (by decide +kernel)) (fun hc7 => ?_)
        refine ik_Wk 2 (pc_q := 34) (loc_q := [some (.ref 0), some (fI p), some (fI 2), some (fI what)]) (st_q := [fI 3, fI 2]) (h_q := h) (cl_q := 0) (sl_q := 0) rfl ?_
        refine fw_ic_gt rfl rfl (by decide +kernel) (by decide +kernel) (by decide +kernel) (by decide +kernel) (fun hc8 => absurd hc8 (by decide +kernel)) (fun hc8 => ?_)
        refine ik_Wk 1 (pc_q := 38) (loc_q := [some (.ref 0), some (fI p), some (fI 2), some (fI what)]) (st_q := [fI what]) (h_q := h) (cl_q := 0) (sl_q := 0) rfl ?_
        refine fw_if_lt rfl rfl (by omega) (by omega) (fun hc9 => ?_) (fun hc9 => ?_)
        · refine fw_ld (-1000000002) rfl rfl (by decide +kernel) ?_
          exact ik_Wret rfl rfl ⟨_, _, rfl, rfl, rfl, rfl, ⟨la, lb, bo, fe, bo_, sh, wh, wo, (-1000000002), rfl, h17, h19, h21, h25, h29, h33, h37, h41, h46, n46, h47, n47, h48, n48, h49, n49, h50, n50, q4, (hfr_refl [17, 19, 46, 47, 48, 49, 50, 21, 22, 23, 24, 25, 26, 27, 28, 29, 30, 31, 32, 33, 34, 35, 36, 37, 38, 39, 40, 41, 42, 43, 44] h)⟩⟩
        · refine ik_Wk 1 (pc_q := 42) (loc_q := [some (.ref 0), some (fI p), some (fI 2), some (fI what)]) (st_q := [fI what]) (h_q := h) (cl_q := 0) (sl_q := 0) rfl ?_
          refine fw_bi rfl (by decide +kernel) ?_
          refine fw_ic_le rfl rfl (by omega) (by omega) (by omega) (by omega) (fun hc10 => ?_) (fun hc10 => ?_)
          · refine ik_Wk 1 (pc_q := 51) (loc_q := [some (.ref 0), some (fI p), some (fI 2), some (fI what)]) (st_q := [.ref 0]) (h_q := h) (cl_q := 0) (sl_q := 0) rfl ?_
            refine fw_gf rfl rfl h0 rfl ?_
            refine ik_Wk 3 (pc_q := 57) (loc_q := [some (.ref 0), some (fI p), some (fI 2), some (fI what)]) (st_q := [.ref 0, fI 2, fI p, .ref 17]) (h_q := h) (cl_q := 0) (sl_q := 0) rfl ?_
            refine fw_gf rfl rfl h0 rfl ?_
            refine fw_gf rfl rfl h45 rfl ?_
            refine fw_call 84 4 0 [.ref 17, fI p, fI 2, .ref 46] [] rfl rfl rfl (Nat.le_of_ble_eq_true rfl) rfl rfl (fw_rec hl rfl h17 rfl (Nat.le_of_ble_eq_true rfl)) (cs_fears2 (pl := pl) (lo := lo) (s := s) (ka := ka) (pa := pa) (fa := fa) (kb := kb) (pb := pb) (fb := fb) (bo := bo) (la := la) (lb := lb) (p := p) (wg := wg) (wc := wc) (we := we) (fe := fe) (W := W) (by omega) (q1 (by omega)) (by omega) q2 q3 q4 h7 h11 n11 h12 n12 h13 n13 h15 h17 h18 h19 h21 h25 h29 h33 h37 h41 h46 n46 hl) ?_
            rintro _ h_732 ⟨l0_732, l1_732, l2_732, fe'_732, rfl, e_732_17, e_732_19, e_732_21, e_732_25, e_732_29, e_732_33, e_732_37, e_732_41, e_732_46, m_732_46, p_732_0, F_732⟩
            have k_732 : cL h_732 := F_732.1.trans hl
            have fr_732 := hfr_cb (hfr_refl [17, 19, 46, 47, 48, 49, 50, 21, 22, 23, 24, 25, 26, 27, 28, 29, 30, 31, 32, 33, 34, 35, 36, 37, 38, 39, 40, 41, 42, 43, 44] h) F_732 rfl
            have g_732_0 := (hfr_g F_732 0 rfl).trans h0
            have g_732_7 := (hfr_g F_732 7 rfl).trans h7
            have g_732_11 := (hfr_g F_732 11 rfl).trans h11
            have g_732_12 := (hfr_g F_732 12 rfl).trans h12
            have g_732_13 := (hfr_g F_732 13 rfl).trans h13
            have g_732_15 := (hfr_g F_732 15 rfl).trans h15
            have g_732_18 := (hfr_g F_732 18 rfl).trans h18
            have g_732_45 := (hfr_g F_732 45 rfl).trans h45
            have g_732_47 := (hfr_g F_732 47 rfl).trans h47
            have g_732_48 := (hfr_g F_732 48 rfl).trans h48
            have g_732_49 := (hfr_g F_732 49 rfl).trans h49
            have g_732_50 := (hfr_g F_732 50 rfl).trans h50
            have g_732_17 : cE h_732 17 (.inr (8, [.ref 7, .ref 15, .ref 18, .ref 19, fJ l2_732, .ref 20])) := e_732_17
            have g_732_19 : cE h_732 19 (.inl (.long, fL [l0_732, l1_732])) := e_732_19
            have g_732_21 : mf_cr h_732 21  := e_732_21
            have g_732_25 : mf_cr h_732 25  := e_732_25
            have g_732_29 : mf_cr h_732 29  := e_732_29
            have g_732_33 : mf_cr h_732 33  := e_732_33
            have g_732_37 : mf_cr h_732 37  := e_732_37
            have g_732_41 : mf_cr h_732 41  := e_732_41
            have g_732_46 : cE h_732 46 (.inl (.int, fA fe'_732)) := e_732_46
            refine ik_Wk 0 (pc_q := 66) (loc_q := [some (.ref 0), some (fI p), some (fI 2), some (fI what)]) (st_q := []) (h_q := h_732) (cl_q := 0) (sl_q := 0) rfl ?_
            refine ik_Wk 1 (pc_q := 67) (loc_q := [some (.ref 0), some (fI p), some (fI 2), some (fI what)]) (st_q := [.ref 0]) (h_q := h_732) (cl_q := 0) (sl_q := 0) rfl ?_
            refine fw_gf rfl rfl g_732_0 rfl ?_
            refine ik_Wk 1 (pc_q := 71) (loc_q := [some (.ref 0), some (fI p), some (fI 2), some (fI what)]) (st_q := [fI 2, .ref 45]) (h_q := h_732) (cl_q := 0) (sl_q := 0) rfl ?_
            refine fw_call 43 2 0 [.ref 45, fI 2] [] rfl rfl rfl (Nat.le_of_ble_eq_true rfl) rfl rfl (fw_rec k_732 rfl g_732_45 rfl (Nat.le_of_ble_eq_true rfl)) (cs_findPair (n := 2) (fe := fe'_732) (bo_ := bo_) (sh := sh) (wh := wh) (wo := wo) (by omega) p_732_0 g_732_45 g_732_46 m_732_46 g_732_47 n47 g_732_48 n48 g_732_49 n49 g_732_50 n50 k_732) ?_
            rintro _ h_733 ⟨bo'_733, sh'_733, wh'_733, wo'_733, b_733, rfl, e_733_47, m_733_47, e_733_48, m_733_48, e_733_49, m_733_49, e_733_50, m_733_50, p_733_0, F_733⟩
            have k_733 : cL h_733 := F_733.1.trans k_732
            have fr_733 := hfr_cb fr_732 F_733 rfl
            have g_733_0 := (hfr_g F_733 0 rfl).trans g_732_0
            have g_733_7 := (hfr_g F_733 7 rfl).trans g_732_7
            have g_733_11 := (hfr_g F_733 11 rfl).trans g_732_11
            have g_733_12 := (hfr_g F_733 12 rfl).trans g_732_12
            have g_733_13 := (hfr_g F_733 13 rfl).trans g_732_13
            have g_733_15 := (hfr_g F_733 15 rfl).trans g_732_15
            have g_733_17 := (hfr_g F_733 17 rfl).trans g_732_17
            have g_733_18 := (hfr_g F_733 18 rfl).trans g_732_18
            have g_733_19 := (hfr_g F_733 19 rfl).trans g_732_19
            have g_733_21 := mf_cr_f g_732_21 (hfr_g F_733 21 rfl) (hfr_g F_733 22 rfl) (hfr_g F_733 23 rfl) (hfr_g F_733 24 rfl)
            have g_733_25 := mf_cr_f g_732_25 (hfr_g F_733 25 rfl) (hfr_g F_733 26 rfl) (hfr_g F_733 27 rfl) (hfr_g F_733 28 rfl)
            have g_733_29 := mf_cr_f g_732_29 (hfr_g F_733 29 rfl) (hfr_g F_733 30 rfl) (hfr_g F_733 31 rfl) (hfr_g F_733 32 rfl)
            have g_733_33 := mf_cr_f g_732_33 (hfr_g F_733 33 rfl) (hfr_g F_733 34 rfl) (hfr_g F_733 35 rfl) (hfr_g F_733 36 rfl)
            have g_733_37 := mf_cr_f g_732_37 (hfr_g F_733 37 rfl) (hfr_g F_733 38 rfl) (hfr_g F_733 39 rfl) (hfr_g F_733 40 rfl)
            have g_733_41 := mf_cr_f g_732_41 (hfr_g F_733 41 rfl) (hfr_g F_733 42 rfl) (hfr_g F_733 43 rfl) (hfr_g F_733 44 rfl)
            have g_733_46 := (hfr_g F_733 46 rfl).trans g_732_46
            have g_733_45 := (hfr_g F_733 45 rfl).trans g_732_45
            have g_733_47 : cE h_733 47 (.inl (.long, fL bo'_733)) := e_733_47
            have g_733_48 : cE h_733 48 (.inl (.long, fL sh'_733)) := e_733_48
            have g_733_49 : cE h_733 49 (.inl (.long, fL wh'_733)) := e_733_49
            have g_733_50 : cE h_733 50 (.inl (.long, fL wo'_733)) := e_733_50
            refine ik_Wk 0 (pc_q := 74) (loc_q := [some (.ref 0), some (fI p), some (fI 2), some (fI what)]) (st_q := [fI b_733]) (h_q := h_733) (cl_q := 0) (sl_q := 0) rfl ?_
            refine fw_if_ne rfl rfl (by omega) (by omega) (fun hc11 => ?_) (fun hc11 => ?_)
            · refine fw_ld (-1000000003) rfl rfl (by decide +kernel) ?_
              exact ik_Wret rfl rfl ⟨_, _, rfl, rfl, rfl, rfl, ⟨l0_732, l1_732, l2_732, fe'_732, bo'_733, sh'_733, wh'_733, wo'_733, (-1000000003), rfl, g_733_17, g_733_19, g_733_21, g_733_25, g_733_29, g_733_33, g_733_37, g_733_41, g_733_46, m_732_46, g_733_47, m_733_47, g_733_48, m_733_48, g_733_49, m_733_49, g_733_50, m_733_50, p_732_0, fr_733⟩⟩
            · refine ik_Wk 1 (pc_q := 81) (loc_q := [some (.ref 0), some (fI p), some (fI 2), some (fI what)]) (st_q := [fI what]) (h_q := h_733) (cl_q := 0) (sl_q := 0) rfl ?_
              refine fw_if_ne rfl rfl (by omega) (by omega) (fun hc12 => ?_) (fun hc12 => ?_)
              · refine ik_Wk 1 (pc_q := 85) (loc_q := [some (.ref 0), some (fI p), some (fI 2), some (fI what)]) (st_q := [.ref 0]) (h_q := h_733) (cl_q := 0) (sl_q := 0) rfl ?_
                refine fw_gf rfl rfl g_733_0 rfl ?_
                refine ik_Wc 41 1 0 [.ref 45] [] rfl rfl rfl (by decide +kernel) rfl rfl (fw_rec k_733 rfl g_733_45 rfl (Nat.le_of_ble_eq_true rfl)) ?_
                refine ik_Wk 0 (pc_q := 0) (loc_q := [some (.ref 45)]) (st_q := []) (h_q := h_733) (cl_q := 0) (sl_q := 0) rfl ?_
                refine ik_Wk 1 (pc_q := 1) (loc_q := [some (.ref 45)]) (st_q := [.ref 45]) (h_q := h_733) (cl_q := 0) (sl_q := 0) rfl ?_
                refine fw_gf rfl rfl g_733_45 rfl ?_
                refine ik_Wk 1 (pc_q := 5) (loc_q := [some (.ref 45)]) (st_q := [fI 0, .ref 49]) (h_q := h_733) (cl_q := 0) (sl_q := 0) rfl ?_
                refine fx_lal rfl g_733_49 (by omega) (by omega) (by omega) ?_
                refine fw_lc (z := 0) rfl (by decide +kernel) ?_
                refine fx_lcx rfl (fun zc13 rzc13 szc13 => ?_)
                refine fw_if_le rfl rfl (by omega) (by omega) (fun hc14 => ?_) (fun hc14 => ?_)
                · refine ik_Wk 1 (pc_q := 33) (loc_q := [some (.ref 45)]) (st_q := [fI 0]) (h_q := h_733) (cl_q := 0) (sl_q := 0) rfl ?_
                  refine ik_Wret rfl rfl ⟨_, _, rfl, rfl, ?_⟩
                  refine ik_Wk 0 (pc_q := 91) (loc_q := [some (.ref 0), some (fI p), some (fI 2), some (fI what)]) (st_q := [fI 0]) (h_q := h_733) (cl_q := 0) (sl_q := 0) rfl ?_
                  refine ik_Wk 1 (pc_q := 111) (loc_q := [some (.ref 0), some (fI p), some (fI 2), some (fI what)]) (st_q := [fI 0]) (h_q := h_733) (cl_q := 0) (sl_q := 0) rfl ?_
                  exact ik_Wret rfl rfl ⟨_, _, rfl, rfl, rfl, rfl, ⟨l0_732, l1_732, l2_732, fe'_732, bo'_733, sh'_733, wh'_733, wo'_733, 0, rfl, g_733_17, g_733_19, g_733_21, g_733_25, g_733_29, g_733_33, g_733_37, g_733_41, g_733_46, m_732_46, g_733_47, m_733_47, g_733_48, m_733_48, g_733_49, m_733_49, g_733_50, m_733_50, p_732_0, fr_733⟩⟩
                · refine ik_Wk 1 (pc_q := 12) (loc_q := [some (.ref 45)]) (st_q := [.ref 45]) (h_q := h_733) (cl_q := 0) (sl_q := 0) rfl ?_
                  refine fw_gf rfl rfl g_733_45 rfl ?_
                  refine ik_Wk 1 (pc_q := 16) (loc_q := [some (.ref 45)]) (st_q := [fI 0, .ref 50]) (h_q := h_733) (cl_q := 0) (sl_q := 0) rfl ?_
                  refine fx_lal rfl g_733_50 (by omega) (by omega) (by omega) ?_
                  refine fw_l2 1000 rfl rfl (by decide +kernel) ?_
                  refine fw_lmul rfl ?_
                  refine ik_Wk 1 (pc_q := 22) (loc_q := [some (.ref 45)]) (st_q := [.ref 45, fJ ((wo'_733.getD (0 : Int).toNat 0) * 1000)]) (h_q := h_733) (cl_q := 0) (sl_q := 0) rfl ?_
                  refine fw_gf rfl rfl g_733_45 rfl ?_
                  refine ik_Wk 1 (pc_q := 26) (loc_q := [some (.ref 45)]) (st_q := [fI 0, .ref 49, fJ ((wo'_733.getD (0 : Int).toNat 0) * 1000)]) (h_q := h_733) (cl_q := 0) (sl_q := 0) rfl ?_
                  refine fx_lal rfl g_733_49 (by omega) (by omega) (by omega) ?_
                  refine fx_ldo rfl (by rcases szc13 with w | w; omega; exact fun e => w (e.trans (by decide +kernel))) (fun qd15 => ?_)
                  refine fx_l2i rfl ?_
                  refine ik_Wk 1 (pc_q := 33) (loc_q := [some (.ref 45)]) (st_q := [fI qd15]) (h_q := h_733) (cl_q := 0) (sl_q := 0) rfl ?_
                  refine ik_Wret rfl rfl ⟨_, _, rfl, rfl, ?_⟩
                  refine ik_Wk 0 (pc_q := 91) (loc_q := [some (.ref 0), some (fI p), some (fI 2), some (fI what)]) (st_q := [fI qd15]) (h_q := h_733) (cl_q := 0) (sl_q := 0) rfl ?_
                  refine ik_Wk 1 (pc_q := 111) (loc_q := [some (.ref 0), some (fI p), some (fI 2), some (fI what)]) (st_q := [fI qd15]) (h_q := h_733) (cl_q := 0) (sl_q := 0) rfl ?_
                  exact ik_Wret rfl rfl ⟨_, _, rfl, rfl, rfl, rfl, ⟨l0_732, l1_732, l2_732, fe'_732, bo'_733, sh'_733, wh'_733, wo'_733, qd15, rfl, g_733_17, g_733_19, g_733_21, g_733_25, g_733_29, g_733_33, g_733_37, g_733_41, g_733_46, m_732_46, g_733_47, m_733_47, g_733_48, m_733_48, g_733_49, m_733_49, g_733_50, m_733_50, p_732_0, fr_733⟩⟩
              · refine ik_Wk 1 (pc_q := 95) (loc_q := [some (.ref 0), some (fI p), some (fI 2), some (fI what)]) (st_q := [.ref 0]) (h_q := h_733) (cl_q := 0) (sl_q := 0) rfl ?_
                refine fw_gf rfl rfl g_733_0 rfl ?_
                refine ik_Wk 2 (pc_q := 100) (loc_q := [some (.ref 0), some (fI p), some (fI 2), some (fI what)]) (st_q := [fI 1, fI what, .ref 45]) (h_q := h_733) (cl_q := 0) (sl_q := 0) rfl ?_
                refine fw_sub rfl ?_
                refine ik_Wk 1 (pc_q := 102) (loc_q := [some (.ref 0), some (fI p), some (fI 2), some (fI what)]) (st_q := [fI 3, fI (what - 1), .ref 45]) (h_q := h_733) (cl_q := 0) (sl_q := 0) rfl ?_
                refine fx_idiv rfl (by omega) (by omega) (by omega) (by omega) ?_
                refine ik_Wk 2 (pc_q := 105) (loc_q := [some (.ref 0), some (fI p), some (fI 2), some (fI what)]) (st_q := [fI 1, fI what, fI ((what - 1) / 3), .ref 45]) (h_q := h_733) (cl_q := 0) (sl_q := 0) rfl ?_
                refine fw_sub rfl ?_
                refine ik_Wk 1 (pc_q := 107) (loc_q := [some (.ref 0), some (fI p), some (fI 2), some (fI what)]) (st_q := [fI 3, fI (what - 1), fI ((what - 1) / 3), .ref 45]) (h_q := h_733) (cl_q := 0) (sl_q := 0) rfl ?_
                refine fx_irem rfl (by omega) (by omega) (by omega) (by omega) ?_
                refine ik_Wc 42 3 0 [.ref 45, fI ((what - 1) / 3), fI ((what - 1) % 3)] [] rfl rfl rfl (by decide +kernel) rfl rfl (fw_rec k_733 rfl g_733_45 rfl (Nat.le_of_ble_eq_true rfl)) ?_
                refine ik_Wk 0 (pc_q := 0) (loc_q := [some (.ref 45), some (fI ((what - 1) / 3)), some (fI ((what - 1) % 3))]) (st_q := []) (h_q := h_733) (cl_q := 0) (sl_q := 0) rfl ?_
                refine ik_Wk 1 (pc_q := 1) (loc_q := [some (.ref 45), some (fI ((what - 1) / 3)), some (fI ((what - 1) % 3))]) (st_q := [.ref 45]) (h_q := h_733) (cl_q := 0) (sl_q := 0) rfl ?_
                refine fw_gf rfl rfl g_733_45 rfl ?_
                refine ik_Wk 1 (pc_q := 5) (loc_q := [some (.ref 45), some (fI ((what - 1) / 3)), some (fI ((what - 1) % 3))]) (st_q := [fI ((what - 1) / 3), .ref 49]) (h_q := h_733) (cl_q := 0) (sl_q := 0) rfl ?_
                refine fx_lal rfl g_733_49 (by omega) (by omega) (by omega) ?_
                refine fw_lc (z := 0) rfl (by decide +kernel) ?_
                refine fx_lcx rfl (fun zc16 rzc16 szc16 => ?_)
                refine fw_if_le rfl rfl (by omega) (by omega) (fun hc17 => ?_) (fun hc17 => ?_)
                · refine ik_Wk 1 (pc_q := 37) (loc_q := [some (.ref 45), some (fI ((what - 1) / 3)), some (fI ((what - 1) % 3))]) (st_q := [fI 0]) (h_q := h_733) (cl_q := 0) (sl_q := 0) rfl ?_
                  refine ik_Wret rfl rfl ⟨_, _, rfl, rfl, ?_⟩
                  refine ik_Wk 0 (pc_q := 111) (loc_q := [some (.ref 0), some (fI p), some (fI 2), some (fI what)]) (st_q := [fI 0]) (h_q := h_733) (cl_q := 0) (sl_q := 0) rfl ?_
                  exact ik_Wret rfl rfl ⟨_, _, rfl, rfl, rfl, rfl, ⟨l0_732, l1_732, l2_732, fe'_732, bo'_733, sh'_733, wh'_733, wo'_733, 0, rfl, g_733_17, g_733_19, g_733_21, g_733_25, g_733_29, g_733_33, g_733_37, g_733_41, g_733_46, m_732_46, g_733_47, m_733_47, g_733_48, m_733_48, g_733_49, m_733_49, g_733_50, m_733_50, p_732_0, fr_733⟩⟩
                · refine ik_Wk 1 (pc_q := 12) (loc_q := [some (.ref 45), some (fI ((what - 1) / 3)), some (fI ((what - 1) % 3))]) (st_q := [.ref 45]) (h_q := h_733) (cl_q := 0) (sl_q := 0) rfl ?_
                  refine fw_gf rfl rfl g_733_45 rfl ?_
                  refine ik_Wk 2 (pc_q := 17) (loc_q := [some (.ref 45), some (fI ((what - 1) / 3)), some (fI ((what - 1) % 3))]) (st_q := [fI 3, fI ((what - 1) / 3), .ref 48]) (h_q := h_733) (cl_q := 0) (sl_q := 0) rfl ?_
                  refine fx_mulc rfl ?_
                  refine ik_Wk 1 (pc_q := 19) (loc_q := [some (.ref 45), some (fI ((what - 1) / 3)), some (fI ((what - 1) % 3))]) (st_q := [fI ((what - 1) % 3), fI (3 * ((what - 1) / 3)), .ref 48]) (h_q := h_733) (cl_q := 0) (sl_q := 0) rfl ?_
                  refine fw_add rfl ?_
                  refine fx_lal rfl g_733_48 (by omega) (by omega) (by omega) ?_
                  refine fw_l2 1000000 rfl rfl (by decide +kernel) ?_
                  refine fw_lmul rfl ?_
                  refine ik_Wk 1 (pc_q := 26) (loc_q := [some (.ref 45), some (fI ((what - 1) / 3)), some (fI ((what - 1) % 3))]) (st_q := [.ref 45, fJ ((sh'_733.getD ((3 * ((what - 1) / 3)) + ((what - 1) % 3)).toNat 0) * 1000000)]) (h_q := h_733) (cl_q := 0) (sl_q := 0) rfl ?_
                  refine fw_gf rfl rfl g_733_45 rfl ?_
                  refine ik_Wk 1 (pc_q := 30) (loc_q := [some (.ref 45), some (fI ((what - 1) / 3)), some (fI ((what - 1) % 3))]) (st_q := [fI ((what - 1) / 3), .ref 49, fJ ((sh'_733.getD ((3 * ((what - 1) / 3)) + ((what - 1) % 3)).toNat 0) * 1000000)]) (h_q := h_733) (cl_q := 0) (sl_q := 0) rfl ?_
                  refine fx_lal rfl g_733_49 (by omega) (by omega) (by omega) ?_
                  refine fx_ldo rfl (by rcases szc16 with w | w; omega; exact fun e => w (e.trans (by decide +kernel))) (fun qd18 => ?_)
                  refine fx_l2i rfl ?_
                  refine ik_Wk 1 (pc_q := 37) (loc_q := [some (.ref 45), some (fI ((what - 1) / 3)), some (fI ((what - 1) % 3))]) (st_q := [fI qd18]) (h_q := h_733) (cl_q := 0) (sl_q := 0) rfl ?_
                  refine ik_Wret rfl rfl ⟨_, _, rfl, rfl, ?_⟩
                  refine ik_Wk 0 (pc_q := 111) (loc_q := [some (.ref 0), some (fI p), some (fI 2), some (fI what)]) (st_q := [fI qd18]) (h_q := h_733) (cl_q := 0) (sl_q := 0) rfl ?_
                  exact ik_Wret rfl rfl ⟨_, _, rfl, rfl, rfl, rfl, ⟨l0_732, l1_732, l2_732, fe'_732, bo'_733, sh'_733, wh'_733, wo'_733, qd18, rfl, g_733_17, g_733_19, g_733_21, g_733_25, g_733_29, g_733_33, g_733_37, g_733_41, g_733_46, m_732_46, g_733_47, m_733_47, g_733_48, m_733_48, g_733_49, m_733_49, g_733_50, m_733_50, p_732_0, fr_733⟩⟩
          · refine fw_ld (-1000000002) rfl rfl (by decide +kernel) ?_
            exact ik_Wret rfl rfl ⟨_, _, rfl, rfl, rfl, rfl, ⟨la, lb, bo, fe, bo_, sh, wh, wo, (-1000000002), rfl, h17, h19, h21, h25, h29, h33, h37, h41, h46, n46, h47, n47, h48, n48, h49, n49, h50, n50, q4, (hfr_refl [17, 19, 46, 47, 48, 49, 50, 21, 22, 23, 24, 25, 26, 27, 28, 29, 30, 31, 32, 33, 34, 35, 36, 37, 38, 39, 40, 41, 42, 43, 44] h)⟩⟩
      · refine fw_ld (-1000000001) rfl rfl (by decide +kernel) ?_
        exact ik_Wret rfl rfl ⟨_, _, rfl, rfl, rfl, rfl, ⟨la, lb, bo, fe, bo_, sh, wh, wo, (-1000000001), rfl, h17, h19, h21, h25, h29, h33, h37, h41, h46, n46, h47, n47, h48, n48, h49, n49, h50, n50, q4, (hfr_refl [17, 19, 46, 47, 48, 49, 50, 21, 22, 23, 24, 25, 26, 27, 28, 29, 30, 31, 32, 33, 34, 35, 36, 37, 38, 39, 40, 41, 42, 43, 44] h)⟩⟩

theorem cp_mixed3 {h : List ik_E} {pl : Int} {lo : Int} {s : Nat} {ka : Int} {pa : Int} {fa : Int} {kb : Int} {pb : Int} {fb : Int} {bo : Int} {la : Int} {lb : Int} {wg : List Int} {wc : List Int} {we : List Int} {W : Int → List (Int × Int)} {fe : List Int} {bo_ : List Int} {sh : List Int} {wh : List Int} {wo : List Int} {p : Int} {what : Int} (q0 : 0 ≤ pl ∧ pl ≤ 12) (q1 : 1 < pl → 0 ≤ ka ∧ ka ≤ 2 ∧ 0 ≤ kb ∧ kb ≤ 2) (q2 : ∀ x : Int, (0 : Int) ≤ x → x < pl - 1 → mx_wy wg wc we x (W x)) (q3 : ∀ x : Int, (0 : Int) ≤ x → x < pl - 1 → mx_ok pl (W x)) (q4 : ∀ i : Int, (0 : Int) ≤ i → i < (9 : Int) → 0 ≤ fe.getD i.toNat 0 ∧ fe.getD i.toNat 0 ≤ 1000) (q5 : (-2147483648 : Int) ≤ p ∧ p < (2147483648 : Int)) (q6 : (-2147483648 : Int) ≤ what ∧ what < (2147483648 : Int)) (h0 : cE h 0 (.inr (9, [.ref 1, .ref 7, .ref 14, .ref 17, .ref 45, .ref 51, .ref 54, .ref 57]))) (h7 : cE h 7 (.inr (0, [fI pl, fI ((s : Nat) : Int), fI lo, .ref 8, .ref 9, .ref 10, .ref 11, .ref 12, .ref 13]))) (h11 : cE h 11 (.inl (.int, fA wg))) (n11 : wg.length = (60 : Nat)) (h12 : cE h 12 (.inl (.int, fA wc))) (n12 : wc.length = (60 : Nat)) (h13 : cE h 13 (.inl (.int, fA we))) (n13 : we.length = (12 : Nat)) (h15 : cE h 15 (.inl (.int, fA [ka, pa, fa, kb, pb, fb]))) (h17 : cE h 17 (.inr (8, [.ref 7, .ref 15, .ref 18, .ref 19, fJ bo, .ref 20]))) (h18 : cE h 18 (.inl (.object "SlowerCork$Course", [.ref 21, .ref 25, .ref 29, .ref 33, .ref 37, .ref 41]))) (h19 : cE h 19 (.inl (.long, fL [la, lb]))) (h21 : mf_cr h 21 ) (h25 : mf_cr h 25 ) (h29 : mf_cr h 29 ) (h33 : mf_cr h 33 ) (h37 : mf_cr h 37 ) (h41 : mf_cr h 41 ) (h46 : cE h 46 (.inl (.int, fA fe))) (n46 : fe.length = (9 : Nat)) (h45 : cE h 45 (.inr (5, [.ref 46, .ref 47, .ref 48, .ref 49, .ref 50]))) (h47 : cE h 47 (.inl (.long, fL bo_))) (n47 : bo_.length = (12 : Nat)) (h48 : cE h 48 (.inl (.long, fL sh))) (n48 : sh.length = (6 : Nat)) (h49 : cE h 49 (.inl (.long, fL wh))) (n49 : wh.length = (2 : Nat)) (h50 : cE h 50 (.inl (.long, fL wo))) (n50 : wo.length = (2 : Nat)) (hl : h.length = (94 : Nat)) : ik_F 102 [.ref 0, fI p, fI 3, fI what] h (fun rv h_q => ∃ (l0 : Int) (l1 : Int) (l2 : Int) (fe' : List Int) (bo' : List Int) (sh' : List Int) (wh' : List Int) (wo' : List Int) (v : Int), rv = [fI v] ∧ cE h_q 17 (.inr (8, [.ref 7, .ref 15, .ref 18, .ref 19, fJ l2, .ref 20])) ∧ cE h_q 19 (.inl (.long, fL [l0, l1])) ∧ mf_cr h_q 21  ∧ mf_cr h_q 25  ∧ mf_cr h_q 29  ∧ mf_cr h_q 33  ∧ mf_cr h_q 37  ∧ mf_cr h_q 41  ∧ cE h_q 46 (.inl (.int, fA fe')) ∧ fe'.length = (9 : Nat) ∧ cE h_q 47 (.inl (.long, fL bo')) ∧ bo'.length = (12 : Nat) ∧ cE h_q 48 (.inl (.long, fL sh')) ∧ sh'.length = (6 : Nat) ∧ cE h_q 49 (.inl (.long, fL wh')) ∧ wh'.length = (2 : Nat) ∧ cE h_q 50 (.inl (.long, fL wo')) ∧ wo'.length = (2 : Nat) ∧ (∀ i : Int, (0 : Int) ≤ i → i < (9 : Int) → 0 ≤ fe'.getD i.toNat 0 ∧ fe'.getD i.toNat 0 ≤ 1000) ∧ hfr [17, 19, 46, 47, 48, 49, 50, 21, 22, 23, 24, 25, 26, 27, 28, 29, 30, 31, 32, 33, 34, 35, 36, 37, 38, 39, 40, 41, 42, 43, 44] h h_q) := by
  refine ik_Wk 1 (pc_q := 1) (loc_q := [some (.ref 0), some (fI p), some (fI 3), some (fI what)]) (st_q := [.ref 0]) (h_q := h) (cl_q := 0) (sl_q := 0) rfl ?_
  refine fw_gf rfl rfl h0 rfl ?_
  refine ik_Wk 1 (pc_q := 5) (loc_q := [some (.ref 0), some (fI p), some (fI 3), some (fI what)]) (st_q := [fI p, .ref 7]) (h_q := h) (cl_q := 0) (sl_q := 0) rfl ?_
  refine ik_Wc 4 2 0 [.ref 7, fI p] [] rfl rfl rfl (by decide +kernel) rfl rfl (fw_rec hl rfl h7 rfl (Nat.le_of_ble_eq_true rfl)) ?_
  refine ik_Wk 0 (pc_q := 0) (loc_q := [some (.ref 7), some (fI p)]) (st_q := []) (h_q := h) (cl_q := 0) (sl_q := 0) rfl ?_
  refine ik_Wk 1 (pc_q := 1) (loc_q := [some (.ref 7), some (fI p)]) (st_q := [fI p]) (h_q := h) (cl_q := 0) (sl_q := 0) rfl ?_
  refine fw_if_lt rfl rfl (by omega) (by omega) (fun hc1 => ?_) (fun hc1 => ?_)
  · refine ik_Wk 1 (pc_q := 19) (loc_q := [some (.ref 7), some (fI p)]) (st_q := [fI 0]) (h_q := h) (cl_q := 0) (sl_q := 0) rfl ?_
    refine ik_Wret rfl rfl ⟨_, _, rfl, rfl, ?_⟩
    refine ik_Wk 0 (pc_q := 8) (loc_q := [some (.ref 0), some (fI p), some (fI 3), some (fI what)]) (st_q := [fI 0]) (h_q := h) (cl_q := 0) (sl_q := 0) rfl ?_
    refine fw_if_eq rfl rfl (by decide +kernel) (by decide +kernel) (fun hc2 => ?_) (fun hc2 => absurd hc2 (by decide +kernel))
    refine fw_ld (-1000000001) rfl rfl (by decide +kernel) ?_
    exact ik_Wret rfl rfl ⟨_, _, rfl, rfl, rfl, rfl, ⟨la, lb, bo, fe, bo_, sh, wh, wo, (-1000000001), rfl, h17, h19, h21, h25, h29, h33, h37, h41, h46, n46, h47, n47, h48, n48, h49, n49, h50, n50, q4, (hfr_refl [17, 19, 46, 47, 48, 49, 50, 21, 22, 23, 24, 25, 26, 27, 28, 29, 30, 31, 32, 33, 34, 35, 36, 37, 38, 39, 40, 41, 42, 43, 44] h)⟩⟩
  · refine ik_Wk 2 (pc_q := 6) (loc_q := [some (.ref 7), some (fI p)]) (st_q := [.ref 7, fI p]) (h_q := h) (cl_q := 0) (sl_q := 0) rfl ?_
    refine fw_gf rfl rfl h7 rfl ?_
    refine ik_Wk 1 (pc_q := 10) (loc_q := [some (.ref 7), some (fI p)]) (st_q := [fI 1, fI pl, fI p]) (h_q := h) (cl_q := 0) (sl_q := 0) rfl ?_
    refine fw_sub rfl ?_
    refine fw_ic_ge rfl rfl (by omega) (by omega) (by omega) (by omega) (fun hc3 => ?_) (fun hc3 => ?_)
    · refine ik_Wk 1 (pc_q := 19) (loc_q := [some (.ref 7), some (fI p)]) (st_q := [fI 0]) (h_q := h) (cl_q := 0) (sl_q := 0) rfl ?_
      refine ik_Wret rfl rfl ⟨_, _, rfl, rfl, ?_⟩
      refine ik_Wk 0 (pc_q := 8) (loc_q := [some (.ref 0), some (fI p), some (fI 3), some (fI what)]) (st_q := [fI 0]) (h_q := h) (cl_q := 0) (sl_q := 0) rfl ?_
      refine fw_if_eq rfl rfl (by decide +kernel) (by decide +kernel) (fun hc4 => ?_) (fun hc4 => absurd hc4 (by decide +kernel))
      refine fw_ld (-1000000001) rfl rfl (by decide +kernel) ?_
      exact ik_Wret rfl rfl ⟨_, _, rfl, rfl, rfl, rfl, ⟨la, lb, bo, fe, bo_, sh, wh, wo, (-1000000001), rfl, h17, h19, h21, h25, h29, h33, h37, h41, h46, n46, h47, n47, h48, n48, h49, n49, h50, n50, q4, (hfr_refl [17, 19, 46, 47, 48, 49, 50, 21, 22, 23, 24, 25, 26, 27, 28, 29, 30, 31, 32, 33, 34, 35, 36, 37, 38, 39, 40, 41, 42, 43, 44] h)⟩⟩
    · refine ik_Wk 2 (pc_q := 19) (loc_q := [some (.ref 7), some (fI p)]) (st_q := [fI 1]) (h_q := h) (cl_q := 0) (sl_q := 0) rfl ?_
      refine ik_Wret rfl rfl ⟨_, _, rfl, rfl, ?_⟩
      refine ik_Wk 0 (pc_q := 8) (loc_q := [some (.ref 0), some (fI p), some (fI 3), some (fI what)]) (st_q := [fI 1]) (h_q := h) (cl_q := 0) (sl_q := 0) rfl ?_
      refine fw_if_eq rfl rfl (by decide +kernel) (by decide +kernel) (fun hc5 => absurd hc5 (by decide +kernel)) (fun hc5 => ?_)
      refine ik_Wk 2 (pc_q := 13) (loc_q := [some (.ref 0), some (fI p), some (fI 3), some (fI what)]) (st_q := [.ref 0, fI 3]) (h_q := h) (cl_q := 0) (sl_q := 0) rfl ?_
      refine fw_gf rfl rfl h0 rfl ?_
      refine ik_Wc 2 1 0 [.ref 7] [fI 3] rfl rfl rfl (by decide +kernel) rfl rfl (fw_rec hl rfl h7 rfl (Nat.le_of_ble_eq_true rfl)) ?_
      refine ik_Wk 0 (pc_q := 0) (loc_q := [some (.ref 7)]) (st_q := []) (h_q := h) (cl_q := 0) (sl_q := 0) rfl ?_
      refine ik_Wk 1 (pc_q := 1) (loc_q := [some (.ref 7)]) (st_q := [.ref 7]) (h_q := h) (cl_q := 0) (sl_q := 0) rfl ?_
      refine fw_gf rfl rfl h7 rfl ?_
      refine ik_Wk 1 (pc_q := 5) (loc_q := [some (.ref 7)]) (st_q := [fI 1, fI pl]) (h_q := h) (cl_q := 0) (sl_q := 0) rfl ?_
      refine fw_sub rfl ?_
      refine ik_Wret rfl rfl ⟨_, _, rfl, rfl, ?_⟩
      refine ik_Wk 0 (pc_q := 19) (loc_q := [some (.ref 0), some (fI p), some (fI 3), some (fI what)]) (st_q := [fI (pl - 1), fI 3]) (h_q := h) (cl_q := 0) (sl_q := 0) rfl ?_
      refine ik_Wk 1 (pc_q := 20) (loc_q := [some (.ref 0), some (fI p), some (fI 3), some (fI what)]) (st_q := [fI p, fI (pl - 1), fI 3]) (h_q := h) (cl_q := 0) (sl_q := 0) rfl ?_
      refine fw_sub rfl ?_
      refine fw_ic_le rfl rfl (by omega) (by omega) (by omega) (by omega) (fun hc6 => ?_) (fun hc6 => ?_)
      · refine ik_Wk 2 (pc_q := 29) (loc_q := [some (.ref 0), some (fI p), some (fI 3), some (fI what)]) (st_q := [fI 1, fI 3]) (h_q := h) (cl_q := 0) (sl_q := 0) rfl ?_
        refine fw_ic_lt rfl rfl (by decide +kernel) (by decide +kernel) (by decide +kernel) (by decide +kernel) (fun hc7 => absurd hc7 (by decide +kernel)) (fun hc7 => ?_)
        refine ik_Wk 2 (pc_q := 34) (loc_q := [some (.ref 0), some (fI p), some (fI 3), some (fI what)]) (st_q := [fI 3, fI 3]) (h_q := h) (cl_q := 0) (sl_q := 0) rfl ?_
        refine fw_ic_gt rfl rfl (by decide +kernel) (by decide +kernel) (by decide +kernel) (by decide +kernel) (fun hc8 => absurd hc8 (by decide +kernel)) (fun hc8 => ?_)
        refine ik_Wk 1 (pc_q := 38) (loc_q := [some (.ref 0), some (fI p), some (fI 3), some (fI what)]) (st_q := [fI what]) (h_q := h) (cl_q := 0) (sl_q := 0) rfl ?_
        refine fw_if_lt rfl rfl (by omega) (by omega) (fun hc9 => ?_) (fun hc9 => ?_)
        · refine fw_ld (-1000000002) rfl rfl (by decide +kernel) ?_
          exact ik_Wret rfl rfl ⟨_, _, rfl, rfl, rfl, rfl, ⟨la, lb, bo, fe, bo_, sh, wh, wo, (-1000000002), rfl, h17, h19, h21, h25, h29, h33, h37, h41, h46, n46, h47, n47, h48, n48, h49, n49, h50, n50, q4, (hfr_refl [17, 19, 46, 47, 48, 49, 50, 21, 22, 23, 24, 25, 26, 27, 28, 29, 30, 31, 32, 33, 34, 35, 36, 37, 38, 39, 40, 41, 42, 43, 44] h)⟩⟩
        · refine ik_Wk 1 (pc_q := 42) (loc_q := [some (.ref 0), some (fI p), some (fI 3), some (fI what)]) (st_q := [fI what]) (h_q := h) (cl_q := 0) (sl_q := 0) rfl ?_
          refine fw_bi rfl (by decide +kernel) ?_
          refine fw_ic_le rfl rfl (by omega) (by omega) (by omega) (by omega) (fun hc10 => ?_) (fun hc10 => ?_)
          · refine ik_Wk 1 (pc_q := 51) (loc_q := [some (.ref 0), some (fI p), some (fI 3), some (fI what)]) (st_q := [.ref 0]) (h_q := h) (cl_q := 0) (sl_q := 0) rfl ?_
            refine fw_gf rfl rfl h0 rfl ?_
            refine ik_Wk 3 (pc_q := 57) (loc_q := [some (.ref 0), some (fI p), some (fI 3), some (fI what)]) (st_q := [.ref 0, fI 3, fI p, .ref 17]) (h_q := h) (cl_q := 0) (sl_q := 0) rfl ?_
            refine fw_gf rfl rfl h0 rfl ?_
            refine fw_gf rfl rfl h45 rfl ?_
            refine fw_call 84 4 0 [.ref 17, fI p, fI 3, .ref 46] [] rfl rfl rfl (Nat.le_of_ble_eq_true rfl) rfl rfl (fw_rec hl rfl h17 rfl (Nat.le_of_ble_eq_true rfl)) (cs_fears3 (pl := pl) (lo := lo) (s := s) (ka := ka) (pa := pa) (fa := fa) (kb := kb) (pb := pb) (fb := fb) (bo := bo) (la := la) (lb := lb) (p := p) (wg := wg) (wc := wc) (we := we) (fe := fe) (W := W) (by omega) (q1 (by omega)) (by omega) q2 q3 q4 h7 h11 n11 h12 n12 h13 n13 h15 h17 h18 h19 h21 h25 h29 h33 h37 h41 h46 n46 hl) ?_
            rintro _ h_734 ⟨l0_734, l1_734, l2_734, fe'_734, rfl, e_734_17, e_734_19, e_734_21, e_734_25, e_734_29, e_734_33, e_734_37, e_734_41, e_734_46, m_734_46, p_734_0, F_734⟩
            have k_734 : cL h_734 := F_734.1.trans hl
            have fr_734 := hfr_cb (hfr_refl [17, 19, 46, 47, 48, 49, 50, 21, 22, 23, 24, 25, 26, 27, 28, 29, 30, 31, 32, 33, 34, 35, 36, 37, 38, 39, 40, 41, 42, 43, 44] h) F_734 rfl
            have g_734_0 := (hfr_g F_734 0 rfl).trans h0
            have g_734_7 := (hfr_g F_734 7 rfl).trans h7
            have g_734_11 := (hfr_g F_734 11 rfl).trans h11
            have g_734_12 := (hfr_g F_734 12 rfl).trans h12
            have g_734_13 := (hfr_g F_734 13 rfl).trans h13
            have g_734_15 := (hfr_g F_734 15 rfl).trans h15
            have g_734_18 := (hfr_g F_734 18 rfl).trans h18
            have g_734_45 := (hfr_g F_734 45 rfl).trans h45
            have g_734_47 := (hfr_g F_734 47 rfl).trans h47
            have g_734_48 := (hfr_g F_734 48 rfl).trans h48
            have g_734_49 := (hfr_g F_734 49 rfl).trans h49
            have g_734_50 := (hfr_g F_734 50 rfl).trans h50
            have g_734_17 : cE h_734 17 (.inr (8, [.ref 7, .ref 15, .ref 18, .ref 19, fJ l2_734, .ref 20])) := e_734_17
            have g_734_19 : cE h_734 19 (.inl (.long, fL [l0_734, l1_734])) := e_734_19
            have g_734_21 : mf_cr h_734 21  := e_734_21
            have g_734_25 : mf_cr h_734 25  := e_734_25
            have g_734_29 : mf_cr h_734 29  := e_734_29
            have g_734_33 : mf_cr h_734 33  := e_734_33
            have g_734_37 : mf_cr h_734 37  := e_734_37
            have g_734_41 : mf_cr h_734 41  := e_734_41
            have g_734_46 : cE h_734 46 (.inl (.int, fA fe'_734)) := e_734_46
            refine ik_Wk 0 (pc_q := 66) (loc_q := [some (.ref 0), some (fI p), some (fI 3), some (fI what)]) (st_q := []) (h_q := h_734) (cl_q := 0) (sl_q := 0) rfl ?_
            refine ik_Wk 1 (pc_q := 67) (loc_q := [some (.ref 0), some (fI p), some (fI 3), some (fI what)]) (st_q := [.ref 0]) (h_q := h_734) (cl_q := 0) (sl_q := 0) rfl ?_
            refine fw_gf rfl rfl g_734_0 rfl ?_
            refine ik_Wk 1 (pc_q := 71) (loc_q := [some (.ref 0), some (fI p), some (fI 3), some (fI what)]) (st_q := [fI 3, .ref 45]) (h_q := h_734) (cl_q := 0) (sl_q := 0) rfl ?_
            refine fw_call 43 2 0 [.ref 45, fI 3] [] rfl rfl rfl (Nat.le_of_ble_eq_true rfl) rfl rfl (fw_rec k_734 rfl g_734_45 rfl (Nat.le_of_ble_eq_true rfl)) (cs_findPair (n := 3) (fe := fe'_734) (bo_ := bo_) (sh := sh) (wh := wh) (wo := wo) (by omega) p_734_0 g_734_45 g_734_46 m_734_46 g_734_47 n47 g_734_48 n48 g_734_49 n49 g_734_50 n50 k_734) ?_
            rintro _ h_735 ⟨bo'_735, sh'_735, wh'_735, wo'_735, b_735, rfl, e_735_47, m_735_47, e_735_48, m_735_48, e_735_49, m_735_49, e_735_50, m_735_50, p_735_0, F_735⟩
            have k_735 : cL h_735 := F_735.1.trans k_734
            have fr_735 := hfr_cb fr_734 F_735 rfl
            have g_735_0 := (hfr_g F_735 0 rfl).trans g_734_0
            have g_735_7 := (hfr_g F_735 7 rfl).trans g_734_7
            have g_735_11 := (hfr_g F_735 11 rfl).trans g_734_11
            have g_735_12 := (hfr_g F_735 12 rfl).trans g_734_12
            have g_735_13 := (hfr_g F_735 13 rfl).trans g_734_13
            have g_735_15 := (hfr_g F_735 15 rfl).trans g_734_15
            have g_735_17 := (hfr_g F_735 17 rfl).trans g_734_17
            have g_735_18 := (hfr_g F_735 18 rfl).trans g_734_18
            have g_735_19 := (hfr_g F_735 19 rfl).trans g_734_19
            have g_735_21 := mf_cr_f g_734_21 (hfr_g F_735 21 rfl) (hfr_g F_735 22 rfl) (hfr_g F_735 23 rfl) (hfr_g F_735 24 rfl)
            have g_735_25 := mf_cr_f g_734_25 (hfr_g F_735 25 rfl) (hfr_g F_735 26 rfl) (hfr_g F_735 27 rfl) (hfr_g F_735 28 rfl)
            have g_735_29 := mf_cr_f g_734_29 (hfr_g F_735 29 rfl) (hfr_g F_735 30 rfl) (hfr_g F_735 31 rfl) (hfr_g F_735 32 rfl)
            have g_735_33 := mf_cr_f g_734_33 (hfr_g F_735 33 rfl) (hfr_g F_735 34 rfl) (hfr_g F_735 35 rfl) (hfr_g F_735 36 rfl)
            have g_735_37 := mf_cr_f g_734_37 (hfr_g F_735 37 rfl) (hfr_g F_735 38 rfl) (hfr_g F_735 39 rfl) (hfr_g F_735 40 rfl)
            have g_735_41 := mf_cr_f g_734_41 (hfr_g F_735 41 rfl) (hfr_g F_735 42 rfl) (hfr_g F_735 43 rfl) (hfr_g F_735 44 rfl)
            have g_735_46 := (hfr_g F_735 46 rfl).trans g_734_46
            have g_735_45 := (hfr_g F_735 45 rfl).trans g_734_45
            have g_735_47 : cE h_735 47 (.inl (.long, fL bo'_735)) := e_735_47
            have g_735_48 : cE h_735 48 (.inl (.long, fL sh'_735)) := e_735_48
            have g_735_49 : cE h_735 49 (.inl (.long, fL wh'_735)) := e_735_49
            have g_735_50 : cE h_735 50 (.inl (.long, fL wo'_735)) := e_735_50
            refine ik_Wk 0 (pc_q := 74) (loc_q := [some (.ref 0), some (fI p), some (fI 3), some (fI what)]) (st_q := [fI b_735]) (h_q := h_735) (cl_q := 0) (sl_q := 0) rfl ?_
            refine fw_if_ne rfl rfl (by omega) (by omega) (fun hc11 => ?_) (fun hc11 => ?_)
            · refine fw_ld (-1000000003) rfl rfl (by decide +kernel) ?_
              exact ik_Wret rfl rfl ⟨_, _, rfl, rfl, rfl, rfl, ⟨l0_734, l1_734, l2_734, fe'_734, bo'_735, sh'_735, wh'_735, wo'_735, (-1000000003), rfl, g_735_17, g_735_19, g_735_21, g_735_25, g_735_29, g_735_33, g_735_37, g_735_41, g_735_46, m_734_46, g_735_47, m_735_47, g_735_48, m_735_48, g_735_49, m_735_49, g_735_50, m_735_50, p_734_0, fr_735⟩⟩
            · refine ik_Wk 1 (pc_q := 81) (loc_q := [some (.ref 0), some (fI p), some (fI 3), some (fI what)]) (st_q := [fI what]) (h_q := h_735) (cl_q := 0) (sl_q := 0) rfl ?_
              refine fw_if_ne rfl rfl (by omega) (by omega) (fun hc12 => ?_) (fun hc12 => ?_)
              · refine ik_Wk 1 (pc_q := 85) (loc_q := [some (.ref 0), some (fI p), some (fI 3), some (fI what)]) (st_q := [.ref 0]) (h_q := h_735) (cl_q := 0) (sl_q := 0) rfl ?_
                refine fw_gf rfl rfl g_735_0 rfl ?_
                refine ik_Wc 41 1 0 [.ref 45] [] rfl rfl rfl (by decide +kernel) rfl rfl (fw_rec k_735 rfl g_735_45 rfl (Nat.le_of_ble_eq_true rfl)) ?_
                refine ik_Wk 0 (pc_q := 0) (loc_q := [some (.ref 45)]) (st_q := []) (h_q := h_735) (cl_q := 0) (sl_q := 0) rfl ?_
                refine ik_Wk 1 (pc_q := 1) (loc_q := [some (.ref 45)]) (st_q := [.ref 45]) (h_q := h_735) (cl_q := 0) (sl_q := 0) rfl ?_
                refine fw_gf rfl rfl g_735_45 rfl ?_
                refine ik_Wk 1 (pc_q := 5) (loc_q := [some (.ref 45)]) (st_q := [fI 0, .ref 49]) (h_q := h_735) (cl_q := 0) (sl_q := 0) rfl ?_
                refine fx_lal rfl g_735_49 (by omega) (by omega) (by omega) ?_
                refine fw_lc (z := 0) rfl (by decide +kernel) ?_
                refine fx_lcx rfl (fun zc13 rzc13 szc13 => ?_)
                refine fw_if_le rfl rfl (by omega) (by omega) (fun hc14 => ?_) (fun hc14 => ?_)
                · refine ik_Wk 1 (pc_q := 33) (loc_q := [some (.ref 45)]) (st_q := [fI 0]) (h_q := h_735) (cl_q := 0) (sl_q := 0) rfl ?_
                  refine ik_Wret rfl rfl ⟨_, _, rfl, rfl, ?_⟩
                  refine ik_Wk 0 (pc_q := 91) (loc_q := [some (.ref 0), some (fI p), some (fI 3), some (fI what)]) (st_q := [fI 0]) (h_q := h_735) (cl_q := 0) (sl_q := 0) rfl ?_
                  refine ik_Wk 1 (pc_q := 111) (loc_q := [some (.ref 0), some (fI p), some (fI 3), some (fI what)]) (st_q := [fI 0]) (h_q := h_735) (cl_q := 0) (sl_q := 0) rfl ?_
                  exact ik_Wret rfl rfl ⟨_, _, rfl, rfl, rfl, rfl, ⟨l0_734, l1_734, l2_734, fe'_734, bo'_735, sh'_735, wh'_735, wo'_735, 0, rfl, g_735_17, g_735_19, g_735_21, g_735_25, g_735_29, g_735_33, g_735_37, g_735_41, g_735_46, m_734_46, g_735_47, m_735_47, g_735_48, m_735_48, g_735_49, m_735_49, g_735_50, m_735_50, p_734_0, fr_735⟩⟩
                · refine ik_Wk 1 (pc_q := 12) (loc_q := [some (.ref 45)]) (st_q := [.ref 45]) (h_q := h_735) (cl_q := 0) (sl_q := 0) rfl ?_
                  refine fw_gf rfl rfl g_735_45 rfl ?_
                  refine ik_Wk 1 (pc_q := 16) (loc_q := [some (.ref 45)]) (st_q := [fI 0, .ref 50]) (h_q := h_735) (cl_q := 0) (sl_q := 0) rfl ?_
                  refine fx_lal rfl g_735_50 (by omega) (by omega) (by omega) ?_
                  refine fw_l2 1000 rfl rfl (by decide +kernel) ?_
                  refine fw_lmul rfl ?_
                  refine ik_Wk 1 (pc_q := 22) (loc_q := [some (.ref 45)]) (st_q := [.ref 45, fJ ((wo'_735.getD (0 : Int).toNat 0) * 1000)]) (h_q := h_735) (cl_q := 0) (sl_q := 0) rfl ?_
                  refine fw_gf rfl rfl g_735_45 rfl ?_
                  refine ik_Wk 1 (pc_q := 26) (loc_q := [some (.ref 45)]) (st_q := [fI 0, .ref 49, fJ ((wo'_735.getD (0 : Int).toNat 0) * 1000)]) (h_q := h_735) (cl_q := 0) (sl_q := 0) rfl ?_
                  refine fx_lal rfl g_735_49 (by omega) (by omega) (by omega) ?_
                  refine fx_ldo rfl (by rcases szc13 with w | w; omega; exact fun e => w (e.trans (by decide +kernel))) (fun qd15 => ?_)
                  refine fx_l2i rfl ?_
                  refine ik_Wk 1 (pc_q := 33) (loc_q := [some (.ref 45)]) (st_q := [fI qd15]) (h_q := h_735) (cl_q := 0) (sl_q := 0) rfl ?_
                  refine ik_Wret rfl rfl ⟨_, _, rfl, rfl, ?_⟩
                  refine ik_Wk 0 (pc_q := 91) (loc_q := [some (.ref 0), some (fI p), some (fI 3), some (fI what)]) (st_q := [fI qd15]) (h_q := h_735) (cl_q := 0) (sl_q := 0) rfl ?_
                  refine ik_Wk 1 (pc_q := 111) (loc_q := [some (.ref 0), some (fI p), some (fI 3), some (fI what)]) (st_q := [fI qd15]) (h_q := h_735) (cl_q := 0) (sl_q := 0) rfl ?_
                  exact ik_Wret rfl rfl ⟨_, _, rfl, rfl, rfl, rfl, ⟨l0_734, l1_734, l2_734, fe'_734, bo'_735, sh'_735, wh'_735, wo'_735, qd15, rfl, g_735_17, g_735_19, g_735_21, g_735_25, g_735_29, g_735_33, g_735_37, g_735_41, g_735_46, m_734_46, g_735_47, m_735_47, g_735_48, m_735_48, g_735_49, m_735_49, g_735_50, m_735_50, p_734_0, fr_735⟩⟩
              · refine ik_Wk 1 (pc_q := 95) (loc_q := [some (.ref 0), some (fI p), some (fI 3), some (fI what)]) (st_q := [.ref 0]) (h_q := h_735) (cl_q := 0) (sl_q := 0) rfl ?_
                refine fw_gf rfl rfl g_735_0 rfl ?_
                refine ik_Wk 2 (pc_q := 100) (loc_q := [some (.ref 0), some (fI p), some (fI 3), some (fI what)]) (st_q := [fI 1, fI what, .ref 45]) (h_q := h_735) (cl_q := 0) (sl_q := 0) rfl ?_
                refine fw_sub rfl ?_
                refine ik_Wk 1 (pc_q := 102) (loc_q := [some (.ref 0), some (fI p), some (fI 3), some (fI what)]) (st_q := [fI 3, fI (what - 1), .ref 45]) (h_q := h_735) (cl_q := 0) (sl_q := 0) rfl ?_
                refine fx_idiv rfl (by omega) (by omega) (by omega) (by omega) ?_
                refine ik_Wk 2 (pc_q := 105) (loc_q := [some (.ref 0), some (fI p), some (fI 3), some (fI what)]) (st_q := [fI 1, fI what, fI ((what - 1) / 3), .ref 45]) (h_q := h_735) (cl_q := 0) (sl_q := 0) rfl ?_
                refine fw_sub rfl ?_
                refine ik_Wk 1 (pc_q := 107) (loc_q := [some (.ref 0), some (fI p), some (fI 3), some (fI what)]) (st_q := [fI 3, fI (what - 1), fI ((what - 1) / 3), .ref 45]) (h_q := h_735) (cl_q := 0) (sl_q := 0) rfl ?_
                refine fx_irem rfl (by omega) (by omega) (by omega) (by omega) ?_
                refine ik_Wc 42 3 0 [.ref 45, fI ((what - 1) / 3), fI ((what - 1) % 3)] [] rfl rfl rfl (by decide +kernel) rfl rfl (fw_rec k_735 rfl g_735_45 rfl (Nat.le_of_ble_eq_true rfl)) ?_
                refine ik_Wk 0 (pc_q := 0) (loc_q := [some (.ref 45), some (fI ((what - 1) / 3)), some (fI ((what - 1) % 3))]) (st_q := []) (h_q := h_735) (cl_q := 0) (sl_q := 0) rfl ?_
                refine ik_Wk 1 (pc_q := 1) (loc_q := [some (.ref 45), some (fI ((what - 1) / 3)), some (fI ((what - 1) % 3))]) (st_q := [.ref 45]) (h_q := h_735) (cl_q := 0) (sl_q := 0) rfl ?_
                refine fw_gf rfl rfl g_735_45 rfl ?_
                refine ik_Wk 1 (pc_q := 5) (loc_q := [some (.ref 45), some (fI ((what - 1) / 3)), some (fI ((what - 1) % 3))]) (st_q := [fI ((what - 1) / 3), .ref 49]) (h_q := h_735) (cl_q := 0) (sl_q := 0) rfl ?_
                refine fx_lal rfl g_735_49 (by omega) (by omega) (by omega) ?_
                refine fw_lc (z := 0) rfl (by decide +kernel) ?_
                refine fx_lcx rfl (fun zc16 rzc16 szc16 => ?_)
                refine fw_if_le rfl rfl (by omega) (by omega) (fun hc17 => ?_) (fun hc17 => ?_)
                · refine ik_Wk 1 (pc_q := 37) (loc_q := [some (.ref 45), some (fI ((what - 1) / 3)), some (fI ((what - 1) % 3))]) (st_q := [fI 0]) (h_q := h_735) (cl_q := 0) (sl_q := 0) rfl ?_
                  refine ik_Wret rfl rfl ⟨_, _, rfl, rfl, ?_⟩
                  refine ik_Wk 0 (pc_q := 111) (loc_q := [some (.ref 0), some (fI p), some (fI 3), some (fI what)]) (st_q := [fI 0]) (h_q := h_735) (cl_q := 0) (sl_q := 0) rfl ?_
                  exact ik_Wret rfl rfl ⟨_, _, rfl, rfl, rfl, rfl, ⟨l0_734, l1_734, l2_734, fe'_734, bo'_735, sh'_735, wh'_735, wo'_735, 0, rfl, g_735_17, g_735_19, g_735_21, g_735_25, g_735_29, g_735_33, g_735_37, g_735_41, g_735_46, m_734_46, g_735_47, m_735_47, g_735_48, m_735_48, g_735_49, m_735_49, g_735_50, m_735_50, p_734_0, fr_735⟩⟩
                · refine ik_Wk 1 (pc_q := 12) (loc_q := [some (.ref 45), some (fI ((what - 1) / 3)), some (fI ((what - 1) % 3))]) (st_q := [.ref 45]) (h_q := h_735) (cl_q := 0) (sl_q := 0) rfl ?_
                  refine fw_gf rfl rfl g_735_45 rfl ?_
                  refine ik_Wk 2 (pc_q := 17) (loc_q := [some (.ref 45), some (fI ((what - 1) / 3)), some (fI ((what - 1) % 3))]) (st_q := [fI 3, fI ((what - 1) / 3), .ref 48]) (h_q := h_735) (cl_q := 0) (sl_q := 0) rfl ?_
                  refine fx_mulc rfl ?_
                  refine ik_Wk 1 (pc_q := 19) (loc_q := [some (.ref 45), some (fI ((what - 1) / 3)), some (fI ((what - 1) % 3))]) (st_q := [fI ((what - 1) % 3), fI (3 * ((what - 1) / 3)), .ref 48]) (h_q := h_735) (cl_q := 0) (sl_q := 0) rfl ?_
                  refine fw_add rfl ?_
                  refine fx_lal rfl g_735_48 (by omega) (by omega) (by omega) ?_
                  refine fw_l2 1000000 rfl rfl (by decide +kernel) ?_
                  refine fw_lmul rfl ?_
                  refine ik_Wk 1 (pc_q := 26) (loc_q := [some (.ref 45), some (fI ((what - 1) / 3)), some (fI ((what - 1) % 3))]) (st_q := [.ref 45, fJ ((sh'_735.getD ((3 * ((what - 1) / 3)) + ((what - 1) % 3)).toNat 0) * 1000000)]) (h_q := h_735) (cl_q := 0) (sl_q := 0) rfl ?_
                  refine fw_gf rfl rfl g_735_45 rfl ?_
                  refine ik_Wk 1 (pc_q := 30) (loc_q := [some (.ref 45), some (fI ((what - 1) / 3)), some (fI ((what - 1) % 3))]) (st_q := [fI ((what - 1) / 3), .ref 49, fJ ((sh'_735.getD ((3 * ((what - 1) / 3)) + ((what - 1) % 3)).toNat 0) * 1000000)]) (h_q := h_735) (cl_q := 0) (sl_q := 0) rfl ?_
                  refine fx_lal rfl g_735_49 (by omega) (by omega) (by omega) ?_
                  refine fx_ldo rfl (by rcases szc16 with w | w; omega; exact fun e => w (e.trans (by decide +kernel))) (fun qd18 => ?_)
                  refine fx_l2i rfl ?_
                  refine ik_Wk 1 (pc_q := 37) (loc_q := [some (.ref 45), some (fI ((what - 1) / 3)), some (fI ((what - 1) % 3))]) (st_q := [fI qd18]) (h_q := h_735) (cl_q := 0) (sl_q := 0) rfl ?_
                  refine ik_Wret rfl rfl ⟨_, _, rfl, rfl, ?_⟩
                  refine ik_Wk 0 (pc_q := 111) (loc_q := [some (.ref 0), some (fI p), some (fI 3), some (fI what)]) (st_q := [fI qd18]) (h_q := h_735) (cl_q := 0) (sl_q := 0) rfl ?_
                  exact ik_Wret rfl rfl ⟨_, _, rfl, rfl, rfl, rfl, ⟨l0_734, l1_734, l2_734, fe'_734, bo'_735, sh'_735, wh'_735, wo'_735, qd18, rfl, g_735_17, g_735_19, g_735_21, g_735_25, g_735_29, g_735_33, g_735_37, g_735_41, g_735_46, m_734_46, g_735_47, m_735_47, g_735_48, m_735_48, g_735_49, m_735_49, g_735_50, m_735_50, p_734_0, fr_735⟩⟩
          · refine fw_ld (-1000000002) rfl rfl (by decide +kernel) ?_
            exact ik_Wret rfl rfl ⟨_, _, rfl, rfl, rfl, rfl, ⟨la, lb, bo, fe, bo_, sh, wh, wo, (-1000000002), rfl, h17, h19, h21, h25, h29, h33, h37, h41, h46, n46, h47, n47, h48, n48, h49, n49, h50, n50, q4, (hfr_refl [17, 19, 46, 47, 48, 49, 50, 21, 22, 23, 24, 25, 26, 27, 28, 29, 30, 31, 32, 33, 34, 35, 36, 37, 38, 39, 40, 41, 42, 43, 44] h)⟩⟩
      · refine fw_ld (-1000000001) rfl rfl (by decide +kernel) ?_
        exact ik_Wret rfl rfl ⟨_, _, rfl, rfl, rfl, rfl, ⟨la, lb, bo, fe, bo_, sh, wh, wo, (-1000000001), rfl, h17, h19, h21, h25, h29, h33, h37, h41, h46, n46, h47, n47, h48, n48, h49, n49, h50, n50, q4, (hfr_refl [17, 19, 46, 47, 48, 49, 50, 21, 22, 23, 24, 25, 26, 27, 28, 29, 30, 31, 32, 33, 34, 35, 36, 37, 38, 39, 40, 41, 42, 43, 44] h)⟩⟩

theorem cp_mixedE {h : List ik_E} {pl : Int} {st : Int} {lo : Int} {p : Int} {n : Int} {what : Int} (q0 : 0 ≤ pl ∧ pl ≤ 12) (q1 : -2147483648 ≤ p ∧ p < 2147483648) (q2 : -2147483648 ≤ n ∧ n < 2147483648) (q3 : -2147483648 ≤ what ∧ what < 2147483648) (q4 : n < 1 ∨ 3 < n) (h0 : cE h 0 (.inr (9, [.ref 1, .ref 7, .ref 14, .ref 17, .ref 45, .ref 51, .ref 54, .ref 57]))) (h7 : cE h 7 (.inr (0, [fI pl, fI st, fI lo, .ref 8, .ref 9, .ref 10, .ref 11, .ref 12, .ref 13]))) (hl : h.length = (94 : Nat)) : ik_F 102 [.ref 0, fI p, fI n, fI what] h (fun rv h_q => ∃ (v : Int), rv = [fI v] ∧ hfr [] h h_q) := by
  refine ik_Wk 1 (pc_q := 1) (loc_q := [some (.ref 0), some (fI p), some (fI n), some (fI what)]) (st_q := [.ref 0]) (h_q := h) (cl_q := 0) (sl_q := 0) rfl ?_
  refine fw_gf rfl rfl h0 rfl ?_
  refine ik_Wk 1 (pc_q := 5) (loc_q := [some (.ref 0), some (fI p), some (fI n), some (fI what)]) (st_q := [fI p, .ref 7]) (h_q := h) (cl_q := 0) (sl_q := 0) rfl ?_
  refine ik_Wc 4 2 0 [.ref 7, fI p] [] rfl rfl rfl (by decide +kernel) rfl rfl (fw_rec hl rfl h7 rfl (Nat.le_of_ble_eq_true rfl)) ?_
  refine ik_Wk 0 (pc_q := 0) (loc_q := [some (.ref 7), some (fI p)]) (st_q := []) (h_q := h) (cl_q := 0) (sl_q := 0) rfl ?_
  refine ik_Wk 1 (pc_q := 1) (loc_q := [some (.ref 7), some (fI p)]) (st_q := [fI p]) (h_q := h) (cl_q := 0) (sl_q := 0) rfl ?_
  refine fw_if_lt rfl rfl (by omega) (by omega) (fun hc1 => ?_) (fun hc1 => ?_)
  · refine ik_Wk 1 (pc_q := 19) (loc_q := [some (.ref 7), some (fI p)]) (st_q := [fI 0]) (h_q := h) (cl_q := 0) (sl_q := 0) rfl ?_
    refine ik_Wret rfl rfl ⟨_, _, rfl, rfl, ?_⟩
    refine ik_Wk 0 (pc_q := 8) (loc_q := [some (.ref 0), some (fI p), some (fI n), some (fI what)]) (st_q := [fI 0]) (h_q := h) (cl_q := 0) (sl_q := 0) rfl ?_
    refine fw_if_eq rfl rfl (by decide +kernel) (by decide +kernel) (fun hc2 => ?_) (fun hc2 => absurd hc2 (by decide +kernel))
    refine fw_ld (-1000000001) rfl rfl (by decide +kernel) ?_
    exact ik_Wret rfl rfl ⟨_, _, rfl, rfl, rfl, rfl, ⟨(-1000000001), rfl, (hfr_refl [] h)⟩⟩
  · refine ik_Wk 2 (pc_q := 6) (loc_q := [some (.ref 7), some (fI p)]) (st_q := [.ref 7, fI p]) (h_q := h) (cl_q := 0) (sl_q := 0) rfl ?_
    refine fw_gf rfl rfl h7 rfl ?_
    refine ik_Wk 1 (pc_q := 10) (loc_q := [some (.ref 7), some (fI p)]) (st_q := [fI 1, fI pl, fI p]) (h_q := h) (cl_q := 0) (sl_q := 0) rfl ?_
    refine fw_sub rfl ?_
    refine fw_ic_ge rfl rfl (by omega) (by omega) (by omega) (by omega) (fun hc3 => ?_) (fun hc3 => ?_)
    · refine ik_Wk 1 (pc_q := 19) (loc_q := [some (.ref 7), some (fI p)]) (st_q := [fI 0]) (h_q := h) (cl_q := 0) (sl_q := 0) rfl ?_
      refine ik_Wret rfl rfl ⟨_, _, rfl, rfl, ?_⟩
      refine ik_Wk 0 (pc_q := 8) (loc_q := [some (.ref 0), some (fI p), some (fI n), some (fI what)]) (st_q := [fI 0]) (h_q := h) (cl_q := 0) (sl_q := 0) rfl ?_
      refine fw_if_eq rfl rfl (by decide +kernel) (by decide +kernel) (fun hc4 => ?_) (fun hc4 => absurd hc4 (by decide +kernel))
      refine fw_ld (-1000000001) rfl rfl (by decide +kernel) ?_
      exact ik_Wret rfl rfl ⟨_, _, rfl, rfl, rfl, rfl, ⟨(-1000000001), rfl, (hfr_refl [] h)⟩⟩
    · refine ik_Wk 2 (pc_q := 19) (loc_q := [some (.ref 7), some (fI p)]) (st_q := [fI 1]) (h_q := h) (cl_q := 0) (sl_q := 0) rfl ?_
      refine ik_Wret rfl rfl ⟨_, _, rfl, rfl, ?_⟩
      refine ik_Wk 0 (pc_q := 8) (loc_q := [some (.ref 0), some (fI p), some (fI n), some (fI what)]) (st_q := [fI 1]) (h_q := h) (cl_q := 0) (sl_q := 0) rfl ?_
      refine fw_if_eq rfl rfl (by decide +kernel) (by decide +kernel) (fun hc5 => absurd hc5 (by decide +kernel)) (fun hc5 => ?_)
      refine ik_Wk 2 (pc_q := 13) (loc_q := [some (.ref 0), some (fI p), some (fI n), some (fI what)]) (st_q := [.ref 0, fI n]) (h_q := h) (cl_q := 0) (sl_q := 0) rfl ?_
      refine fw_gf rfl rfl h0 rfl ?_
      refine ik_Wc 2 1 0 [.ref 7] [fI n] rfl rfl rfl (by decide +kernel) rfl rfl (fw_rec hl rfl h7 rfl (Nat.le_of_ble_eq_true rfl)) ?_
      refine ik_Wk 0 (pc_q := 0) (loc_q := [some (.ref 7)]) (st_q := []) (h_q := h) (cl_q := 0) (sl_q := 0) rfl ?_
      refine ik_Wk 1 (pc_q := 1) (loc_q := [some (.ref 7)]) (st_q := [.ref 7]) (h_q := h) (cl_q := 0) (sl_q := 0) rfl ?_
      refine fw_gf rfl rfl h7 rfl ?_
      refine ik_Wk 1 (pc_q := 5) (loc_q := [some (.ref 7)]) (st_q := [fI 1, fI pl]) (h_q := h) (cl_q := 0) (sl_q := 0) rfl ?_
      refine fw_sub rfl ?_
      refine ik_Wret rfl rfl ⟨_, _, rfl, rfl, ?_⟩
      refine ik_Wk 0 (pc_q := 19) (loc_q := [some (.ref 0), some (fI p), some (fI n), some (fI what)]) (st_q := [fI (pl - 1), fI n]) (h_q := h) (cl_q := 0) (sl_q := 0) rfl ?_
      refine ik_Wk 1 (pc_q := 20) (loc_q := [some (.ref 0), some (fI p), some (fI n), some (fI what)]) (st_q := [fI p, fI (pl - 1), fI n]) (h_q := h) (cl_q := 0) (sl_q := 0) rfl ?_
      refine fw_sub rfl ?_
      refine fw_ic_le rfl rfl (by omega) (by omega) (by omega) (by omega) (fun hc6 => ?_) (fun hc6 => ?_)
      · refine ik_Wk 2 (pc_q := 29) (loc_q := [some (.ref 0), some (fI p), some (fI n), some (fI what)]) (st_q := [fI 1, fI n]) (h_q := h) (cl_q := 0) (sl_q := 0) rfl ?_
        refine fw_ic_lt rfl rfl (by omega) (by omega) (by omega) (by omega) (fun hc7 => ?_) (fun hc7 => ?_)
        · refine fw_ld (-1000000002) rfl rfl (by decide +kernel) ?_
          exact ik_Wret rfl rfl ⟨_, _, rfl, rfl, rfl, rfl, ⟨(-1000000002), rfl, (hfr_refl [] h)⟩⟩
        · refine ik_Wk 2 (pc_q := 34) (loc_q := [some (.ref 0), some (fI p), some (fI n), some (fI what)]) (st_q := [fI 3, fI n]) (h_q := h) (cl_q := 0) (sl_q := 0) rfl ?_
          refine fw_ic_gt rfl rfl (by omega) (by omega) (by omega) (by omega) (fun hc8 => ?_) (fun hc8 => absurd hc8 (by omega))
          refine fw_ld (-1000000002) rfl rfl (by decide +kernel) ?_
          exact ik_Wret rfl rfl ⟨_, _, rfl, rfl, rfl, rfl, ⟨(-1000000002), rfl, (hfr_refl [] h)⟩⟩
      · refine fw_ld (-1000000001) rfl rfl (by decide +kernel) ?_
        exact ik_Wret rfl rfl ⟨_, _, rfl, rfl, rfl, rfl, ⟨(-1000000001), rfl, (hfr_refl [] h)⟩⟩

end

/-! 38zz.rmix -/
noncomputable section
/-! both choose without knowing (reference): no throw; what is answered is left open (written by wip/fx/u25.py) -/
theorem fj_neg0 {a : Int} (h : ¬ Int64.ofInt a = 0) : ¬ Int64.ofInt (-a) = 0 := by
  intro q
  rw [Int64.ofInt_neg] at q
  refine h ?_
  have w := congrArg (fun z : Int64 => -z) q
  simpa using w
theorem cr_bitsL {h : List ik_E} {v : Nat} (q0 : v < 8)  : ∀ (k : Nat) (k0 : Int) (n : Int) (u : List ik_E)  (ul : u.length = (94 : Nat)) (F : hfr [] h u) (hk2 : (0 : Int) ≤ k0 ∧ k0 ≤ (12 : Int)) (hn : (0 : Int) ≤ n ∧ n ≤ k0 ∧ n ≤ (3 : Int)) (hk : 12 - k0 < (k : Int)), ik_G 172 4 [some (fI ((v : Nat) : Int)), some (fI n), some (fI k0)] [] u (fun rv h_q => ∃ (z : Int), rv = [fI z] ∧ ((0 : Int) ≤ z ∧ z ≤ (3 : Int)) ∧ hfr [] h h_q) := by
  intro k
  induction k with
  | zero => intro k0 n u ul F hk2 hn hk; omega
  | succ k ih =>
    intro k0 n u ul F hk2 hn hk
    refine ik_Wk 1 (pc_q := 5) (loc_q := [some (fI ((v : Nat) : Int)), some (fI n), some (fI k0)]) (st_q := [fI k0]) (h_q := u) (cl_q := 0) (sl_q := 0) rfl ?_
    refine fw_bi rfl (by decide +kernel) ?_
    refine fw_ic_ge rfl rfl (by omega) (by omega) (by omega) (by omega) (fun hc1 => ?_) (fun hc1 => ?_)
    · refine ik_Wk 1 (pc_q := 25) (loc_q := [some (fI ((v : Nat) : Int)), some (fI n), some (fI k0)]) (st_q := [fI n]) (h_q := u) (cl_q := 0) (sl_q := 0) rfl ?_
      exact ik_Wret rfl rfl ⟨_, _, rfl, rfl, rfl, rfl, ⟨n, rfl, (by omega), F⟩⟩
    · refine ik_Wk 3 (pc_q := 13) (loc_q := [some (fI ((v : Nat) : Int)), some (fI n), some (fI k0)]) (st_q := [fI k0, fI ((v : Nat) : Int), fI n]) (h_q := u) (cl_q := 0) (sl_q := 0) rfl ?_
      refine fx_shr (n := v) rfl (by omega) (by omega) (by omega) ?_
      refine ik_Wk 1 (pc_q := 15) (loc_q := [some (fI ((v : Nat) : Int)), some (fI n), some (fI k0)]) (st_q := [fI 1, fI ((v >>> k0.toNat : Nat) : Int), fI n]) (h_q := u) (cl_q := 0) (sl_q := 0) rfl ?_
      refine fx_bit (n := v) (k := k0.toNat) rfl (fun hb2 => ?_) (fun hb2 => ?_)
      · refine ik_Wk 0 (pc_q := 16) (loc_q := [some (fI ((v : Nat) : Int)), some (fI n), some (fI k0)]) (st_q := [fI 1, fI n]) (h_q := u) (cl_q := 0) (sl_q := 0) rfl ?_
        refine fw_add rfl ?_
        refine ik_Wk 1 (pc_q := 18) (loc_q := [some (fI ((v : Nat) : Int)), some (fI (n + 1)), some (fI k0)]) (st_q := []) (h_q := u) (cl_q := 0) (sl_q := 0) rfl ?_
        refine fw_inc (a := k0) (loc_q := [some (fI ((v : Nat) : Int)), some (fI (n + 1)), some (fI (k0 + 1))]) rfl rfl (Nat.le_of_ble_eq_true rfl) rfl ?_
        refine ik_Wk 1 (pc_q := 4) (loc_q := [some (fI ((v : Nat) : Int)), some (fI (n + 1)), some (fI (k0 + 1))]) (st_q := []) (h_q := u) (cl_q := 0) (sl_q := 0) rfl ?_
        have hk3 := mj_tb_lt (B := v) (pl := 3) (q := k0) q0 hb2 (by omega)
        exact ih  (k0 + 1) (n + 1) u  ul F (by omega) (by omega) (by omega)
      · refine ik_Wk 0 (pc_q := 16) (loc_q := [some (fI ((v : Nat) : Int)), some (fI n), some (fI k0)]) (st_q := [fI 0, fI n]) (h_q := u) (cl_q := 0) (sl_q := 0) rfl ?_
        refine fw_add rfl ?_
        refine ik_Wk 1 (pc_q := 18) (loc_q := [some (fI ((v : Nat) : Int)), some (fI (n + 0)), some (fI k0)]) (st_q := []) (h_q := u) (cl_q := 0) (sl_q := 0) rfl ?_
        refine fw_inc (a := k0) (loc_q := [some (fI ((v : Nat) : Int)), some (fI (n + 0)), some (fI (k0 + 1))]) rfl rfl (Nat.le_of_ble_eq_true rfl) rfl ?_
        refine ik_Wk 1 (pc_q := 4) (loc_q := [some (fI ((v : Nat) : Int)), some (fI (n + 0)), some (fI (k0 + 1))]) (st_q := []) (h_q := u) (cl_q := 0) (sl_q := 0) rfl ?_
        exact ih  (k0 + 1) (n + 0) u  ul F (by omega) (by omega) (by omega)

theorem cr_bits {h : List ik_E} {v : Nat} (q0 : v < 8)  (hl : h.length = (94 : Nat)) : ik_F 172 [fI ((v : Nat) : Int)] h (fun rv h_q => ∃ (z : Int), rv = [fI z] ∧ ((0 : Int) ≤ z ∧ z ≤ (3 : Int)) ∧ hfr [] h h_q) := by
  refine ik_Wk 4 (pc_q := 4) (loc_q := [some (fI ((v : Nat) : Int)), some (fI 0), some (fI 0)]) (st_q := []) (h_q := h) (cl_q := 0) (sl_q := 0) rfl ?_
  exact cr_bitsL (v := v) q0  13 0 0 h  hl (hfr_refl [] h) (by omega) (by omega) (by omega)

theorem cr_list86L {h : List ik_E} {v : Nat} {ro : List Int} (q0 : v < 8) (q1 : ∀ i : Int, (0 : Int) ≤ i → i < (3 : Int) → 0 ≤ ro.getD i.toNat 0 ∧ ro.getD i.toNat 0 ≤ 2)  : ∀ (k : Nat) (k0 : Int) (n : Int) (r1 : List Int) (u : List ik_E) (u86 : cE u 86 (.inl (.int, fA r1))) (n86 : r1.length = (3 : Nat)) (ul : u.length = (94 : Nat)) (F : hfr [86] h u) (hk2 : (0 : Int) ≤ k0 ∧ k0 ≤ (3 : Int)) (hn : (0 : Int) ≤ n ∧ n ≤ k0) (hrc : ∀ i : Int, (0 : Int) ≤ i → i < (3 : Int) → 0 ≤ r1.getD i.toNat 0 ∧ r1.getD i.toNat 0 ≤ 2) (hk : 3 - k0 < (k : Int)), ik_G 173 4 [some (.ref 86), some (fI ((v : Nat) : Int)), some (fI n), some (fI k0)] [] u (fun rv h_q => ∃ (ro' : List Int), rv = [] ∧ cE h_q 86 (.inl (.int, fA ro')) ∧ ro'.length = (3 : Nat) ∧ (∀ i : Int, (0 : Int) ≤ i → i < (3 : Int) → 0 ≤ ro'.getD i.toNat 0 ∧ ro'.getD i.toNat 0 ≤ 2) ∧ hfr [86] h h_q) := by
  intro k
  induction k with
  | zero => intro k0 n r1 u u86 n86 ul F hk2 hn hrc hk; omega
  | succ k ih =>
    intro k0 n r1 u u86 n86 ul F hk2 hn hrc hk
    refine ik_Wk 2 (pc_q := 6) (loc_q := [some (.ref 86), some (fI ((v : Nat) : Int)), some (fI n), some (fI k0)]) (st_q := [fI 3, fI k0]) (h_q := u) (cl_q := 0) (sl_q := 0) rfl ?_
    refine fw_ic_ge rfl rfl (by omega) (by omega) (by omega) (by omega) (fun hc1 => ?_) (fun hc1 => ?_)
    · exact ik_Wret rfl rfl ⟨_, _, rfl, rfl, rfl, rfl, ⟨r1, rfl, u86, n86, hrc, F⟩⟩
    · refine ik_Wk 2 (pc_q := 11) (loc_q := [some (.ref 86), some (fI ((v : Nat) : Int)), some (fI n), some (fI k0)]) (st_q := [fI k0, fI ((v : Nat) : Int)]) (h_q := u) (cl_q := 0) (sl_q := 0) rfl ?_
      refine ik_Wc 128 2 3 [fI ((v : Nat) : Int), fI k0] [] rfl rfl rfl (by decide +kernel) rfl rfl (fw_sta ul rfl (by decide +kernel)) ?_
      refine ik_Wk 0 (pc_q := 0) (loc_q := [some (fI ((v : Nat) : Int)), some (fI k0)]) (st_q := []) (h_q := u) (cl_q := 0) (sl_q := 0) rfl ?_
      refine ik_Wk 2 (pc_q := 2) (loc_q := [some (fI ((v : Nat) : Int)), some (fI k0)]) (st_q := [fI k0, fI ((v : Nat) : Int)]) (h_q := u) (cl_q := 0) (sl_q := 0) rfl ?_
      refine fx_shr (n := v) rfl (by omega) (by omega) (by omega) ?_
      refine ik_Wk 1 (pc_q := 4) (loc_q := [some (fI ((v : Nat) : Int)), some (fI k0)]) (st_q := [fI 1, fI ((v >>> k0.toNat : Nat) : Int)]) (h_q := u) (cl_q := 0) (sl_q := 0) rfl ?_
      refine fx_bit (n := v) (k := k0.toNat) rfl (fun hb2 => ?_) (fun hb2 => ?_)
      · refine ik_Wk 0 (pc_q := 5) (loc_q := [some (fI ((v : Nat) : Int)), some (fI k0)]) (st_q := [fI 1]) (h_q := u) (cl_q := 0) (sl_q := 0) rfl ?_
        refine ik_Wk 1 (pc_q := 6) (loc_q := [some (fI ((v : Nat) : Int)), some (fI k0)]) (st_q := [fI 1, fI 1]) (h_q := u) (cl_q := 0) (sl_q := 0) rfl ?_
        refine fw_ic_ne rfl rfl (by decide +kernel) (by decide +kernel) (by decide +kernel) (by decide +kernel) (fun hc3 => ?_) (fun hc3 => absurd hc3 (by decide +kernel))
        refine ik_Wk 2 (pc_q := 14) (loc_q := [some (fI ((v : Nat) : Int)), some (fI k0)]) (st_q := [fI 1]) (h_q := u) (cl_q := 0) (sl_q := 0) rfl ?_
        refine ik_Wret rfl rfl ⟨_, _, rfl, rfl, ?_⟩
        refine ik_Wk 0 (pc_q := 14) (loc_q := [some (.ref 86), some (fI ((v : Nat) : Int)), some (fI n), some (fI k0)]) (st_q := [fI 1]) (h_q := u) (cl_q := 0) (sl_q := 0) rfl ?_
        refine fw_if_eq rfl rfl (by decide +kernel) (by decide +kernel) (fun hc4 => absurd hc4 (by decide +kernel)) (fun hc4 => ?_)
        refine ik_Wk 3 (pc_q := 20) (loc_q := [some (.ref 86), some (fI ((v : Nat) : Int)), some (fI n), some (fI k0)]) (st_q := [fI k0, fI n, .ref 86]) (h_q := u) (cl_q := 0) (sl_q := 0) rfl ?_
        have hl5 : (r1.set n.toNat k0).length = 3 := (List.length_set ..).trans n86
        refine fx_ias rfl u86 (by omega) (by omega) (by omega) ?_
        intro h_736 e_736 f_736 l_736
        have k_736 : cL h_736 := l_736.trans ul
        have fr_736 := hfr_wb F f_736 l_736 rfl
        clear l_736
        have g_736_86 : cE h_736 86 (.inl (.int, fA (r1.set n.toNat k0))) := e_736
        have hrc2 : ∀ i : Int, 0 ≤ i → i < 3 → 0 ≤ (r1.set n.toNat k0).getD i.toNat 0 ∧ (r1.set n.toNat k0).getD i.toNat 0 ≤ 2 := by
          intro i i0 i1
          rw [fz_getD_set]
          split
          · omega
          · exact hrc i i0 i1
        refine fw_inc (a := n) (loc_q := [some (.ref 86), some (fI ((v : Nat) : Int)), some (fI (n + 1)), some (fI k0)]) rfl rfl (Nat.le_of_ble_eq_true rfl) rfl ?_
        refine fw_inc (a := k0) (loc_q := [some (.ref 86), some (fI ((v : Nat) : Int)), some (fI (n + 1)), some (fI (k0 + 1))]) rfl rfl (Nat.le_of_ble_eq_true rfl) rfl ?_
        refine ik_Wk 1 (pc_q := 4) (loc_q := [some (.ref 86), some (fI ((v : Nat) : Int)), some (fI (n + 1)), some (fI (k0 + 1))]) (st_q := []) (h_q := h_736) (cl_q := 0) (sl_q := 0) rfl ?_
        exact ih  (k0 + 1) (n + 1) (r1.set n.toNat k0) h_736 g_736_86 hl5 k_736 fr_736 (by omega) (by omega) hrc2 (by omega)
      · refine ik_Wk 0 (pc_q := 5) (loc_q := [some (fI ((v : Nat) : Int)), some (fI k0)]) (st_q := [fI 0]) (h_q := u) (cl_q := 0) (sl_q := 0) rfl ?_
        refine ik_Wk 1 (pc_q := 6) (loc_q := [some (fI ((v : Nat) : Int)), some (fI k0)]) (st_q := [fI 1, fI 0]) (h_q := u) (cl_q := 0) (sl_q := 0) rfl ?_
        refine fw_ic_ne rfl rfl (by decide +kernel) (by decide +kernel) (by decide +kernel) (by decide +kernel) (fun hc6 => absurd hc6 (by decide +kernel)) (fun hc6 => ?_)
        refine ik_Wk 1 (pc_q := 14) (loc_q := [some (fI ((v : Nat) : Int)), some (fI k0)]) (st_q := [fI 0]) (h_q := u) (cl_q := 0) (sl_q := 0) rfl ?_
        refine ik_Wret rfl rfl ⟨_, _, rfl, rfl, ?_⟩
        refine ik_Wk 0 (pc_q := 14) (loc_q := [some (.ref 86), some (fI ((v : Nat) : Int)), some (fI n), some (fI k0)]) (st_q := [fI 0]) (h_q := u) (cl_q := 0) (sl_q := 0) rfl ?_
        refine fw_if_eq rfl rfl (by decide +kernel) (by decide +kernel) (fun hc7 => ?_) (fun hc7 => absurd hc7 (by decide +kernel))
        refine fw_inc (a := k0) (loc_q := [some (.ref 86), some (fI ((v : Nat) : Int)), some (fI n), some (fI (k0 + 1))]) rfl rfl (Nat.le_of_ble_eq_true rfl) rfl ?_
        refine ik_Wk 1 (pc_q := 4) (loc_q := [some (.ref 86), some (fI ((v : Nat) : Int)), some (fI n), some (fI (k0 + 1))]) (st_q := []) (h_q := u) (cl_q := 0) (sl_q := 0) rfl ?_
        exact ih  (k0 + 1) n r1 u u86 n86 ul F (by omega) (by omega) hrc (by omega)

theorem cr_list86 {h : List ik_E} {v : Nat} {ro : List Int} (q0 : v < 8) (q1 : ∀ i : Int, (0 : Int) ≤ i → i < (3 : Int) → 0 ≤ ro.getD i.toNat 0 ∧ ro.getD i.toNat 0 ≤ 2) (h86 : cE h 86 (.inl (.int, fA ro))) (n86 : ro.length = (3 : Nat)) (hl : h.length = (94 : Nat)) : ik_F 173 [.ref 86, fI ((v : Nat) : Int)] h (fun rv h_q => ∃ (ro' : List Int), rv = [] ∧ cE h_q 86 (.inl (.int, fA ro')) ∧ ro'.length = (3 : Nat) ∧ (∀ i : Int, (0 : Int) ≤ i → i < (3 : Int) → 0 ≤ ro'.getD i.toNat 0 ∧ ro'.getD i.toNat 0 ≤ 2) ∧ hfr [86] h h_q) := by
  refine ik_Wk 4 (pc_q := 4) (loc_q := [some (.ref 86), some (fI ((v : Nat) : Int)), some (fI 0), some (fI 0)]) (st_q := []) (h_q := h) (cl_q := 0) (sl_q := 0) rfl ?_
  exact cr_list86L (v := v) (ro := ro) q0 q1  4 0 0 ro h h86 n86 hl (hfr_refl [86] h) (by omega) (by omega) q1 (by omega)

theorem cr_list87L {h : List ik_E} {v : Nat} {ro : List Int} (q0 : v < 8) (q1 : ∀ i : Int, (0 : Int) ≤ i → i < (3 : Int) → 0 ≤ ro.getD i.toNat 0 ∧ ro.getD i.toNat 0 ≤ 2)  : ∀ (k : Nat) (k0 : Int) (n : Int) (r1 : List Int) (u : List ik_E) (u87 : cE u 87 (.inl (.int, fA r1))) (n87 : r1.length = (3 : Nat)) (ul : u.length = (94 : Nat)) (F : hfr [87] h u) (hk2 : (0 : Int) ≤ k0 ∧ k0 ≤ (3 : Int)) (hn : (0 : Int) ≤ n ∧ n ≤ k0) (hrc : ∀ i : Int, (0 : Int) ≤ i → i < (3 : Int) → 0 ≤ r1.getD i.toNat 0 ∧ r1.getD i.toNat 0 ≤ 2) (hk : 3 - k0 < (k : Int)), ik_G 173 4 [some (.ref 87), some (fI ((v : Nat) : Int)), some (fI n), some (fI k0)] [] u (fun rv h_q => ∃ (ro' : List Int), rv = [] ∧ cE h_q 87 (.inl (.int, fA ro')) ∧ ro'.length = (3 : Nat) ∧ (∀ i : Int, (0 : Int) ≤ i → i < (3 : Int) → 0 ≤ ro'.getD i.toNat 0 ∧ ro'.getD i.toNat 0 ≤ 2) ∧ hfr [87] h h_q) := by
  intro k
  induction k with
  | zero => intro k0 n r1 u u87 n87 ul F hk2 hn hrc hk; omega
  | succ k ih =>
    intro k0 n r1 u u87 n87 ul F hk2 hn hrc hk
    refine ik_Wk 2 (pc_q := 6) (loc_q := [some (.ref 87), some (fI ((v : Nat) : Int)), some (fI n), some (fI k0)]) (st_q := [fI 3, fI k0]) (h_q := u) (cl_q := 0) (sl_q := 0) rfl ?_
    refine fw_ic_ge rfl rfl (by omega) (by omega) (by omega) (by omega) (fun hc1 => ?_) (fun hc1 => ?_)
    · exact ik_Wret rfl rfl ⟨_, _, rfl, rfl, rfl, rfl, ⟨r1, rfl, u87, n87, hrc, F⟩⟩
    · refine ik_Wk 2 (pc_q := 11) (loc_q := [some (.ref 87), some (fI ((v : Nat) : Int)), some (fI n), some (fI k0)]) (st_q := [fI k0, fI ((v : Nat) : Int)]) (h_q := u) (cl_q := 0) (sl_q := 0) rfl ?_
      refine ik_Wc 128 2 3 [fI ((v : Nat) : Int), fI k0] [] rfl rfl rfl (by decide +kernel) rfl rfl (fw_sta ul rfl (by decide +kernel)) ?_
      refine ik_Wk 0 (pc_q := 0) (loc_q := [some (fI ((v : Nat) : Int)), some (fI k0)]) (st_q := []) (h_q := u) (cl_q := 0) (sl_q := 0) rfl ?_
      refine ik_Wk 2 (pc_q := 2) (loc_q := [some (fI ((v : Nat) : Int)), some (fI k0)]) (st_q := [fI k0, fI ((v : Nat) : Int)]) (h_q := u) (cl_q := 0) (sl_q := 0) rfl ?_
      refine fx_shr (n := v) rfl (by omega) (by omega) (by omega) ?_
      refine ik_Wk 1 (pc_q := 4) (loc_q := [some (fI ((v : Nat) : Int)), some (fI k0)]) (st_q := [fI 1, fI ((v >>> k0.toNat : Nat) : Int)]) (h_q := u) (cl_q := 0) (sl_q := 0) rfl ?_
      refine fx_bit (n := v) (k := k0.toNat) rfl (fun hb2 => ?_) (fun hb2 => ?_)
      · refine ik_Wk 0 (pc_q := 5) (loc_q := [some (fI ((v : Nat) : Int)), some (fI k0)]) (st_q := [fI 1]) (h_q := u) (cl_q := 0) (sl_q := 0) rfl ?_
        refine ik_Wk 1 (pc_q := 6) (loc_q := [some (fI ((v : Nat) : Int)), some (fI k0)]) (st_q := [fI 1, fI 1]) (h_q := u) (cl_q := 0) (sl_q := 0) rfl ?_
        refine fw_ic_ne rfl rfl (by decide +kernel) (by decide +kernel) (by decide +kernel) (by decide +kernel) (fun hc3 => ?_) (fun hc3 => absurd hc3 (by decide +kernel))
        refine ik_Wk 2 (pc_q := 14) (loc_q := [some (fI ((v : Nat) : Int)), some (fI k0)]) (st_q := [fI 1]) (h_q := u) (cl_q := 0) (sl_q := 0) rfl ?_
        refine ik_Wret rfl rfl ⟨_, _, rfl, rfl, ?_⟩
        refine ik_Wk 0 (pc_q := 14) (loc_q := [some (.ref 87), some (fI ((v : Nat) : Int)), some (fI n), some (fI k0)]) (st_q := [fI 1]) (h_q := u) (cl_q := 0) (sl_q := 0) rfl ?_
        refine fw_if_eq rfl rfl (by decide +kernel) (by decide +kernel) (fun hc4 => absurd hc4 (by decide +kernel)) (fun hc4 => ?_)
        refine ik_Wk 3 (pc_q := 20) (loc_q := [some (.ref 87), some (fI ((v : Nat) : Int)), some (fI n), some (fI k0)]) (st_q := [fI k0, fI n, .ref 87]) (h_q := u) (cl_q := 0) (sl_q := 0) rfl ?_
        have hl5 : (r1.set n.toNat k0).length = 3 := (List.length_set ..).trans n87
        refine fx_ias rfl u87 (by omega) (by omega) (by omega) ?_
        intro h_737 e_737 f_737 l_737
        have k_737 : cL h_737 := l_737.trans ul
        have fr_737 := hfr_wb F f_737 l_737 rfl
        clear l_737
        have g_737_87 : cE h_737 87 (.inl (.int, fA (r1.set n.toNat k0))) := e_737
        have hrc2 : ∀ i : Int, 0 ≤ i → i < 3 → 0 ≤ (r1.set n.toNat k0).getD i.toNat 0 ∧ (r1.set n.toNat k0).getD i.toNat 0 ≤ 2 := by
          intro i i0 i1
          rw [fz_getD_set]
          split
          · omega
          · exact hrc i i0 i1
        refine fw_inc (a := n) (loc_q := [some (.ref 87), some (fI ((v : Nat) : Int)), some (fI (n + 1)), some (fI k0)]) rfl rfl (Nat.le_of_ble_eq_true rfl) rfl ?_
        refine fw_inc (a := k0) (loc_q := [some (.ref 87), some (fI ((v : Nat) : Int)), some (fI (n + 1)), some (fI (k0 + 1))]) rfl rfl (Nat.le_of_ble_eq_true rfl) rfl ?_
        refine ik_Wk 1 (pc_q := 4) (loc_q := [some (.ref 87), some (fI ((v : Nat) : Int)), some (fI (n + 1)), some (fI (k0 + 1))]) (st_q := []) (h_q := h_737) (cl_q := 0) (sl_q := 0) rfl ?_
        exact ih  (k0 + 1) (n + 1) (r1.set n.toNat k0) h_737 g_737_87 hl5 k_737 fr_737 (by omega) (by omega) hrc2 (by omega)
      · refine ik_Wk 0 (pc_q := 5) (loc_q := [some (fI ((v : Nat) : Int)), some (fI k0)]) (st_q := [fI 0]) (h_q := u) (cl_q := 0) (sl_q := 0) rfl ?_
        refine ik_Wk 1 (pc_q := 6) (loc_q := [some (fI ((v : Nat) : Int)), some (fI k0)]) (st_q := [fI 1, fI 0]) (h_q := u) (cl_q := 0) (sl_q := 0) rfl ?_
        refine fw_ic_ne rfl rfl (by decide +kernel) (by decide +kernel) (by decide +kernel) (by decide +kernel) (fun hc6 => absurd hc6 (by decide +kernel)) (fun hc6 => ?_)
        refine ik_Wk 1 (pc_q := 14) (loc_q := [some (fI ((v : Nat) : Int)), some (fI k0)]) (st_q := [fI 0]) (h_q := u) (cl_q := 0) (sl_q := 0) rfl ?_
        refine ik_Wret rfl rfl ⟨_, _, rfl, rfl, ?_⟩
        refine ik_Wk 0 (pc_q := 14) (loc_q := [some (.ref 87), some (fI ((v : Nat) : Int)), some (fI n), some (fI k0)]) (st_q := [fI 0]) (h_q := u) (cl_q := 0) (sl_q := 0) rfl ?_
        refine fw_if_eq rfl rfl (by decide +kernel) (by decide +kernel) (fun hc7 => ?_) (fun hc7 => absurd hc7 (by decide +kernel))
        refine fw_inc (a := k0) (loc_q := [some (.ref 87), some (fI ((v : Nat) : Int)), some (fI n), some (fI (k0 + 1))]) rfl rfl (Nat.le_of_ble_eq_true rfl) rfl ?_
        refine ik_Wk 1 (pc_q := 4) (loc_q := [some (.ref 87), some (fI ((v : Nat) : Int)), some (fI n), some (fI (k0 + 1))]) (st_q := []) (h_q := u) (cl_q := 0) (sl_q := 0) rfl ?_
        exact ih  (k0 + 1) n r1 u u87 n87 ul F (by omega) (by omega) hrc (by omega)

theorem cr_list87 {h : List ik_E} {v : Nat} {ro : List Int} (q0 : v < 8) (q1 : ∀ i : Int, (0 : Int) ≤ i → i < (3 : Int) → 0 ≤ ro.getD i.toNat 0 ∧ ro.getD i.toNat 0 ≤ 2) (h87 : cE h 87 (.inl (.int, fA ro))) (n87 : ro.length = (3 : Nat)) (hl : h.length = (94 : Nat)) : ik_F 173 [.ref 87, fI ((v : Nat) : Int)] h (fun rv h_q => ∃ (ro' : List Int), rv = [] ∧ cE h_q 87 (.inl (.int, fA ro')) ∧ ro'.length = (3 : Nat) ∧ (∀ i : Int, (0 : Int) ≤ i → i < (3 : Int) → 0 ≤ ro'.getD i.toNat 0 ∧ ro'.getD i.toNat 0 ≤ 2) ∧ hfr [87] h h_q) := by
  refine ik_Wk 4 (pc_q := 4) (loc_q := [some (.ref 87), some (fI ((v : Nat) : Int)), some (fI 0), some (fI 0)]) (st_q := []) (h_q := h) (cl_q := 0) (sl_q := 0) rfl ?_
  exact cr_list87L (v := v) (ro := ro) q0 q1  4 0 0 ro h h87 n87 hl (hfr_refl [87] h) (by omega) (by omega) q1 (by omega)

theorem cr_fear {h : List ik_E} {f : Nat → Int} {fr : List Int} {ro : List Int} {cl : List Int} {i : Int} {j : Int} (q0 : 0 ≤ i ∧ i ≤ 2) (q1 : 0 ≤ j ∧ j ≤ 2) (q2 : ∀ i : Int, (0 : Int) ≤ i → i < (3 : Int) → 0 ≤ ro.getD i.toNat 0 ∧ ro.getD i.toNat 0 ≤ 2) (q3 : ∀ i : Int, (0 : Int) ≤ i → i < (3 : Int) → 0 ≤ cl.getD i.toNat 0 ∧ cl.getD i.toNat 0 ≤ 2) (h66 : cE h 66 (.inr (10, (fI (f 0) :: .ref 67 :: .ref 68 :: .ref 69 :: fI (f 4) :: .ref 70 :: .ref 71 :: fI (f 7) :: fI (f 8) :: .ref 72 :: fI (f 10) :: fI (f 11) :: fI (f 12) :: fJ (f 13) :: fI (f 14) :: fI (f 15) :: fI (f 16) :: fI (f 17) :: .ref 73 :: .ref 74 :: .ref 75 :: .ref 76 :: .ref 77 :: .ref 78 :: fI (f 24) :: .ref 79 :: .ref 80 :: .ref 81 :: .ref 82 :: .ref 83 :: .ref 84 :: .ref 85 :: fJ (f 32) :: fJ (f 33) :: .ref 86 :: .ref 87 :: fI (f 36) :: .ref 88 :: .ref 89 :: .ref 90 :: .ref 91 :: .ref 92 :: .ref 93 :: [])))) (h83 : cE h 83 (.inl (.long, fL fr))) (n83 : fr.length = (9 : Nat)) (h86 : cE h 86 (.inl (.int, fA ro))) (n86 : ro.length = (3 : Nat)) (h87 : cE h 87 (.inl (.int, fA cl))) (n87 : cl.length = (3 : Nat)) (hl : h.length = (94 : Nat)) : ik_F 174 [.ref 66, fI i, fI j] h (fun rv h_q => ∃ (z : Int), rv = [fJ z] ∧ hfr [] h h_q) := by
  refine ik_Wk 1 (pc_q := 1) (loc_q := [some (.ref 66), some (fI i), some (fI j)]) (st_q := [.ref 66]) (h_q := h) (cl_q := 0) (sl_q := 0) rfl ?_
  refine fw_gf rfl rfl h66 rfl ?_
  refine ik_Wk 2 (pc_q := 6) (loc_q := [some (.ref 66), some (fI i), some (fI j)]) (st_q := [.ref 66, fI 3, .ref 83]) (h_q := h) (cl_q := 0) (sl_q := 0) rfl ?_
  refine fw_gf rfl rfl h66 rfl ?_
  refine ik_Wk 1 (pc_q := 10) (loc_q := [some (.ref 66), some (fI i), some (fI j)]) (st_q := [fI i, .ref 86, fI 3, .ref 83]) (h_q := h) (cl_q := 0) (sl_q := 0) rfl ?_
  refine fw_ial rfl h86 (by omega) (by omega) (by omega) ?_
  have hz1 := q2 i (by omega) (by omega)
  refine fw_mul rfl ?_
  refine ik_Wk 1 (pc_q := 13) (loc_q := [some (.ref 66), some (fI i), some (fI j)]) (st_q := [.ref 66, fI (3 * (ro.getD i.toNat 0)), .ref 83]) (h_q := h) (cl_q := 0) (sl_q := 0) rfl ?_
  refine fw_gf rfl rfl h66 rfl ?_
  refine ik_Wk 1 (pc_q := 17) (loc_q := [some (.ref 66), some (fI i), some (fI j)]) (st_q := [fI j, .ref 87, fI (3 * (ro.getD i.toNat 0)), .ref 83]) (h_q := h) (cl_q := 0) (sl_q := 0) rfl ?_
  refine fw_ial rfl h87 (by omega) (by omega) (by omega) ?_
  have hz2 := q3 j (by omega) (by omega)
  refine fw_add rfl ?_
  refine fx_lal rfl h83 (by omega) (by omega) (by omega) ?_
  exact ik_Wret rfl rfl ⟨_, _, rfl, rfl, rfl, rfl, ⟨(fr.getD ((3 * (ro.getD i.toNat 0)) + (cl.getD j.toNat 0)).toNat 0), rfl, (hfr_refl [] h)⟩⟩

theorem cr_without {h : List ik_E} {f : Nat → Int} {fr : List Int} {ro : List Int} {cl : List Int} {sz : Int} {i : Int} {j : Int} (q0 : 1 ≤ sz ∧ sz ≤ 3) (q1 : 0 ≤ i ∧ i < sz) (q2 : 0 ≤ j ∧ j < sz) (q3 : ∀ i : Int, (0 : Int) ≤ i → i < (3 : Int) → 0 ≤ ro.getD i.toNat 0 ∧ ro.getD i.toNat 0 ≤ 2) (q4 : ∀ i : Int, (0 : Int) ≤ i → i < (3 : Int) → 0 ≤ cl.getD i.toNat 0 ∧ cl.getD i.toNat 0 ≤ 2) (h66 : cE h 66 (.inr (10, (fI (f 0) :: .ref 67 :: .ref 68 :: .ref 69 :: fI (f 4) :: .ref 70 :: .ref 71 :: fI (f 7) :: fI (f 8) :: .ref 72 :: fI (f 10) :: fI (f 11) :: fI (f 12) :: fJ (f 13) :: fI (f 14) :: fI (f 15) :: fI (f 16) :: fI (f 17) :: .ref 73 :: .ref 74 :: .ref 75 :: .ref 76 :: .ref 77 :: .ref 78 :: fI (f 24) :: .ref 79 :: .ref 80 :: .ref 81 :: .ref 82 :: .ref 83 :: .ref 84 :: .ref 85 :: fJ (f 32) :: fJ (f 33) :: .ref 86 :: .ref 87 :: fI (f 36) :: .ref 88 :: .ref 89 :: .ref 90 :: .ref 91 :: .ref 92 :: .ref 93 :: [])))) (h83 : cE h 83 (.inl (.long, fL fr))) (n83 : fr.length = (9 : Nat)) (h86 : cE h 86 (.inl (.int, fA ro))) (n86 : ro.length = (3 : Nat)) (h87 : cE h 87 (.inl (.int, fA cl))) (n87 : cl.length = (3 : Nat)) (hl : h.length = (94 : Nat)) : ik_F 175 [.ref 66, fI sz, fI i, fI j] h (fun rv h_q => ∃ (z : Int), rv = [fJ z] ∧ hfr [] h h_q) := by
  refine ik_Wk 2 (pc_q := 2) (loc_q := [some (.ref 66), some (fI sz), some (fI i), some (fI j), none, none, none, none, none, none]) (st_q := [fI 1, fI sz]) (h_q := h) (cl_q := 0) (sl_q := 0) rfl ?_
  refine fw_ic_ne rfl rfl (by omega) (by omega) (by omega) (by omega) (fun hc1 => ?_) (fun hc1 => ?_)
  · refine fw_lc (z := 1) rfl (by decide +kernel) ?_
    exact ik_Wret rfl rfl ⟨_, _, rfl, rfl, rfl, rfl, ⟨1, rfl, (hfr_refl [] h)⟩⟩
  · refine ik_Wk 2 (pc_q := 9) (loc_q := [some (.ref 66), some (fI sz), some (fI i), some (fI j), none, none, none, none, none, none]) (st_q := [fI j, fI i]) (h_q := h) (cl_q := 0) (sl_q := 0) rfl ?_
    refine fw_add rfl ?_
    refine ik_Wk 1 (pc_q := 11) (loc_q := [some (.ref 66), some (fI sz), some (fI i), some (fI j), none, none, none, none, none, none]) (st_q := [fI 2, fI (i + j)]) (h_q := h) (cl_q := 0) (sl_q := 0) rfl ?_
    refine fx_irem rfl (by omega) (by omega) (by omega) (by omega) ?_
    refine fw_if_ne rfl rfl (by omega) (by omega) (fun hc2 => ?_) (fun hc2 => ?_)
    · refine fw_lc (z := 1) rfl (by decide +kernel) ?_
      refine ik_Wk 4 (pc_q := 26) (loc_q := [some (.ref 66), some (fI sz), some (fI i), some (fI j), some (fJ 1), none, none, none, none, none]) (st_q := [fI 2, fI sz]) (h_q := h) (cl_q := 0) (sl_q := 0) rfl ?_
      refine fw_ic_ne rfl rfl (by omega) (by omega) (by omega) (by omega) (fun hc3 => ?_) (fun hc3 => ?_)
      · refine ik_Wk 4 (pc_q := 34) (loc_q := [some (.ref 66), some (fI sz), some (fI i), some (fI j), some (fJ 1), none, none, none, none, none]) (st_q := [fI i, fI 1, .ref 66, fJ 1]) (h_q := h) (cl_q := 0) (sl_q := 0) rfl ?_
        refine fw_sub rfl ?_
        refine ik_Wk 2 (pc_q := 37) (loc_q := [some (.ref 66), some (fI sz), some (fI i), some (fI j), some (fJ 1), none, none, none, none, none]) (st_q := [fI j, fI 1, fI (1 - i), .ref 66, fJ 1]) (h_q := h) (cl_q := 0) (sl_q := 0) rfl ?_
        refine fw_sub rfl ?_
        refine fw_call 174 3 0 [.ref 66, fI (1 - i), fI (1 - j)] [fJ 1] rfl rfl rfl (Nat.le_of_ble_eq_true rfl) rfl rfl (fw_rec hl rfl h66 rfl (Nat.le_of_ble_eq_true rfl)) (cr_fear (f := fun j => ((f 0 :: 0 :: 0 :: 0 :: f 4 :: 0 :: 0 :: f 7 :: f 8 :: 0 :: f 10 :: f 11 :: f 12 :: f 13 :: f 14 :: f 15 :: f 16 :: f 17 :: 0 :: 0 :: 0 :: 0 :: 0 :: 0 :: f 24 :: 0 :: 0 :: 0 :: 0 :: 0 :: 0 :: 0 :: f 32 :: f 33 :: 0 :: 0 :: f 36 :: 0 :: 0 :: 0 :: 0 :: 0 :: 0 :: []) : List Int).getD j 0) (fr := fr) (ro := ro) (cl := cl) (i := 1 - i) (j := 1 - j) (by omega) (by omega) q3 q4 h66 h83 n83 h86 n86 h87 n87 hl) ?_
        rintro _ h_738 ⟨z_738, rfl, F_738⟩
        have k_738 : cL h_738 := F_738.1.trans hl
        have fr_738 := hfr_cb (hfr_refl [] h) F_738 rfl
        have g_738_66 := (hfr_g F_738 66 rfl).trans h66
        have g_738_83 := (hfr_g F_738 83 rfl).trans h83
        have g_738_86 := (hfr_g F_738 86 rfl).trans h86
        have g_738_87 := (hfr_g F_738 87 rfl).trans h87
        refine ik_Wk 0 (pc_q := 41) (loc_q := [some (.ref 66), some (fI sz), some (fI i), some (fI j), some (fJ 1), none, none, none, none, none]) (st_q := [fJ z_738, fJ 1]) (h_q := h_738) (cl_q := 0) (sl_q := 0) rfl ?_
        refine fw_lmul rfl ?_
        exact ik_Wret rfl rfl ⟨_, _, rfl, rfl, rfl, rfl, ⟨(1 * z_738), rfl, fr_738⟩⟩
      · refine ik_Wk 1 (pc_q := 44) (loc_q := [some (.ref 66), some (fI sz), some (fI i), some (fI j), some (fJ 1), none, none, none, none, none]) (st_q := [fI i]) (h_q := h) (cl_q := 0) (sl_q := 0) rfl ?_
        refine fw_if_ne rfl rfl (by omega) (by omega) (fun hc4 => ?_) (fun hc4 => ?_)
        · refine ik_Wk 5 (pc_q := 56) (loc_q := [some (.ref 66), some (fI sz), some (fI i), some (fI j), some (fJ 1), none, some (fI 1), none, none, none]) (st_q := [fI 2, fI i]) (h_q := h) (cl_q := 0) (sl_q := 0) rfl ?_
          refine fw_ic_ne rfl rfl (by omega) (by omega) (by omega) (by omega) (fun hc5 => ?_) (fun hc5 => ?_)
          · refine ik_Wk 4 (pc_q := 67) (loc_q := [some (.ref 66), some (fI sz), some (fI i), some (fI j), some (fJ 1), none, some (fI 1), some (fI 1), none, none]) (st_q := [fI j]) (h_q := h) (cl_q := 0) (sl_q := 0) rfl ?_
            refine fw_if_ne rfl rfl (by omega) (by omega) (fun hc6 => ?_) (fun hc6 => ?_)
            · refine ik_Wk 5 (pc_q := 79) (loc_q := [some (.ref 66), some (fI sz), some (fI i), some (fI j), some (fJ 1), none, some (fI 1), some (fI 1), some (fI 1), none]) (st_q := [fI 2, fI j]) (h_q := h) (cl_q := 0) (sl_q := 0) rfl ?_
              refine fw_ic_ne rfl rfl (by omega) (by omega) (by omega) (by omega) (fun hc7 => ?_) (fun hc7 => ?_)
              · refine ik_Wk 7 (pc_q := 96) (loc_q := [some (.ref 66), some (fI sz), some (fI i), some (fI j), some (fJ 1), none, some (fI 1), some (fI 1), some (fI 1), some (fI 1)]) (st_q := [fI 1, fI 1, .ref 66, fJ 1]) (h_q := h) (cl_q := 0) (sl_q := 0) rfl ?_
                refine fw_call 174 3 0 [.ref 66, fI 1, fI 1] [fJ 1] rfl rfl rfl (Nat.le_of_ble_eq_true rfl) rfl rfl (fw_rec hl rfl h66 rfl (Nat.le_of_ble_eq_true rfl)) (cr_fear (f := fun j => ((f 0 :: 0 :: 0 :: 0 :: f 4 :: 0 :: 0 :: f 7 :: f 8 :: 0 :: f 10 :: f 11 :: f 12 :: f 13 :: f 14 :: f 15 :: f 16 :: f 17 :: 0 :: 0 :: 0 :: 0 :: 0 :: 0 :: f 24 :: 0 :: 0 :: 0 :: 0 :: 0 :: 0 :: 0 :: f 32 :: f 33 :: 0 :: 0 :: f 36 :: 0 :: 0 :: 0 :: 0 :: 0 :: 0 :: []) : List Int).getD j 0) (fr := fr) (ro := ro) (cl := cl) (i := 1) (j := 1) (by omega) (by omega) q3 q4 h66 h83 n83 h86 n86 h87 n87 hl) ?_
                rintro _ h_739 ⟨z_739, rfl, F_739⟩
                have k_739 : cL h_739 := F_739.1.trans hl
                have fr_739 := hfr_cb (hfr_refl [] h) F_739 rfl
                have g_739_66 := (hfr_g F_739 66 rfl).trans h66
                have g_739_83 := (hfr_g F_739 83 rfl).trans h83
                have g_739_86 := (hfr_g F_739 86 rfl).trans h86
                have g_739_87 := (hfr_g F_739 87 rfl).trans h87
                refine ik_Wk 0 (pc_q := 99) (loc_q := [some (.ref 66), some (fI sz), some (fI i), some (fI j), some (fJ 1), none, some (fI 1), some (fI 1), some (fI 1), some (fI 1)]) (st_q := [fJ z_739, fJ 1]) (h_q := h_739) (cl_q := 0) (sl_q := 0) rfl ?_
                refine ik_Wk 3 (pc_q := 104) (loc_q := [some (.ref 66), some (fI sz), some (fI i), some (fI j), some (fJ 1), none, some (fI 1), some (fI 1), some (fI 1), some (fI 1)]) (st_q := [fI 1, fI 1, .ref 66, fJ z_739, fJ 1]) (h_q := h_739) (cl_q := 0) (sl_q := 0) rfl ?_
                refine fw_call 174 3 0 [.ref 66, fI 1, fI 1] [fJ z_739, fJ 1] rfl rfl rfl (Nat.le_of_ble_eq_true rfl) rfl rfl (fw_rec k_739 rfl g_739_66 rfl (Nat.le_of_ble_eq_true rfl)) (cr_fear (f := fun j => ((f 0 :: 0 :: 0 :: 0 :: f 4 :: 0 :: 0 :: f 7 :: f 8 :: 0 :: f 10 :: f 11 :: f 12 :: f 13 :: f 14 :: f 15 :: f 16 :: f 17 :: 0 :: 0 :: 0 :: 0 :: 0 :: 0 :: f 24 :: 0 :: 0 :: 0 :: 0 :: 0 :: 0 :: 0 :: f 32 :: f 33 :: 0 :: 0 :: f 36 :: 0 :: 0 :: 0 :: 0 :: 0 :: 0 :: []) : List Int).getD j 0) (fr := fr) (ro := ro) (cl := cl) (i := 1) (j := 1) (by omega) (by omega) q3 q4 g_739_66 g_739_83 n83 g_739_86 n86 g_739_87 n87 k_739) ?_
                rintro _ h_740 ⟨z_740, rfl, F_740⟩
                have k_740 : cL h_740 := F_740.1.trans k_739
                have fr_740 := hfr_cb fr_739 F_740 rfl
                have g_740_66 := (hfr_g F_740 66 rfl).trans g_739_66
                have g_740_83 := (hfr_g F_740 83 rfl).trans g_739_83
                have g_740_86 := (hfr_g F_740 86 rfl).trans g_739_86
                have g_740_87 := (hfr_g F_740 87 rfl).trans g_739_87
                refine ik_Wk 0 (pc_q := 107) (loc_q := [some (.ref 66), some (fI sz), some (fI i), some (fI j), some (fJ 1), none, some (fI 1), some (fI 1), some (fI 1), some (fI 1)]) (st_q := [fJ z_740, fJ z_739, fJ 1]) (h_q := h_740) (cl_q := 0) (sl_q := 0) rfl ?_
                refine fw_lmul rfl ?_
                refine ik_Wk 3 (pc_q := 113) (loc_q := [some (.ref 66), some (fI sz), some (fI i), some (fI j), some (fJ 1), none, some (fI 1), some (fI 1), some (fI 1), some (fI 1)]) (st_q := [fI 1, fI 1, .ref 66, fJ (z_739 * z_740), fJ 1]) (h_q := h_740) (cl_q := 0) (sl_q := 0) rfl ?_
                refine fw_call 174 3 0 [.ref 66, fI 1, fI 1] [fJ (z_739 * z_740), fJ 1] rfl rfl rfl (Nat.le_of_ble_eq_true rfl) rfl rfl (fw_rec k_740 rfl g_740_66 rfl (Nat.le_of_ble_eq_true rfl)) (cr_fear (f := fun j => ((f 0 :: 0 :: 0 :: 0 :: f 4 :: 0 :: 0 :: f 7 :: f 8 :: 0 :: f 10 :: f 11 :: f 12 :: f 13 :: f 14 :: f 15 :: f 16 :: f 17 :: 0 :: 0 :: 0 :: 0 :: 0 :: 0 :: f 24 :: 0 :: 0 :: 0 :: 0 :: 0 :: 0 :: 0 :: f 32 :: f 33 :: 0 :: 0 :: f 36 :: 0 :: 0 :: 0 :: 0 :: 0 :: 0 :: []) : List Int).getD j 0) (fr := fr) (ro := ro) (cl := cl) (i := 1) (j := 1) (by omega) (by omega) q3 q4 g_740_66 g_740_83 n83 g_740_86 n86 g_740_87 n87 k_740) ?_
                rintro _ h_741 ⟨z_741, rfl, F_741⟩
                have k_741 : cL h_741 := F_741.1.trans k_740
                have fr_741 := hfr_cb fr_740 F_741 rfl
                have g_741_66 := (hfr_g F_741 66 rfl).trans g_740_66
                have g_741_83 := (hfr_g F_741 83 rfl).trans g_740_83
                have g_741_86 := (hfr_g F_741 86 rfl).trans g_740_86
                have g_741_87 := (hfr_g F_741 87 rfl).trans g_740_87
                refine ik_Wk 0 (pc_q := 116) (loc_q := [some (.ref 66), some (fI sz), some (fI i), some (fI j), some (fJ 1), none, some (fI 1), some (fI 1), some (fI 1), some (fI 1)]) (st_q := [fJ z_741, fJ (z_739 * z_740), fJ 1]) (h_q := h_741) (cl_q := 0) (sl_q := 0) rfl ?_
                refine ik_Wk 3 (pc_q := 121) (loc_q := [some (.ref 66), some (fI sz), some (fI i), some (fI j), some (fJ 1), none, some (fI 1), some (fI 1), some (fI 1), some (fI 1)]) (st_q := [fI 1, fI 1, .ref 66, fJ z_741, fJ (z_739 * z_740), fJ 1]) (h_q := h_741) (cl_q := 0) (sl_q := 0) rfl ?_
                refine fw_call 174 3 0 [.ref 66, fI 1, fI 1] [fJ z_741, fJ (z_739 * z_740), fJ 1] rfl rfl rfl (Nat.le_of_ble_eq_true rfl) rfl rfl (fw_rec k_741 rfl g_741_66 rfl (Nat.le_of_ble_eq_true rfl)) (cr_fear (f := fun j => ((f 0 :: 0 :: 0 :: 0 :: f 4 :: 0 :: 0 :: f 7 :: f 8 :: 0 :: f 10 :: f 11 :: f 12 :: f 13 :: f 14 :: f 15 :: f 16 :: f 17 :: 0 :: 0 :: 0 :: 0 :: 0 :: 0 :: f 24 :: 0 :: 0 :: 0 :: 0 :: 0 :: 0 :: 0 :: f 32 :: f 33 :: 0 :: 0 :: f 36 :: 0 :: 0 :: 0 :: 0 :: 0 :: 0 :: []) : List Int).getD j 0) (fr := fr) (ro := ro) (cl := cl) (i := 1) (j := 1) (by omega) (by omega) q3 q4 g_741_66 g_741_83 n83 g_741_86 n86 g_741_87 n87 k_741) ?_
                rintro _ h_742 ⟨z_742, rfl, F_742⟩
                have k_742 : cL h_742 := F_742.1.trans k_741
                have fr_742 := hfr_cb fr_741 F_742 rfl
                have g_742_66 := (hfr_g F_742 66 rfl).trans g_741_66
                have g_742_83 := (hfr_g F_742 83 rfl).trans g_741_83
                have g_742_86 := (hfr_g F_742 86 rfl).trans g_741_86
                have g_742_87 := (hfr_g F_742 87 rfl).trans g_741_87
                refine ik_Wk 0 (pc_q := 124) (loc_q := [some (.ref 66), some (fI sz), some (fI i), some (fI j), some (fJ 1), none, some (fI 1), some (fI 1), some (fI 1), some (fI 1)]) (st_q := [fJ z_742, fJ z_741, fJ (z_739 * z_740), fJ 1]) (h_q := h_742) (cl_q := 0) (sl_q := 0) rfl ?_
                refine fw_lmul rfl ?_
                refine fw_lsub rfl ?_
                refine fw_lmul rfl ?_
                exact ik_Wret rfl rfl ⟨_, _, rfl, rfl, rfl, rfl, ⟨(1 * ((z_739 * z_740) - (z_741 * z_742))), rfl, fr_742⟩⟩
              · refine ik_Wk 6 (pc_q := 96) (loc_q := [some (.ref 66), some (fI sz), some (fI i), some (fI j), some (fJ 1), none, some (fI 1), some (fI 1), some (fI 1), some (fI 2)]) (st_q := [fI 1, fI 1, .ref 66, fJ 1]) (h_q := h) (cl_q := 0) (sl_q := 0) rfl ?_
                refine fw_call 174 3 0 [.ref 66, fI 1, fI 1] [fJ 1] rfl rfl rfl (Nat.le_of_ble_eq_true rfl) rfl rfl (fw_rec hl rfl h66 rfl (Nat.le_of_ble_eq_true rfl)) (cr_fear (f := fun j => ((f 0 :: 0 :: 0 :: 0 :: f 4 :: 0 :: 0 :: f 7 :: f 8 :: 0 :: f 10 :: f 11 :: f 12 :: f 13 :: f 14 :: f 15 :: f 16 :: f 17 :: 0 :: 0 :: 0 :: 0 :: 0 :: 0 :: f 24 :: 0 :: 0 :: 0 :: 0 :: 0 :: 0 :: 0 :: f 32 :: f 33 :: 0 :: 0 :: f 36 :: 0 :: 0 :: 0 :: 0 :: 0 :: 0 :: []) : List Int).getD j 0) (fr := fr) (ro := ro) (cl := cl) (i := 1) (j := 1) (by omega) (by omega) q3 q4 h66 h83 n83 h86 n86 h87 n87 hl) ?_
                rintro _ h_743 ⟨z_743, rfl, F_743⟩
                have k_743 : cL h_743 := F_743.1.trans hl
                have fr_743 := hfr_cb (hfr_refl [] h) F_743 rfl
                have g_743_66 := (hfr_g F_743 66 rfl).trans h66
                have g_743_83 := (hfr_g F_743 83 rfl).trans h83
                have g_743_86 := (hfr_g F_743 86 rfl).trans h86
                have g_743_87 := (hfr_g F_743 87 rfl).trans h87
                refine ik_Wk 0 (pc_q := 99) (loc_q := [some (.ref 66), some (fI sz), some (fI i), some (fI j), some (fJ 1), none, some (fI 1), some (fI 1), some (fI 1), some (fI 2)]) (st_q := [fJ z_743, fJ 1]) (h_q := h_743) (cl_q := 0) (sl_q := 0) rfl ?_
                refine ik_Wk 3 (pc_q := 104) (loc_q := [some (.ref 66), some (fI sz), some (fI i), some (fI j), some (fJ 1), none, some (fI 1), some (fI 1), some (fI 1), some (fI 2)]) (st_q := [fI 2, fI 1, .ref 66, fJ z_743, fJ 1]) (h_q := h_743) (cl_q := 0) (sl_q := 0) rfl ?_
                refine fw_call 174 3 0 [.ref 66, fI 1, fI 2] [fJ z_743, fJ 1] rfl rfl rfl (Nat.le_of_ble_eq_true rfl) rfl rfl (fw_rec k_743 rfl g_743_66 rfl (Nat.le_of_ble_eq_true rfl)) (cr_fear (f := fun j => ((f 0 :: 0 :: 0 :: 0 :: f 4 :: 0 :: 0 :: f 7 :: f 8 :: 0 :: f 10 :: f 11 :: f 12 :: f 13 :: f 14 :: f 15 :: f 16 :: f 17 :: 0 :: 0 :: 0 :: 0 :: 0 :: 0 :: f 24 :: 0 :: 0 :: 0 :: 0 :: 0 :: 0 :: 0 :: f 32 :: f 33 :: 0 :: 0 :: f 36 :: 0 :: 0 :: 0 :: 0 :: 0 :: 0 :: []) : List Int).getD j 0) (fr := fr) (ro := ro) (cl := cl) (i := 1) (j := 2) (by omega) (by omega) q3 q4 g_743_66 g_743_83 n83 g_743_86 n86 g_743_87 n87 k_743) ?_
                rintro _ h_744 ⟨z_744, rfl, F_744⟩
                have k_744 : cL h_744 := F_744.1.trans k_743
                have fr_744 := hfr_cb fr_743 F_744 rfl
                have g_744_66 := (hfr_g F_744 66 rfl).trans g_743_66
                have g_744_83 := (hfr_g F_744 83 rfl).trans g_743_83
                have g_744_86 := (hfr_g F_744 86 rfl).trans g_743_86
                have g_744_87 := (hfr_g F_744 87 rfl).trans g_743_87
                refine ik_Wk 0 (pc_q := 107) (loc_q := [some (.ref 66), some (fI sz), some (fI i), some (fI j), some (fJ 1), none, some (fI 1), some (fI 1), some (fI 1), some (fI 2)]) (st_q := [fJ z_744, fJ z_743, fJ 1]) (h_q := h_744) (cl_q := 0) (sl_q := 0) rfl ?_
                refine fw_lmul rfl ?_
                refine ik_Wk 3 (pc_q := 113) (loc_q := [some (.ref 66), some (fI sz), some (fI i), some (fI j), some (fJ 1), none, some (fI 1), some (fI 1), some (fI 1), some (fI 2)]) (st_q := [fI 2, fI 1, .ref 66, fJ (z_743 * z_744), fJ 1]) (h_q := h_744) (cl_q := 0) (sl_q := 0) rfl ?_
                refine fw_call 174 3 0 [.ref 66, fI 1, fI 2] [fJ (z_743 * z_744), fJ 1] rfl rfl rfl (Nat.le_of_ble_eq_true rfl) rfl rfl (fw_rec k_744 rfl g_744_66 rfl (Nat.le_of_ble_eq_true rfl)) (cr_fear (f := fun j => ((f 0 :: 0 :: 0 :: 0 :: f 4 :: 0 :: 0 :: f 7 :: f 8 :: 0 :: f 10 :: f 11 :: f 12 :: f 13 :: f 14 :: f 15 :: f 16 :: f 17 :: 0 :: 0 :: 0 :: 0 :: 0 :: 0 :: f 24 :: 0 :: 0 :: 0 :: 0 :: 0 :: 0 :: 0 :: f 32 :: f 33 :: 0 :: 0 :: f 36 :: 0 :: 0 :: 0 :: 0 :: 0 :: 0 :: []) : List Int).getD j 0) (fr := fr) (ro := ro) (cl := cl) (i := 1) (j := 2) (by omega) (by omega) q3 q4 g_744_66 g_744_83 n83 g_744_86 n86 g_744_87 n87 k_744) ?_
                rintro _ h_745 ⟨z_745, rfl, F_745⟩
                have k_745 : cL h_745 := F_745.1.trans k_744
                have fr_745 := hfr_cb fr_744 F_745 rfl
                have g_745_66 := (hfr_g F_745 66 rfl).trans g_744_66
                have g_745_83 := (hfr_g F_745 83 rfl).trans g_744_83
                have g_745_86 := (hfr_g F_745 86 rfl).trans g_744_86
                have g_745_87 := (hfr_g F_745 87 rfl).trans g_744_87
                refine ik_Wk 0 (pc_q := 116) (loc_q := [some (.ref 66), some (fI sz), some (fI i), some (fI j), some (fJ 1), none, some (fI 1), some (fI 1), some (fI 1), some (fI 2)]) (st_q := [fJ z_745, fJ (z_743 * z_744), fJ 1]) (h_q := h_745) (cl_q := 0) (sl_q := 0) rfl ?_
                refine ik_Wk 3 (pc_q := 121) (loc_q := [some (.ref 66), some (fI sz), some (fI i), some (fI j), some (fJ 1), none, some (fI 1), some (fI 1), some (fI 1), some (fI 2)]) (st_q := [fI 1, fI 1, .ref 66, fJ z_745, fJ (z_743 * z_744), fJ 1]) (h_q := h_745) (cl_q := 0) (sl_q := 0) rfl ?_
                refine fw_call 174 3 0 [.ref 66, fI 1, fI 1] [fJ z_745, fJ (z_743 * z_744), fJ 1] rfl rfl rfl (Nat.le_of_ble_eq_true rfl) rfl rfl (fw_rec k_745 rfl g_745_66 rfl (Nat.le_of_ble_eq_true rfl)) (cr_fear (f := fun j => ((f 0 :: 0 :: 0 :: 0 :: f 4 :: 0 :: 0 :: f 7 :: f 8 :: 0 :: f 10 :: f 11 :: f 12 :: f 13 :: f 14 :: f 15 :: f 16 :: f 17 :: 0 :: 0 :: 0 :: 0 :: 0 :: 0 :: f 24 :: 0 :: 0 :: 0 :: 0 :: 0 :: 0 :: 0 :: f 32 :: f 33 :: 0 :: 0 :: f 36 :: 0 :: 0 :: 0 :: 0 :: 0 :: 0 :: []) : List Int).getD j 0) (fr := fr) (ro := ro) (cl := cl) (i := 1) (j := 1) (by omega) (by omega) q3 q4 g_745_66 g_745_83 n83 g_745_86 n86 g_745_87 n87 k_745) ?_
                rintro _ h_746 ⟨z_746, rfl, F_746⟩
                have k_746 : cL h_746 := F_746.1.trans k_745
                have fr_746 := hfr_cb fr_745 F_746 rfl
                have g_746_66 := (hfr_g F_746 66 rfl).trans g_745_66
                have g_746_83 := (hfr_g F_746 83 rfl).trans g_745_83
                have g_746_86 := (hfr_g F_746 86 rfl).trans g_745_86
                have g_746_87 := (hfr_g F_746 87 rfl).trans g_745_87
                refine ik_Wk 0 (pc_q := 124) (loc_q := [some (.ref 66), some (fI sz), some (fI i), some (fI j), some (fJ 1), none, some (fI 1), some (fI 1), some (fI 1), some (fI 2)]) (st_q := [fJ z_746, fJ z_745, fJ (z_743 * z_744), fJ 1]) (h_q := h_746) (cl_q := 0) (sl_q := 0) rfl ?_
                refine fw_lmul rfl ?_
                refine fw_lsub rfl ?_
                refine fw_lmul rfl ?_
                exact ik_Wret rfl rfl ⟨_, _, rfl, rfl, rfl, rfl, ⟨(1 * ((z_743 * z_744) - (z_745 * z_746))), rfl, fr_746⟩⟩
            · refine ik_Wk 4 (pc_q := 79) (loc_q := [some (.ref 66), some (fI sz), some (fI i), some (fI j), some (fJ 1), none, some (fI 1), some (fI 1), some (fI 0), none]) (st_q := [fI 2, fI j]) (h_q := h) (cl_q := 0) (sl_q := 0) rfl ?_
              refine fw_ic_ne rfl rfl (by omega) (by omega) (by omega) (by omega) (fun hc8 => ?_) (fun hc8 => ?_)
              · refine ik_Wk 7 (pc_q := 96) (loc_q := [some (.ref 66), some (fI sz), some (fI i), some (fI j), some (fJ 1), none, some (fI 1), some (fI 1), some (fI 0), some (fI 1)]) (st_q := [fI 0, fI 1, .ref 66, fJ 1]) (h_q := h) (cl_q := 0) (sl_q := 0) rfl ?_
                refine fw_call 174 3 0 [.ref 66, fI 1, fI 0] [fJ 1] rfl rfl rfl (Nat.le_of_ble_eq_true rfl) rfl rfl (fw_rec hl rfl h66 rfl (Nat.le_of_ble_eq_true rfl)) (cr_fear (f := fun j => ((f 0 :: 0 :: 0 :: 0 :: f 4 :: 0 :: 0 :: f 7 :: f 8 :: 0 :: f 10 :: f 11 :: f 12 :: f 13 :: f 14 :: f 15 :: f 16 :: f 17 :: 0 :: 0 :: 0 :: 0 :: 0 :: 0 :: f 24 :: 0 :: 0 :: 0 :: 0 :: 0 :: 0 :: 0 :: f 32 :: f 33 :: 0 :: 0 :: f 36 :: 0 :: 0 :: 0 :: 0 :: 0 :: 0 :: []) : List Int).getD j 0) (fr := fr) (ro := ro) (cl := cl) (i := 1) (j := 0) (by omega) (by omega) q3 q4 h66 h83 n83 h86 n86 h87 n87 hl) ?_
                rintro _ h_747 ⟨z_747, rfl, F_747⟩
                have k_747 : cL h_747 := F_747.1.trans hl
                have fr_747 := hfr_cb (hfr_refl [] h) F_747 rfl
                have g_747_66 := (hfr_g F_747 66 rfl).trans h66
                have g_747_83 := (hfr_g F_747 83 rfl).trans h83
                have g_747_86 := (hfr_g F_747 86 rfl).trans h86
                have g_747_87 := (hfr_g F_747 87 rfl).trans h87
                refine ik_Wk 0 (pc_q := 99) (loc_q := [some (.ref 66), some (fI sz), some (fI i), some (fI j), some (fJ 1), none, some (fI 1), some (fI 1), some (fI 0), some (fI 1)]) (st_q := [fJ z_747, fJ 1]) (h_q := h_747) (cl_q := 0) (sl_q := 0) rfl ?_
                refine ik_Wk 3 (pc_q := 104) (loc_q := [some (.ref 66), some (fI sz), some (fI i), some (fI j), some (fJ 1), none, some (fI 1), some (fI 1), some (fI 0), some (fI 1)]) (st_q := [fI 1, fI 1, .ref 66, fJ z_747, fJ 1]) (h_q := h_747) (cl_q := 0) (sl_q := 0) rfl ?_
                refine fw_call 174 3 0 [.ref 66, fI 1, fI 1] [fJ z_747, fJ 1] rfl rfl rfl (Nat.le_of_ble_eq_true rfl) rfl rfl (fw_rec k_747 rfl g_747_66 rfl (Nat.le_of_ble_eq_true rfl)) (cr_fear (f := fun j => ((f 0 :: 0 :: 0 :: 0 :: f 4 :: 0 :: 0 :: f 7 :: f 8 :: 0 :: f 10 :: f 11 :: f 12 :: f 13 :: f 14 :: f 15 :: f 16 :: f 17 :: 0 :: 0 :: 0 :: 0 :: 0 :: 0 :: f 24 :: 0 :: 0 :: 0 :: 0 :: 0 :: 0 :: 0 :: f 32 :: f 33 :: 0 :: 0 :: f 36 :: 0 :: 0 :: 0 :: 0 :: 0 :: 0 :: []) : List Int).getD j 0) (fr := fr) (ro := ro) (cl := cl) (i := 1) (j := 1) (by omega) (by omega) q3 q4 g_747_66 g_747_83 n83 g_747_86 n86 g_747_87 n87 k_747) ?_
                rintro _ h_748 ⟨z_748, rfl, F_748⟩
                have k_748 : cL h_748 := F_748.1.trans k_747
                have fr_748 := hfr_cb fr_747 F_748 rfl
                have g_748_66 := (hfr_g F_748 66 rfl).trans g_747_66
                have g_748_83 := (hfr_g F_748 83 rfl).trans g_747_83
                have g_748_86 := (hfr_g F_748 86 rfl).trans g_747_86
                have g_748_87 := (hfr_g F_748 87 rfl).trans g_747_87
                refine ik_Wk 0 (pc_q := 107) (loc_q := [some (.ref 66), some (fI sz), some (fI i), some (fI j), some (fJ 1), none, some (fI 1), some (fI 1), some (fI 0), some (fI 1)]) (st_q := [fJ z_748, fJ z_747, fJ 1]) (h_q := h_748) (cl_q := 0) (sl_q := 0) rfl ?_
                refine fw_lmul rfl ?_
                refine ik_Wk 3 (pc_q := 113) (loc_q := [some (.ref 66), some (fI sz), some (fI i), some (fI j), some (fJ 1), none, some (fI 1), some (fI 1), some (fI 0), some (fI 1)]) (st_q := [fI 1, fI 1, .ref 66, fJ (z_747 * z_748), fJ 1]) (h_q := h_748) (cl_q := 0) (sl_q := 0) rfl ?_
                refine fw_call 174 3 0 [.ref 66, fI 1, fI 1] [fJ (z_747 * z_748), fJ 1] rfl rfl rfl (Nat.le_of_ble_eq_true rfl) rfl rfl (fw_rec k_748 rfl g_748_66 rfl (Nat.le_of_ble_eq_true rfl)) (cr_fear (f := fun j => ((f 0 :: 0 :: 0 :: 0 :: f 4 :: 0 :: 0 :: f 7 :: f 8 :: 0 :: f 10 :: f 11 :: f 12 :: f 13 :: f 14 :: f 15 :: f 16 :: f 17 :: 0 :: 0 :: 0 :: 0 :: 0 :: 0 :: f 24 :: 0 :: 0 :: 0 :: 0 :: 0 :: 0 :: 0 :: f 32 :: f 33 :: 0 :: 0 :: f 36 :: 0 :: 0 :: 0 :: 0 :: 0 :: 0 :: []) : List Int).getD j 0) (fr := fr) (ro := ro) (cl := cl) (i := 1) (j := 1) (by omega) (by omega) q3 q4 g_748_66 g_748_83 n83 g_748_86 n86 g_748_87 n87 k_748) ?_
                rintro _ h_749 ⟨z_749, rfl, F_749⟩
                have k_749 : cL h_749 := F_749.1.trans k_748
                have fr_749 := hfr_cb fr_748 F_749 rfl
                have g_749_66 := (hfr_g F_749 66 rfl).trans g_748_66
                have g_749_83 := (hfr_g F_749 83 rfl).trans g_748_83
                have g_749_86 := (hfr_g F_749 86 rfl).trans g_748_86
                have g_749_87 := (hfr_g F_749 87 rfl).trans g_748_87
                refine ik_Wk 0 (pc_q := 116) (loc_q := [some (.ref 66), some (fI sz), some (fI i), some (fI j), some (fJ 1), none, some (fI 1), some (fI 1), some (fI 0), some (fI 1)]) (st_q := [fJ z_749, fJ (z_747 * z_748), fJ 1]) (h_q := h_749) (cl_q := 0) (sl_q := 0) rfl ?_
                refine ik_Wk 3 (pc_q := 121) (loc_q := [some (.ref 66), some (fI sz), some (fI i), some (fI j), some (fJ 1), none, some (fI 1), some (fI 1), some (fI 0), some (fI 1)]) (st_q := [fI 0, fI 1, .ref 66, fJ z_749, fJ (z_747 * z_748), fJ 1]) (h_q := h_749) (cl_q := 0) (sl_q := 0) rfl ?_
                refine fw_call 174 3 0 [.ref 66, fI 1, fI 0] [fJ z_749, fJ (z_747 * z_748), fJ 1] rfl rfl rfl (Nat.le_of_ble_eq_true rfl) rfl rfl (fw_rec k_749 rfl g_749_66 rfl (Nat.le_of_ble_eq_true rfl)) (cr_fear (f := fun j => ((f 0 :: 0 :: 0 :: 0 :: f 4 :: 0 :: 0 :: f 7 :: f 8 :: 0 :: f 10 :: f 11 :: f 12 :: f 13 :: f 14 :: f 15 :: f 16 :: f 17 :: 0 :: 0 :: 0 :: 0 :: 0 :: 0 :: f 24 :: 0 :: 0 :: 0 :: 0 :: 0 :: 0 :: 0 :: f 32 :: f 33 :: 0 :: 0 :: f 36 :: 0 :: 0 :: 0 :: 0 :: 0 :: 0 :: []) : List Int).getD j 0) (fr := fr) (ro := ro) (cl := cl) (i := 1) (j := 0) (by omega) (by omega) q3 q4 g_749_66 g_749_83 n83 g_749_86 n86 g_749_87 n87 k_749) ?_
                rintro _ h_750 ⟨z_750, rfl, F_750⟩
                have k_750 : cL h_750 := F_750.1.trans k_749
                have fr_750 := hfr_cb fr_749 F_750 rfl
                have g_750_66 := (hfr_g F_750 66 rfl).trans g_749_66
                have g_750_83 := (hfr_g F_750 83 rfl).trans g_749_83
                have g_750_86 := (hfr_g F_750 86 rfl).trans g_749_86
                have g_750_87 := (hfr_g F_750 87 rfl).trans g_749_87
                refine ik_Wk 0 (pc_q := 124) (loc_q := [some (.ref 66), some (fI sz), some (fI i), some (fI j), some (fJ 1), none, some (fI 1), some (fI 1), some (fI 0), some (fI 1)]) (st_q := [fJ z_750, fJ z_749, fJ (z_747 * z_748), fJ 1]) (h_q := h_750) (cl_q := 0) (sl_q := 0) rfl ?_
                refine fw_lmul rfl ?_
                refine fw_lsub rfl ?_
                refine fw_lmul rfl ?_
                exact ik_Wret rfl rfl ⟨_, _, rfl, rfl, rfl, rfl, ⟨(1 * ((z_747 * z_748) - (z_749 * z_750))), rfl, fr_750⟩⟩
              · refine ik_Wk 6 (pc_q := 96) (loc_q := [some (.ref 66), some (fI sz), some (fI i), some (fI j), some (fJ 1), none, some (fI 1), some (fI 1), some (fI 0), some (fI 2)]) (st_q := [fI 0, fI 1, .ref 66, fJ 1]) (h_q := h) (cl_q := 0) (sl_q := 0) rfl ?_
                refine fw_call 174 3 0 [.ref 66, fI 1, fI 0] [fJ 1] rfl rfl rfl (Nat.le_of_ble_eq_true rfl) rfl rfl (fw_rec hl rfl h66 rfl (Nat.le_of_ble_eq_true rfl)) (cr_fear (f := fun j => ((f 0 :: 0 :: 0 :: 0 :: f 4 :: 0 :: 0 :: f 7 :: f 8 :: 0 :: f 10 :: f 11 :: f 12 :: f 13 :: f 14 :: f 15 :: f 16 :: f 17 :: 0 :: 0 :: 0 :: 0 :: 0 :: 0 :: f 24 :: 0 :: 0 :: 0 :: 0 :: 0 :: 0 :: 0 :: f 32 :: f 33 :: 0 :: 0 :: f 36 :: 0 :: 0 :: 0 :: 0 :: 0 :: 0 :: []) : List Int).getD j 0) (fr := fr) (ro := ro) (cl := cl) (i := 1) (j := 0) (by omega) (by omega) q3 q4 h66 h83 n83 h86 n86 h87 n87 hl) ?_
                rintro _ h_751 ⟨z_751, rfl, F_751⟩
                have k_751 : cL h_751 := F_751.1.trans hl
                have fr_751 := hfr_cb (hfr_refl [] h) F_751 rfl
                have g_751_66 := (hfr_g F_751 66 rfl).trans h66
                have g_751_83 := (hfr_g F_751 83 rfl).trans h83
                have g_751_86 := (hfr_g F_751 86 rfl).trans h86
                have g_751_87 := (hfr_g F_751 87 rfl).trans h87
                refine ik_Wk 0 (pc_q := 99) (loc_q := [some (.ref 66), some (fI sz), some (fI i), some (fI j), some (fJ 1), none, some (fI 1), some (fI 1), some (fI 0), some (fI 2)]) (st_q := [fJ z_751, fJ 1]) (h_q := h_751) (cl_q := 0) (sl_q := 0) rfl ?_
                refine ik_Wk 3 (pc_q := 104) (loc_q := [some (.ref 66), some (fI sz), some (fI i), some (fI j), some (fJ 1), none, some (fI 1), some (fI 1), some (fI 0), some (fI 2)]) (st_q := [fI 2, fI 1, .ref 66, fJ z_751, fJ 1]) (h_q := h_751) (cl_q := 0) (sl_q := 0) rfl ?_
                refine fw_call 174 3 0 [.ref 66, fI 1, fI 2] [fJ z_751, fJ 1] rfl rfl rfl (Nat.le_of_ble_eq_true rfl) rfl rfl (fw_rec k_751 rfl g_751_66 rfl (Nat.le_of_ble_eq_true rfl)) (cr_fear (f := fun j => ((f 0 :: 0 :: 0 :: 0 :: f 4 :: 0 :: 0 :: f 7 :: f 8 :: 0 :: f 10 :: f 11 :: f 12 :: f 13 :: f 14 :: f 15 :: f 16 :: f 17 :: 0 :: 0 :: 0 :: 0 :: 0 :: 0 :: f 24 :: 0 :: 0 :: 0 :: 0 :: 0 :: 0 :: 0 :: f 32 :: f 33 :: 0 :: 0 :: f 36 :: 0 :: 0 :: 0 :: 0 :: 0 :: 0 :: []) : List Int).getD j 0) (fr := fr) (ro := ro) (cl := cl) (i := 1) (j := 2) (by omega) (by omega) q3 q4 g_751_66 g_751_83 n83 g_751_86 n86 g_751_87 n87 k_751) ?_
                rintro _ h_752 ⟨z_752, rfl, F_752⟩
                have k_752 : cL h_752 := F_752.1.trans k_751
                have fr_752 := hfr_cb fr_751 F_752 rfl
                have g_752_66 := (hfr_g F_752 66 rfl).trans g_751_66
                have g_752_83 := (hfr_g F_752 83 rfl).trans g_751_83
                have g_752_86 := (hfr_g F_752 86 rfl).trans g_751_86
                have g_752_87 := (hfr_g F_752 87 rfl).trans g_751_87
                refine ik_Wk 0 (pc_q := 107) (loc_q := [some (.ref 66), some (fI sz), some (fI i), some (fI j), some (fJ 1), none, some (fI 1), some (fI 1), some (fI 0), some (fI 2)]) (st_q := [fJ z_752, fJ z_751, fJ 1]) (h_q := h_752) (cl_q := 0) (sl_q := 0) rfl ?_
                refine fw_lmul rfl ?_
                refine ik_Wk 3 (pc_q := 113) (loc_q := [some (.ref 66), some (fI sz), some (fI i), some (fI j), some (fJ 1), none, some (fI 1), some (fI 1), some (fI 0), some (fI 2)]) (st_q := [fI 2, fI 1, .ref 66, fJ (z_751 * z_752), fJ 1]) (h_q := h_752) (cl_q := 0) (sl_q := 0) rfl ?_
                refine fw_call 174 3 0 [.ref 66, fI 1, fI 2] [fJ (z_751 * z_752), fJ 1] rfl rfl rfl (Nat.le_of_ble_eq_true rfl) rfl rfl (fw_rec k_752 rfl g_752_66 rfl (Nat.le_of_ble_eq_true rfl)) (cr_fear (f := fun j => ((f 0 :: 0 :: 0 :: 0 :: f 4 :: 0 :: 0 :: f 7 :: f 8 :: 0 :: f 10 :: f 11 :: f 12 :: f 13 :: f 14 :: f 15 :: f 16 :: f 17 :: 0 :: 0 :: 0 :: 0 :: 0 :: 0 :: f 24 :: 0 :: 0 :: 0 :: 0 :: 0 :: 0 :: 0 :: f 32 :: f 33 :: 0 :: 0 :: f 36 :: 0 :: 0 :: 0 :: 0 :: 0 :: 0 :: []) : List Int).getD j 0) (fr := fr) (ro := ro) (cl := cl) (i := 1) (j := 2) (by omega) (by omega) q3 q4 g_752_66 g_752_83 n83 g_752_86 n86 g_752_87 n87 k_752) ?_
                rintro _ h_753 ⟨z_753, rfl, F_753⟩
                have k_753 : cL h_753 := F_753.1.trans k_752
                have fr_753 := hfr_cb fr_752 F_753 rfl
                have g_753_66 := (hfr_g F_753 66 rfl).trans g_752_66
                have g_753_83 := (hfr_g F_753 83 rfl).trans g_752_83
                have g_753_86 := (hfr_g F_753 86 rfl).trans g_752_86
                have g_753_87 := (hfr_g F_753 87 rfl).trans g_752_87
                refine ik_Wk 0 (pc_q := 116) (loc_q := [some (.ref 66), some (fI sz), some (fI i), some (fI j), some (fJ 1), none, some (fI 1), some (fI 1), some (fI 0), some (fI 2)]) (st_q := [fJ z_753, fJ (z_751 * z_752), fJ 1]) (h_q := h_753) (cl_q := 0) (sl_q := 0) rfl ?_
                refine ik_Wk 3 (pc_q := 121) (loc_q := [some (.ref 66), some (fI sz), some (fI i), some (fI j), some (fJ 1), none, some (fI 1), some (fI 1), some (fI 0), some (fI 2)]) (st_q := [fI 0, fI 1, .ref 66, fJ z_753, fJ (z_751 * z_752), fJ 1]) (h_q := h_753) (cl_q := 0) (sl_q := 0) rfl ?_
                refine fw_call 174 3 0 [.ref 66, fI 1, fI 0] [fJ z_753, fJ (z_751 * z_752), fJ 1] rfl rfl rfl (Nat.le_of_ble_eq_true rfl) rfl rfl (fw_rec k_753 rfl g_753_66 rfl (Nat.le_of_ble_eq_true rfl)) (cr_fear (f := fun j => ((f 0 :: 0 :: 0 :: 0 :: f 4 :: 0 :: 0 :: f 7 :: f 8 :: 0 :: f 10 :: f 11 :: f 12 :: f 13 :: f 14 :: f 15 :: f 16 :: f 17 :: 0 :: 0 :: 0 :: 0 :: 0 :: 0 :: f 24 :: 0 :: 0 :: 0 :: 0 :: 0 :: 0 :: 0 :: f 32 :: f 33 :: 0 :: 0 :: f 36 :: 0 :: 0 :: 0 :: 0 :: 0 :: 0 :: []) : List Int).getD j 0) (fr := fr) (ro := ro) (cl := cl) (i := 1) (j := 0) (by omega) (by omega) q3 q4 g_753_66 g_753_83 n83 g_753_86 n86 g_753_87 n87 k_753) ?_
                rintro _ h_754 ⟨z_754, rfl, F_754⟩
                have k_754 : cL h_754 := F_754.1.trans k_753
                have fr_754 := hfr_cb fr_753 F_754 rfl
                have g_754_66 := (hfr_g F_754 66 rfl).trans g_753_66
                have g_754_83 := (hfr_g F_754 83 rfl).trans g_753_83
                have g_754_86 := (hfr_g F_754 86 rfl).trans g_753_86
                have g_754_87 := (hfr_g F_754 87 rfl).trans g_753_87
                refine ik_Wk 0 (pc_q := 124) (loc_q := [some (.ref 66), some (fI sz), some (fI i), some (fI j), some (fJ 1), none, some (fI 1), some (fI 1), some (fI 0), some (fI 2)]) (st_q := [fJ z_754, fJ z_753, fJ (z_751 * z_752), fJ 1]) (h_q := h_754) (cl_q := 0) (sl_q := 0) rfl ?_
                refine fw_lmul rfl ?_
                refine fw_lsub rfl ?_
                refine fw_lmul rfl ?_
                exact ik_Wret rfl rfl ⟨_, _, rfl, rfl, rfl, rfl, ⟨(1 * ((z_751 * z_752) - (z_753 * z_754))), rfl, fr_754⟩⟩
          · refine ik_Wk 3 (pc_q := 67) (loc_q := [some (.ref 66), some (fI sz), some (fI i), some (fI j), some (fJ 1), none, some (fI 1), some (fI 2), none, none]) (st_q := [fI j]) (h_q := h) (cl_q := 0) (sl_q := 0) rfl ?_
            refine fw_if_ne rfl rfl (by omega) (by omega) (fun hc9 => ?_) (fun hc9 => ?_)
            · refine ik_Wk 5 (pc_q := 79) (loc_q := [some (.ref 66), some (fI sz), some (fI i), some (fI j), some (fJ 1), none, some (fI 1), some (fI 2), some (fI 1), none]) (st_q := [fI 2, fI j]) (h_q := h) (cl_q := 0) (sl_q := 0) rfl ?_
              refine fw_ic_ne rfl rfl (by omega) (by omega) (by omega) (by omega) (fun hc10 => ?_) (fun hc10 => ?_)
              · refine ik_Wk 7 (pc_q := 96) (loc_q := [some (.ref 66), some (fI sz), some (fI i), some (fI j), some (fJ 1), none, some (fI 1), some (fI 2), some (fI 1), some (fI 1)]) (st_q := [fI 1, fI 1, .ref 66, fJ 1]) (h_q := h) (cl_q := 0) (sl_q := 0) rfl ?_
                refine fw_call 174 3 0 [.ref 66, fI 1, fI 1] [fJ 1] rfl rfl rfl (Nat.le_of_ble_eq_true rfl) rfl rfl (fw_rec hl rfl h66 rfl (Nat.le_of_ble_eq_true rfl)) (cr_fear (f := fun j => ((f 0 :: 0 :: 0 :: 0 :: f 4 :: 0 :: 0 :: f 7 :: f 8 :: 0 :: f 10 :: f 11 :: f 12 :: f 13 :: f 14 :: f 15 :: f 16 :: f 17 :: 0 :: 0 :: 0 :: 0 :: 0 :: 0 :: f 24 :: 0 :: 0 :: 0 :: 0 :: 0 :: 0 :: 0 :: f 32 :: f 33 :: 0 :: 0 :: f 36 :: 0 :: 0 :: 0 :: 0 :: 0 :: 0 :: []) : List Int).getD j 0) (fr := fr) (ro := ro) (cl := cl) (i := 1) (j := 1) (by omega) (by omega) q3 q4 h66 h83 n83 h86 n86 h87 n87 hl) ?_
                rintro _ h_755 ⟨z_755, rfl, F_755⟩
                have k_755 : cL h_755 := F_755.1.trans hl
                have fr_755 := hfr_cb (hfr_refl [] h) F_755 rfl
                have g_755_66 := (hfr_g F_755 66 rfl).trans h66
                have g_755_83 := (hfr_g F_755 83 rfl).trans h83
                have g_755_86 := (hfr_g F_755 86 rfl).trans h86
                have g_755_87 := (hfr_g F_755 87 rfl).trans h87
                refine ik_Wk 0 (pc_q := 99) (loc_q := [some (.ref 66), some (fI sz), some (fI i), some (fI j), some (fJ 1), none, some (fI 1), some (fI 2), some (fI 1), some (fI 1)]) (st_q := [fJ z_755, fJ 1]) (h_q := h_755) (cl_q := 0) (sl_q := 0) rfl ?_
                refine ik_Wk 3 (pc_q := 104) (loc_q := [some (.ref 66), some (fI sz), some (fI i), some (fI j), some (fJ 1), none, some (fI 1), some (fI 2), some (fI 1), some (fI 1)]) (st_q := [fI 1, fI 2, .ref 66, fJ z_755, fJ 1]) (h_q := h_755) (cl_q := 0) (sl_q := 0) rfl ?_
                refine fw_call 174 3 0 [.ref 66, fI 2, fI 1] [fJ z_755, fJ 1] rfl rfl rfl (Nat.le_of_ble_eq_true rfl) rfl rfl (fw_rec k_755 rfl g_755_66 rfl (Nat.le_of_ble_eq_true rfl)) (cr_fear (f := fun j => ((f 0 :: 0 :: 0 :: 0 :: f 4 :: 0 :: 0 :: f 7 :: f 8 :: 0 :: f 10 :: f 11 :: f 12 :: f 13 :: f 14 :: f 15 :: f 16 :: f 17 :: 0 :: 0 :: 0 :: 0 :: 0 :: 0 :: f 24 :: 0 :: 0 :: 0 :: 0 :: 0 :: 0 :: 0 :: f 32 :: f 33 :: 0 :: 0 :: f 36 :: 0 :: 0 :: 0 :: 0 :: 0 :: 0 :: []) : List Int).getD j 0) (fr := fr) (ro := ro) (cl := cl) (i := 2) (j := 1) (by omega) (by omega) q3 q4 g_755_66 g_755_83 n83 g_755_86 n86 g_755_87 n87 k_755) ?_
                rintro _ h_756 ⟨z_756, rfl, F_756⟩
                have k_756 : cL h_756 := F_756.1.trans k_755
                have fr_756 := hfr_cb fr_755 F_756 rfl
                have g_756_66 := (hfr_g F_756 66 rfl).trans g_755_66
                have g_756_83 := (hfr_g F_756 83 rfl).trans g_755_83
                have g_756_86 := (hfr_g F_756 86 rfl).trans g_755_86
                have g_756_87 := (hfr_g F_756 87 rfl).trans g_755_87
                refine ik_Wk 0 (pc_q := 107) (loc_q := [some (.ref 66), some (fI sz), some (fI i), some (fI j), some (fJ 1), none, some (fI 1), some (fI 2), some (fI 1), some (fI 1)]) (st_q := [fJ z_756, fJ z_755, fJ 1]) (h_q := h_756) (cl_q := 0) (sl_q := 0) rfl ?_
                refine fw_lmul rfl ?_
                refine ik_Wk 3 (pc_q := 113) (loc_q := [some (.ref 66), some (fI sz), some (fI i), some (fI j), some (fJ 1), none, some (fI 1), some (fI 2), some (fI 1), some (fI 1)]) (st_q := [fI 1, fI 1, .ref 66, fJ (z_755 * z_756), fJ 1]) (h_q := h_756) (cl_q := 0) (sl_q := 0) rfl ?_
                refine fw_call 174 3 0 [.ref 66, fI 1, fI 1] [fJ (z_755 * z_756), fJ 1] rfl rfl rfl (Nat.le_of_ble_eq_true rfl) rfl rfl (fw_rec k_756 rfl g_756_66 rfl (Nat.le_of_ble_eq_true rfl)) (cr_fear (f := fun j => ((f 0 :: 0 :: 0 :: 0 :: f 4 :: 0 :: 0 :: f 7 :: f 8 :: 0 :: f 10 :: f 11 :: f 12 :: f 13 :: f 14 :: f 15 :: f 16 :: f 17 :: 0 :: 0 :: 0 :: 0 :: 0 :: 0 :: f 24 :: 0 :: 0 :: 0 :: 0 :: 0 :: 0 :: 0 :: f 32 :: f 33 :: 0 :: 0 :: f 36 :: 0 :: 0 :: 0 :: 0 :: 0 :: 0 :: []) : List Int).getD j 0) (fr := fr) (ro := ro) (cl := cl) (i := 1) (j := 1) (by omega) (by omega) q3 q4 g_756_66 g_756_83 n83 g_756_86 n86 g_756_87 n87 k_756) ?_
                rintro _ h_757 ⟨z_757, rfl, F_757⟩
                have k_757 : cL h_757 := F_757.1.trans k_756
                have fr_757 := hfr_cb fr_756 F_757 rfl
                have g_757_66 := (hfr_g F_757 66 rfl).trans g_756_66
                have g_757_83 := (hfr_g F_757 83 rfl).trans g_756_83
                have g_757_86 := (hfr_g F_757 86 rfl).trans g_756_86
                have g_757_87 := (hfr_g F_757 87 rfl).trans g_756_87
                refine ik_Wk 0 (pc_q := 116) (loc_q := [some (.ref 66), some (fI sz), some (fI i), some (fI j), some (fJ 1), none, some (fI 1), some (fI 2), some (fI 1), some (fI 1)]) (st_q := [fJ z_757, fJ (z_755 * z_756), fJ 1]) (h_q := h_757) (cl_q := 0) (sl_q := 0) rfl ?_
                refine ik_Wk 3 (pc_q := 121) (loc_q := [some (.ref 66), some (fI sz), some (fI i), some (fI j), some (fJ 1), none, some (fI 1), some (fI 2), some (fI 1), some (fI 1)]) (st_q := [fI 1, fI 2, .ref 66, fJ z_757, fJ (z_755 * z_756), fJ 1]) (h_q := h_757) (cl_q := 0) (sl_q := 0) rfl ?_
                refine fw_call 174 3 0 [.ref 66, fI 2, fI 1] [fJ z_757, fJ (z_755 * z_756), fJ 1] rfl rfl rfl (Nat.le_of_ble_eq_true rfl) rfl rfl (fw_rec k_757 rfl g_757_66 rfl (Nat.le_of_ble_eq_true rfl)) (cr_fear (f := fun j => ((f 0 :: 0 :: 0 :: 0 :: f 4 :: 0 :: 0 :: f 7 :: f 8 :: 0 :: f 10 :: f 11 :: f 12 :: f 13 :: f 14 :: f 15 :: f 16 :: f 17 :: 0 :: 0 :: 0 :: 0 :: 0 :: 0 :: f 24 :: 0 :: 0 :: 0 :: 0 :: 0 :: 0 :: 0 :: f 32 :: f 33 :: 0 :: 0 :: f 36 :: 0 :: 0 :: 0 :: 0 :: 0 :: 0 :: []) : List Int).getD j 0) (fr := fr) (ro := ro) (cl := cl) (i := 2) (j := 1) (by omega) (by omega) q3 q4 g_757_66 g_757_83 n83 g_757_86 n86 g_757_87 n87 k_757) ?_
                rintro _ h_758 ⟨z_758, rfl, F_758⟩
                have k_758 : cL h_758 := F_758.1.trans k_757
                have fr_758 := hfr_cb fr_757 F_758 rfl
                have g_758_66 := (hfr_g F_758 66 rfl).trans g_757_66
                have g_758_83 := (hfr_g F_758 83 rfl).trans g_757_83
                have g_758_86 := (hfr_g F_758 86 rfl).trans g_757_86
                have g_758_87 := (hfr_g F_758 87 rfl).trans g_757_87
                refine ik_Wk 0 (pc_q := 124) (loc_q := [some (.ref 66), some (fI sz), some (fI i), some (fI j), some (fJ 1), none, some (fI 1), some (fI 2), some (fI 1), some (fI 1)]) (st_q := [fJ z_758, fJ z_757, fJ (z_755 * z_756), fJ 1]) (h_q := h_758) (cl_q := 0) (sl_q := 0) rfl ?_
                refine fw_lmul rfl ?_
                refine fw_lsub rfl ?_
                refine fw_lmul rfl ?_
                exact ik_Wret rfl rfl ⟨_, _, rfl, rfl, rfl, rfl, ⟨(1 * ((z_755 * z_756) - (z_757 * z_758))), rfl, fr_758⟩⟩
              · refine ik_Wk 6 (pc_q := 96) (loc_q := [some (.ref 66), some (fI sz), some (fI i), some (fI j), some (fJ 1), none, some (fI 1), some (fI 2), some (fI 1), some (fI 2)]) (st_q := [fI 1, fI 1, .ref 66, fJ 1]) (h_q := h) (cl_q := 0) (sl_q := 0) rfl ?_
                refine fw_call 174 3 0 [.ref 66, fI 1, fI 1] [fJ 1] rfl rfl rfl (Nat.le_of_ble_eq_true rfl) rfl rfl (fw_rec hl rfl h66 rfl (Nat.le_of_ble_eq_true rfl)) (cr_fear (f := fun j => ((f 0 :: 0 :: 0 :: 0 :: f 4 :: 0 :: 0 :: f 7 :: f 8 :: 0 :: f 10 :: f 11 :: f 12 :: f 13 :: f 14 :: f 15 :: f 16 :: f 17 :: 0 :: 0 :: 0 :: 0 :: 0 :: 0 :: f 24 :: 0 :: 0 :: 0 :: 0 :: 0 :: 0 :: 0 :: f 32 :: f 33 :: 0 :: 0 :: f 36 :: 0 :: 0 :: 0 :: 0 :: 0 :: 0 :: []) : List Int).getD j 0) (fr := fr) (ro := ro) (cl := cl) (i := 1) (j := 1) (by omega) (by omega) q3 q4 h66 h83 n83 h86 n86 h87 n87 hl) ?_
                rintro _ h_759 ⟨z_759, rfl, F_759⟩
                have k_759 : cL h_759 := F_759.1.trans hl
                have fr_759 := hfr_cb (hfr_refl [] h) F_759 rfl
                have g_759_66 := (hfr_g F_759 66 rfl).trans h66
                have g_759_83 := (hfr_g F_759 83 rfl).trans h83
                have g_759_86 := (hfr_g F_759 86 rfl).trans h86
                have g_759_87 := (hfr_g F_759 87 rfl).trans h87
                refine ik_Wk 0 (pc_q := 99) (loc_q := [some (.ref 66), some (fI sz), some (fI i), some (fI j), some (fJ 1), none, some (fI 1), some (fI 2), some (fI 1), some (fI 2)]) (st_q := [fJ z_759, fJ 1]) (h_q := h_759) (cl_q := 0) (sl_q := 0) rfl ?_
                refine ik_Wk 3 (pc_q := 104) (loc_q := [some (.ref 66), some (fI sz), some (fI i), some (fI j), some (fJ 1), none, some (fI 1), some (fI 2), some (fI 1), some (fI 2)]) (st_q := [fI 2, fI 2, .ref 66, fJ z_759, fJ 1]) (h_q := h_759) (cl_q := 0) (sl_q := 0) rfl ?_
                refine fw_call 174 3 0 [.ref 66, fI 2, fI 2] [fJ z_759, fJ 1] rfl rfl rfl (Nat.le_of_ble_eq_true rfl) rfl rfl (fw_rec k_759 rfl g_759_66 rfl (Nat.le_of_ble_eq_true rfl)) (cr_fear (f := fun j => ((f 0 :: 0 :: 0 :: 0 :: f 4 :: 0 :: 0 :: f 7 :: f 8 :: 0 :: f 10 :: f 11 :: f 12 :: f 13 :: f 14 :: f 15 :: f 16 :: f 17 :: 0 :: 0 :: 0 :: 0 :: 0 :: 0 :: f 24 :: 0 :: 0 :: 0 :: 0 :: 0 :: 0 :: 0 :: f 32 :: f 33 :: 0 :: 0 :: f 36 :: 0 :: 0 :: 0 :: 0 :: 0 :: 0 :: []) : List Int).getD j 0) (fr := fr) (ro := ro) (cl := cl) (i := 2) (j := 2) (by omega) (by omega) q3 q4 g_759_66 g_759_83 n83 g_759_86 n86 g_759_87 n87 k_759) ?_
                rintro _ h_760 ⟨z_760, rfl, F_760⟩
                have k_760 : cL h_760 := F_760.1.trans k_759
                have fr_760 := hfr_cb fr_759 F_760 rfl
                have g_760_66 := (hfr_g F_760 66 rfl).trans g_759_66
                have g_760_83 := (hfr_g F_760 83 rfl).trans g_759_83
                have g_760_86 := (hfr_g F_760 86 rfl).trans g_759_86
                have g_760_87 := (hfr_g F_760 87 rfl).trans g_759_87
                refine ik_Wk 0 (pc_q := 107) (loc_q := [some (.ref 66), some (fI sz), some (fI i), some (fI j), some (fJ 1), none, some (fI 1), some (fI 2), some (fI 1), some (fI 2)]) (st_q := [fJ z_760, fJ z_759, fJ 1]) (h_q := h_760) (cl_q := 0) (sl_q := 0) rfl ?_
                refine fw_lmul rfl ?_
                refine ik_Wk 3 (pc_q := 113) (loc_q := [some (.ref 66), some (fI sz), some (fI i), some (fI j), some (fJ 1), none, some (fI 1), some (fI 2), some (fI 1), some (fI 2)]) (st_q := [fI 2, fI 1, .ref 66, fJ (z_759 * z_760), fJ 1]) (h_q := h_760) (cl_q := 0) (sl_q := 0) rfl ?_
                refine fw_call 174 3 0 [.ref 66, fI 1, fI 2] [fJ (z_759 * z_760), fJ 1] rfl rfl rfl (Nat.le_of_ble_eq_true rfl) rfl rfl (fw_rec k_760 rfl g_760_66 rfl (Nat.le_of_ble_eq_true rfl)) (cr_fear (f := fun j => ((f 0 :: 0 :: 0 :: 0 :: f 4 :: 0 :: 0 :: f 7 :: f 8 :: 0 :: f 10 :: f 11 :: f 12 :: f 13 :: f 14 :: f 15 :: f 16 :: f 17 :: 0 :: 0 :: 0 :: 0 :: 0 :: 0 :: f 24 :: 0 :: 0 :: 0 :: 0 :: 0 :: 0 :: 0 :: f 32 :: f 33 :: 0 :: 0 :: f 36 :: 0 :: 0 :: 0 :: 0 :: 0 :: 0 :: []) : List Int).getD j 0) (fr := fr) (ro := ro) (cl := cl) (i := 1) (j := 2) (by omega) (by omega) q3 q4 g_760_66 g_760_83 n83 g_760_86 n86 g_760_87 n87 k_760) ?_
                rintro _ h_761 ⟨z_761, rfl, F_761⟩
                have k_761 : cL h_761 := F_761.1.trans k_760
                have fr_761 := hfr_cb fr_760 F_761 rfl
                have g_761_66 := (hfr_g F_761 66 rfl).trans g_760_66
                have g_761_83 := (hfr_g F_761 83 rfl).trans g_760_83
                have g_761_86 := (hfr_g F_761 86 rfl).trans g_760_86
                have g_761_87 := (hfr_g F_761 87 rfl).trans g_760_87
                refine ik_Wk 0 (pc_q := 116) (loc_q := [some (.ref 66), some (fI sz), some (fI i), some (fI j), some (fJ 1), none, some (fI 1), some (fI 2), some (fI 1), some (fI 2)]) (st_q := [fJ z_761, fJ (z_759 * z_760), fJ 1]) (h_q := h_761) (cl_q := 0) (sl_q := 0) rfl ?_
                refine ik_Wk 3 (pc_q := 121) (loc_q := [some (.ref 66), some (fI sz), some (fI i), some (fI j), some (fJ 1), none, some (fI 1), some (fI 2), some (fI 1), some (fI 2)]) (st_q := [fI 1, fI 2, .ref 66, fJ z_761, fJ (z_759 * z_760), fJ 1]) (h_q := h_761) (cl_q := 0) (sl_q := 0) rfl ?_
                refine fw_call 174 3 0 [.ref 66, fI 2, fI 1] [fJ z_761, fJ (z_759 * z_760), fJ 1] rfl rfl rfl (Nat.le_of_ble_eq_true rfl) rfl rfl (fw_rec k_761 rfl g_761_66 rfl (Nat.le_of_ble_eq_true rfl)) (cr_fear (f := fun j => ((f 0 :: 0 :: 0 :: 0 :: f 4 :: 0 :: 0 :: f 7 :: f 8 :: 0 :: f 10 :: f 11 :: f 12 :: f 13 :: f 14 :: f 15 :: f 16 :: f 17 :: 0 :: 0 :: 0 :: 0 :: 0 :: 0 :: f 24 :: 0 :: 0 :: 0 :: 0 :: 0 :: 0 :: 0 :: f 32 :: f 33 :: 0 :: 0 :: f 36 :: 0 :: 0 :: 0 :: 0 :: 0 :: 0 :: []) : List Int).getD j 0) (fr := fr) (ro := ro) (cl := cl) (i := 2) (j := 1) (by omega) (by omega) q3 q4 g_761_66 g_761_83 n83 g_761_86 n86 g_761_87 n87 k_761) ?_
                rintro _ h_762 ⟨z_762, rfl, F_762⟩
                have k_762 : cL h_762 := F_762.1.trans k_761
                have fr_762 := hfr_cb fr_761 F_762 rfl
                have g_762_66 := (hfr_g F_762 66 rfl).trans g_761_66
                have g_762_83 := (hfr_g F_762 83 rfl).trans g_761_83
                have g_762_86 := (hfr_g F_762 86 rfl).trans g_761_86
                have g_762_87 := (hfr_g F_762 87 rfl).trans g_761_87
                refine ik_Wk 0 (pc_q := 124) (loc_q := [some (.ref 66), some (fI sz), some (fI i), some (fI j), some (fJ 1), none, some (fI 1), some (fI 2), some (fI 1), some (fI 2)]) (st_q := [fJ z_762, fJ z_761, fJ (z_759 * z_760), fJ 1]) (h_q := h_762) (cl_q := 0) (sl_q := 0) rfl ?_
                refine fw_lmul rfl ?_
                refine fw_lsub rfl ?_
                refine fw_lmul rfl ?_
                exact ik_Wret rfl rfl ⟨_, _, rfl, rfl, rfl, rfl, ⟨(1 * ((z_759 * z_760) - (z_761 * z_762))), rfl, fr_762⟩⟩
            · refine ik_Wk 4 (pc_q := 79) (loc_q := [some (.ref 66), some (fI sz), some (fI i), some (fI j), some (fJ 1), none, some (fI 1), some (fI 2), some (fI 0), none]) (st_q := [fI 2, fI j]) (h_q := h) (cl_q := 0) (sl_q := 0) rfl ?_
              refine fw_ic_ne rfl rfl (by omega) (by omega) (by omega) (by omega) (fun hc11 => ?_) (fun hc11 => ?_)
              · refine ik_Wk 7 (pc_q := 96) (loc_q := [some (.ref 66), some (fI sz), some (fI i), some (fI j), some (fJ 1), none, some (fI 1), some (fI 2), some (fI 0), some (fI 1)]) (st_q := [fI 0, fI 1, .ref 66, fJ 1]) (h_q := h) (cl_q := 0) (sl_q := 0) rfl ?_
                refine fw_call 174 3 0 [.ref 66, fI 1, fI 0] [fJ 1] rfl rfl rfl (Nat.le_of_ble_eq_true rfl) rfl rfl (fw_rec hl rfl h66 rfl (Nat.le_of_ble_eq_true rfl)) (cr_fear (f := fun j => ((f 0 :: 0 :: 0 :: 0 :: f 4 :: 0 :: 0 :: f 7 :: f 8 :: 0 :: f 10 :: f 11 :: f 12 :: f 13 :: f 14 :: f 15 :: f 16 :: f 17 :: 0 :: 0 :: 0 :: 0 :: 0 :: 0 :: f 24 :: 0 :: 0 :: 0 :: 0 :: 0 :: 0 :: 0 :: f 32 :: f 33 :: 0 :: 0 :: f 36 :: 0 :: 0 :: 0 :: 0 :: 0 :: 0 :: []) : List Int).getD j 0) (fr := fr) (ro := ro) (cl := cl) (i := 1) (j := 0) (by omega) (by omega) q3 q4 h66 h83 n83 h86 n86 h87 n87 hl) ?_
                rintro _ h_763 ⟨z_763, rfl, F_763⟩
                have k_763 : cL h_763 := F_763.1.trans hl
                have fr_763 := hfr_cb (hfr_refl [] h) F_763 rfl
                have g_763_66 := (hfr_g F_763 66 rfl).trans h66
                have g_763_83 := (hfr_g F_763 83 rfl).trans h83
                have g_763_86 := (hfr_g F_763 86 rfl).trans h86
                have g_763_87 := (hfr_g F_763 87 rfl).trans h87
                refine ik_Wk 0 (pc_q := 99) (loc_q := [some (.ref 66), some (fI sz), some (fI i), some (fI j), some (fJ 1), none, some (fI 1), some (fI 2), some (fI 0), some (fI 1)]) (st_q := [fJ z_763, fJ 1]) (h_q := h_763) (cl_q := 0) (sl_q := 0) rfl ?_
                refine ik_Wk 3 (pc_q := 104) (loc_q := [some (.ref 66), some (fI sz), some (fI i), some (fI j), some (fJ 1), none, some (fI 1), some (fI 2), some (fI 0), some (fI 1)]) (st_q := [fI 1, fI 2, .ref 66, fJ z_763, fJ 1]) (h_q := h_763) (cl_q := 0) (sl_q := 0) rfl ?_
                refine fw_call 174 3 0 [.ref 66, fI 2, fI 1] [fJ z_763, fJ 1] rfl rfl rfl (Nat.le_of_ble_eq_true rfl) rfl rfl (fw_rec k_763 rfl g_763_66 rfl (Nat.le_of_ble_eq_true rfl)) (cr_fear (f := fun j => ((f 0 :: 0 :: 0 :: 0 :: f 4 :: 0 :: 0 :: f 7 :: f 8 :: 0 :: f 10 :: f 11 :: f 12 :: f 13 :: f 14 :: f 15 :: f 16 :: f 17 :: 0 :: 0 :: 0 :: 0 :: 0 :: 0 :: f 24 :: 0 :: 0 :: 0 :: 0 :: 0 :: 0 :: 0 :: f 32 :: f 33 :: 0 :: 0 :: f 36 :: 0 :: 0 :: 0 :: 0 :: 0 :: 0 :: []) : List Int).getD j 0) (fr := fr) (ro := ro) (cl := cl) (i := 2) (j := 1) (by omega) (by omega) q3 q4 g_763_66 g_763_83 n83 g_763_86 n86 g_763_87 n87 k_763) ?_
                rintro _ h_764 ⟨z_764, rfl, F_764⟩
                have k_764 : cL h_764 := F_764.1.trans k_763
                have fr_764 := hfr_cb fr_763 F_764 rfl
                have g_764_66 := (hfr_g F_764 66 rfl).trans g_763_66
                have g_764_83 := (hfr_g F_764 83 rfl).trans g_763_83
                have g_764_86 := (hfr_g F_764 86 rfl).trans g_763_86
                have g_764_87 := (hfr_g F_764 87 rfl).trans g_763_87
                refine ik_Wk 0 (pc_q := 107) (loc_q := [some (.ref 66), some (fI sz), some (fI i), some (fI j), some (fJ 1), none, some (fI 1), some (fI 2), some (fI 0), some (fI 1)]) (st_q := [fJ z_764, fJ z_763, fJ 1]) (h_q := h_764) (cl_q := 0) (sl_q := 0) rfl ?_
                refine fw_lmul rfl ?_
                refine ik_Wk 3 (pc_q := 113) (loc_q := [some (.ref 66), some (fI sz), some (fI i), some (fI j), some (fJ 1), none, some (fI 1), some (fI 2), some (fI 0), some (fI 1)]) (st_q := [fI 1, fI 1, .ref 66, fJ (z_763 * z_764), fJ 1]) (h_q := h_764) (cl_q := 0) (sl_q := 0) rfl ?_
                refine fw_call 174 3 0 [.ref 66, fI 1, fI 1] [fJ (z_763 * z_764), fJ 1] rfl rfl rfl (Nat.le_of_ble_eq_true rfl) rfl rfl (fw_rec k_764 rfl g_764_66 rfl (Nat.le_of_ble_eq_true rfl)) (cr_fear (f := fun j => ((f 0 :: 0 :: 0 :: 0 :: f 4 :: 0 :: 0 :: f 7 :: f 8 :: 0 :: f 10 :: f 11 :: f 12 :: f 13 :: f 14 :: f 15 :: f 16 :: f 17 :: 0 :: 0 :: 0 :: 0 :: 0 :: 0 :: f 24 :: 0 :: 0 :: 0 :: 0 :: 0 :: 0 :: 0 :: f 32 :: f 33 :: 0 :: 0 :: f 36 :: 0 :: 0 :: 0 :: 0 :: 0 :: 0 :: []) : List Int).getD j 0) (fr := fr) (ro := ro) (cl := cl) (i := 1) (j := 1) (by omega) (by omega) q3 q4 g_764_66 g_764_83 n83 g_764_86 n86 g_764_87 n87 k_764) ?_
                rintro _ h_765 ⟨z_765, rfl, F_765⟩
                have k_765 : cL h_765 := F_765.1.trans k_764
                have fr_765 := hfr_cb fr_764 F_765 rfl
                have g_765_66 := (hfr_g F_765 66 rfl).trans g_764_66
                have g_765_83 := (hfr_g F_765 83 rfl).trans g_764_83
                have g_765_86 := (hfr_g F_765 86 rfl).trans g_764_86
                have g_765_87 := (hfr_g F_765 87 rfl).trans g_764_87
                refine ik_Wk 0 (pc_q := 116) (loc_q := [some (.ref 66), some (fI sz), some (fI i), some (fI j), some (fJ 1), none, some (fI 1), some (fI 2), some (fI 0), some (fI 1)]) (st_q := [fJ z_765, fJ (z_763 * z_764), fJ 1]) (h_q := h_765) (cl_q := 0) (sl_q := 0) rfl ?_
                refine ik_Wk 3 (pc_q := 121) (loc_q := [some (.ref 66), some (fI sz), some (fI i), some (fI j), some (fJ 1), none, some (fI 1), some (fI 2), some (fI 0), some (fI 1)]) (st_q := [fI 0, fI 2, .ref 66, fJ z_765, fJ (z_763 * z_764), fJ 1]) (h_q := h_765) (cl_q := 0) (sl_q := 0) rfl ?_
                refine fw_call 174 3 0 [.ref 66, fI 2, fI 0] [fJ z_765, fJ (z_763 * z_764), fJ 1] rfl rfl rfl (Nat.le_of_ble_eq_true rfl) rfl rfl (fw_rec k_765 rfl g_765_66 rfl (Nat.le_of_ble_eq_true rfl)) (cr_fear (f := fun j => ((f 0 :: 0 :: 0 :: 0 :: f 4 :: 0 :: 0 :: f 7 :: f 8 :: 0 :: f 10 :: f 11 :: f 12 :: f 13 :: f 14 :: f 15 :: f 16 :: f 17 :: 0 :: 0 :: 0 :: 0 :: 0 :: 0 :: f 24 :: 0 :: 0 :: 0 :: 0 :: 0 :: 0 :: 0 :: f 32 :: f 33 :: 0 :: 0 :: f 36 :: 0 :: 0 :: 0 :: 0 :: 0 :: 0 :: []) : List Int).getD j 0) (fr := fr) (ro := ro) (cl := cl) (i := 2) (j := 0) (by omega) (by omega) q3 q4 g_765_66 g_765_83 n83 g_765_86 n86 g_765_87 n87 k_765) ?_
                rintro _ h_766 ⟨z_766, rfl, F_766⟩
                have k_766 : cL h_766 := F_766.1.trans k_765
                have fr_766 := hfr_cb fr_765 F_766 rfl
                have g_766_66 := (hfr_g F_766 66 rfl).trans g_765_66
                have g_766_83 := (hfr_g F_766 83 rfl).trans g_765_83
                have g_766_86 := (hfr_g F_766 86 rfl).trans g_765_86
                have g_766_87 := (hfr_g F_766 87 rfl).trans g_765_87
                refine ik_Wk 0 (pc_q := 124) (loc_q := [some (.ref 66), some (fI sz), some (fI i), some (fI j), some (fJ 1), none, some (fI 1), some (fI 2), some (fI 0), some (fI 1)]) (st_q := [fJ z_766, fJ z_765, fJ (z_763 * z_764), fJ 1]) (h_q := h_766) (cl_q := 0) (sl_q := 0) rfl ?_
                refine fw_lmul rfl ?_
                refine fw_lsub rfl ?_
                refine fw_lmul rfl ?_
                exact ik_Wret rfl rfl ⟨_, _, rfl, rfl, rfl, rfl, ⟨(1 * ((z_763 * z_764) - (z_765 * z_766))), rfl, fr_766⟩⟩
              · refine ik_Wk 6 (pc_q := 96) (loc_q := [some (.ref 66), some (fI sz), some (fI i), some (fI j), some (fJ 1), none, some (fI 1), some (fI 2), some (fI 0), some (fI 2)]) (st_q := [fI 0, fI 1, .ref 66, fJ 1]) (h_q := h) (cl_q := 0) (sl_q := 0) rfl ?_
                refine fw_call 174 3 0 [.ref 66, fI 1, fI 0] [fJ 1] rfl rfl rfl (Nat.le_of_ble_eq_true rfl) rfl rfl (fw_rec hl rfl h66 rfl (Nat.le_of_ble_eq_true rfl)) (cr_fear (f := fun j => ((f 0 :: 0 :: 0 :: 0 :: f 4 :: 0 :: 0 :: f 7 :: f 8 :: 0 :: f 10 :: f 11 :: f 12 :: f 13 :: f 14 :: f 15 :: f 16 :: f 17 :: 0 :: 0 :: 0 :: 0 :: 0 :: 0 :: f 24 :: 0 :: 0 :: 0 :: 0 :: 0 :: 0 :: 0 :: f 32 :: f 33 :: 0 :: 0 :: f 36 :: 0 :: 0 :: 0 :: 0 :: 0 :: 0 :: []) : List Int).getD j 0) (fr := fr) (ro := ro) (cl := cl) (i := 1) (j := 0) (by omega) (by omega) q3 q4 h66 h83 n83 h86 n86 h87 n87 hl) ?_
                rintro _ h_767 ⟨z_767, rfl, F_767⟩
                have k_767 : cL h_767 := F_767.1.trans hl
                have fr_767 := hfr_cb (hfr_refl [] h) F_767 rfl
                have g_767_66 := (hfr_g F_767 66 rfl).trans h66
                have g_767_83 := (hfr_g F_767 83 rfl).trans h83
                have g_767_86 := (hfr_g F_767 86 rfl).trans h86
                have g_767_87 := (hfr_g F_767 87 rfl).trans h87
                refine ik_Wk 0 (pc_q := 99) (loc_q := [some (.ref 66), some (fI sz), some (fI i), some (fI j), some (fJ 1), none, some (fI 1), some (fI 2), some (fI 0), some (fI 2)]) (st_q := [fJ z_767, fJ 1]) (h_q := h_767) (cl_q := 0) (sl_q := 0) rfl ?_
                refine ik_Wk 3 (pc_q := 104) (loc_q := [some (.ref 66), some (fI sz), some (fI i), some (fI j), some (fJ 1), none, some (fI 1), some (fI 2), some (fI 0), some (fI 2)]) (st_q := [fI 2, fI 2, .ref 66, fJ z_767, fJ 1]) (h_q := h_767) (cl_q := 0) (sl_q := 0) rfl ?_
                refine fw_call 174 3 0 [.ref 66, fI 2, fI 2] [fJ z_767, fJ 1] rfl rfl rfl (Nat.le_of_ble_eq_true rfl) rfl rfl (fw_rec k_767 rfl g_767_66 rfl (Nat.le_of_ble_eq_true rfl)) (cr_fear (f := fun j => ((f 0 :: 0 :: 0 :: 0 :: f 4 :: 0 :: 0 :: f 7 :: f 8 :: 0 :: f 10 :: f 11 :: f 12 :: f 13 :: f 14 :: f 15 :: f 16 :: f 17 :: 0 :: 0 :: 0 :: 0 :: 0 :: 0 :: f 24 :: 0 :: 0 :: 0 :: 0 :: 0 :: 0 :: 0 :: f 32 :: f 33 :: 0 :: 0 :: f 36 :: 0 :: 0 :: 0 :: 0 :: 0 :: 0 :: []) : List Int).getD j 0) (fr := fr) (ro := ro) (cl := cl) (i := 2) (j := 2) (by omega) (by omega) q3 q4 g_767_66 g_767_83 n83 g_767_86 n86 g_767_87 n87 k_767) ?_
                rintro _ h_768 ⟨z_768, rfl, F_768⟩
                have k_768 : cL h_768 := F_768.1.trans k_767
                have fr_768 := hfr_cb fr_767 F_768 rfl
                have g_768_66 := (hfr_g F_768 66 rfl).trans g_767_66
                have g_768_83 := (hfr_g F_768 83 rfl).trans g_767_83
                have g_768_86 := (hfr_g F_768 86 rfl).trans g_767_86
                have g_768_87 := (hfr_g F_768 87 rfl).trans g_767_87
                refine ik_Wk 0 (pc_q := 107) (loc_q := [some (.ref 66), some (fI sz), some (fI i), some (fI j), some (fJ 1), none, some (fI 1), some (fI 2), some (fI 0), some (fI 2)]) (st_q := [fJ z_768, fJ z_767, fJ 1]) (h_q := h_768) (cl_q := 0) (sl_q := 0) rfl ?_
                refine fw_lmul rfl ?_
                refine ik_Wk 3 (pc_q := 113) (loc_q := [some (.ref 66), some (fI sz), some (fI i), some (fI j), some (fJ 1), none, some (fI 1), some (fI 2), some (fI 0), some (fI 2)]) (st_q := [fI 2, fI 1, .ref 66, fJ (z_767 * z_768), fJ 1]) (h_q := h_768) (cl_q := 0) (sl_q := 0) rfl ?_
                refine fw_call 174 3 0 [.ref 66, fI 1, fI 2] [fJ (z_767 * z_768), fJ 1] rfl rfl rfl (Nat.le_of_ble_eq_true rfl) rfl rfl (fw_rec k_768 rfl g_768_66 rfl (Nat.le_of_ble_eq_true rfl)) (cr_fear (f := fun j => ((f 0 :: 0 :: 0 :: 0 :: f 4 :: 0 :: 0 :: f 7 :: f 8 :: 0 :: f 10 :: f 11 :: f 12 :: f 13 :: f 14 :: f 15 :: f 16 :: f 17 :: 0 :: 0 :: 0 :: 0 :: 0 :: 0 :: f 24 :: 0 :: 0 :: 0 :: 0 :: 0 :: 0 :: 0 :: f 32 :: f 33 :: 0 :: 0 :: f 36 :: 0 :: 0 :: 0 :: 0 :: 0 :: 0 :: []) : List Int).getD j 0) (fr := fr) (ro := ro) (cl := cl) (i := 1) (j := 2) (by omega) (by omega) q3 q4 g_768_66 g_768_83 n83 g_768_86 n86 g_768_87 n87 k_768) ?_
                rintro _ h_769 ⟨z_769, rfl, F_769⟩
                have k_769 : cL h_769 := F_769.1.trans k_768
                have fr_769 := hfr_cb fr_768 F_769 rfl
                have g_769_66 := (hfr_g F_769 66 rfl).trans g_768_66
                have g_769_83 := (hfr_g F_769 83 rfl).trans g_768_83
                have g_769_86 := (hfr_g F_769 86 rfl).trans g_768_86
                have g_769_87 := (hfr_g F_769 87 rfl).trans g_768_87
                refine ik_Wk 0 (pc_q := 116) (loc_q := [some (.ref 66), some (fI sz), some (fI i), some (fI j), some (fJ 1), none, some (fI 1), some (fI 2), some (fI 0), some (fI 2)]) (st_q := [fJ z_769, fJ (z_767 * z_768), fJ 1]) (h_q := h_769) (cl_q := 0) (sl_q := 0) rfl ?_
                refine ik_Wk 3 (pc_q := 121) (loc_q := [some (.ref 66), some (fI sz), some (fI i), some (fI j), some (fJ 1), none, some (fI 1), some (fI 2), some (fI 0), some (fI 2)]) (st_q := [fI 0, fI 2, .ref 66, fJ z_769, fJ (z_767 * z_768), fJ 1]) (h_q := h_769) (cl_q := 0) (sl_q := 0) rfl ?_
                refine fw_call 174 3 0 [.ref 66, fI 2, fI 0] [fJ z_769, fJ (z_767 * z_768), fJ 1] rfl rfl rfl (Nat.le_of_ble_eq_true rfl) rfl rfl (fw_rec k_769 rfl g_769_66 rfl (Nat.le_of_ble_eq_true rfl)) (cr_fear (f := fun j => ((f 0 :: 0 :: 0 :: 0 :: f 4 :: 0 :: 0 :: f 7 :: f 8 :: 0 :: f 10 :: f 11 :: f 12 :: f 13 :: f 14 :: f 15 :: f 16 :: f 17 :: 0 :: 0 :: 0 :: 0 :: 0 :: 0 :: f 24 :: 0 :: 0 :: 0 :: 0 :: 0 :: 0 :: 0 :: f 32 :: f 33 :: 0 :: 0 :: f 36 :: 0 :: 0 :: 0 :: 0 :: 0 :: 0 :: []) : List Int).getD j 0) (fr := fr) (ro := ro) (cl := cl) (i := 2) (j := 0) (by omega) (by omega) q3 q4 g_769_66 g_769_83 n83 g_769_86 n86 g_769_87 n87 k_769) ?_
                rintro _ h_770 ⟨z_770, rfl, F_770⟩
                have k_770 : cL h_770 := F_770.1.trans k_769
                have fr_770 := hfr_cb fr_769 F_770 rfl
                have g_770_66 := (hfr_g F_770 66 rfl).trans g_769_66
                have g_770_83 := (hfr_g F_770 83 rfl).trans g_769_83
                have g_770_86 := (hfr_g F_770 86 rfl).trans g_769_86
                have g_770_87 := (hfr_g F_770 87 rfl).trans g_769_87
                refine ik_Wk 0 (pc_q := 124) (loc_q := [some (.ref 66), some (fI sz), some (fI i), some (fI j), some (fJ 1), none, some (fI 1), some (fI 2), some (fI 0), some (fI 2)]) (st_q := [fJ z_770, fJ z_769, fJ (z_767 * z_768), fJ 1]) (h_q := h_770) (cl_q := 0) (sl_q := 0) rfl ?_
                refine fw_lmul rfl ?_
                refine fw_lsub rfl ?_
                refine fw_lmul rfl ?_
                exact ik_Wret rfl rfl ⟨_, _, rfl, rfl, rfl, rfl, ⟨(1 * ((z_767 * z_768) - (z_769 * z_770))), rfl, fr_770⟩⟩
        · refine ik_Wk 4 (pc_q := 56) (loc_q := [some (.ref 66), some (fI sz), some (fI i), some (fI j), some (fJ 1), none, some (fI 0), none, none, none]) (st_q := [fI 2, fI i]) (h_q := h) (cl_q := 0) (sl_q := 0) rfl ?_
          refine fw_ic_ne rfl rfl (by omega) (by omega) (by omega) (by omega) (fun hc12 => ?_) (fun hc12 => ?_)
          · refine ik_Wk 4 (pc_q := 67) (loc_q := [some (.ref 66), some (fI sz), some (fI i), some (fI j), some (fJ 1), none, some (fI 0), some (fI 1), none, none]) (st_q := [fI j]) (h_q := h) (cl_q := 0) (sl_q := 0) rfl ?_
            refine fw_if_ne rfl rfl (by omega) (by omega) (fun hc13 => ?_) (fun hc13 => ?_)
            · refine ik_Wk 5 (pc_q := 79) (loc_q := [some (.ref 66), some (fI sz), some (fI i), some (fI j), some (fJ 1), none, some (fI 0), some (fI 1), some (fI 1), none]) (st_q := [fI 2, fI j]) (h_q := h) (cl_q := 0) (sl_q := 0) rfl ?_
              refine fw_ic_ne rfl rfl (by omega) (by omega) (by omega) (by omega) (fun hc14 => ?_) (fun hc14 => ?_)
              · refine ik_Wk 7 (pc_q := 96) (loc_q := [some (.ref 66), some (fI sz), some (fI i), some (fI j), some (fJ 1), none, some (fI 0), some (fI 1), some (fI 1), some (fI 1)]) (st_q := [fI 1, fI 0, .ref 66, fJ 1]) (h_q := h) (cl_q := 0) (sl_q := 0) rfl ?_
                refine fw_call 174 3 0 [.ref 66, fI 0, fI 1] [fJ 1] rfl rfl rfl (Nat.le_of_ble_eq_true rfl) rfl rfl (fw_rec hl rfl h66 rfl (Nat.le_of_ble_eq_true rfl)) (cr_fear (f := fun j => ((f 0 :: 0 :: 0 :: 0 :: f 4 :: 0 :: 0 :: f 7 :: f 8 :: 0 :: f 10 :: f 11 :: f 12 :: f 13 :: f 14 :: f 15 :: f 16 :: f 17 :: 0 :: 0 :: 0 :: 0 :: 0 :: 0 :: f 24 :: 0 :: 0 :: 0 :: 0 :: 0 :: 0 :: 0 :: f 32 :: f 33 :: 0 :: 0 :: f 36 :: 0 :: 0 :: 0 :: 0 :: 0 :: 0 :: []) : List Int).getD j 0) (fr := fr) (ro := ro) (cl := cl) (i := 0) (j := 1) (by omega) (by omega) q3 q4 h66 h83 n83 h86 n86 h87 n87 hl) ?_
                rintro _ h_771 ⟨z_771, rfl, F_771⟩
                have k_771 : cL h_771 := F_771.1.trans hl
                have fr_771 := hfr_cb (hfr_refl [] h) F_771 rfl
                have g_771_66 := (hfr_g F_771 66 rfl).trans h66
                have g_771_83 := (hfr_g F_771 83 rfl).trans h83
                have g_771_86 := (hfr_g F_771 86 rfl).trans h86
                have g_771_87 := (hfr_g F_771 87 rfl).trans h87
                refine ik_Wk 0 (pc_q := 99) (loc_q := [some (.ref 66), some (fI sz), some (fI i), some (fI j), some (fJ 1), none, some (fI 0), some (fI 1), some (fI 1), some (fI 1)]) (st_q := [fJ z_771, fJ 1]) (h_q := h_771) (cl_q := 0) (sl_q := 0) rfl ?_
                refine ik_Wk 3 (pc_q := 104) (loc_q := [some (.ref 66), some (fI sz), some (fI i), some (fI j), some (fJ 1), none, some (fI 0), some (fI 1), some (fI 1), some (fI 1)]) (st_q := [fI 1, fI 1, .ref 66, fJ z_771, fJ 1]) (h_q := h_771) (cl_q := 0) (sl_q := 0) rfl ?_
                refine fw_call 174 3 0 [.ref 66, fI 1, fI 1] [fJ z_771, fJ 1] rfl rfl rfl (Nat.le_of_ble_eq_true rfl) rfl rfl (fw_rec k_771 rfl g_771_66 rfl (Nat.le_of_ble_eq_true rfl)) (cr_fear (f := fun j => ((f 0 :: 0 :: 0 :: 0 :: f 4 :: 0 :: 0 :: f 7 :: f 8 :: 0 :: f 10 :: f 11 :: f 12 :: f 13 :: f 14 :: f 15 :: f 16 :: f 17 :: 0 :: 0 :: 0 :: 0 :: 0 :: 0 :: f 24 :: 0 :: 0 :: 0 :: 0 :: 0 :: 0 :: 0 :: f 32 :: f 33 :: 0 :: 0 :: f 36 :: 0 :: 0 :: 0 :: 0 :: 0 :: 0 :: []) : List Int).getD j 0) (fr := fr) (ro := ro) (cl := cl) (i := 1) (j := 1) (by omega) (by omega) q3 q4 g_771_66 g_771_83 n83 g_771_86 n86 g_771_87 n87 k_771) ?_
                rintro _ h_772 ⟨z_772, rfl, F_772⟩
                have k_772 : cL h_772 := F_772.1.trans k_771
                have fr_772 := hfr_cb fr_771 F_772 rfl
                have g_772_66 := (hfr_g F_772 66 rfl).trans g_771_66
                have g_772_83 := (hfr_g F_772 83 rfl).trans g_771_83
                have g_772_86 := (hfr_g F_772 86 rfl).trans g_771_86
                have g_772_87 := (hfr_g F_772 87 rfl).trans g_771_87
                refine ik_Wk 0 (pc_q := 107) (loc_q := [some (.ref 66), some (fI sz), some (fI i), some (fI j), some (fJ 1), none, some (fI 0), some (fI 1), some (fI 1), some (fI 1)]) (st_q := [fJ z_772, fJ z_771, fJ 1]) (h_q := h_772) (cl_q := 0) (sl_q := 0) rfl ?_
                refine fw_lmul rfl ?_
                refine ik_Wk 3 (pc_q := 113) (loc_q := [some (.ref 66), some (fI sz), some (fI i), some (fI j), some (fJ 1), none, some (fI 0), some (fI 1), some (fI 1), some (fI 1)]) (st_q := [fI 1, fI 0, .ref 66, fJ (z_771 * z_772), fJ 1]) (h_q := h_772) (cl_q := 0) (sl_q := 0) rfl ?_
                refine fw_call 174 3 0 [.ref 66, fI 0, fI 1] [fJ (z_771 * z_772), fJ 1] rfl rfl rfl (Nat.le_of_ble_eq_true rfl) rfl rfl (fw_rec k_772 rfl g_772_66 rfl (Nat.le_of_ble_eq_true rfl)) (cr_fear (f := fun j => ((f 0 :: 0 :: 0 :: 0 :: f 4 :: 0 :: 0 :: f 7 :: f 8 :: 0 :: f 10 :: f 11 :: f 12 :: f 13 :: f 14 :: f 15 :: f 16 :: f 17 :: 0 :: 0 :: 0 :: 0 :: 0 :: 0 :: f 24 :: 0 :: 0 :: 0 :: 0 :: 0 :: 0 :: 0 :: f 32 :: f 33 :: 0 :: 0 :: f 36 :: 0 :: 0 :: 0 :: 0 :: 0 :: 0 :: []) : List Int).getD j 0) (fr := fr) (ro := ro) (cl := cl) (i := 0) (j := 1) (by omega) (by omega) q3 q4 g_772_66 g_772_83 n83 g_772_86 n86 g_772_87 n87 k_772) ?_
                rintro _ h_773 ⟨z_773, rfl, F_773⟩
                have k_773 : cL h_773 := F_773.1.trans k_772
                have fr_773 := hfr_cb fr_772 F_773 rfl
                have g_773_66 := (hfr_g F_773 66 rfl).trans g_772_66
                have g_773_83 := (hfr_g F_773 83 rfl).trans g_772_83
                have g_773_86 := (hfr_g F_773 86 rfl).trans g_772_86
                have g_773_87 := (hfr_g F_773 87 rfl).trans g_772_87
                refine ik_Wk 0 (pc_q := 116) (loc_q := [some (.ref 66), some (fI sz), some (fI i), some (fI j), some (fJ 1), none, some (fI 0), some (fI 1), some (fI 1), some (fI 1)]) (st_q := [fJ z_773, fJ (z_771 * z_772), fJ 1]) (h_q := h_773) (cl_q := 0) (sl_q := 0) rfl ?_
                refine ik_Wk 3 (pc_q := 121) (loc_q := [some (.ref 66), some (fI sz), some (fI i), some (fI j), some (fJ 1), none, some (fI 0), some (fI 1), some (fI 1), some (fI 1)]) (st_q := [fI 1, fI 1, .ref 66, fJ z_773, fJ (z_771 * z_772), fJ 1]) (h_q := h_773) (cl_q := 0) (sl_q := 0) rfl ?_
                refine fw_call 174 3 0 [.ref 66, fI 1, fI 1] [fJ z_773, fJ (z_771 * z_772), fJ 1] rfl rfl rfl (Nat.le_of_ble_eq_true rfl) rfl rfl (fw_rec k_773 rfl g_773_66 rfl (Nat.le_of_ble_eq_true rfl)) (cr_fear (f := fun j => ((f 0 :: 0 :: 0 :: 0 :: f 4 :: 0 :: 0 :: f 7 :: f 8 :: 0 :: f 10 :: f 11 :: f 12 :: f 13 :: f 14 :: f 15 :: f 16 :: f 17 :: 0 :: 0 :: 0 :: 0 :: 0 :: 0 :: f 24 :: 0 :: 0 :: 0 :: 0 :: 0 :: 0 :: 0 :: f 32 :: f 33 :: 0 :: 0 :: f 36 :: 0 :: 0 :: 0 :: 0 :: 0 :: 0 :: []) : List Int).getD j 0) (fr := fr) (ro := ro) (cl := cl) (i := 1) (j := 1) (by omega) (by omega) q3 q4 g_773_66 g_773_83 n83 g_773_86 n86 g_773_87 n87 k_773) ?_
                rintro _ h_774 ⟨z_774, rfl, F_774⟩
                have k_774 : cL h_774 := F_774.1.trans k_773
                have fr_774 := hfr_cb fr_773 F_774 rfl
                have g_774_66 := (hfr_g F_774 66 rfl).trans g_773_66
                have g_774_83 := (hfr_g F_774 83 rfl).trans g_773_83
                have g_774_86 := (hfr_g F_774 86 rfl).trans g_773_86
                have g_774_87 := (hfr_g F_774 87 rfl).trans g_773_87
                refine ik_Wk 0 (pc_q := 124) (loc_q := [some (.ref 66), some (fI sz), some (fI i), some (fI j), some (fJ 1), none, some (fI 0), some (fI 1), some (fI 1), some (fI 1)]) (st_q := [fJ z_774, fJ z_773, fJ (z_771 * z_772), fJ 1]) (h_q := h_774) (cl_q := 0) (sl_q := 0) rfl ?_
                refine fw_lmul rfl ?_
                refine fw_lsub rfl ?_
                refine fw_lmul rfl ?_
                exact ik_Wret rfl rfl ⟨_, _, rfl, rfl, rfl, rfl, ⟨(1 * ((z_771 * z_772) - (z_773 * z_774))), rfl, fr_774⟩⟩
              · refine ik_Wk 6 (pc_q := 96) (loc_q := [some (.ref 66), some (fI sz), some (fI i), some (fI j), some (fJ 1), none, some (fI 0), some (fI 1), some (fI 1), some (fI 2)]) (st_q := [fI 1, fI 0, .ref 66, fJ 1]) (h_q := h) (cl_q := 0) (sl_q := 0) rfl ?_
                refine fw_call 174 3 0 [.ref 66, fI 0, fI 1] [fJ 1] rfl rfl rfl (Nat.le_of_ble_eq_true rfl) rfl rfl (fw_rec hl rfl h66 rfl (Nat.le_of_ble_eq_true rfl)) (cr_fear (f := fun j => ((f 0 :: 0 :: 0 :: 0 :: f 4 :: 0 :: 0 :: f 7 :: f 8 :: 0 :: f 10 :: f 11 :: f 12 :: f 13 :: f 14 :: f 15 :: f 16 :: f 17 :: 0 :: 0 :: 0 :: 0 :: 0 :: 0 :: f 24 :: 0 :: 0 :: 0 :: 0 :: 0 :: 0 :: 0 :: f 32 :: f 33 :: 0 :: 0 :: f 36 :: 0 :: 0 :: 0 :: 0 :: 0 :: 0 :: []) : List Int).getD j 0) (fr := fr) (ro := ro) (cl := cl) (i := 0) (j := 1) (by omega) (by omega) q3 q4 h66 h83 n83 h86 n86 h87 n87 hl) ?_
                rintro _ h_775 ⟨z_775, rfl, F_775⟩
                have k_775 : cL h_775 := F_775.1.trans hl
                have fr_775 := hfr_cb (hfr_refl [] h) F_775 rfl
                have g_775_66 := (hfr_g F_775 66 rfl).trans h66
                have g_775_83 := (hfr_g F_775 83 rfl).trans h83
                have g_775_86 := (hfr_g F_775 86 rfl).trans h86
                have g_775_87 := (hfr_g F_775 87 rfl).trans h87
                refine ik_Wk 0 (pc_q := 99) (loc_q := [some (.ref 66), some (fI sz), some (fI i), some (fI j), some (fJ 1), none, some (fI 0), some (fI 1), some (fI 1), some (fI 2)]) (st_q := [fJ z_775, fJ 1]) (h_q := h_775) (cl_q := 0) (sl_q := 0) rfl ?_
                refine ik_Wk 3 (pc_q := 104) (loc_q := [some (.ref 66), some (fI sz), some (fI i), some (fI j), some (fJ 1), none, some (fI 0), some (fI 1), some (fI 1), some (fI 2)]) (st_q := [fI 2, fI 1, .ref 66, fJ z_775, fJ 1]) (h_q := h_775) (cl_q := 0) (sl_q := 0) rfl ?_
                refine fw_call 174 3 0 [.ref 66, fI 1, fI 2] [fJ z_775, fJ 1] rfl rfl rfl (Nat.le_of_ble_eq_true rfl) rfl rfl (fw_rec k_775 rfl g_775_66 rfl (Nat.le_of_ble_eq_true rfl)) (cr_fear (f := fun j => ((f 0 :: 0 :: 0 :: 0 :: f 4 :: 0 :: 0 :: f 7 :: f 8 :: 0 :: f 10 :: f 11 :: f 12 :: f 13 :: f 14 :: f 15 :: f 16 :: f 17 :: 0 :: 0 :: 0 :: 0 :: 0 :: 0 :: f 24 :: 0 :: 0 :: 0 :: 0 :: 0 :: 0 :: 0 :: f 32 :: f 33 :: 0 :: 0 :: f 36 :: 0 :: 0 :: 0 :: 0 :: 0 :: 0 :: []) : List Int).getD j 0) (fr := fr) (ro := ro) (cl := cl) (i := 1) (j := 2) (by omega) (by omega) q3 q4 g_775_66 g_775_83 n83 g_775_86 n86 g_775_87 n87 k_775) ?_
                rintro _ h_776 ⟨z_776, rfl, F_776⟩
                have k_776 : cL h_776 := F_776.1.trans k_775
                have fr_776 := hfr_cb fr_775 F_776 rfl
                have g_776_66 := (hfr_g F_776 66 rfl).trans g_775_66
                have g_776_83 := (hfr_g F_776 83 rfl).trans g_775_83
                have g_776_86 := (hfr_g F_776 86 rfl).trans g_775_86
                have g_776_87 := (hfr_g F_776 87 rfl).trans g_775_87
                refine ik_Wk 0 (pc_q := 107) (loc_q := [some (.ref 66), some (fI sz), some (fI i), some (fI j), some (fJ 1), none, some (fI 0), some (fI 1), some (fI 1), some (fI 2)]) (st_q := [fJ z_776, fJ z_775, fJ 1]) (h_q := h_776) (cl_q := 0) (sl_q := 0) rfl ?_
                refine fw_lmul rfl ?_
                refine ik_Wk 3 (pc_q := 113) (loc_q := [some (.ref 66), some (fI sz), some (fI i), some (fI j), some (fJ 1), none, some (fI 0), some (fI 1), some (fI 1), some (fI 2)]) (st_q := [fI 2, fI 0, .ref 66, fJ (z_775 * z_776), fJ 1]) (h_q := h_776) (cl_q := 0) (sl_q := 0) rfl ?_
                refine fw_call 174 3 0 [.ref 66, fI 0, fI 2] [fJ (z_775 * z_776), fJ 1] rfl rfl rfl (Nat.le_of_ble_eq_true rfl) rfl rfl (fw_rec k_776 rfl g_776_66 rfl (Nat.le_of_ble_eq_true rfl)) (cr_fear (f := fun j => ((f 0 :: 0 :: 0 :: 0 :: f 4 :: 0 :: 0 :: f 7 :: f 8 :: 0 :: f 10 :: f 11 :: f 12 :: f 13 :: f 14 :: f 15 :: f 16 :: f 17 :: 0 :: 0 :: 0 :: 0 :: 0 :: 0 :: f 24 :: 0 :: 0 :: 0 :: 0 :: 0 :: 0 :: 0 :: f 32 :: f 33 :: 0 :: 0 :: f 36 :: 0 :: 0 :: 0 :: 0 :: 0 :: 0 :: []) : List Int).getD j 0) (fr := fr) (ro := ro) (cl := cl) (i := 0) (j := 2) (by omega) (by omega) q3 q4 g_776_66 g_776_83 n83 g_776_86 n86 g_776_87 n87 k_776) ?_
                rintro _ h_777 ⟨z_777, rfl, F_777⟩
                have k_777 : cL h_777 := F_777.1.trans k_776
                have fr_777 := hfr_cb fr_776 F_777 rfl
                have g_777_66 := (hfr_g F_777 66 rfl).trans g_776_66
                have g_777_83 := (hfr_g F_777 83 rfl).trans g_776_83
                have g_777_86 := (hfr_g F_777 86 rfl).trans g_776_86
                have g_777_87 := (hfr_g F_777 87 rfl).trans g_776_87
                refine ik_Wk 0 (pc_q := 116) (loc_q := [some (.ref 66), some (fI sz), some (fI i), some (fI j), some (fJ 1), none, some (fI 0), some (fI 1), some (fI 1), some (fI 2)]) (st_q := [fJ z_777, fJ (z_775 * z_776), fJ 1]) (h_q := h_777) (cl_q := 0) (sl_q := 0) rfl ?_
                refine ik_Wk 3 (pc_q := 121) (loc_q := [some (.ref 66), some (fI sz), some (fI i), some (fI j), some (fJ 1), none, some (fI 0), some (fI 1), some (fI 1), some (fI 2)]) (st_q := [fI 1, fI 1, .ref 66, fJ z_777, fJ (z_775 * z_776), fJ 1]) (h_q := h_777) (cl_q := 0) (sl_q := 0) rfl ?_
                refine fw_call 174 3 0 [.ref 66, fI 1, fI 1] [fJ z_777, fJ (z_775 * z_776), fJ 1] rfl rfl rfl (Nat.le_of_ble_eq_true rfl) rfl rfl (fw_rec k_777 rfl g_777_66 rfl (Nat.le_of_ble_eq_true rfl)) (cr_fear (f := fun j => ((f 0 :: 0 :: 0 :: 0 :: f 4 :: 0 :: 0 :: f 7 :: f 8 :: 0 :: f 10 :: f 11 :: f 12 :: f 13 :: f 14 :: f 15 :: f 16 :: f 17 :: 0 :: 0 :: 0 :: 0 :: 0 :: 0 :: f 24 :: 0 :: 0 :: 0 :: 0 :: 0 :: 0 :: 0 :: f 32 :: f 33 :: 0 :: 0 :: f 36 :: 0 :: 0 :: 0 :: 0 :: 0 :: 0 :: []) : List Int).getD j 0) (fr := fr) (ro := ro) (cl := cl) (i := 1) (j := 1) (by omega) (by omega) q3 q4 g_777_66 g_777_83 n83 g_777_86 n86 g_777_87 n87 k_777) ?_
                rintro _ h_778 ⟨z_778, rfl, F_778⟩
                have k_778 : cL h_778 := F_778.1.trans k_777
                have fr_778 := hfr_cb fr_777 F_778 rfl
                have g_778_66 := (hfr_g F_778 66 rfl).trans g_777_66
                have g_778_83 := (hfr_g F_778 83 rfl).trans g_777_83
                have g_778_86 := (hfr_g F_778 86 rfl).trans g_777_86
                have g_778_87 := (hfr_g F_778 87 rfl).trans g_777_87
                refine ik_Wk 0 (pc_q := 124) (loc_q := [some (.ref 66), some (fI sz), some (fI i), some (fI j), some (fJ 1), none, some (fI 0), some (fI 1), some (fI 1), some (fI 2)]) (st_q := [fJ z_778, fJ z_777, fJ (z_775 * z_776), fJ 1]) (h_q := h_778) (cl_q := 0) (sl_q := 0) rfl ?_
                refine fw_lmul rfl ?_
                refine fw_lsub rfl ?_
                refine fw_lmul rfl ?_
                exact ik_Wret rfl rfl ⟨_, _, rfl, rfl, rfl, rfl, ⟨(1 * ((z_775 * z_776) - (z_777 * z_778))), rfl, fr_778⟩⟩
            · refine ik_Wk 4 (pc_q := 79) (loc_q := [some (.ref 66), some (fI sz), some (fI i), some (fI j), some (fJ 1), none, some (fI 0), some (fI 1), some (fI 0), none]) (st_q := [fI 2, fI j]) (h_q := h) (cl_q := 0) (sl_q := 0) rfl ?_
              refine fw_ic_ne rfl rfl (by omega) (by omega) (by omega) (by omega) (fun hc15 => ?_) (fun hc15 => ?_)
              · refine ik_Wk 7 (pc_q := 96) (loc_q := [some (.ref 66), some (fI sz), some (fI i), some (fI j), some (fJ 1), none, some (fI 0), some (fI 1), some (fI 0), some (fI 1)]) (st_q := [fI 0, fI 0, .ref 66, fJ 1]) (h_q := h) (cl_q := 0) (sl_q := 0) rfl ?_
                refine fw_call 174 3 0 [.ref 66, fI 0, fI 0] [fJ 1] rfl rfl rfl (Nat.le_of_ble_eq_true rfl) rfl rfl (fw_rec hl rfl h66 rfl (Nat.le_of_ble_eq_true rfl)) (cr_fear (f := fun j => ((f 0 :: 0 :: 0 :: 0 :: f 4 :: 0 :: 0 :: f 7 :: f 8 :: 0 :: f 10 :: f 11 :: f 12 :: f 13 :: f 14 :: f 15 :: f 16 :: f 17 :: 0 :: 0 :: 0 :: 0 :: 0 :: 0 :: f 24 :: 0 :: 0 :: 0 :: 0 :: 0 :: 0 :: 0 :: f 32 :: f 33 :: 0 :: 0 :: f 36 :: 0 :: 0 :: 0 :: 0 :: 0 :: 0 :: []) : List Int).getD j 0) (fr := fr) (ro := ro) (cl := cl) (i := 0) (j := 0) (by omega) (by omega) q3 q4 h66 h83 n83 h86 n86 h87 n87 hl) ?_
                rintro _ h_779 ⟨z_779, rfl, F_779⟩
                have k_779 : cL h_779 := F_779.1.trans hl
                have fr_779 := hfr_cb (hfr_refl [] h) F_779 rfl
                have g_779_66 := (hfr_g F_779 66 rfl).trans h66
                have g_779_83 := (hfr_g F_779 83 rfl).trans h83
                have g_779_86 := (hfr_g F_779 86 rfl).trans h86
                have g_779_87 := (hfr_g F_779 87 rfl).trans h87
                refine ik_Wk 0 (pc_q := 99) (loc_q := [some (.ref 66), some (fI sz), some (fI i), some (fI j), some (fJ 1), none, some (fI 0), some (fI 1), some (fI 0), some (fI 1)]) (st_q := [fJ z_779, fJ 1]) (h_q := h_779) (cl_q := 0) (sl_q := 0) rfl ?_
                refine ik_Wk 3 (pc_q := 104) (loc_q := [some (.ref 66), some (fI sz), some (fI i), some (fI j), some (fJ 1), none, some (fI 0), some (fI 1), some (fI 0), some (fI 1)]) (st_q := [fI 1, fI 1, .ref 66, fJ z_779, fJ 1]) (h_q := h_779) (cl_q := 0) (sl_q := 0) rfl ?_
                refine fw_call 174 3 0 [.ref 66, fI 1, fI 1] [fJ z_779, fJ 1] rfl rfl rfl (Nat.le_of_ble_eq_true rfl) rfl rfl (fw_rec k_779 rfl g_779_66 rfl (Nat.le_of_ble_eq_true rfl)) (cr_fear (f := fun j => ((f 0 :: 0 :: 0 :: 0 :: f 4 :: 0 :: 0 :: f 7 :: f 8 :: 0 :: f 10 :: f 11 :: f 12 :: f 13 :: f 14 :: f 15 :: f 16 :: f 17 :: 0 :: 0 :: 0 :: 0 :: 0 :: 0 :: f 24 :: 0 :: 0 :: 0 :: 0 :: 0 :: 0 :: 0 :: f 32 :: f 33 :: 0 :: 0 :: f 36 :: 0 :: 0 :: 0 :: 0 :: 0 :: 0 :: []) : List Int).getD j 0) (fr := fr) (ro := ro) (cl := cl) (i := 1) (j := 1) (by omega) (by omega) q3 q4 g_779_66 g_779_83 n83 g_779_86 n86 g_779_87 n87 k_779) ?_
                rintro _ h_780 ⟨z_780, rfl, F_780⟩
                have k_780 : cL h_780 := F_780.1.trans k_779
                have fr_780 := hfr_cb fr_779 F_780 rfl
                have g_780_66 := (hfr_g F_780 66 rfl).trans g_779_66
                have g_780_83 := (hfr_g F_780 83 rfl).trans g_779_83
                have g_780_86 := (hfr_g F_780 86 rfl).trans g_779_86
                have g_780_87 := (hfr_g F_780 87 rfl).trans g_779_87
                refine ik_Wk 0 (pc_q := 107) (loc_q := [some (.ref 66), some (fI sz), some (fI i), some (fI j), some (fJ 1), none, some (fI 0), some (fI 1), some (fI 0), some (fI 1)]) (st_q := [fJ z_780, fJ z_779, fJ 1]) (h_q := h_780) (cl_q := 0) (sl_q := 0) rfl ?_
                refine fw_lmul rfl ?_
                refine ik_Wk 3 (pc_q := 113) (loc_q := [some (.ref 66), some (fI sz), some (fI i), some (fI j), some (fJ 1), none, some (fI 0), some (fI 1), some (fI 0), some (fI 1)]) (st_q := [fI 1, fI 0, .ref 66, fJ (z_779 * z_780), fJ 1]) (h_q := h_780) (cl_q := 0) (sl_q := 0) rfl ?_
                refine fw_call 174 3 0 [.ref 66, fI 0, fI 1] [fJ (z_779 * z_780), fJ 1] rfl rfl rfl (Nat.le_of_ble_eq_true rfl) rfl rfl (fw_rec k_780 rfl g_780_66 rfl (Nat.le_of_ble_eq_true rfl)) (cr_fear (f := fun j => ((f 0 :: 0 :: 0 :: 0 :: f 4 :: 0 :: 0 :: f 7 :: f 8 :: 0 :: f 10 :: f 11 :: f 12 :: f 13 :: f 14 :: f 15 :: f 16 :: f 17 :: 0 :: 0 :: 0 :: 0 :: 0 :: 0 :: f 24 :: 0 :: 0 :: 0 :: 0 :: 0 :: 0 :: 0 :: f 32 :: f 33 :: 0 :: 0 :: f 36 :: 0 :: 0 :: 0 :: 0 :: 0 :: 0 :: []) : List Int).getD j 0) (fr := fr) (ro := ro) (cl := cl) (i := 0) (j := 1) (by omega) (by omega) q3 q4 g_780_66 g_780_83 n83 g_780_86 n86 g_780_87 n87 k_780) ?_
                rintro _ h_781 ⟨z_781, rfl, F_781⟩
                have k_781 : cL h_781 := F_781.1.trans k_780
                have fr_781 := hfr_cb fr_780 F_781 rfl
                have g_781_66 := (hfr_g F_781 66 rfl).trans g_780_66
                have g_781_83 := (hfr_g F_781 83 rfl).trans g_780_83
                have g_781_86 := (hfr_g F_781 86 rfl).trans g_780_86
                have g_781_87 := (hfr_g F_781 87 rfl).trans g_780_87
                refine ik_Wk 0 (pc_q := 116) (loc_q := [some (.ref 66), some (fI sz), some (fI i), some (fI j), some (fJ 1), none, some (fI 0), some (fI 1), some (fI 0), some (fI 1)]) (st_q := [fJ z_781, fJ (z_779 * z_780), fJ 1]) (h_q := h_781) (cl_q := 0) (sl_q := 0) rfl ?_
                refine ik_Wk 3 (pc_q := 121) (loc_q := [some (.ref 66), some (fI sz), some (fI i), some (fI j), some (fJ 1), none, some (fI 0), some (fI 1), some (fI 0), some (fI 1)]) (st_q := [fI 0, fI 1, .ref 66, fJ z_781, fJ (z_779 * z_780), fJ 1]) (h_q := h_781) (cl_q := 0) (sl_q := 0) rfl ?_
                refine fw_call 174 3 0 [.ref 66, fI 1, fI 0] [fJ z_781, fJ (z_779 * z_780), fJ 1] rfl rfl rfl (Nat.le_of_ble_eq_true rfl) rfl rfl (fw_rec k_781 rfl g_781_66 rfl (Nat.le_of_ble_eq_true rfl)) (cr_fear (f := fun j => ((f 0 :: 0 :: 0 :: 0 :: f 4 :: 0 :: 0 :: f 7 :: f 8 :: 0 :: f 10 :: f 11 :: f 12 :: f 13 :: f 14 :: f 15 :: f 16 :: f 17 :: 0 :: 0 :: 0 :: 0 :: 0 :: 0 :: f 24 :: 0 :: 0 :: 0 :: 0 :: 0 :: 0 :: 0 :: f 32 :: f 33 :: 0 :: 0 :: f 36 :: 0 :: 0 :: 0 :: 0 :: 0 :: 0 :: []) : List Int).getD j 0) (fr := fr) (ro := ro) (cl := cl) (i := 1) (j := 0) (by omega) (by omega) q3 q4 g_781_66 g_781_83 n83 g_781_86 n86 g_781_87 n87 k_781) ?_
                rintro _ h_782 ⟨z_782, rfl, F_782⟩
                have k_782 : cL h_782 := F_782.1.trans k_781
                have fr_782 := hfr_cb fr_781 F_782 rfl
                have g_782_66 := (hfr_g F_782 66 rfl).trans g_781_66
                have g_782_83 := (hfr_g F_782 83 rfl).trans g_781_83
                have g_782_86 := (hfr_g F_782 86 rfl).trans g_781_86
                have g_782_87 := (hfr_g F_782 87 rfl).trans g_781_87
                refine ik_Wk 0 (pc_q := 124) (loc_q := [some (.ref 66), some (fI sz), some (fI i), some (fI j), some (fJ 1), none, some (fI 0), some (fI 1), some (fI 0), some (fI 1)]) (st_q := [fJ z_782, fJ z_781, fJ (z_779 * z_780), fJ 1]) (h_q := h_782) (cl_q := 0) (sl_q := 0) rfl ?_
                refine fw_lmul rfl ?_
                refine fw_lsub rfl ?_
                refine fw_lmul rfl ?_
                exact ik_Wret rfl rfl ⟨_, _, rfl, rfl, rfl, rfl, ⟨(1 * ((z_779 * z_780) - (z_781 * z_782))), rfl, fr_782⟩⟩
              · refine ik_Wk 6 (pc_q := 96) (loc_q := [some (.ref 66), some (fI sz), some (fI i), some (fI j), some (fJ 1), none, some (fI 0), some (fI 1), some (fI 0), some (fI 2)]) (st_q := [fI 0, fI 0, .ref 66, fJ 1]) (h_q := h) (cl_q := 0) (sl_q := 0) rfl ?_
                refine fw_call 174 3 0 [.ref 66, fI 0, fI 0] [fJ 1] rfl rfl rfl (Nat.le_of_ble_eq_true rfl) rfl rfl (fw_rec hl rfl h66 rfl (Nat.le_of_ble_eq_true rfl)) (cr_fear (f := fun j => ((f 0 :: 0 :: 0 :: 0 :: f 4 :: 0 :: 0 :: f 7 :: f 8 :: 0 :: f 10 :: f 11 :: f 12 :: f 13 :: f 14 :: f 15 :: f 16 :: f 17 :: 0 :: 0 :: 0 :: 0 :: 0 :: 0 :: f 24 :: 0 :: 0 :: 0 :: 0 :: 0 :: 0 :: 0 :: f 32 :: f 33 :: 0 :: 0 :: f 36 :: 0 :: 0 :: 0 :: 0 :: 0 :: 0 :: []) : List Int).getD j 0) (fr := fr) (ro := ro) (cl := cl) (i := 0) (j := 0) (by omega) (by omega) q3 q4 h66 h83 n83 h86 n86 h87 n87 hl) ?_
                rintro _ h_783 ⟨z_783, rfl, F_783⟩
                have k_783 : cL h_783 := F_783.1.trans hl
                have fr_783 := hfr_cb (hfr_refl [] h) F_783 rfl
                have g_783_66 := (hfr_g F_783 66 rfl).trans h66
                have g_783_83 := (hfr_g F_783 83 rfl).trans h83
                have g_783_86 := (hfr_g F_783 86 rfl).trans h86
                have g_783_87 := (hfr_g F_783 87 rfl).trans h87
                refine ik_Wk 0 (pc_q := 99) (loc_q := [some (.ref 66), some (fI sz), some (fI i), some (fI j), some (fJ 1), none, some (fI 0), some (fI 1), some (fI 0), some (fI 2)]) (st_q := [fJ z_783, fJ 1]) (h_q := h_783) (cl_q := 0) (sl_q := 0) rfl ?_
                refine ik_Wk 3 (pc_q := 104) (loc_q := [some (.ref 66), some (fI sz), some (fI i), some (fI j), some (fJ 1), none, some (fI 0), some (fI 1), some (fI 0), some (fI 2)]) (st_q := [fI 2, fI 1, .ref 66, fJ z_783, fJ 1]) (h_q := h_783) (cl_q := 0) (sl_q := 0) rfl ?_
                refine fw_call 174 3 0 [.ref 66, fI 1, fI 2] [fJ z_783, fJ 1] rfl rfl rfl (Nat.le_of_ble_eq_true rfl) rfl rfl (fw_rec k_783 rfl g_783_66 rfl (Nat.le_of_ble_eq_true rfl)) (cr_fear (f := fun j => ((f 0 :: 0 :: 0 :: 0 :: f 4 :: 0 :: 0 :: f 7 :: f 8 :: 0 :: f 10 :: f 11 :: f 12 :: f 13 :: f 14 :: f 15 :: f 16 :: f 17 :: 0 :: 0 :: 0 :: 0 :: 0 :: 0 :: f 24 :: 0 :: 0 :: 0 :: 0 :: 0 :: 0 :: 0 :: f 32 :: f 33 :: 0 :: 0 :: f 36 :: 0 :: 0 :: 0 :: 0 :: 0 :: 0 :: []) : List Int).getD j 0) (fr := fr) (ro := ro) (cl := cl) (i := 1) (j := 2) (by omega) (by omega) q3 q4 g_783_66 g_783_83 n83 g_783_86 n86 g_783_87 n87 k_783) ?_
                rintro _ h_784 ⟨z_784, rfl, F_784⟩
                have k_784 : cL h_784 := F_784.1.trans k_783
                have fr_784 := hfr_cb fr_783 F_784 rfl
                have g_784_66 := (hfr_g F_784 66 rfl).trans g_783_66
                have g_784_83 := (hfr_g F_784 83 rfl).trans g_783_83
                have g_784_86 := (hfr_g F_784 86 rfl).trans g_783_86
                have g_784_87 := (hfr_g F_784 87 rfl).trans g_783_87
                refine ik_Wk 0 (pc_q := 107) (loc_q := [some (.ref 66), some (fI sz), some (fI i), some (fI j), some (fJ 1), none, some (fI 0), some (fI 1), some (fI 0), some (fI 2)]) (st_q := [fJ z_784, fJ z_783, fJ 1]) (h_q := h_784) (cl_q := 0) (sl_q := 0) rfl ?_
                refine fw_lmul rfl ?_
                refine ik_Wk 3 (pc_q := 113) (loc_q := [some (.ref 66), some (fI sz), some (fI i), some (fI j), some (fJ 1), none, some (fI 0), some (fI 1), some (fI 0), some (fI 2)]) (st_q := [fI 2, fI 0, .ref 66, fJ (z_783 * z_784), fJ 1]) (h_q := h_784) (cl_q := 0) (sl_q := 0) rfl ?_
                refine fw_call 174 3 0 [.ref 66, fI 0, fI 2] [fJ (z_783 * z_784), fJ 1] rfl rfl rfl (Nat.le_of_ble_eq_true rfl) rfl rfl (fw_rec k_784 rfl g_784_66 rfl (Nat.le_of_ble_eq_true rfl)) (cr_fear (f := fun j => ((f 0 :: 0 :: 0 :: 0 :: f 4 :: 0 :: 0 :: f 7 :: f 8 :: 0 :: f 10 :: f 11 :: f 12 :: f 13 :: f 14 :: f 15 :: f 16 :: f 17 :: 0 :: 0 :: 0 :: 0 :: 0 :: 0 :: f 24 :: 0 :: 0 :: 0 :: 0 :: 0 :: 0 :: 0 :: f 32 :: f 33 :: 0 :: 0 :: f 36 :: 0 :: 0 :: 0 :: 0 :: 0 :: 0 :: []) : List Int).getD j 0) (fr := fr) (ro := ro) (cl := cl) (i := 0) (j := 2) (by omega) (by omega) q3 q4 g_784_66 g_784_83 n83 g_784_86 n86 g_784_87 n87 k_784) ?_
                rintro _ h_785 ⟨z_785, rfl, F_785⟩
                have k_785 : cL h_785 := F_785.1.trans k_784
                have fr_785 := hfr_cb fr_784 F_785 rfl
                have g_785_66 := (hfr_g F_785 66 rfl).trans g_784_66
                have g_785_83 := (hfr_g F_785 83 rfl).trans g_784_83
                have g_785_86 := (hfr_g F_785 86 rfl).trans g_784_86
                have g_785_87 := (hfr_g F_785 87 rfl).trans g_784_87
                refine ik_Wk 0 (pc_q := 116) (loc_q := [some (.ref 66), some (fI sz), some (fI i), some (fI j), some (fJ 1), none, some (fI 0), some (fI 1), some (fI 0), some (fI 2)]) (st_q := [fJ z_785, fJ (z_783 * z_784), fJ 1]) (h_q := h_785) (cl_q := 0) (sl_q := 0) rfl ?_
                refine ik_Wk 3 (pc_q := 121) (loc_q := [some (.ref 66), some (fI sz), some (fI i), some (fI j), some (fJ 1), none, some (fI 0), some (fI 1), some (fI 0), some (fI 2)]) (st_q := [fI 0, fI 1, .ref 66, fJ z_785, fJ (z_783 * z_784), fJ 1]) (h_q := h_785) (cl_q := 0) (sl_q := 0) rfl ?_
                refine fw_call 174 3 0 [.ref 66, fI 1, fI 0] [fJ z_785, fJ (z_783 * z_784), fJ 1] rfl rfl rfl (Nat.le_of_ble_eq_true rfl) rfl rfl (fw_rec k_785 rfl g_785_66 rfl (Nat.le_of_ble_eq_true rfl)) (cr_fear (f := fun j => ((f 0 :: 0 :: 0 :: 0 :: f 4 :: 0 :: 0 :: f 7 :: f 8 :: 0 :: f 10 :: f 11 :: f 12 :: f 13 :: f 14 :: f 15 :: f 16 :: f 17 :: 0 :: 0 :: 0 :: 0 :: 0 :: 0 :: f 24 :: 0 :: 0 :: 0 :: 0 :: 0 :: 0 :: 0 :: f 32 :: f 33 :: 0 :: 0 :: f 36 :: 0 :: 0 :: 0 :: 0 :: 0 :: 0 :: []) : List Int).getD j 0) (fr := fr) (ro := ro) (cl := cl) (i := 1) (j := 0) (by omega) (by omega) q3 q4 g_785_66 g_785_83 n83 g_785_86 n86 g_785_87 n87 k_785) ?_
                rintro _ h_786 ⟨z_786, rfl, F_786⟩
                have k_786 : cL h_786 := F_786.1.trans k_785
                have fr_786 := hfr_cb fr_785 F_786 rfl
                have g_786_66 := (hfr_g F_786 66 rfl).trans g_785_66
                have g_786_83 := (hfr_g F_786 83 rfl).trans g_785_83
                have g_786_86 := (hfr_g F_786 86 rfl).trans g_785_86
                have g_786_87 := (hfr_g F_786 87 rfl).trans g_785_87
                refine ik_Wk 0 (pc_q := 124) (loc_q := [some (.ref 66), some (fI sz), some (fI i), some (fI j), some (fJ 1), none, some (fI 0), some (fI 1), some (fI 0), some (fI 2)]) (st_q := [fJ z_786, fJ z_785, fJ (z_783 * z_784), fJ 1]) (h_q := h_786) (cl_q := 0) (sl_q := 0) rfl ?_
                refine fw_lmul rfl ?_
                refine fw_lsub rfl ?_
                refine fw_lmul rfl ?_
                exact ik_Wret rfl rfl ⟨_, _, rfl, rfl, rfl, rfl, ⟨(1 * ((z_783 * z_784) - (z_785 * z_786))), rfl, fr_786⟩⟩
          · refine ik_Wk 3 (pc_q := 67) (loc_q := [some (.ref 66), some (fI sz), some (fI i), some (fI j), some (fJ 1), none, some (fI 0), some (fI 2), none, none]) (st_q := [fI j]) (h_q := h) (cl_q := 0) (sl_q := 0) rfl ?_
            refine fw_if_ne rfl rfl (by omega) (by omega) (fun hc16 => ?_) (fun hc16 => ?_)
            · refine ik_Wk 5 (pc_q := 79) (loc_q := [some (.ref 66), some (fI sz), some (fI i), some (fI j), some (fJ 1), none, some (fI 0), some (fI 2), some (fI 1), none]) (st_q := [fI 2, fI j]) (h_q := h) (cl_q := 0) (sl_q := 0) rfl ?_
              refine fw_ic_ne rfl rfl (by omega) (by omega) (by omega) (by omega) (fun hc17 => ?_) (fun hc17 => ?_)
              · refine ik_Wk 7 (pc_q := 96) (loc_q := [some (.ref 66), some (fI sz), some (fI i), some (fI j), some (fJ 1), none, some (fI 0), some (fI 2), some (fI 1), some (fI 1)]) (st_q := [fI 1, fI 0, .ref 66, fJ 1]) (h_q := h) (cl_q := 0) (sl_q := 0) rfl ?_
                refine fw_call 174 3 0 [.ref 66, fI 0, fI 1] [fJ 1] rfl rfl rfl (Nat.le_of_ble_eq_true rfl) rfl rfl (fw_rec hl rfl h66 rfl (Nat.le_of_ble_eq_true rfl)) (cr_fear (f := fun j => ((f 0 :: 0 :: 0 :: 0 :: f 4 :: 0 :: 0 :: f 7 :: f 8 :: 0 :: f 10 :: f 11 :: f 12 :: f 13 :: f 14 :: f 15 :: f 16 :: f 17 :: 0 :: 0 :: 0 :: 0 :: 0 :: 0 :: f 24 :: 0 :: 0 :: 0 :: 0 :: 0 :: 0 :: 0 :: f 32 :: f 33 :: 0 :: 0 :: f 36 :: 0 :: 0 :: 0 :: 0 :: 0 :: 0 :: []) : List Int).getD j 0) (fr := fr) (ro := ro) (cl := cl) (i := 0) (j := 1) (by omega) (by omega) q3 q4 h66 h83 n83 h86 n86 h87 n87 hl) ?_
                rintro _ h_787 ⟨z_787, rfl, F_787⟩
                have k_787 : cL h_787 := F_787.1.trans hl
                have fr_787 := hfr_cb (hfr_refl [] h) F_787 rfl
                have g_787_66 := (hfr_g F_787 66 rfl).trans h66
                have g_787_83 := (hfr_g F_787 83 rfl).trans h83
                have g_787_86 := (hfr_g F_787 86 rfl).trans h86
                have g_787_87 := (hfr_g F_787 87 rfl).trans h87
                refine ik_Wk 0 (pc_q := 99) (loc_q := [some (.ref 66), some (fI sz), some (fI i), some (fI j), some (fJ 1), none, some (fI 0), some (fI 2), some (fI 1), some (fI 1)]) (st_q := [fJ z_787, fJ 1]) (h_q := h_787) (cl_q := 0) (sl_q := 0) rfl ?_
                refine ik_Wk 3 (pc_q := 104) (loc_q := [some (.ref 66), some (fI sz), some (fI i), some (fI j), some (fJ 1), none, some (fI 0), some (fI 2), some (fI 1), some (fI 1)]) (st_q := [fI 1, fI 2, .ref 66, fJ z_787, fJ 1]) (h_q := h_787) (cl_q := 0) (sl_q := 0) rfl ?_
                refine fw_call 174 3 0 [.ref 66, fI 2, fI 1] [fJ z_787, fJ 1] rfl rfl rfl (Nat.le_of_ble_eq_true rfl) rfl rfl (fw_rec k_787 rfl g_787_66 rfl (Nat.le_of_ble_eq_true rfl)) (cr_fear (f := fun j => ((f 0 :: 0 :: 0 :: 0 :: f 4 :: 0 :: 0 :: f 7 :: f 8 :: 0 :: f 10 :: f 11 :: f 12 :: f 13 :: f 14 :: f 15 :: f 16 :: f 17 :: 0 :: 0 :: 0 :: 0 :: 0 :: 0 :: f 24 :: 0 :: 0 :: 0 :: 0 :: 0 :: 0 :: 0 :: f 32 :: f 33 :: 0 :: 0 :: f 36 :: 0 :: 0 :: 0 :: 0 :: 0 :: 0 :: []) : List Int).getD j 0) (fr := fr) (ro := ro) (cl := cl) (i := 2) (j := 1) (by omega) (by omega) q3 q4 g_787_66 g_787_83 n83 g_787_86 n86 g_787_87 n87 k_787) ?_
                rintro _ h_788 ⟨z_788, rfl, F_788⟩
                have k_788 : cL h_788 := F_788.1.trans k_787
                have fr_788 := hfr_cb fr_787 F_788 rfl
                have g_788_66 := (hfr_g F_788 66 rfl).trans g_787_66
                have g_788_83 := (hfr_g F_788 83 rfl).trans g_787_83
                have g_788_86 := (hfr_g F_788 86 rfl).trans g_787_86
                have g_788_87 := (hfr_g F_788 87 rfl).trans g_787_87
                refine ik_Wk 0 (pc_q := 107) (loc_q := [some (.ref 66), some (fI sz), some (fI i), some (fI j), some (fJ 1), none, some (fI 0), some (fI 2), some (fI 1), some (fI 1)]) (st_q := [fJ z_788, fJ z_787, fJ 1]) (h_q := h_788) (cl_q := 0) (sl_q := 0) rfl ?_
                refine fw_lmul rfl ?_
                refine ik_Wk 3 (pc_q := 113) (loc_q := [some (.ref 66), some (fI sz), some (fI i), some (fI j), some (fJ 1), none, some (fI 0), some (fI 2), some (fI 1), some (fI 1)]) (st_q := [fI 1, fI 0, .ref 66, fJ (z_787 * z_788), fJ 1]) (h_q := h_788) (cl_q := 0) (sl_q := 0) rfl ?_
                refine fw_call 174 3 0 [.ref 66, fI 0, fI 1] [fJ (z_787 * z_788), fJ 1] rfl rfl rfl (Nat.le_of_ble_eq_true rfl) rfl rfl (fw_rec k_788 rfl g_788_66 rfl (Nat.le_of_ble_eq_true rfl)) (cr_fear (f := fun j => ((f 0 :: 0 :: 0 :: 0 :: f 4 :: 0 :: 0 :: f 7 :: f 8 :: 0 :: f 10 :: f 11 :: f 12 :: f 13 :: f 14 :: f 15 :: f 16 :: f 17 :: 0 :: 0 :: 0 :: 0 :: 0 :: 0 :: f 24 :: 0 :: 0 :: 0 :: 0 :: 0 :: 0 :: 0 :: f 32 :: f 33 :: 0 :: 0 :: f 36 :: 0 :: 0 :: 0 :: 0 :: 0 :: 0 :: []) : List Int).getD j 0) (fr := fr) (ro := ro) (cl := cl) (i := 0) (j := 1) (by omega) (by omega) q3 q4 g_788_66 g_788_83 n83 g_788_86 n86 g_788_87 n87 k_788) ?_
                rintro _ h_789 ⟨z_789, rfl, F_789⟩
                have k_789 : cL h_789 := F_789.1.trans k_788
                have fr_789 := hfr_cb fr_788 F_789 rfl
                have g_789_66 := (hfr_g F_789 66 rfl).trans g_788_66
                have g_789_83 := (hfr_g F_789 83 rfl).trans g_788_83
                have g_789_86 := (hfr_g F_789 86 rfl).trans g_788_86
                have g_789_87 := (hfr_g F_789 87 rfl).trans g_788_87
                refine ik_Wk 0 (pc_q := 116) (loc_q := [some (.ref 66), some (fI sz), some (fI i), some (fI j), some (fJ 1), none, some (fI 0), some (fI 2), some (fI 1), some (fI 1)]) (st_q := [fJ z_789, fJ (z_787 * z_788), fJ 1]) (h_q := h_789) (cl_q := 0) (sl_q := 0) rfl ?_
                refine ik_Wk 3 (pc_q := 121) (loc_q := [some (.ref 66), some (fI sz), some (fI i), some (fI j), some (fJ 1), none, some (fI 0), some (fI 2), some (fI 1), some (fI 1)]) (st_q := [fI 1, fI 2, .ref 66, fJ z_789, fJ (z_787 * z_788), fJ 1]) (h_q := h_789) (cl_q := 0) (sl_q := 0) rfl ?_
                refine fw_call 174 3 0 [.ref 66, fI 2, fI 1] [fJ z_789, fJ (z_787 * z_788), fJ 1] rfl rfl rfl (Nat.le_of_ble_eq_true rfl) rfl rfl (fw_rec k_789 rfl g_789_66 rfl (Nat.le_of_ble_eq_true rfl)) (cr_fear (f := fun j => ((f 0 :: 0 :: 0 :: 0 :: f 4 :: 0 :: 0 :: f 7 :: f 8 :: 0 :: f 10 :: f 11 :: f 12 :: f 13 :: f 14 :: f 15 :: f 16 :: f 17 :: 0 :: 0 :: 0 :: 0 :: 0 :: 0 :: f 24 :: 0 :: 0 :: 0 :: 0 :: 0 :: 0 :: 0 :: f 32 :: f 33 :: 0 :: 0 :: f 36 :: 0 :: 0 :: 0 :: 0 :: 0 :: 0 :: []) : List Int).getD j 0) (fr := fr) (ro := ro) (cl := cl) (i := 2) (j := 1) (by omega) (by omega) q3 q4 g_789_66 g_789_83 n83 g_789_86 n86 g_789_87 n87 k_789) ?_
                rintro _ h_790 ⟨z_790, rfl, F_790⟩
                have k_790 : cL h_790 := F_790.1.trans k_789
                have fr_790 := hfr_cb fr_789 F_790 rfl
                have g_790_66 := (hfr_g F_790 66 rfl).trans g_789_66
                have g_790_83 := (hfr_g F_790 83 rfl).trans g_789_83
                have g_790_86 := (hfr_g F_790 86 rfl).trans g_789_86
                have g_790_87 := (hfr_g F_790 87 rfl).trans g_789_87
                refine ik_Wk 0 (pc_q := 124) (loc_q := [some (.ref 66), some (fI sz), some (fI i), some (fI j), some (fJ 1), none, some (fI 0), some (fI 2), some (fI 1), some (fI 1)]) (st_q := [fJ z_790, fJ z_789, fJ (z_787 * z_788), fJ 1]) (h_q := h_790) (cl_q := 0) (sl_q := 0) rfl ?_
                refine fw_lmul rfl ?_
                refine fw_lsub rfl ?_
                refine fw_lmul rfl ?_
                exact ik_Wret rfl rfl ⟨_, _, rfl, rfl, rfl, rfl, ⟨(1 * ((z_787 * z_788) - (z_789 * z_790))), rfl, fr_790⟩⟩
              · refine ik_Wk 6 (pc_q := 96) (loc_q := [some (.ref 66), some (fI sz), some (fI i), some (fI j), some (fJ 1), none, some (fI 0), some (fI 2), some (fI 1), some (fI 2)]) (st_q := [fI 1, fI 0, .ref 66, fJ 1]) (h_q := h) (cl_q := 0) (sl_q := 0) rfl ?_
                refine fw_call 174 3 0 [.ref 66, fI 0, fI 1] [fJ 1] rfl rfl rfl (Nat.le_of_ble_eq_true rfl) rfl rfl (fw_rec hl rfl h66 rfl (Nat.le_of_ble_eq_true rfl)) (cr_fear (f := fun j => ((f 0 :: 0 :: 0 :: 0 :: f 4 :: 0 :: 0 :: f 7 :: f 8 :: 0 :: f 10 :: f 11 :: f 12 :: f 13 :: f 14 :: f 15 :: f 16 :: f 17 :: 0 :: 0 :: 0 :: 0 :: 0 :: 0 :: f 24 :: 0 :: 0 :: 0 :: 0 :: 0 :: 0 :: 0 :: f 32 :: f 33 :: 0 :: 0 :: f 36 :: 0 :: 0 :: 0 :: 0 :: 0 :: 0 :: []) : List Int).getD j 0) (fr := fr) (ro := ro) (cl := cl) (i := 0) (j := 1) (by omega) (by omega) q3 q4 h66 h83 n83 h86 n86 h87 n87 hl) ?_
                rintro _ h_791 ⟨z_791, rfl, F_791⟩
                have k_791 : cL h_791 := F_791.1.trans hl
                have fr_791 := hfr_cb (hfr_refl [] h) F_791 rfl
                have g_791_66 := (hfr_g F_791 66 rfl).trans h66
                have g_791_83 := (hfr_g F_791 83 rfl).trans h83
                have g_791_86 := (hfr_g F_791 86 rfl).trans h86
                have g_791_87 := (hfr_g F_791 87 rfl).trans h87
                refine ik_Wk 0 (pc_q := 99) (loc_q := [some (.ref 66), some (fI sz), some (fI i), some (fI j), some (fJ 1), none, some (fI 0), some (fI 2), some (fI 1), some (fI 2)]) (st_q := [fJ z_791, fJ 1]) (h_q := h_791) (cl_q := 0) (sl_q := 0) rfl ?_
                refine ik_Wk 3 (pc_q := 104) (loc_q := [some (.ref 66), some (fI sz), some (fI i), some (fI j), some (fJ 1), none, some (fI 0), some (fI 2), some (fI 1), some (fI 2)]) (st_q := [fI 2, fI 2, .ref 66, fJ z_791, fJ 1]) (h_q := h_791) (cl_q := 0) (sl_q := 0) rfl ?_
                refine fw_call 174 3 0 [.ref 66, fI 2, fI 2] [fJ z_791, fJ 1] rfl rfl rfl (Nat.le_of_ble_eq_true rfl) rfl rfl (fw_rec k_791 rfl g_791_66 rfl (Nat.le_of_ble_eq_true rfl)) (cr_fear (f := fun j => ((f 0 :: 0 :: 0 :: 0 :: f 4 :: 0 :: 0 :: f 7 :: f 8 :: 0 :: f 10 :: f 11 :: f 12 :: f 13 :: f 14 :: f 15 :: f 16 :: f 17 :: 0 :: 0 :: 0 :: 0 :: 0 :: 0 :: f 24 :: 0 :: 0 :: 0 :: 0 :: 0 :: 0 :: 0 :: f 32 :: f 33 :: 0 :: 0 :: f 36 :: 0 :: 0 :: 0 :: 0 :: 0 :: 0 :: []) : List Int).getD j 0) (fr := fr) (ro := ro) (cl := cl) (i := 2) (j := 2) (by omega) (by omega) q3 q4 g_791_66 g_791_83 n83 g_791_86 n86 g_791_87 n87 k_791) ?_
                rintro _ h_792 ⟨z_792, rfl, F_792⟩
                have k_792 : cL h_792 := F_792.1.trans k_791
                have fr_792 := hfr_cb fr_791 F_792 rfl
                have g_792_66 := (hfr_g F_792 66 rfl).trans g_791_66
                have g_792_83 := (hfr_g F_792 83 rfl).trans g_791_83
                have g_792_86 := (hfr_g F_792 86 rfl).trans g_791_86
                have g_792_87 := (hfr_g F_792 87 rfl).trans g_791_87
                refine ik_Wk 0 (pc_q := 107) (loc_q := [some (.ref 66), some (fI sz), some (fI i), some (fI j), some (fJ 1), none, some (fI 0), some (fI 2), some (fI 1), some (fI 2)]) (st_q := [fJ z_792, fJ z_791, fJ 1]) (h_q := h_792) (cl_q := 0) (sl_q := 0) rfl ?_
                refine fw_lmul rfl ?_
                refine ik_Wk 3 (pc_q := 113) (loc_q := [some (.ref 66), some (fI sz), some (fI i), some (fI j), some (fJ 1), none, some (fI 0), some (fI 2), some (fI 1), some (fI 2)]) (st_q := [fI 2, fI 0, .ref 66, fJ (z_791 * z_792), fJ 1]) (h_q := h_792) (cl_q := 0) (sl_q := 0) rfl ?_
                refine fw_call 174 3 0 [.ref 66, fI 0, fI 2] [fJ (z_791 * z_792), fJ 1] rfl rfl rfl (Nat.le_of_ble_eq_true rfl) rfl rfl (fw_rec k_792 rfl g_792_66 rfl (Nat.le_of_ble_eq_true rfl)) (cr_fear (f := fun j => ((f 0 :: 0 :: 0 :: 0 :: f 4 :: 0 :: 0 :: f 7 :: f 8 :: 0 :: f 10 :: f 11 :: f 12 :: f 13 :: f 14 :: f 15 :: f 16 :: f 17 :: 0 :: 0 :: 0 :: 0 :: 0 :: 0 :: f 24 :: 0 :: 0 :: 0 :: 0 :: 0 :: 0 :: 0 :: f 32 :: f 33 :: 0 :: 0 :: f 36 :: 0 :: 0 :: 0 :: 0 :: 0 :: 0 :: []) : List Int).getD j 0) (fr := fr) (ro := ro) (cl := cl) (i := 0) (j := 2) (by omega) (by omega) q3 q4 g_792_66 g_792_83 n83 g_792_86 n86 g_792_87 n87 k_792) ?_
                rintro _ h_793 ⟨z_793, rfl, F_793⟩
                have k_793 : cL h_793 := F_793.1.trans k_792
                have fr_793 := hfr_cb fr_792 F_793 rfl
                have g_793_66 := (hfr_g F_793 66 rfl).trans g_792_66
                have g_793_83 := (hfr_g F_793 83 rfl).trans g_792_83
                have g_793_86 := (hfr_g F_793 86 rfl).trans g_792_86
                have g_793_87 := (hfr_g F_793 87 rfl).trans g_792_87
                refine ik_Wk 0 (pc_q := 116) (loc_q := [some (.ref 66), some (fI sz), some (fI i), some (fI j), some (fJ 1), none, some (fI 0), some (fI 2), some (fI 1), some (fI 2)]) (st_q := [fJ z_793, fJ (z_791 * z_792), fJ 1]) (h_q := h_793) (cl_q := 0) (sl_q := 0) rfl ?_
                refine ik_Wk 3 (pc_q := 121) (loc_q := [some (.ref 66), some (fI sz), some (fI i), some (fI j), some (fJ 1), none, some (fI 0), some (fI 2), some (fI 1), some (fI 2)]) (st_q := [fI 1, fI 2, .ref 66, fJ z_793, fJ (z_791 * z_792), fJ 1]) (h_q := h_793) (cl_q := 0) (sl_q := 0) rfl ?_
                refine fw_call 174 3 0 [.ref 66, fI 2, fI 1] [fJ z_793, fJ (z_791 * z_792), fJ 1] rfl rfl rfl (Nat.le_of_ble_eq_true rfl) rfl rfl (fw_rec k_793 rfl g_793_66 rfl (Nat.le_of_ble_eq_true rfl)) (cr_fear (f := fun j => ((f 0 :: 0 :: 0 :: 0 :: f 4 :: 0 :: 0 :: f 7 :: f 8 :: 0 :: f 10 :: f 11 :: f 12 :: f 13 :: f 14 :: f 15 :: f 16 :: f 17 :: 0 :: 0 :: 0 :: 0 :: 0 :: 0 :: f 24 :: 0 :: 0 :: 0 :: 0 :: 0 :: 0 :: 0 :: f 32 :: f 33 :: 0 :: 0 :: f 36 :: 0 :: 0 :: 0 :: 0 :: 0 :: 0 :: []) : List Int).getD j 0) (fr := fr) (ro := ro) (cl := cl) (i := 2) (j := 1) (by omega) (by omega) q3 q4 g_793_66 g_793_83 n83 g_793_86 n86 g_793_87 n87 k_793) ?_
                rintro _ h_794 ⟨z_794, rfl, F_794⟩
                have k_794 : cL h_794 := F_794.1.trans k_793
                have fr_794 := hfr_cb fr_793 F_794 rfl
                have g_794_66 := (hfr_g F_794 66 rfl).trans g_793_66
                have g_794_83 := (hfr_g F_794 83 rfl).trans g_793_83
                have g_794_86 := (hfr_g F_794 86 rfl).trans g_793_86
                have g_794_87 := (hfr_g F_794 87 rfl).trans g_793_87
                refine ik_Wk 0 (pc_q := 124) (loc_q := [some (.ref 66), some (fI sz), some (fI i), some (fI j), some (fJ 1), none, some (fI 0), some (fI 2), some (fI 1), some (fI 2)]) (st_q := [fJ z_794, fJ z_793, fJ (z_791 * z_792), fJ 1]) (h_q := h_794) (cl_q := 0) (sl_q := 0) rfl ?_
                refine fw_lmul rfl ?_
                refine fw_lsub rfl ?_
                refine fw_lmul rfl ?_
                exact ik_Wret rfl rfl ⟨_, _, rfl, rfl, rfl, rfl, ⟨(1 * ((z_791 * z_792) - (z_793 * z_794))), rfl, fr_794⟩⟩
            · refine ik_Wk 4 (pc_q := 79) (loc_q := [some (.ref 66), some (fI sz), some (fI i), some (fI j), some (fJ 1), none, some (fI 0), some (fI 2), some (fI 0), none]) (st_q := [fI 2, fI j]) (h_q := h) (cl_q := 0) (sl_q := 0) rfl ?_
              refine fw_ic_ne rfl rfl (by omega) (by omega) (by omega) (by omega) (fun hc18 => ?_) (fun hc18 => ?_)
              · refine ik_Wk 7 (pc_q := 96) (loc_q := [some (.ref 66), some (fI sz), some (fI i), some (fI j), some (fJ 1), none, some (fI 0), some (fI 2), some (fI 0), some (fI 1)]) (st_q := [fI 0, fI 0, .ref 66, fJ 1]) (h_q := h) (cl_q := 0) (sl_q := 0) rfl ?_
                refine fw_call 174 3 0 [.ref 66, fI 0, fI 0] [fJ 1] rfl rfl rfl (Nat.le_of_ble_eq_true rfl) rfl rfl (fw_rec hl rfl h66 rfl (Nat.le_of_ble_eq_true rfl)) (cr_fear (f := fun j => ((f 0 :: 0 :: 0 :: 0 :: f 4 :: 0 :: 0 :: f 7 :: f 8 :: 0 :: f 10 :: f 11 :: f 12 :: f 13 :: f 14 :: f 15 :: f 16 :: f 17 :: 0 :: 0 :: 0 :: 0 :: 0 :: 0 :: f 24 :: 0 :: 0 :: 0 :: 0 :: 0 :: 0 :: 0 :: f 32 :: f 33 :: 0 :: 0 :: f 36 :: 0 :: 0 :: 0 :: 0 :: 0 :: 0 :: []) : List Int).getD j 0) (fr := fr) (ro := ro) (cl := cl) (i := 0) (j := 0) (by omega) (by omega) q3 q4 h66 h83 n83 h86 n86 h87 n87 hl) ?_
                rintro _ h_795 ⟨z_795, rfl, F_795⟩
                have k_795 : cL h_795 := F_795.1.trans hl
                have fr_795 := hfr_cb (hfr_refl [] h) F_795 rfl
                have g_795_66 := (hfr_g F_795 66 rfl).trans h66
                have g_795_83 := (hfr_g F_795 83 rfl).trans h83
                have g_795_86 := (hfr_g F_795 86 rfl).trans h86
                have g_795_87 := (hfr_g F_795 87 rfl).trans h87
                refine ik_Wk 0 (pc_q := 99) (loc_q := [some (.ref 66), some (fI sz), some (fI i), some (fI j), some (fJ 1), none, some (fI 0), some (fI 2), some (fI 0), some (fI 1)]) (st_q := [fJ z_795, fJ 1]) (h_q := h_795) (cl_q := 0) (sl_q := 0) rfl ?_
                refine ik_Wk 3 (pc_q := 104) (loc_q := [some (.ref 66), some (fI sz), some (fI i), some (fI j), some (fJ 1), none, some (fI 0), some (fI 2), some (fI 0), some (fI 1)]) (st_q := [fI 1, fI 2, .ref 66, fJ z_795, fJ 1]) (h_q := h_795) (cl_q := 0) (sl_q := 0) rfl ?_
                refine fw_call 174 3 0 [.ref 66, fI 2, fI 1] [fJ z_795, fJ 1] rfl rfl rfl (Nat.le_of_ble_eq_true rfl) rfl rfl (fw_rec k_795 rfl g_795_66 rfl (Nat.le_of_ble_eq_true rfl)) (cr_fear (f := fun j => ((f 0 :: 0 :: 0 :: 0 :: f 4 :: 0 :: 0 :: f 7 :: f 8 :: 0 :: f 10 :: f 11 :: f 12 :: f 13 :: f 14 :: f 15 :: f 16 :: f 17 :: 0 :: 0 :: 0 :: 0 :: 0 :: 0 :: f 24 :: 0 :: 0 :: 0 :: 0 :: 0 :: 0 :: 0 :: f 32 :: f 33 :: 0 :: 0 :: f 36 :: 0 :: 0 :: 0 :: 0 :: 0 :: 0 :: []) : List Int).getD j 0) (fr := fr) (ro := ro) (cl := cl) (i := 2) (j := 1) (by omega) (by omega) q3 q4 g_795_66 g_795_83 n83 g_795_86 n86 g_795_87 n87 k_795) ?_
                rintro _ h_796 ⟨z_796, rfl, F_796⟩
                have k_796 : cL h_796 := F_796.1.trans k_795
                have fr_796 := hfr_cb fr_795 F_796 rfl
                have g_796_66 := (hfr_g F_796 66 rfl).trans g_795_66
                have g_796_83 := (hfr_g F_796 83 rfl).trans g_795_83
                have g_796_86 := (hfr_g F_796 86 rfl).trans g_795_86
                have g_796_87 := (hfr_g F_796 87 rfl).trans g_795_87
                refine ik_Wk 0 (pc_q := 107) (loc_q := [some (.ref 66), some (fI sz), some (fI i), some (fI j), some (fJ 1), none, some (fI 0), some (fI 2), some (fI 0), some (fI 1)]) (st_q := [fJ z_796, fJ z_795, fJ 1]) (h_q := h_796) (cl_q := 0) (sl_q := 0) rfl ?_
                refine fw_lmul rfl ?_
                refine ik_Wk 3 (pc_q := 113) (loc_q := [some (.ref 66), some (fI sz), some (fI i), some (fI j), some (fJ 1), none, some (fI 0), some (fI 2), some (fI 0), some (fI 1)]) (st_q := [fI 1, fI 0, .ref 66, fJ (z_795 * z_796), fJ 1]) (h_q := h_796) (cl_q := 0) (sl_q := 0) rfl ?_
                refine fw_call 174 3 0 [.ref 66, fI 0, fI 1] [fJ (z_795 * z_796), fJ 1] rfl rfl rfl (Nat.le_of_ble_eq_true rfl) rfl rfl (fw_rec k_796 rfl g_796_66 rfl (Nat.le_of_ble_eq_true rfl)) (cr_fear (f := fun j => ((f 0 :: 0 :: 0 :: 0 :: f 4 :: 0 :: 0 :: f 7 :: f 8 :: 0 :: f 10 :: f 11 :: f 12 :: f 13 :: f 14 :: f 15 :: f 16 :: f 17 :: 0 :: 0 :: 0 :: 0 :: 0 :: 0 :: f 24 :: 0 :: 0 :: 0 :: 0 :: 0 :: 0 :: 0 :: f 32 :: f 33 :: 0 :: 0 :: f 36 :: 0 :: 0 :: 0 :: 0 :: 0 :: 0 :: []) : List Int).getD j 0) (fr := fr) (ro := ro) (cl := cl) (i := 0) (j := 1) (by omega) (by omega) q3 q4 g_796_66 g_796_83 n83 g_796_86 n86 g_796_87 n87 k_796) ?_
                rintro _ h_797 ⟨z_797, rfl, F_797⟩
                have k_797 : cL h_797 := F_797.1.trans k_796
                have fr_797 := hfr_cb fr_796 F_797 rfl
                have g_797_66 := (hfr_g F_797 66 rfl).trans g_796_66
                have g_797_83 := (hfr_g F_797 83 rfl).trans g_796_83
                have g_797_86 := (hfr_g F_797 86 rfl).trans g_796_86
                have g_797_87 := (hfr_g F_797 87 rfl).trans g_796_87
                refine ik_Wk 0 (pc_q := 116) (loc_q := [some (.ref 66), some (fI sz), some (fI i), some (fI j), some (fJ 1), none, some (fI 0), some (fI 2), some (fI 0), some (fI 1)]) (st_q := [fJ z_797, fJ (z_795 * z_796), fJ 1]) (h_q := h_797) (cl_q := 0) (sl_q := 0) rfl ?_
                refine ik_Wk 3 (pc_q := 121) (loc_q := [some (.ref 66), some (fI sz), some (fI i), some (fI j), some (fJ 1), none, some (fI 0), some (fI 2), some (fI 0), some (fI 1)]) (st_q := [fI 0, fI 2, .ref 66, fJ z_797, fJ (z_795 * z_796), fJ 1]) (h_q := h_797) (cl_q := 0) (sl_q := 0) rfl ?_
                refine fw_call 174 3 0 [.ref 66, fI 2, fI 0] [fJ z_797, fJ (z_795 * z_796), fJ 1] rfl rfl rfl (Nat.le_of_ble_eq_true rfl) rfl rfl (fw_rec k_797 rfl g_797_66 rfl (Nat.le_of_ble_eq_true rfl)) (cr_fear (f := fun j => ((f 0 :: 0 :: 0 :: 0 :: f 4 :: 0 :: 0 :: f 7 :: f 8 :: 0 :: f 10 :: f 11 :: f 12 :: f 13 :: f 14 :: f 15 :: f 16 :: f 17 :: 0 :: 0 :: 0 :: 0 :: 0 :: 0 :: f 24 :: 0 :: 0 :: 0 :: 0 :: 0 :: 0 :: 0 :: f 32 :: f 33 :: 0 :: 0 :: f 36 :: 0 :: 0 :: 0 :: 0 :: 0 :: 0 :: []) : List Int).getD j 0) (fr := fr) (ro := ro) (cl := cl) (i := 2) (j := 0) (by omega) (by omega) q3 q4 g_797_66 g_797_83 n83 g_797_86 n86 g_797_87 n87 k_797) ?_
                rintro _ h_798 ⟨z_798, rfl, F_798⟩
                have k_798 : cL h_798 := F_798.1.trans k_797
                have fr_798 := hfr_cb fr_797 F_798 rfl
                have g_798_66 := (hfr_g F_798 66 rfl).trans g_797_66
                have g_798_83 := (hfr_g F_798 83 rfl).trans g_797_83
                have g_798_86 := (hfr_g F_798 86 rfl).trans g_797_86
                have g_798_87 := (hfr_g F_798 87 rfl).trans g_797_87
                refine ik_Wk 0 (pc_q := 124) (loc_q := [some (.ref 66), some (fI sz), some (fI i), some (fI j), some (fJ 1), none, some (fI 0), some (fI 2), some (fI 0), some (fI 1)]) (st_q := [fJ z_798, fJ z_797, fJ (z_795 * z_796), fJ 1]) (h_q := h_798) (cl_q := 0) (sl_q := 0) rfl ?_
                refine fw_lmul rfl ?_
                refine fw_lsub rfl ?_
                refine fw_lmul rfl ?_
                exact ik_Wret rfl rfl ⟨_, _, rfl, rfl, rfl, rfl, ⟨(1 * ((z_795 * z_796) - (z_797 * z_798))), rfl, fr_798⟩⟩
              · refine ik_Wk 6 (pc_q := 96) (loc_q := [some (.ref 66), some (fI sz), some (fI i), some (fI j), some (fJ 1), none, some (fI 0), some (fI 2), some (fI 0), some (fI 2)]) (st_q := [fI 0, fI 0, .ref 66, fJ 1]) (h_q := h) (cl_q := 0) (sl_q := 0) rfl ?_
                refine fw_call 174 3 0 [.ref 66, fI 0, fI 0] [fJ 1] rfl rfl rfl (Nat.le_of_ble_eq_true rfl) rfl rfl (fw_rec hl rfl h66 rfl (Nat.le_of_ble_eq_true rfl)) (cr_fear (f := fun j => ((f 0 :: 0 :: 0 :: 0 :: f 4 :: 0 :: 0 :: f 7 :: f 8 :: 0 :: f 10 :: f 11 :: f 12 :: f 13 :: f 14 :: f 15 :: f 16 :: f 17 :: 0 :: 0 :: 0 :: 0 :: 0 :: 0 :: f 24 :: 0 :: 0 :: 0 :: 0 :: 0 :: 0 :: 0 :: f 32 :: f 33 :: 0 :: 0 :: f 36 :: 0 :: 0 :: 0 :: 0 :: 0 :: 0 :: []) : List Int).getD j 0) (fr := fr) (ro := ro) (cl := cl) (i := 0) (j := 0) (by omega) (by omega) q3 q4 h66 h83 n83 h86 n86 h87 n87 hl) ?_
                rintro _ h_799 ⟨z_799, rfl, F_799⟩
                have k_799 : cL h_799 := F_799.1.trans hl
                have fr_799 := hfr_cb (hfr_refl [] h) F_799 rfl
                have g_799_66 := (hfr_g F_799 66 rfl).trans h66
                have g_799_83 := (hfr_g F_799 83 rfl).trans h83
                have g_799_86 := (hfr_g F_799 86 rfl).trans h86
                have g_799_87 := (hfr_g F_799 87 rfl).trans h87
                refine ik_Wk 0 (pc_q := 99) (loc_q := [some (.ref 66), some (fI sz), some (fI i), some (fI j), some (fJ 1), none, some (fI 0), some (fI 2), some (fI 0), some (fI 2)]) (st_q := [fJ z_799, fJ 1]) (h_q := h_799) (cl_q := 0) (sl_q := 0) rfl ?_
                refine ik_Wk 3 (pc_q := 104) (loc_q := [some (.ref 66), some (fI sz), some (fI i), some (fI j), some (fJ 1), none, some (fI 0), some (fI 2), some (fI 0), some (fI 2)]) (st_q := [fI 2, fI 2, .ref 66, fJ z_799, fJ 1]) (h_q := h_799) (cl_q := 0) (sl_q := 0) rfl ?_
                refine fw_call 174 3 0 [.ref 66, fI 2, fI 2] [fJ z_799, fJ 1] rfl rfl rfl (Nat.le_of_ble_eq_true rfl) rfl rfl (fw_rec k_799 rfl g_799_66 rfl (Nat.le_of_ble_eq_true rfl)) (cr_fear (f := fun j => ((f 0 :: 0 :: 0 :: 0 :: f 4 :: 0 :: 0 :: f 7 :: f 8 :: 0 :: f 10 :: f 11 :: f 12 :: f 13 :: f 14 :: f 15 :: f 16 :: f 17 :: 0 :: 0 :: 0 :: 0 :: 0 :: 0 :: f 24 :: 0 :: 0 :: 0 :: 0 :: 0 :: 0 :: 0 :: f 32 :: f 33 :: 0 :: 0 :: f 36 :: 0 :: 0 :: 0 :: 0 :: 0 :: 0 :: []) : List Int).getD j 0) (fr := fr) (ro := ro) (cl := cl) (i := 2) (j := 2) (by omega) (by omega) q3 q4 g_799_66 g_799_83 n83 g_799_86 n86 g_799_87 n87 k_799) ?_
                rintro _ h_800 ⟨z_800, rfl, F_800⟩
                have k_800 : cL h_800 := F_800.1.trans k_799
                have fr_800 := hfr_cb fr_799 F_800 rfl
                have g_800_66 := (hfr_g F_800 66 rfl).trans g_799_66
                have g_800_83 := (hfr_g F_800 83 rfl).trans g_799_83
                have g_800_86 := (hfr_g F_800 86 rfl).trans g_799_86
                have g_800_87 := (hfr_g F_800 87 rfl).trans g_799_87
                refine ik_Wk 0 (pc_q := 107) (loc_q := [some (.ref 66), some (fI sz), some (fI i), some (fI j), some (fJ 1), none, some (fI 0), some (fI 2), some (fI 0), some (fI 2)]) (st_q := [fJ z_800, fJ z_799, fJ 1]) (h_q := h_800) (cl_q := 0) (sl_q := 0) rfl ?_
                refine fw_lmul rfl ?_
                refine ik_Wk 3 (pc_q := 113) (loc_q := [some (.ref 66), some (fI sz), some (fI i), some (fI j), some (fJ 1), none, some (fI 0), some (fI 2), some (fI 0), some (fI 2)]) (st_q := [fI 2, fI 0, .ref 66, fJ (z_799 * z_800), fJ 1]) (h_q := h_800) (cl_q := 0) (sl_q := 0) rfl ?_
                refine fw_call 174 3 0 [.ref 66, fI 0, fI 2] [fJ (z_799 * z_800), fJ 1] rfl rfl rfl (Nat.le_of_ble_eq_true rfl) rfl rfl (fw_rec k_800 rfl g_800_66 rfl (Nat.le_of_ble_eq_true rfl)) (cr_fear (f := fun j => ((f 0 :: 0 :: 0 :: 0 :: f 4 :: 0 :: 0 :: f 7 :: f 8 :: 0 :: f 10 :: f 11 :: f 12 :: f 13 :: f 14 :: f 15 :: f 16 :: f 17 :: 0 :: 0 :: 0 :: 0 :: 0 :: 0 :: f 24 :: 0 :: 0 :: 0 :: 0 :: 0 :: 0 :: 0 :: f 32 :: f 33 :: 0 :: 0 :: f 36 :: 0 :: 0 :: 0 :: 0 :: 0 :: 0 :: []) : List Int).getD j 0) (fr := fr) (ro := ro) (cl := cl) (i := 0) (j := 2) (by omega) (by omega) q3 q4 g_800_66 g_800_83 n83 g_800_86 n86 g_800_87 n87 k_800) ?_
                rintro _ h_801 ⟨z_801, rfl, F_801⟩
                have k_801 : cL h_801 := F_801.1.trans k_800
                have fr_801 := hfr_cb fr_800 F_801 rfl
                have g_801_66 := (hfr_g F_801 66 rfl).trans g_800_66
                have g_801_83 := (hfr_g F_801 83 rfl).trans g_800_83
                have g_801_86 := (hfr_g F_801 86 rfl).trans g_800_86
                have g_801_87 := (hfr_g F_801 87 rfl).trans g_800_87
                refine ik_Wk 0 (pc_q := 116) (loc_q := [some (.ref 66), some (fI sz), some (fI i), some (fI j), some (fJ 1), none, some (fI 0), some (fI 2), some (fI 0), some (fI 2)]) (st_q := [fJ z_801, fJ (z_799 * z_800), fJ 1]) (h_q := h_801) (cl_q := 0) (sl_q := 0) rfl ?_
                refine ik_Wk 3 (pc_q := 121) (loc_q := [some (.ref 66), some (fI sz), some (fI i), some (fI j), some (fJ 1), none, some (fI 0), some (fI 2), some (fI 0), some (fI 2)]) (st_q := [fI 0, fI 2, .ref 66, fJ z_801, fJ (z_799 * z_800), fJ 1]) (h_q := h_801) (cl_q := 0) (sl_q := 0) rfl ?_
                refine fw_call 174 3 0 [.ref 66, fI 2, fI 0] [fJ z_801, fJ (z_799 * z_800), fJ 1] rfl rfl rfl (Nat.le_of_ble_eq_true rfl) rfl rfl (fw_rec k_801 rfl g_801_66 rfl (Nat.le_of_ble_eq_true rfl)) (cr_fear (f := fun j => ((f 0 :: 0 :: 0 :: 0 :: f 4 :: 0 :: 0 :: f 7 :: f 8 :: 0 :: f 10 :: f 11 :: f 12 :: f 13 :: f 14 :: f 15 :: f 16 :: f 17 :: 0 :: 0 :: 0 :: 0 :: 0 :: 0 :: f 24 :: 0 :: 0 :: 0 :: 0 :: 0 :: 0 :: 0 :: f 32 :: f 33 :: 0 :: 0 :: f 36 :: 0 :: 0 :: 0 :: 0 :: 0 :: 0 :: []) : List Int).getD j 0) (fr := fr) (ro := ro) (cl := cl) (i := 2) (j := 0) (by omega) (by omega) q3 q4 g_801_66 g_801_83 n83 g_801_86 n86 g_801_87 n87 k_801) ?_
                rintro _ h_802 ⟨z_802, rfl, F_802⟩
                have k_802 : cL h_802 := F_802.1.trans k_801
                have fr_802 := hfr_cb fr_801 F_802 rfl
                have g_802_66 := (hfr_g F_802 66 rfl).trans g_801_66
                have g_802_83 := (hfr_g F_802 83 rfl).trans g_801_83
                have g_802_86 := (hfr_g F_802 86 rfl).trans g_801_86
                have g_802_87 := (hfr_g F_802 87 rfl).trans g_801_87
                refine ik_Wk 0 (pc_q := 124) (loc_q := [some (.ref 66), some (fI sz), some (fI i), some (fI j), some (fJ 1), none, some (fI 0), some (fI 2), some (fI 0), some (fI 2)]) (st_q := [fJ z_802, fJ z_801, fJ (z_799 * z_800), fJ 1]) (h_q := h_802) (cl_q := 0) (sl_q := 0) rfl ?_
                refine fw_lmul rfl ?_
                refine fw_lsub rfl ?_
                refine fw_lmul rfl ?_
                exact ik_Wret rfl rfl ⟨_, _, rfl, rfl, rfl, rfl, ⟨(1 * ((z_799 * z_800) - (z_801 * z_802))), rfl, fr_802⟩⟩
    · refine fw_l2 (-1) rfl rfl (by decide +kernel) ?_
      refine ik_Wk 3 (pc_q := 26) (loc_q := [some (.ref 66), some (fI sz), some (fI i), some (fI j), some (fJ (-1)), none, none, none, none, none]) (st_q := [fI 2, fI sz]) (h_q := h) (cl_q := 0) (sl_q := 0) rfl ?_
      refine fw_ic_ne rfl rfl (by omega) (by omega) (by omega) (by omega) (fun hc19 => ?_) (fun hc19 => ?_)
      · refine ik_Wk 4 (pc_q := 34) (loc_q := [some (.ref 66), some (fI sz), some (fI i), some (fI j), some (fJ (-1)), none, none, none, none, none]) (st_q := [fI i, fI 1, .ref 66, fJ (-1)]) (h_q := h) (cl_q := 0) (sl_q := 0) rfl ?_
        refine fw_sub rfl ?_
        refine ik_Wk 2 (pc_q := 37) (loc_q := [some (.ref 66), some (fI sz), some (fI i), some (fI j), some (fJ (-1)), none, none, none, none, none]) (st_q := [fI j, fI 1, fI (1 - i), .ref 66, fJ (-1)]) (h_q := h) (cl_q := 0) (sl_q := 0) rfl ?_
        refine fw_sub rfl ?_
        refine fw_call 174 3 0 [.ref 66, fI (1 - i), fI (1 - j)] [fJ (-1)] rfl rfl rfl (Nat.le_of_ble_eq_true rfl) rfl rfl (fw_rec hl rfl h66 rfl (Nat.le_of_ble_eq_true rfl)) (cr_fear (f := fun j => ((f 0 :: 0 :: 0 :: 0 :: f 4 :: 0 :: 0 :: f 7 :: f 8 :: 0 :: f 10 :: f 11 :: f 12 :: f 13 :: f 14 :: f 15 :: f 16 :: f 17 :: 0 :: 0 :: 0 :: 0 :: 0 :: 0 :: f 24 :: 0 :: 0 :: 0 :: 0 :: 0 :: 0 :: 0 :: f 32 :: f 33 :: 0 :: 0 :: f 36 :: 0 :: 0 :: 0 :: 0 :: 0 :: 0 :: []) : List Int).getD j 0) (fr := fr) (ro := ro) (cl := cl) (i := 1 - i) (j := 1 - j) (by omega) (by omega) q3 q4 h66 h83 n83 h86 n86 h87 n87 hl) ?_
        rintro _ h_803 ⟨z_803, rfl, F_803⟩
        have k_803 : cL h_803 := F_803.1.trans hl
        have fr_803 := hfr_cb (hfr_refl [] h) F_803 rfl
        have g_803_66 := (hfr_g F_803 66 rfl).trans h66
        have g_803_83 := (hfr_g F_803 83 rfl).trans h83
        have g_803_86 := (hfr_g F_803 86 rfl).trans h86
        have g_803_87 := (hfr_g F_803 87 rfl).trans h87
        refine ik_Wk 0 (pc_q := 41) (loc_q := [some (.ref 66), some (fI sz), some (fI i), some (fI j), some (fJ (-1)), none, none, none, none, none]) (st_q := [fJ z_803, fJ (-1)]) (h_q := h_803) (cl_q := 0) (sl_q := 0) rfl ?_
        refine fw_lmul rfl ?_
        exact ik_Wret rfl rfl ⟨_, _, rfl, rfl, rfl, rfl, ⟨((-1) * z_803), rfl, fr_803⟩⟩
      · refine ik_Wk 1 (pc_q := 44) (loc_q := [some (.ref 66), some (fI sz), some (fI i), some (fI j), some (fJ (-1)), none, none, none, none, none]) (st_q := [fI i]) (h_q := h) (cl_q := 0) (sl_q := 0) rfl ?_
        refine fw_if_ne rfl rfl (by omega) (by omega) (fun hc20 => ?_) (fun hc20 => ?_)
        · refine ik_Wk 5 (pc_q := 56) (loc_q := [some (.ref 66), some (fI sz), some (fI i), some (fI j), some (fJ (-1)), none, some (fI 1), none, none, none]) (st_q := [fI 2, fI i]) (h_q := h) (cl_q := 0) (sl_q := 0) rfl ?_
          refine fw_ic_ne rfl rfl (by omega) (by omega) (by omega) (by omega) (fun hc21 => ?_) (fun hc21 => ?_)
          · refine ik_Wk 4 (pc_q := 67) (loc_q := [some (.ref 66), some (fI sz), some (fI i), some (fI j), some (fJ (-1)), none, some (fI 1), some (fI 1), none, none]) (st_q := [fI j]) (h_q := h) (cl_q := 0) (sl_q := 0) rfl ?_
            refine fw_if_ne rfl rfl (by omega) (by omega) (fun hc22 => ?_) (fun hc22 => ?_)
            · refine ik_Wk 5 (pc_q := 79) (loc_q := [some (.ref 66), some (fI sz), some (fI i), some (fI j), some (fJ (-1)), none, some (fI 1), some (fI 1), some (fI 1), none]) (st_q := [fI 2, fI j]) (h_q := h) (cl_q := 0) (sl_q := 0) rfl ?_
              refine fw_ic_ne rfl rfl (by omega) (by omega) (by omega) (by omega) (fun hc23 => ?_) (fun hc23 => ?_)
              · refine ik_Wk 7 (pc_q := 96) (loc_q := [some (.ref 66), some (fI sz), some (fI i), some (fI j), some (fJ (-1)), none, some (fI 1), some (fI 1), some (fI 1), some (fI 1)]) (st_q := [fI 1, fI 1, .ref 66, fJ (-1)]) (h_q := h) (cl_q := 0) (sl_q := 0) rfl ?_
                refine fw_call 174 3 0 [.ref 66, fI 1, fI 1] [fJ (-1)] rfl rfl rfl (Nat.le_of_ble_eq_true rfl) rfl rfl (fw_rec hl rfl h66 rfl (Nat.le_of_ble_eq_true rfl)) (cr_fear (f := fun j => ((f 0 :: 0 :: 0 :: 0 :: f 4 :: 0 :: 0 :: f 7 :: f 8 :: 0 :: f 10 :: f 11 :: f 12 :: f 13 :: f 14 :: f 15 :: f 16 :: f 17 :: 0 :: 0 :: 0 :: 0 :: 0 :: 0 :: f 24 :: 0 :: 0 :: 0 :: 0 :: 0 :: 0 :: 0 :: f 32 :: f 33 :: 0 :: 0 :: f 36 :: 0 :: 0 :: 0 :: 0 :: 0 :: 0 :: []) : List Int).getD j 0) (fr := fr) (ro := ro) (cl := cl) (i := 1) (j := 1) (by omega) (by omega) q3 q4 h66 h83 n83 h86 n86 h87 n87 hl) ?_
                rintro _ h_804 ⟨z_804, rfl, F_804⟩
                have k_804 : cL h_804 := F_804.1.trans hl
                have fr_804 := hfr_cb (hfr_refl [] h) F_804 rfl
                have g_804_66 := (hfr_g F_804 66 rfl).trans h66
                have g_804_83 := (hfr_g F_804 83 rfl).trans h83
                have g_804_86 := (hfr_g F_804 86 rfl).trans h86
                have g_804_87 := (hfr_g F_804 87 rfl).trans h87
                refine ik_Wk 0 (pc_q := 99) (loc_q := [some (.ref 66), some (fI sz), some (fI i), some (fI j), some (fJ (-1)), none, some (fI 1), some (fI 1), some (fI 1), some (fI 1)]) (st_q := [fJ z_804, fJ (-1)]) (h_q := h_804) (cl_q := 0) (sl_q := 0) rfl ?_
                refine ik_Wk 3 (pc_q := 104) (loc_q := [some (.ref 66), some (fI sz), some (fI i), some (fI j), some (fJ (-1)), none, some (fI 1), some (fI 1), some (fI 1), some (fI 1)]) (st_q := [fI 1, fI 1, .ref 66, fJ z_804, fJ (-1)]) (h_q := h_804) (cl_q := 0) (sl_q := 0) rfl ?_
                refine fw_call 174 3 0 [.ref 66, fI 1, fI 1] [fJ z_804, fJ (-1)] rfl rfl rfl (Nat.le_of_ble_eq_true rfl) rfl rfl (fw_rec k_804 rfl g_804_66 rfl (Nat.le_of_ble_eq_true rfl)) (cr_fear (f := fun j => ((f 0 :: 0 :: 0 :: 0 :: f 4 :: 0 :: 0 :: f 7 :: f 8 :: 0 :: f 10 :: f 11 :: f 12 :: f 13 :: f 14 :: f 15 :: f 16 :: f 17 :: 0 :: 0 :: 0 :: 0 :: 0 :: 0 :: f 24 :: 0 :: 0 :: 0 :: 0 :: 0 :: 0 :: 0 :: f 32 :: f 33 :: 0 :: 0 :: f 36 :: 0 :: 0 :: 0 :: 0 :: 0 :: 0 :: []) : List Int).getD j 0) (fr := fr) (ro := ro) (cl := cl) (i := 1) (j := 1) (by omega) (by omega) q3 q4 g_804_66 g_804_83 n83 g_804_86 n86 g_804_87 n87 k_804) ?_
                rintro _ h_805 ⟨z_805, rfl, F_805⟩
                have k_805 : cL h_805 := F_805.1.trans k_804
                have fr_805 := hfr_cb fr_804 F_805 rfl
                have g_805_66 := (hfr_g F_805 66 rfl).trans g_804_66
                have g_805_83 := (hfr_g F_805 83 rfl).trans g_804_83
                have g_805_86 := (hfr_g F_805 86 rfl).trans g_804_86
                have g_805_87 := (hfr_g F_805 87 rfl).trans g_804_87
                refine ik_Wk 0 (pc_q := 107) (loc_q := [some (.ref 66), some (fI sz), some (fI i), some (fI j), some (fJ (-1)), none, some (fI 1), some (fI 1), some (fI 1), some (fI 1)]) (st_q := [fJ z_805, fJ z_804, fJ (-1)]) (h_q := h_805) (cl_q := 0) (sl_q := 0) rfl ?_
                refine fw_lmul rfl ?_
                refine ik_Wk 3 (pc_q := 113) (loc_q := [some (.ref 66), some (fI sz), some (fI i), some (fI j), some (fJ (-1)), none, some (fI 1), some (fI 1), some (fI 1), some (fI 1)]) (st_q := [fI 1, fI 1, .ref 66, fJ (z_804 * z_805), fJ (-1)]) (h_q := h_805) (cl_q := 0) (sl_q := 0) rfl ?_
                refine fw_call 174 3 0 [.ref 66, fI 1, fI 1] [fJ (z_804 * z_805), fJ (-1)] rfl rfl rfl (Nat.le_of_ble_eq_true rfl) rfl rfl (fw_rec k_805 rfl g_805_66 rfl (Nat.le_of_ble_eq_true rfl)) (cr_fear (f := fun j => ((f 0 :: 0 :: 0 :: 0 :: f 4 :: 0 :: 0 :: f 7 :: f 8 :: 0 :: f 10 :: f 11 :: f 12 :: f 13 :: f 14 :: f 15 :: f 16 :: f 17 :: 0 :: 0 :: 0 :: 0 :: 0 :: 0 :: f 24 :: 0 :: 0 :: 0 :: 0 :: 0 :: 0 :: 0 :: f 32 :: f 33 :: 0 :: 0 :: f 36 :: 0 :: 0 :: 0 :: 0 :: 0 :: 0 :: []) : List Int).getD j 0) (fr := fr) (ro := ro) (cl := cl) (i := 1) (j := 1) (by omega) (by omega) q3 q4 g_805_66 g_805_83 n83 g_805_86 n86 g_805_87 n87 k_805) ?_
                rintro _ h_806 ⟨z_806, rfl, F_806⟩
                have k_806 : cL h_806 := F_806.1.trans k_805
                have fr_806 := hfr_cb fr_805 F_806 rfl
                have g_806_66 := (hfr_g F_806 66 rfl).trans g_805_66
                have g_806_83 := (hfr_g F_806 83 rfl).trans g_805_83
                have g_806_86 := (hfr_g F_806 86 rfl).trans g_805_86
                have g_806_87 := (hfr_g F_806 87 rfl).trans g_805_87
                refine ik_Wk 0 (pc_q := 116) (loc_q := [some (.ref 66), some (fI sz), some (fI i), some (fI j), some (fJ (-1)), none, some (fI 1), some (fI 1), some (fI 1), some (fI 1)]) (st_q := [fJ z_806, fJ (z_804 * z_805), fJ (-1)]) (h_q := h_806) (cl_q := 0) (sl_q := 0) rfl ?_
                refine ik_Wk 3 (pc_q := 121) (loc_q := [some (.ref 66), some (fI sz), some (fI i), some (fI j), some (fJ (-1)), none, some (fI 1), some (fI 1), some (fI 1), some (fI 1)]) (st_q := [fI 1, fI 1, .ref 66, fJ z_806, fJ (z_804 * z_805), fJ (-1)]) (h_q := h_806) (cl_q := 0) (sl_q := 0) rfl ?_
                refine fw_call 174 3 0 [.ref 66, fI 1, fI 1] [fJ z_806, fJ (z_804 * z_805), fJ (-1)] rfl rfl rfl (Nat.le_of_ble_eq_true rfl) rfl rfl (fw_rec k_806 rfl g_806_66 rfl (Nat.le_of_ble_eq_true rfl)) (cr_fear (f := fun j => ((f 0 :: 0 :: 0 :: 0 :: f 4 :: 0 :: 0 :: f 7 :: f 8 :: 0 :: f 10 :: f 11 :: f 12 :: f 13 :: f 14 :: f 15 :: f 16 :: f 17 :: 0 :: 0 :: 0 :: 0 :: 0 :: 0 :: f 24 :: 0 :: 0 :: 0 :: 0 :: 0 :: 0 :: 0 :: f 32 :: f 33 :: 0 :: 0 :: f 36 :: 0 :: 0 :: 0 :: 0 :: 0 :: 0 :: []) : List Int).getD j 0) (fr := fr) (ro := ro) (cl := cl) (i := 1) (j := 1) (by omega) (by omega) q3 q4 g_806_66 g_806_83 n83 g_806_86 n86 g_806_87 n87 k_806) ?_
                rintro _ h_807 ⟨z_807, rfl, F_807⟩
                have k_807 : cL h_807 := F_807.1.trans k_806
                have fr_807 := hfr_cb fr_806 F_807 rfl
                have g_807_66 := (hfr_g F_807 66 rfl).trans g_806_66
                have g_807_83 := (hfr_g F_807 83 rfl).trans g_806_83
                have g_807_86 := (hfr_g F_807 86 rfl).trans g_806_86
                have g_807_87 := (hfr_g F_807 87 rfl).trans g_806_87
                refine ik_Wk 0 (pc_q := 124) (loc_q := [some (.ref 66), some (fI sz), some (fI i), some (fI j), some (fJ (-1)), none, some (fI 1), some (fI 1), some (fI 1), some (fI 1)]) (st_q := [fJ z_807, fJ z_806, fJ (z_804 * z_805), fJ (-1)]) (h_q := h_807) (cl_q := 0) (sl_q := 0) rfl ?_
                refine fw_lmul rfl ?_
                refine fw_lsub rfl ?_
                refine fw_lmul rfl ?_
                exact ik_Wret rfl rfl ⟨_, _, rfl, rfl, rfl, rfl, ⟨((-1) * ((z_804 * z_805) - (z_806 * z_807))), rfl, fr_807⟩⟩
              · refine ik_Wk 6 (pc_q := 96) (loc_q := [some (.ref 66), some (fI sz), some (fI i), some (fI j), some (fJ (-1)), none, some (fI 1), some (fI 1), some (fI 1), some (fI 2)]) (st_q := [fI 1, fI 1, .ref 66, fJ (-1)]) (h_q := h) (cl_q := 0) (sl_q := 0) rfl ?_
                refine fw_call 174 3 0 [.ref 66, fI 1, fI 1] [fJ (-1)] rfl rfl rfl (Nat.le_of_ble_eq_true rfl) rfl rfl (fw_rec hl rfl h66 rfl (Nat.le_of_ble_eq_true rfl)) (cr_fear (f := fun j => ((f 0 :: 0 :: 0 :: 0 :: f 4 :: 0 :: 0 :: f 7 :: f 8 :: 0 :: f 10 :: f 11 :: f 12 :: f 13 :: f 14 :: f 15 :: f 16 :: f 17 :: 0 :: 0 :: 0 :: 0 :: 0 :: 0 :: f 24 :: 0 :: 0 :: 0 :: 0 :: 0 :: 0 :: 0 :: f 32 :: f 33 :: 0 :: 0 :: f 36 :: 0 :: 0 :: 0 :: 0 :: 0 :: 0 :: []) : List Int).getD j 0) (fr := fr) (ro := ro) (cl := cl) (i := 1) (j := 1) (by omega) (by omega) q3 q4 h66 h83 n83 h86 n86 h87 n87 hl) ?_
                rintro _ h_808 ⟨z_808, rfl, F_808⟩
                have k_808 : cL h_808 := F_808.1.trans hl
                have fr_808 := hfr_cb (hfr_refl [] h) F_808 rfl
                have g_808_66 := (hfr_g F_808 66 rfl).trans h66
                have g_808_83 := (hfr_g F_808 83 rfl).trans h83
                have g_808_86 := (hfr_g F_808 86 rfl).trans h86
                have g_808_87 := (hfr_g F_808 87 rfl).trans h87
                refine ik_Wk 0 (pc_q := 99) (loc_q := [some (.ref 66), some (fI sz), some (fI i), some (fI j), some (fJ (-1)), none, some (fI 1), some (fI 1), some (fI 1), some (fI 2)]) (st_q := [fJ z_808, fJ (-1)]) (h_q := h_808) (cl_q := 0) (sl_q := 0) rfl ?_
                refine ik_Wk 3 (pc_q := 104) (loc_q := [some (.ref 66), some (fI sz), some (fI i), some (fI j), some (fJ (-1)), none, some (fI 1), some (fI 1), some (fI 1), some (fI 2)]) (st_q := [fI 2, fI 1, .ref 66, fJ z_808, fJ (-1)]) (h_q := h_808) (cl_q := 0) (sl_q := 0) rfl ?_
                refine fw_call 174 3 0 [.ref 66, fI 1, fI 2] [fJ z_808, fJ (-1)] rfl rfl rfl (Nat.le_of_ble_eq_true rfl) rfl rfl (fw_rec k_808 rfl g_808_66 rfl (Nat.le_of_ble_eq_true rfl)) (cr_fear (f := fun j => ((f 0 :: 0 :: 0 :: 0 :: f 4 :: 0 :: 0 :: f 7 :: f 8 :: 0 :: f 10 :: f 11 :: f 12 :: f 13 :: f 14 :: f 15 :: f 16 :: f 17 :: 0 :: 0 :: 0 :: 0 :: 0 :: 0 :: f 24 :: 0 :: 0 :: 0 :: 0 :: 0 :: 0 :: 0 :: f 32 :: f 33 :: 0 :: 0 :: f 36 :: 0 :: 0 :: 0 :: 0 :: 0 :: 0 :: []) : List Int).getD j 0) (fr := fr) (ro := ro) (cl := cl) (i := 1) (j := 2) (by omega) (by omega) q3 q4 g_808_66 g_808_83 n83 g_808_86 n86 g_808_87 n87 k_808) ?_
                rintro _ h_809 ⟨z_809, rfl, F_809⟩
                have k_809 : cL h_809 := F_809.1.trans k_808
                have fr_809 := hfr_cb fr_808 F_809 rfl
                have g_809_66 := (hfr_g F_809 66 rfl).trans g_808_66
                have g_809_83 := (hfr_g F_809 83 rfl).trans g_808_83
                have g_809_86 := (hfr_g F_809 86 rfl).trans g_808_86
                have g_809_87 := (hfr_g F_809 87 rfl).trans g_808_87
                refine ik_Wk 0 (pc_q := 107) (loc_q := [some (.ref 66), some (fI sz), some (fI i), some (fI j), some (fJ (-1)), none, some (fI 1), some (fI 1), some (fI 1), some (fI 2)]) (st_q := [fJ z_809, fJ z_808, fJ (-1)]) (h_q := h_809) (cl_q := 0) (sl_q := 0) rfl ?_
                refine fw_lmul rfl ?_
                refine ik_Wk 3 (pc_q := 113) (loc_q := [some (.ref 66), some (fI sz), some (fI i), some (fI j), some (fJ (-1)), none, some (fI 1), some (fI 1), some (fI 1), some (fI 2)]) (st_q := [fI 2, fI 1, .ref 66, fJ (z_808 * z_809), fJ (-1)]) (h_q := h_809) (cl_q := 0) (sl_q := 0) rfl ?_
                refine fw_call 174 3 0 [.ref 66, fI 1, fI 2] [fJ (z_808 * z_809), fJ (-1)] rfl rfl rfl (Nat.le_of_ble_eq_true rfl) rfl rfl (fw_rec k_809 rfl g_809_66 rfl (Nat.le_of_ble_eq_true rfl)) (cr_fear (f := fun j => ((f 0 :: 0 :: 0 :: 0 :: f 4 :: 0 :: 0 :: f 7 :: f 8 :: 0 :: f 10 :: f 11 :: f 12 :: f 13 :: f 14 :: f 15 :: f 16 :: f 17 :: 0 :: 0 :: 0 :: 0 :: 0 :: 0 :: f 24 :: 0 :: 0 :: 0 :: 0 :: 0 :: 0 :: 0 :: f 32 :: f 33 :: 0 :: 0 :: f 36 :: 0 :: 0 :: 0 :: 0 :: 0 :: 0 :: []) : List Int).getD j 0) (fr := fr) (ro := ro) (cl := cl) (i := 1) (j := 2) (by omega) (by omega) q3 q4 g_809_66 g_809_83 n83 g_809_86 n86 g_809_87 n87 k_809) ?_
                rintro _ h_810 ⟨z_810, rfl, F_810⟩
                have k_810 : cL h_810 := F_810.1.trans k_809
                have fr_810 := hfr_cb fr_809 F_810 rfl
                have g_810_66 := (hfr_g F_810 66 rfl).trans g_809_66
                have g_810_83 := (hfr_g F_810 83 rfl).trans g_809_83
                have g_810_86 := (hfr_g F_810 86 rfl).trans g_809_86
                have g_810_87 := (hfr_g F_810 87 rfl).trans g_809_87
                refine ik_Wk 0 (pc_q := 116) (loc_q := [some (.ref 66), some (fI sz), some (fI i), some (fI j), some (fJ (-1)), none, some (fI 1), some (fI 1), some (fI 1), some (fI 2)]) (st_q := [fJ z_810, fJ (z_808 * z_809), fJ (-1)]) (h_q := h_810) (cl_q := 0) (sl_q := 0) rfl ?_
                refine ik_Wk 3 (pc_q := 121) (loc_q := [some (.ref 66), some (fI sz), some (fI i), some (fI j), some (fJ (-1)), none, some (fI 1), some (fI 1), some (fI 1), some (fI 2)]) (st_q := [fI 1, fI 1, .ref 66, fJ z_810, fJ (z_808 * z_809), fJ (-1)]) (h_q := h_810) (cl_q := 0) (sl_q := 0) rfl ?_
                refine fw_call 174 3 0 [.ref 66, fI 1, fI 1] [fJ z_810, fJ (z_808 * z_809), fJ (-1)] rfl rfl rfl (Nat.le_of_ble_eq_true rfl) rfl rfl (fw_rec k_810 rfl g_810_66 rfl (Nat.le_of_ble_eq_true rfl)) (cr_fear (f := fun j => ((f 0 :: 0 :: 0 :: 0 :: f 4 :: 0 :: 0 :: f 7 :: f 8 :: 0 :: f 10 :: f 11 :: f 12 :: f 13 :: f 14 :: f 15 :: f 16 :: f 17 :: 0 :: 0 :: 0 :: 0 :: 0 :: 0 :: f 24 :: 0 :: 0 :: 0 :: 0 :: 0 :: 0 :: 0 :: f 32 :: f 33 :: 0 :: 0 :: f 36 :: 0 :: 0 :: 0 :: 0 :: 0 :: 0 :: []) : List Int).getD j 0) (fr := fr) (ro := ro) (cl := cl) (i := 1) (j := 1) (by omega) (by omega) q3 q4 g_810_66 g_810_83 n83 g_810_86 n86 g_810_87 n87 k_810) ?_
                rintro _ h_811 ⟨z_811, rfl, F_811⟩
                have k_811 : cL h_811 := F_811.1.trans k_810
                have fr_811 := hfr_cb fr_810 F_811 rfl
                have g_811_66 := (hfr_g F_811 66 rfl).trans g_810_66
                have g_811_83 := (hfr_g F_811 83 rfl).trans g_810_83
                have g_811_86 := (hfr_g F_811 86 rfl).trans g_810_86
                have g_811_87 := (hfr_g F_811 87 rfl).trans g_810_87
                refine ik_Wk 0 (pc_q := 124) (loc_q := [some (.ref 66), some (fI sz), some (fI i), some (fI j), some (fJ (-1)), none, some (fI 1), some (fI 1), some (fI 1), some (fI 2)]) (st_q := [fJ z_811, fJ z_810, fJ (z_808 * z_809), fJ (-1)]) (h_q := h_811) (cl_q := 0) (sl_q := 0) rfl ?_
                refine fw_lmul rfl ?_
                refine fw_lsub rfl ?_
                refine fw_lmul rfl ?_
                exact ik_Wret rfl rfl ⟨_, _, rfl, rfl, rfl, rfl, ⟨((-1) * ((z_808 * z_809) - (z_810 * z_811))), rfl, fr_811⟩⟩
            · refine ik_Wk 4 (pc_q := 79) (loc_q := [some (.ref 66), some (fI sz), some (fI i), some (fI j), some (fJ (-1)), none, some (fI 1), some (fI 1), some (fI 0), none]) (st_q := [fI 2, fI j]) (h_q := h) (cl_q := 0) (sl_q := 0) rfl ?_
              refine fw_ic_ne rfl rfl (by omega) (by omega) (by omega) (by omega) (fun hc24 => ?_) (fun hc24 => ?_)
              · refine ik_Wk 7 (pc_q := 96) (loc_q := [some (.ref 66), some (fI sz), some (fI i), some (fI j), some (fJ (-1)), none, some (fI 1), some (fI 1), some (fI 0), some (fI 1)]) (st_q := [fI 0, fI 1, .ref 66, fJ (-1)]) (h_q := h) (cl_q := 0) (sl_q := 0) rfl ?_
                refine fw_call 174 3 0 [.ref 66, fI 1, fI 0] [fJ (-1)] rfl rfl rfl (Nat.le_of_ble_eq_true rfl) rfl rfl (fw_rec hl rfl h66 rfl (Nat.le_of_ble_eq_true rfl)) (cr_fear (f := fun j => ((f 0 :: 0 :: 0 :: 0 :: f 4 :: 0 :: 0 :: f 7 :: f 8 :: 0 :: f 10 :: f 11 :: f 12 :: f 13 :: f 14 :: f 15 :: f 16 :: f 17 :: 0 :: 0 :: 0 :: 0 :: 0 :: 0 :: f 24 :: 0 :: 0 :: 0 :: 0 :: 0 :: 0 :: 0 :: f 32 :: f 33 :: 0 :: 0 :: f 36 :: 0 :: 0 :: 0 :: 0 :: 0 :: 0 :: []) : List Int).getD j 0) (fr := fr) (ro := ro) (cl := cl) (i := 1) (j := 0) (by omega) (by omega) q3 q4 h66 h83 n83 h86 n86 h87 n87 hl) ?_
                rintro _ h_812 ⟨z_812, rfl, F_812⟩
                have k_812 : cL h_812 := F_812.1.trans hl
                have fr_812 := hfr_cb (hfr_refl [] h) F_812 rfl
                have g_812_66 := (hfr_g F_812 66 rfl).trans h66
                have g_812_83 := (hfr_g F_812 83 rfl).trans h83
                have g_812_86 := (hfr_g F_812 86 rfl).trans h86
                have g_812_87 := (hfr_g F_812 87 rfl).trans h87
                refine ik_Wk 0 (pc_q := 99) (loc_q := [some (.ref 66), some (fI sz), some (fI i), some (fI j), some (fJ (-1)), none, some (fI 1), some (fI 1), some (fI 0), some (fI 1)]) (st_q := [fJ z_812, fJ (-1)]) (h_q := h_812) (cl_q := 0) (sl_q := 0) rfl ?_
                refine ik_Wk 3 (pc_q := 104) (loc_q := [some (.ref 66), some (fI sz), some (fI i), some (fI j), some (fJ (-1)), none, some (fI 1), some (fI 1), some (fI 0), some (fI 1)]) (st_q := [fI 1, fI 1, .ref 66, fJ z_812, fJ (-1)]) (h_q := h_812) (cl_q := 0) (sl_q := 0) rfl ?_
                refine fw_call 174 3 0 [.ref 66, fI 1, fI 1] [fJ z_812, fJ (-1)] rfl rfl rfl (Nat.le_of_ble_eq_true rfl) rfl rfl (fw_rec k_812 rfl g_812_66 rfl (Nat.le_of_ble_eq_true rfl)) (cr_fear (f := fun j => ((f 0 :: 0 :: 0 :: 0 :: f 4 :: 0 :: 0 :: f 7 :: f 8 :: 0 :: f 10 :: f 11 :: f 12 :: f 13 :: f 14 :: f 15 :: f 16 :: f 17 :: 0 :: 0 :: 0 :: 0 :: 0 :: 0 :: f 24 :: 0 :: 0 :: 0 :: 0 :: 0 :: 0 :: 0 :: f 32 :: f 33 :: 0 :: 0 :: f 36 :: 0 :: 0 :: 0 :: 0 :: 0 :: 0 :: []) : List Int).getD j 0) (fr := fr) (ro := ro) (cl := cl) (i := 1) (j := 1) (by omega) (by omega) q3 q4 g_812_66 g_812_83 n83 g_812_86 n86 g_812_87 n87 k_812) ?_
                rintro _ h_813 ⟨z_813, rfl, F_813⟩
                have k_813 : cL h_813 := F_813.1.trans k_812
                have fr_813 := hfr_cb fr_812 F_813 rfl
                have g_813_66 := (hfr_g F_813 66 rfl).trans g_812_66
                have g_813_83 := (hfr_g F_813 83 rfl).trans g_812_83
                have g_813_86 := (hfr_g F_813 86 rfl).trans g_812_86
                have g_813_87 := (hfr_g F_813 87 rfl).trans g_812_87
                refine ik_Wk 0 (pc_q := 107) (loc_q := [some (.ref 66), some (fI sz), some (fI i), some (fI j), some (fJ (-1)), none, some (fI 1), some (fI 1), some (fI 0), some (fI 1)]) (st_q := [fJ z_813, fJ z_812, fJ (-1)]) (h_q := h_813) (cl_q := 0) (sl_q := 0) rfl ?_
                refine fw_lmul rfl ?_
                refine ik_Wk 3 (pc_q := 113) (loc_q := [some (.ref 66), some (fI sz), some (fI i), some (fI j), some (fJ (-1)), none, some (fI 1), some (fI 1), some (fI 0), some (fI 1)]) (st_q := [fI 1, fI 1, .ref 66, fJ (z_812 * z_813), fJ (-1)]) (h_q := h_813) (cl_q := 0) (sl_q := 0) rfl ?_
                refine fw_call 174 3 0 [.ref 66, fI 1, fI 1] [fJ (z_812 * z_813), fJ (-1)] rfl rfl rfl (Nat.le_of_ble_eq_true rfl) rfl rfl (fw_rec k_813 rfl g_813_66 rfl (Nat.le_of_ble_eq_true rfl)) (cr_fear (f := fun j => ((f 0 :: 0 :: 0 :: 0 :: f 4 :: 0 :: 0 :: f 7 :: f 8 :: 0 :: f 10 :: f 11 :: f 12 :: f 13 :: f 14 :: f 15 :: f 16 :: f 17 :: 0 :: 0 :: 0 :: 0 :: 0 :: 0 :: f 24 :: 0 :: 0 :: 0 :: 0 :: 0 :: 0 :: 0 :: f 32 :: f 33 :: 0 :: 0 :: f 36 :: 0 :: 0 :: 0 :: 0 :: 0 :: 0 :: []) : List Int).getD j 0) (fr := fr) (ro := ro) (cl := cl) (i := 1) (j := 1) (by omega) (by omega) q3 q4 g_813_66 g_813_83 n83 g_813_86 n86 g_813_87 n87 k_813) ?_
                rintro _ h_814 ⟨z_814, rfl, F_814⟩
                have k_814 : cL h_814 := F_814.1.trans k_813
                have fr_814 := hfr_cb fr_813 F_814 rfl
                have g_814_66 := (hfr_g F_814 66 rfl).trans g_813_66
                have g_814_83 := (hfr_g F_814 83 rfl).trans g_813_83
                have g_814_86 := (hfr_g F_814 86 rfl).trans g_813_86
                have g_814_87 := (hfr_g F_814 87 rfl).trans g_813_87
                refine ik_Wk 0 (pc_q := 116) (loc_q := [some (.ref 66), some (fI sz), some (fI i), some (fI j), some (fJ (-1)), none, some (fI 1), some (fI 1), some (fI 0), some (fI 1)]) (st_q := [fJ z_814, fJ (z_812 * z_813), fJ (-1)]) (h_q := h_814) (cl_q := 0) (sl_q := 0) rfl ?_
                refine ik_Wk 3 (pc_q := 121) (loc_q := [some (.ref 66), some (fI sz), some (fI i), some (fI j), some (fJ (-1)), none, some (fI 1), some (fI 1), some (fI 0), some (fI 1)]) (st_q := [fI 0, fI 1, .ref 66, fJ z_814, fJ (z_812 * z_813), fJ (-1)]) (h_q := h_814) (cl_q := 0) (sl_q := 0) rfl ?_
                refine fw_call 174 3 0 [.ref 66, fI 1, fI 0] [fJ z_814, fJ (z_812 * z_813), fJ (-1)] rfl rfl rfl (Nat.le_of_ble_eq_true rfl) rfl rfl (fw_rec k_814 rfl g_814_66 rfl (Nat.le_of_ble_eq_true rfl)) (cr_fear (f := fun j => ((f 0 :: 0 :: 0 :: 0 :: f 4 :: 0 :: 0 :: f 7 :: f 8 :: 0 :: f 10 :: f 11 :: f 12 :: f 13 :: f 14 :: f 15 :: f 16 :: f 17 :: 0 :: 0 :: 0 :: 0 :: 0 :: 0 :: f 24 :: 0 :: 0 :: 0 :: 0 :: 0 :: 0 :: 0 :: f 32 :: f 33 :: 0 :: 0 :: f 36 :: 0 :: 0 :: 0 :: 0 :: 0 :: 0 :: []) : List Int).getD j 0) (fr := fr) (ro := ro) (cl := cl) (i := 1) (j := 0) (by omega) (by omega) q3 q4 g_814_66 g_814_83 n83 g_814_86 n86 g_814_87 n87 k_814) ?_
                rintro _ h_815 ⟨z_815, rfl, F_815⟩
                have k_815 : cL h_815 := F_815.1.trans k_814
                have fr_815 := hfr_cb fr_814 F_815 rfl
                have g_815_66 := (hfr_g F_815 66 rfl).trans g_814_66
                have g_815_83 := (hfr_g F_815 83 rfl).trans g_814_83
                have g_815_86 := (hfr_g F_815 86 rfl).trans g_814_86
                have g_815_87 := (hfr_g F_815 87 rfl).trans g_814_87
                refine ik_Wk 0 (pc_q := 124) (loc_q := [some (.ref 66), some (fI sz), some (fI i), some (fI j), some (fJ (-1)), none, some (fI 1), some (fI 1), some (fI 0), some (fI 1)]) (st_q := [fJ z_815, fJ z_814, fJ (z_812 * z_813), fJ (-1)]) (h_q := h_815) (cl_q := 0) (sl_q := 0) rfl ?_
                refine fw_lmul rfl ?_
                refine fw_lsub rfl ?_
                refine fw_lmul rfl ?_
                exact ik_Wret rfl rfl ⟨_, _, rfl, rfl, rfl, rfl, ⟨((-1) * ((z_812 * z_813) - (z_814 * z_815))), rfl, fr_815⟩⟩
              · refine ik_Wk 6 (pc_q := 96) (loc_q := [some (.ref 66), some (fI sz), some (fI i), some (fI j), some (fJ (-1)), none, some (fI 1), some (fI 1), some (fI 0), some (fI 2)]) (st_q := [fI 0, fI 1, .ref 66, fJ (-1)]) (h_q := h) (cl_q := 0) (sl_q := 0) rfl ?_
                refine fw_call 174 3 0 [.ref 66, fI 1, fI 0] [fJ (-1)] rfl rfl rfl (Nat.le_of_ble_eq_true rfl) rfl rfl (fw_rec hl rfl h66 rfl (Nat.le_of_ble_eq_true rfl)) (cr_fear (f := fun j => ((f 0 :: 0 :: 0 :: 0 :: f 4 :: 0 :: 0 :: f 7 :: f 8 :: 0 :: f 10 :: f 11 :: f 12 :: f 13 :: f 14 :: f 15 :: f 16 :: f 17 :: 0 :: 0 :: 0 :: 0 :: 0 :: 0 :: f 24 :: 0 :: 0 :: 0 :: 0 :: 0 :: 0 :: 0 :: f 32 :: f 33 :: 0 :: 0 :: f 36 :: 0 :: 0 :: 0 :: 0 :: 0 :: 0 :: []) : List Int).getD j 0) (fr := fr) (ro := ro) (cl := cl) (i := 1) (j := 0) (by omega) (by omega) q3 q4 h66 h83 n83 h86 n86 h87 n87 hl) ?_
                rintro _ h_816 ⟨z_816, rfl, F_816⟩
                have k_816 : cL h_816 := F_816.1.trans hl
                have fr_816 := hfr_cb (hfr_refl [] h) F_816 rfl
                have g_816_66 := (hfr_g F_816 66 rfl).trans h66
                have g_816_83 := (hfr_g F_816 83 rfl).trans h83
                have g_816_86 := (hfr_g F_816 86 rfl).trans h86
                have g_816_87 := (hfr_g F_816 87 rfl).trans h87
                refine ik_Wk 0 (pc_q := 99) (loc_q := [some (.ref 66), some (fI sz), some (fI i), some (fI j), some (fJ (-1)), none, some (fI 1), some (fI 1), some (fI 0), some (fI 2)]) (st_q := [fJ z_816, fJ (-1)]) (h_q := h_816) (cl_q := 0) (sl_q := 0) rfl ?_
                refine ik_Wk 3 (pc_q := 104) (loc_q := [some (.ref 66), some (fI sz), some (fI i), some (fI j), some (fJ (-1)), none, some (fI 1), some (fI 1), some (fI 0), some (fI 2)]) (st_q := [fI 2, fI 1, .ref 66, fJ z_816, fJ (-1)]) (h_q := h_816) (cl_q := 0) (sl_q := 0) rfl ?_
                refine fw_call 174 3 0 [.ref 66, fI 1, fI 2] [fJ z_816, fJ (-1)] rfl rfl rfl (Nat.le_of_ble_eq_true rfl) rfl rfl (fw_rec k_816 rfl g_816_66 rfl (Nat.le_of_ble_eq_true rfl)) (cr_fear (f := fun j => ((f 0 :: 0 :: 0 :: 0 :: f 4 :: 0 :: 0 :: f 7 :: f 8 :: 0 :: f 10 :: f 11 :: f 12 :: f 13 :: f 14 :: f 15 :: f 16 :: f 17 :: 0 :: 0 :: 0 :: 0 :: 0 :: 0 :: f 24 :: 0 :: 0 :: 0 :: 0 :: 0 :: 0 :: 0 :: f 32 :: f 33 :: 0 :: 0 :: f 36 :: 0 :: 0 :: 0 :: 0 :: 0 :: 0 :: []) : List Int).getD j 0) (fr := fr) (ro := ro) (cl := cl) (i := 1) (j := 2) (by omega) (by omega) q3 q4 g_816_66 g_816_83 n83 g_816_86 n86 g_816_87 n87 k_816) ?_
                rintro _ h_817 ⟨z_817, rfl, F_817⟩
                have k_817 : cL h_817 := F_817.1.trans k_816
                have fr_817 := hfr_cb fr_816 F_817 rfl
                have g_817_66 := (hfr_g F_817 66 rfl).trans g_816_66
                have g_817_83 := (hfr_g F_817 83 rfl).trans g_816_83
                have g_817_86 := (hfr_g F_817 86 rfl).trans g_816_86
                have g_817_87 := (hfr_g F_817 87 rfl).trans g_816_87
                refine ik_Wk 0 (pc_q := 107) (loc_q := [some (.ref 66), some (fI sz), some (fI i), some (fI j), some (fJ (-1)), none, some (fI 1), some (fI 1), some (fI 0), some (fI 2)]) (st_q := [fJ z_817, fJ z_816, fJ (-1)]) (h_q := h_817) (cl_q := 0) (sl_q := 0) rfl ?_
                refine fw_lmul rfl ?_
                refine ik_Wk 3 (pc_q := 113) (loc_q := [some (.ref 66), some (fI sz), some (fI i), some (fI j), some (fJ (-1)), none, some (fI 1), some (fI 1), some (fI 0), some (fI 2)]) (st_q := [fI 2, fI 1, .ref 66, fJ (z_816 * z_817), fJ (-1)]) (h_q := h_817) (cl_q := 0) (sl_q := 0) rfl ?_
                refine fw_call 174 3 0 [.ref 66, fI 1, fI 2] [fJ (z_816 * z_817), fJ (-1)] rfl rfl rfl (Nat.le_of_ble_eq_true rfl) rfl rfl (fw_rec k_817 rfl g_817_66 rfl (Nat.le_of_ble_eq_true rfl)) (cr_fear (f := fun j => ((f 0 :: 0 :: 0 :: 0 :: f 4 :: 0 :: 0 :: f 7 :: f 8 :: 0 :: f 10 :: f 11 :: f 12 :: f 13 :: f 14 :: f 15 :: f 16 :: f 17 :: 0 :: 0 :: 0 :: 0 :: 0 :: 0 :: f 24 :: 0 :: 0 :: 0 :: 0 :: 0 :: 0 :: 0 :: f 32 :: f 33 :: 0 :: 0 :: f 36 :: 0 :: 0 :: 0 :: 0 :: 0 :: 0 :: []) : List Int).getD j 0) (fr := fr) (ro := ro) (cl := cl) (i := 1) (j := 2) (by omega) (by omega) q3 q4 g_817_66 g_817_83 n83 g_817_86 n86 g_817_87 n87 k_817) ?_
                rintro _ h_818 ⟨z_818, rfl, F_818⟩
                have k_818 : cL h_818 := F_818.1.trans k_817
                have fr_818 := hfr_cb fr_817 F_818 rfl
                have g_818_66 := (hfr_g F_818 66 rfl).trans g_817_66
                have g_818_83 := (hfr_g F_818 83 rfl).trans g_817_83
                have g_818_86 := (hfr_g F_818 86 rfl).trans g_817_86
                have g_818_87 := (hfr_g F_818 87 rfl).trans g_817_87
                refine ik_Wk 0 (pc_q := 116) (loc_q := [some (.ref 66), some (fI sz), some (fI i), some (fI j), some (fJ (-1)), none, some (fI 1), some (fI 1), some (fI 0), some (fI 2)]) (st_q := [fJ z_818, fJ (z_816 * z_817), fJ (-1)]) (h_q := h_818) (cl_q := 0) (sl_q := 0) rfl ?_
                refine ik_Wk 3 (pc_q := 121) (loc_q := [some (.ref 66), some (fI sz), some (fI i), some (fI j), some (fJ (-1)), none, some (fI 1), some (fI 1), some (fI 0), some (fI 2)]) (st_q := [fI 0, fI 1, .ref 66, fJ z_818, fJ (z_816 * z_817), fJ (-1)]) (h_q := h_818) (cl_q := 0) (sl_q := 0) rfl ?_
                refine fw_call 174 3 0 [.ref 66, fI 1, fI 0] [fJ z_818, fJ (z_816 * z_817), fJ (-1)] rfl rfl rfl (Nat.le_of_ble_eq_true rfl) rfl rfl (fw_rec k_818 rfl g_818_66 rfl (Nat.le_of_ble_eq_true rfl)) (cr_fear (f := fun j => ((f 0 :: 0 :: 0 :: 0 :: f 4 :: 0 :: 0 :: f 7 :: f 8 :: 0 :: f 10 :: f 11 :: f 12 :: f 13 :: f 14 :: f 15 :: f 16 :: f 17 :: 0 :: 0 :: 0 :: 0 :: 0 :: 0 :: f 24 :: 0 :: 0 :: 0 :: 0 :: 0 :: 0 :: 0 :: f 32 :: f 33 :: 0 :: 0 :: f 36 :: 0 :: 0 :: 0 :: 0 :: 0 :: 0 :: []) : List Int).getD j 0) (fr := fr) (ro := ro) (cl := cl) (i := 1) (j := 0) (by omega) (by omega) q3 q4 g_818_66 g_818_83 n83 g_818_86 n86 g_818_87 n87 k_818) ?_
                rintro _ h_819 ⟨z_819, rfl, F_819⟩
                have k_819 : cL h_819 := F_819.1.trans k_818
                have fr_819 := hfr_cb fr_818 F_819 rfl
                have g_819_66 := (hfr_g F_819 66 rfl).trans g_818_66
                have g_819_83 := (hfr_g F_819 83 rfl).trans g_818_83
                have g_819_86 := (hfr_g F_819 86 rfl).trans g_818_86
                have g_819_87 := (hfr_g F_819 87 rfl).trans g_818_87
                refine ik_Wk 0 (pc_q := 124) (loc_q := [some (.ref 66), some (fI sz), some (fI i), some (fI j), some (fJ (-1)), none, some (fI 1), some (fI 1), some (fI 0), some (fI 2)]) (st_q := [fJ z_819, fJ z_818, fJ (z_816 * z_817), fJ (-1)]) (h_q := h_819) (cl_q := 0) (sl_q := 0) rfl ?_
                refine fw_lmul rfl ?_
                refine fw_lsub rfl ?_
                refine fw_lmul rfl ?_
                exact ik_Wret rfl rfl ⟨_, _, rfl, rfl, rfl, rfl, ⟨((-1) * ((z_816 * z_817) - (z_818 * z_819))), rfl, fr_819⟩⟩
          · refine ik_Wk 3 (pc_q := 67) (loc_q := [some (.ref 66), some (fI sz), some (fI i), some (fI j), some (fJ (-1)), none, some (fI 1), some (fI 2), none, none]) (st_q := [fI j]) (h_q := h) (cl_q := 0) (sl_q := 0) rfl ?_
            refine fw_if_ne rfl rfl (by omega) (by omega) (fun hc25 => ?_) (fun hc25 => ?_)
            · refine ik_Wk 5 (pc_q := 79) (loc_q := [some (.ref 66), some (fI sz), some (fI i), some (fI j), some (fJ (-1)), none, some (fI 1), some (fI 2), some (fI 1), none]) (st_q := [fI 2, fI j]) (h_q := h) (cl_q := 0) (sl_q := 0) rfl ?_
              refine fw_ic_ne rfl rfl (by omega) (by omega) (by omega) (by omega) (fun hc26 => ?_) (fun hc26 => ?_)
              · refine ik_Wk 7 (pc_q := 96) (loc_q := [some (.ref 66), some (fI sz), some (fI i), some (fI j), some (fJ (-1)), none, some (fI 1), some (fI 2), some (fI 1), some (fI 1)]) (st_q := [fI 1, fI 1, .ref 66, fJ (-1)]) (h_q := h) (cl_q := 0) (sl_q := 0) rfl ?_
                refine fw_call 174 3 0 [.ref 66, fI 1, fI 1] [fJ (-1)] rfl rfl rfl (Nat.le_of_ble_eq_true rfl) rfl rfl (fw_rec hl rfl h66 rfl (Nat.le_of_ble_eq_true rfl)) (cr_fear (f := fun j => ((f 0 :: 0 :: 0 :: 0 :: f 4 :: 0 :: 0 :: f 7 :: f 8 :: 0 :: f 10 :: f 11 :: f 12 :: f 13 :: f 14 :: f 15 :: f 16 :: f 17 :: 0 :: 0 :: 0 :: 0 :: 0 :: 0 :: f 24 :: 0 :: 0 :: 0 :: 0 :: 0 :: 0 :: 0 :: f 32 :: f 33 :: 0 :: 0 :: f 36 :: 0 :: 0 :: 0 :: 0 :: 0 :: 0 :: []) : List Int).getD j 0) (fr := fr) (ro := ro) (cl := cl) (i := 1) (j := 1) (by omega) (by omega) q3 q4 h66 h83 n83 h86 n86 h87 n87 hl) ?_
                rintro _ h_820 ⟨z_820, rfl, F_820⟩
                have k_820 : cL h_820 := F_820.1.trans hl
                have fr_820 := hfr_cb (hfr_refl [] h) F_820 rfl
                have g_820_66 := (hfr_g F_820 66 rfl).trans h66
                have g_820_83 := (hfr_g F_820 83 rfl).trans h83
                have g_820_86 := (hfr_g F_820 86 rfl).trans h86
                have g_820_87 := (hfr_g F_820 87 rfl).trans h87
                refine ik_Wk 0 (pc_q := 99) (loc_q := [some (.ref 66), some (fI sz), some (fI i), some (fI j), some (fJ (-1)), none, some (fI 1), some (fI 2), some (fI 1), some (fI 1)]) (st_q := [fJ z_820, fJ (-1)]) (h_q := h_820) (cl_q := 0) (sl_q := 0) rfl ?_
                refine ik_Wk 3 (pc_q := 104) (loc_q := [some (.ref 66), some (fI sz), some (fI i), some (fI j), some (fJ (-1)), none, some (fI 1), some (fI 2), some (fI 1), some (fI 1)]) (st_q := [fI 1, fI 2, .ref 66, fJ z_820, fJ (-1)]) (h_q := h_820) (cl_q := 0) (sl_q := 0) rfl ?_
                refine fw_call 174 3 0 [.ref 66, fI 2, fI 1] [fJ z_820, fJ (-1)] rfl rfl rfl (Nat.le_of_ble_eq_true rfl) rfl rfl (fw_rec k_820 rfl g_820_66 rfl (Nat.le_of_ble_eq_true rfl)) (cr_fear (f := fun j => ((f 0 :: 0 :: 0 :: 0 :: f 4 :: 0 :: 0 :: f 7 :: f 8 :: 0 :: f 10 :: f 11 :: f 12 :: f 13 :: f 14 :: f 15 :: f 16 :: f 17 :: 0 :: 0 :: 0 :: 0 :: 0 :: 0 :: f 24 :: 0 :: 0 :: 0 :: 0 :: 0 :: 0 :: 0 :: f 32 :: f 33 :: 0 :: 0 :: f 36 :: 0 :: 0 :: 0 :: 0 :: 0 :: 0 :: []) : List Int).getD j 0) (fr := fr) (ro := ro) (cl := cl) (i := 2) (j := 1) (by omega) (by omega) q3 q4 g_820_66 g_820_83 n83 g_820_86 n86 g_820_87 n87 k_820) ?_
                rintro _ h_821 ⟨z_821, rfl, F_821⟩
                have k_821 : cL h_821 := F_821.1.trans k_820
                have fr_821 := hfr_cb fr_820 F_821 rfl
                have g_821_66 := (hfr_g F_821 66 rfl).trans g_820_66
                have g_821_83 := (hfr_g F_821 83 rfl).trans g_820_83
                have g_821_86 := (hfr_g F_821 86 rfl).trans g_820_86
                have g_821_87 := (hfr_g F_821 87 rfl).trans g_820_87
                refine ik_Wk 0 (pc_q := 107) (loc_q := [some (.ref 66), some (fI sz), some (fI i), some (fI j), some (fJ (-1)), none, some (fI 1), some (fI 2), some (fI 1), some (fI 1)]) (st_q := [fJ z_821, fJ z_820, fJ (-1)]) (h_q := h_821) (cl_q := 0) (sl_q := 0) rfl ?_
                refine fw_lmul rfl ?_
                refine ik_Wk 3 (pc_q := 113) (loc_q := [some (.ref 66), some (fI sz), some (fI i), some (fI j), some (fJ (-1)), none, some (fI 1), some (fI 2), some (fI 1), some (fI 1)]) (st_q := [fI 1, fI 1, .ref 66, fJ (z_820 * z_821), fJ (-1)]) (h_q := h_821) (cl_q := 0) (sl_q := 0) rfl ?_
                refine fw_call 174 3 0 [.ref 66, fI 1, fI 1] [fJ (z_820 * z_821), fJ (-1)] rfl rfl rfl (Nat.le_of_ble_eq_true rfl) rfl rfl (fw_rec k_821 rfl g_821_66 rfl (Nat.le_of_ble_eq_true rfl)) (cr_fear (f := fun j => ((f 0 :: 0 :: 0 :: 0 :: f 4 :: 0 :: 0 :: f 7 :: f 8 :: 0 :: f 10 :: f 11 :: f 12 :: f 13 :: f 14 :: f 15 :: f 16 :: f 17 :: 0 :: 0 :: 0 :: 0 :: 0 :: 0 :: f 24 :: 0 :: 0 :: 0 :: 0 :: 0 :: 0 :: 0 :: f 32 :: f 33 :: 0 :: 0 :: f 36 :: 0 :: 0 :: 0 :: 0 :: 0 :: 0 :: []) : List Int).getD j 0) (fr := fr) (ro := ro) (cl := cl) (i := 1) (j := 1) (by omega) (by omega) q3 q4 g_821_66 g_821_83 n83 g_821_86 n86 g_821_87 n87 k_821) ?_
                rintro _ h_822 ⟨z_822, rfl, F_822⟩
                have k_822 : cL h_822 := F_822.1.trans k_821
                have fr_822 := hfr_cb fr_821 F_822 rfl
                have g_822_66 := (hfr_g F_822 66 rfl).trans g_821_66
                have g_822_83 := (hfr_g F_822 83 rfl).trans g_821_83
                have g_822_86 := (hfr_g F_822 86 rfl).trans g_821_86
                have g_822_87 := (hfr_g F_822 87 rfl).trans g_821_87
                refine ik_Wk 0 (pc_q := 116) (loc_q := [some (.ref 66), some (fI sz), some (fI i), some (fI j), some (fJ (-1)), none, some (fI 1), some (fI 2), some (fI 1), some (fI 1)]) (st_q := [fJ z_822, fJ (z_820 * z_821), fJ (-1)]) (h_q := h_822) (cl_q := 0) (sl_q := 0) rfl ?_
                refine ik_Wk 3 (pc_q := 121) (loc_q := [some (.ref 66), some (fI sz), some (fI i), some (fI j), some (fJ (-1)), none, some (fI 1), some (fI 2), some (fI 1), some (fI 1)]) (st_q := [fI 1, fI 2, .ref 66, fJ z_822, fJ (z_820 * z_821), fJ (-1)]) (h_q := h_822) (cl_q := 0) (sl_q := 0) rfl ?_
                refine fw_call 174 3 0 [.ref 66, fI 2, fI 1] [fJ z_822, fJ (z_820 * z_821), fJ (-1)] rfl rfl rfl (Nat.le_of_ble_eq_true rfl) rfl rfl (fw_rec k_822 rfl g_822_66 rfl (Nat.le_of_ble_eq_true rfl)) (cr_fear (f := fun j => ((f 0 :: 0 :: 0 :: 0 :: f 4 :: 0 :: 0 :: f 7 :: f 8 :: 0 :: f 10 :: f 11 :: f 12 :: f 13 :: f 14 :: f 15 :: f 16 :: f 17 :: 0 :: 0 :: 0 :: 0 :: 0 :: 0 :: f 24 :: 0 :: 0 :: 0 :: 0 :: 0 :: 0 :: 0 :: f 32 :: f 33 :: 0 :: 0 :: f 36 :: 0 :: 0 :: 0 :: 0 :: 0 :: 0 :: []) : List Int).getD j 0) (fr := fr) (ro := ro) (cl := cl) (i := 2) (j := 1) (by omega) (by omega) q3 q4 g_822_66 g_822_83 n83 g_822_86 n86 g_822_87 n87 k_822) ?_
                rintro _ h_823 ⟨z_823, rfl, F_823⟩
                have k_823 : cL h_823 := F_823.1.trans k_822
                have fr_823 := hfr_cb fr_822 F_823 rfl
                have g_823_66 := (hfr_g F_823 66 rfl).trans g_822_66
                have g_823_83 := (hfr_g F_823 83 rfl).trans g_822_83
                have g_823_86 := (hfr_g F_823 86 rfl).trans g_822_86
                have g_823_87 := (hfr_g F_823 87 rfl).trans g_822_87
                refine ik_Wk 0 (pc_q := 124) (loc_q := [some (.ref 66), some (fI sz), some (fI i), some (fI j), some (fJ (-1)), none, some (fI 1), some (fI 2), some (fI 1), some (fI 1)]) (st_q := [fJ z_823, fJ z_822, fJ (z_820 * z_821), fJ (-1)]) (h_q := h_823) (cl_q := 0) (sl_q := 0) rfl ?_
                refine fw_lmul rfl ?_
                refine fw_lsub rfl ?_
                refine fw_lmul rfl ?_
                exact ik_Wret rfl rfl ⟨_, _, rfl, rfl, rfl, rfl, ⟨((-1) * ((z_820 * z_821) - (z_822 * z_823))), rfl, fr_823⟩⟩
              · refine ik_Wk 6 (pc_q := 96) (loc_q := [some (.ref 66), some (fI sz), some (fI i), some (fI j), some (fJ (-1)), none, some (fI 1), some (fI 2), some (fI 1), some (fI 2)]) (st_q := [fI 1, fI 1, .ref 66, fJ (-1)]) (h_q := h) (cl_q := 0) (sl_q := 0) rfl ?_
                refine fw_call 174 3 0 [.ref 66, fI 1, fI 1] [fJ (-1)] rfl rfl rfl (Nat.le_of_ble_eq_true rfl) rfl rfl (fw_rec hl rfl h66 rfl (Nat.le_of_ble_eq_true rfl)) (cr_fear (f := fun j => ((f 0 :: 0 :: 0 :: 0 :: f 4 :: 0 :: 0 :: f 7 :: f 8 :: 0 :: f 10 :: f 11 :: f 12 :: f 13 :: f 14 :: f 15 :: f 16 :: f 17 :: 0 :: 0 :: 0 :: 0 :: 0 :: 0 :: f 24 :: 0 :: 0 :: 0 :: 0 :: 0 :: 0 :: 0 :: f 32 :: f 33 :: 0 :: 0 :: f 36 :: 0 :: 0 :: 0 :: 0 :: 0 :: 0 :: []) : List Int).getD j 0) (fr := fr) (ro := ro) (cl := cl) (i := 1) (j := 1) (by omega) (by omega) q3 q4 h66 h83 n83 h86 n86 h87 n87 hl) ?_
                rintro _ h_824 ⟨z_824, rfl, F_824⟩
                have k_824 : cL h_824 := F_824.1.trans hl
                have fr_824 := hfr_cb (hfr_refl [] h) F_824 rfl
                have g_824_66 := (hfr_g F_824 66 rfl).trans h66
                have g_824_83 := (hfr_g F_824 83 rfl).trans h83
                have g_824_86 := (hfr_g F_824 86 rfl).trans h86
                have g_824_87 := (hfr_g F_824 87 rfl).trans h87
                refine ik_Wk 0 (pc_q := 99) (loc_q := [some (.ref 66), some (fI sz), some (fI i), some (fI j), some (fJ (-1)), none, some (fI 1), some (fI 2), some (fI 1), some (fI 2)]) (st_q := [fJ z_824, fJ (-1)]) (h_q := h_824) (cl_q := 0) (sl_q := 0) rfl ?_
                refine ik_Wk 3 (pc_q := 104) (loc_q := [some (.ref 66), some (fI sz), some (fI i), some (fI j), some (fJ (-1)), none, some (fI 1), some (fI 2), some (fI 1), some (fI 2)]) (st_q := [fI 2, fI 2, .ref 66, fJ z_824, fJ (-1)]) (h_q := h_824) (cl_q := 0) (sl_q := 0) rfl ?_
                refine fw_call 174 3 0 [.ref 66, fI 2, fI 2] [fJ z_824, fJ (-1)] rfl rfl rfl (Nat.le_of_ble_eq_true rfl) rfl rfl (fw_rec k_824 rfl g_824_66 rfl (Nat.le_of_ble_eq_true rfl)) (cr_fear (f := fun j => ((f 0 :: 0 :: 0 :: 0 :: f 4 :: 0 :: 0 :: f 7 :: f 8 :: 0 :: f 10 :: f 11 :: f 12 :: f 13 :: f 14 :: f 15 :: f 16 :: f 17 :: 0 :: 0 :: 0 :: 0 :: 0 :: 0 :: f 24 :: 0 :: 0 :: 0 :: 0 :: 0 :: 0 :: 0 :: f 32 :: f 33 :: 0 :: 0 :: f 36 :: 0 :: 0 :: 0 :: 0 :: 0 :: 0 :: []) : List Int).getD j 0) (fr := fr) (ro := ro) (cl := cl) (i := 2) (j := 2) (by omega) (by omega) q3 q4 g_824_66 g_824_83 n83 g_824_86 n86 g_824_87 n87 k_824) ?_
                rintro _ h_825 ⟨z_825, rfl, F_825⟩
                have k_825 : cL h_825 := F_825.1.trans k_824
                have fr_825 := hfr_cb fr_824 F_825 rfl
                have g_825_66 := (hfr_g F_825 66 rfl).trans g_824_66
                have g_825_83 := (hfr_g F_825 83 rfl).trans g_824_83
                have g_825_86 := (hfr_g F_825 86 rfl).trans g_824_86
                have g_825_87 := (hfr_g F_825 87 rfl).trans g_824_87
                refine ik_Wk 0 (pc_q := 107) (loc_q := [some (.ref 66), some (fI sz), some (fI i), some (fI j), some (fJ (-1)), none, some (fI 1), some (fI 2), some (fI 1), some (fI 2)]) (st_q := [fJ z_825, fJ z_824, fJ (-1)]) (h_q := h_825) (cl_q := 0) (sl_q := 0) rfl ?_
                refine fw_lmul rfl ?_
                refine ik_Wk 3 (pc_q := 113) (loc_q := [some (.ref 66), some (fI sz), some (fI i), some (fI j), some (fJ (-1)), none, some (fI 1), some (fI 2), some (fI 1), some (fI 2)]) (st_q := [fI 2, fI 1, .ref 66, fJ (z_824 * z_825), fJ (-1)]) (h_q := h_825) (cl_q := 0) (sl_q := 0) rfl ?_
                refine fw_call 174 3 0 [.ref 66, fI 1, fI 2] [fJ (z_824 * z_825), fJ (-1)] rfl rfl rfl (Nat.le_of_ble_eq_true rfl) rfl rfl (fw_rec k_825 rfl g_825_66 rfl (Nat.le_of_ble_eq_true rfl)) (cr_fear (f := fun j => ((f 0 :: 0 :: 0 :: 0 :: f 4 :: 0 :: 0 :: f 7 :: f 8 :: 0 :: f 10 :: f 11 :: f 12 :: f 13 :: f 14 :: f 15 :: f 16 :: f 17 :: 0 :: 0 :: 0 :: 0 :: 0 :: 0 :: f 24 :: 0 :: 0 :: 0 :: 0 :: 0 :: 0 :: 0 :: f 32 :: f 33 :: 0 :: 0 :: f 36 :: 0 :: 0 :: 0 :: 0 :: 0 :: 0 :: []) : List Int).getD j 0) (fr := fr) (ro := ro) (cl := cl) (i := 1) (j := 2) (by omega) (by omega) q3 q4 g_825_66 g_825_83 n83 g_825_86 n86 g_825_87 n87 k_825) ?_
                rintro _ h_826 ⟨z_826, rfl, F_826⟩
                have k_826 : cL h_826 := F_826.1.trans k_825
                have fr_826 := hfr_cb fr_825 F_826 rfl
                have g_826_66 := (hfr_g F_826 66 rfl).trans g_825_66
                have g_826_83 := (hfr_g F_826 83 rfl).trans g_825_83
                have g_826_86 := (hfr_g F_826 86 rfl).trans g_825_86
                have g_826_87 := (hfr_g F_826 87 rfl).trans g_825_87
                refine ik_Wk 0 (pc_q := 116) (loc_q := [some (.ref 66), some (fI sz), some (fI i), some (fI j), some (fJ (-1)), none, some (fI 1), some (fI 2), some (fI 1), some (fI 2)]) (st_q := [fJ z_826, fJ (z_824 * z_825), fJ (-1)]) (h_q := h_826) (cl_q := 0) (sl_q := 0) rfl ?_
                refine ik_Wk 3 (pc_q := 121) (loc_q := [some (.ref 66), some (fI sz), some (fI i), some (fI j), some (fJ (-1)), none, some (fI 1), some (fI 2), some (fI 1), some (fI 2)]) (st_q := [fI 1, fI 2, .ref 66, fJ z_826, fJ (z_824 * z_825), fJ (-1)]) (h_q := h_826) (cl_q := 0) (sl_q := 0) rfl ?_
                refine fw_call 174 3 0 [.ref 66, fI 2, fI 1] [fJ z_826, fJ (z_824 * z_825), fJ (-1)] rfl rfl rfl (Nat.le_of_ble_eq_true rfl) rfl rfl (fw_rec k_826 rfl g_826_66 rfl (Nat.le_of_ble_eq_true rfl)) (cr_fear (f := fun j => ((f 0 :: 0 :: 0 :: 0 :: f 4 :: 0 :: 0 :: f 7 :: f 8 :: 0 :: f 10 :: f 11 :: f 12 :: f 13 :: f 14 :: f 15 :: f 16 :: f 17 :: 0 :: 0 :: 0 :: 0 :: 0 :: 0 :: f 24 :: 0 :: 0 :: 0 :: 0 :: 0 :: 0 :: 0 :: f 32 :: f 33 :: 0 :: 0 :: f 36 :: 0 :: 0 :: 0 :: 0 :: 0 :: 0 :: []) : List Int).getD j 0) (fr := fr) (ro := ro) (cl := cl) (i := 2) (j := 1) (by omega) (by omega) q3 q4 g_826_66 g_826_83 n83 g_826_86 n86 g_826_87 n87 k_826) ?_
                rintro _ h_827 ⟨z_827, rfl, F_827⟩
                have k_827 : cL h_827 := F_827.1.trans k_826
                have fr_827 := hfr_cb fr_826 F_827 rfl
                have g_827_66 := (hfr_g F_827 66 rfl).trans g_826_66
                have g_827_83 := (hfr_g F_827 83 rfl).trans g_826_83
                have g_827_86 := (hfr_g F_827 86 rfl).trans g_826_86
                have g_827_87 := (hfr_g F_827 87 rfl).trans g_826_87
                refine ik_Wk 0 (pc_q := 124) (loc_q := [some (.ref 66), some (fI sz), some (fI i), some (fI j), some (fJ (-1)), none, some (fI 1), some (fI 2), some (fI 1), some (fI 2)]) (st_q := [fJ z_827, fJ z_826, fJ (z_824 * z_825), fJ (-1)]) (h_q := h_827) (cl_q := 0) (sl_q := 0) rfl ?_
                refine fw_lmul rfl ?_
                refine fw_lsub rfl ?_
                refine fw_lmul rfl ?_
                exact ik_Wret rfl rfl ⟨_, _, rfl, rfl, rfl, rfl, ⟨((-1) * ((z_824 * z_825) - (z_826 * z_827))), rfl, fr_827⟩⟩
            · refine ik_Wk 4 (pc_q := 79) (loc_q := [some (.ref 66), some (fI sz), some (fI i), some (fI j), some (fJ (-1)), none, some (fI 1), some (fI 2), some (fI 0), none]) (st_q := [fI 2, fI j]) (h_q := h) (cl_q := 0) (sl_q := 0) rfl ?_
              refine fw_ic_ne rfl rfl (by omega) (by omega) (by omega) (by omega) (fun hc27 => ?_) (fun hc27 => ?_)
              · refine ik_Wk 7 (pc_q := 96) (loc_q := [some (.ref 66), some (fI sz), some (fI i), some (fI j), some (fJ (-1)), none, some (fI 1), some (fI 2), some (fI 0), some (fI 1)]) (st_q := [fI 0, fI 1, .ref 66, fJ (-1)]) (h_q := h) (cl_q := 0) (sl_q := 0) rfl ?_
                refine fw_call 174 3 0 [.ref 66, fI 1, fI 0] [fJ (-1)] rfl rfl rfl (Nat.le_of_ble_eq_true rfl) rfl rfl (fw_rec hl rfl h66 rfl (Nat.le_of_ble_eq_true rfl)) (cr_fear (f := fun j => ((f 0 :: 0 :: 0 :: 0 :: f 4 :: 0 :: 0 :: f 7 :: f 8 :: 0 :: f 10 :: f 11 :: f 12 :: f 13 :: f 14 :: f 15 :: f 16 :: f 17 :: 0 :: 0 :: 0 :: 0 :: 0 :: 0 :: f 24 :: 0 :: 0 :: 0 :: 0 :: 0 :: 0 :: 0 :: f 32 :: f 33 :: 0 :: 0 :: f 36 :: 0 :: 0 :: 0 :: 0 :: 0 :: 0 :: []) : List Int).getD j 0) (fr := fr) (ro := ro) (cl := cl) (i := 1) (j := 0) (by omega) (by omega) q3 q4 h66 h83 n83 h86 n86 h87 n87 hl) ?_
                rintro _ h_828 ⟨z_828, rfl, F_828⟩
                have k_828 : cL h_828 := F_828.1.trans hl
                have fr_828 := hfr_cb (hfr_refl [] h) F_828 rfl
                have g_828_66 := (hfr_g F_828 66 rfl).trans h66
                have g_828_83 := (hfr_g F_828 83 rfl).trans h83
                have g_828_86 := (hfr_g F_828 86 rfl).trans h86
                have g_828_87 := (hfr_g F_828 87 rfl).trans h87
                refine ik_Wk 0 (pc_q := 99) (loc_q := [some (.ref 66), some (fI sz), some (fI i), some (fI j), some (fJ (-1)), none, some (fI 1), some (fI 2), some (fI 0), some (fI 1)]) (st_q := [fJ z_828, fJ (-1)]) (h_q := h_828) (cl_q := 0) (sl_q := 0) rfl ?_
                refine ik_Wk 3 (pc_q := 104) (loc_q := [some (.ref 66), some (fI sz), some (fI i), some (fI j), some (fJ (-1)), none, some (fI 1), some (fI 2), some (fI 0), some (fI 1)]) (st_q := [fI 1, fI 2, .ref 66, fJ z_828, fJ (-1)]) (h_q := h_828) (cl_q := 0) (sl_q := 0) rfl ?_
                refine fw_call 174 3 0 [.ref 66, fI 2, fI 1] [fJ z_828, fJ (-1)] rfl rfl rfl (Nat.le_of_ble_eq_true rfl) rfl rfl (fw_rec k_828 rfl g_828_66 rfl (Nat.le_of_ble_eq_true rfl)) (cr_fear (f := fun j => ((f 0 :: 0 :: 0 :: 0 :: f 4 :: 0 :: 0 :: f 7 :: f 8 :: 0 :: f 10 :: f 11 :: f 12 :: f 13 :: f 14 :: f 15 :: f 16 :: f 17 :: 0 :: 0 :: 0 :: 0 :: 0 :: 0 :: f 24 :: 0 :: 0 :: 0 :: 0 :: 0 :: 0 :: 0 :: f 32 :: f 33 :: 0 :: 0 :: f 36 :: 0 :: 0 :: 0 :: 0 :: 0 :: 0 :: []) : List Int).getD j 0) (fr := fr) (ro := ro) (cl := cl) (i := 2) (j := 1) (by omega) (by omega) q3 q4 g_828_66 g_828_83 n83 g_828_86 n86 g_828_87 n87 k_828) ?_
                rintro _ h_829 ⟨z_829, rfl, F_829⟩
                have k_829 : cL h_829 := F_829.1.trans k_828
                have fr_829 := hfr_cb fr_828 F_829 rfl
                have g_829_66 := (hfr_g F_829 66 rfl).trans g_828_66
                have g_829_83 := (hfr_g F_829 83 rfl).trans g_828_83
                have g_829_86 := (hfr_g F_829 86 rfl).trans g_828_86
                have g_829_87 := (hfr_g F_829 87 rfl).trans g_828_87
                refine ik_Wk 0 (pc_q := 107) (loc_q := [some (.ref 66), some (fI sz), some (fI i), some (fI j), some (fJ (-1)), none, some (fI 1), some (fI 2), some (fI 0), some (fI 1)]) (st_q := [fJ z_829, fJ z_828, fJ (-1)]) (h_q := h_829) (cl_q := 0) (sl_q := 0) rfl ?_
                refine fw_lmul rfl ?_
                refine ik_Wk 3 (pc_q := 113) (loc_q := [some (.ref 66), some (fI sz), some (fI i), some (fI j), some (fJ (-1)), none, some (fI 1), some (fI 2), some (fI 0), some (fI 1)]) (st_q := [fI 1, fI 1, .ref 66, fJ (z_828 * z_829), fJ (-1)]) (h_q := h_829) (cl_q := 0) (sl_q := 0) rfl ?_
                refine fw_call 174 3 0 [.ref 66, fI 1, fI 1] [fJ (z_828 * z_829), fJ (-1)] rfl rfl rfl (Nat.le_of_ble_eq_true rfl) rfl rfl (fw_rec k_829 rfl g_829_66 rfl (Nat.le_of_ble_eq_true rfl)) (cr_fear (f := fun j => ((f 0 :: 0 :: 0 :: 0 :: f 4 :: 0 :: 0 :: f 7 :: f 8 :: 0 :: f 10 :: f 11 :: f 12 :: f 13 :: f 14 :: f 15 :: f 16 :: f 17 :: 0 :: 0 :: 0 :: 0 :: 0 :: 0 :: f 24 :: 0 :: 0 :: 0 :: 0 :: 0 :: 0 :: 0 :: f 32 :: f 33 :: 0 :: 0 :: f 36 :: 0 :: 0 :: 0 :: 0 :: 0 :: 0 :: []) : List Int).getD j 0) (fr := fr) (ro := ro) (cl := cl) (i := 1) (j := 1) (by omega) (by omega) q3 q4 g_829_66 g_829_83 n83 g_829_86 n86 g_829_87 n87 k_829) ?_
                rintro _ h_830 ⟨z_830, rfl, F_830⟩
                have k_830 : cL h_830 := F_830.1.trans k_829
                have fr_830 := hfr_cb fr_829 F_830 rfl
                have g_830_66 := (hfr_g F_830 66 rfl).trans g_829_66
                have g_830_83 := (hfr_g F_830 83 rfl).trans g_829_83
                have g_830_86 := (hfr_g F_830 86 rfl).trans g_829_86
                have g_830_87 := (hfr_g F_830 87 rfl).trans g_829_87
                refine ik_Wk 0 (pc_q := 116) (loc_q := [some (.ref 66), some (fI sz), some (fI i), some (fI j), some (fJ (-1)), none, some (fI 1), some (fI 2), some (fI 0), some (fI 1)]) (st_q := [fJ z_830, fJ (z_828 * z_829), fJ (-1)]) (h_q := h_830) (cl_q := 0) (sl_q := 0) rfl ?_
                refine ik_Wk 3 (pc_q := 121) (loc_q := [some (.ref 66), some (fI sz), some (fI i), some (fI j), some (fJ (-1)), none, some (fI 1), some (fI 2), some (fI 0), some (fI 1)]) (st_q := [fI 0, fI 2, .ref 66, fJ z_830, fJ (z_828 * z_829), fJ (-1)]) (h_q := h_830) (cl_q := 0) (sl_q := 0) rfl ?_
                refine fw_call 174 3 0 [.ref 66, fI 2, fI 0] [fJ z_830, fJ (z_828 * z_829), fJ (-1)] rfl rfl rfl (Nat.le_of_ble_eq_true rfl) rfl rfl (fw_rec k_830 rfl g_830_66 rfl (Nat.le_of_ble_eq_true rfl)) (cr_fear (f := fun j => ((f 0 :: 0 :: 0 :: 0 :: f 4 :: 0 :: 0 :: f 7 :: f 8 :: 0 :: f 10 :: f 11 :: f 12 :: f 13 :: f 14 :: f 15 :: f 16 :: f 17 :: 0 :: 0 :: 0 :: 0 :: 0 :: 0 :: f 24 :: 0 :: 0 :: 0 :: 0 :: 0 :: 0 :: 0 :: f 32 :: f 33 :: 0 :: 0 :: f 36 :: 0 :: 0 :: 0 :: 0 :: 0 :: 0 :: []) : List Int).getD j 0) (fr := fr) (ro := ro) (cl := cl) (i := 2) (j := 0) (by omega) (by omega) q3 q4 g_830_66 g_830_83 n83 g_830_86 n86 g_830_87 n87 k_830) ?_
                rintro _ h_831 ⟨z_831, rfl, F_831⟩
                have k_831 : cL h_831 := F_831.1.trans k_830
                have fr_831 := hfr_cb fr_830 F_831 rfl
                have g_831_66 := (hfr_g F_831 66 rfl).trans g_830_66
                have g_831_83 := (hfr_g F_831 83 rfl).trans g_830_83
                have g_831_86 := (hfr_g F_831 86 rfl).trans g_830_86
                have g_831_87 := (hfr_g F_831 87 rfl).trans g_830_87
                refine ik_Wk 0 (pc_q := 124) (loc_q := [some (.ref 66), some (fI sz), some (fI i), some (fI j), some (fJ (-1)), none, some (fI 1), some (fI 2), some (fI 0), some (fI 1)]) (st_q := [fJ z_831, fJ z_830, fJ (z_828 * z_829), fJ (-1)]) (h_q := h_831) (cl_q := 0) (sl_q := 0) rfl ?_
                refine fw_lmul rfl ?_
                refine fw_lsub rfl ?_
                refine fw_lmul rfl ?_
                exact ik_Wret rfl rfl ⟨_, _, rfl, rfl, rfl, rfl, ⟨((-1) * ((z_828 * z_829) - (z_830 * z_831))), rfl, fr_831⟩⟩
              · refine ik_Wk 6 (pc_q := 96) (loc_q := [some (.ref 66), some (fI sz), some (fI i), some (fI j), some (fJ (-1)), none, some (fI 1), some (fI 2), some (fI 0), some (fI 2)]) (st_q := [fI 0, fI 1, .ref 66, fJ (-1)]) (h_q := h) (cl_q := 0) (sl_q := 0) rfl ?_
                refine fw_call 174 3 0 [.ref 66, fI 1, fI 0] [fJ (-1)] rfl rfl rfl (Nat.le_of_ble_eq_true rfl) rfl rfl (fw_rec hl rfl h66 rfl (Nat.le_of_ble_eq_true rfl)) (cr_fear (f := fun j => ((f 0 :: 0 :: 0 :: 0 :: f 4 :: 0 :: 0 :: f 7 :: f 8 :: 0 :: f 10 :: f 11 :: f 12 :: f 13 :: f 14 :: f 15 :: f 16 :: f 17 :: 0 :: 0 :: 0 :: 0 :: 0 :: 0 :: f 24 :: 0 :: 0 :: 0 :: 0 :: 0 :: 0 :: 0 :: f 32 :: f 33 :: 0 :: 0 :: f 36 :: 0 :: 0 :: 0 :: 0 :: 0 :: 0 :: []) : List Int).getD j 0) (fr := fr) (ro := ro) (cl := cl) (i := 1) (j := 0) (by omega) (by omega) q3 q4 h66 h83 n83 h86 n86 h87 n87 hl) ?_
                rintro _ h_832 ⟨z_832, rfl, F_832⟩
                have k_832 : cL h_832 := F_832.1.trans hl
                have fr_832 := hfr_cb (hfr_refl [] h) F_832 rfl
                have g_832_66 := (hfr_g F_832 66 rfl).trans h66
                have g_832_83 := (hfr_g F_832 83 rfl).trans h83
                have g_832_86 := (hfr_g F_832 86 rfl).trans h86
                have g_832_87 := (hfr_g F_832 87 rfl).trans h87
                refine ik_Wk 0 (pc_q := 99) (loc_q := [some (.ref 66), some (fI sz), some (fI i), some (fI j), some (fJ (-1)), none, some (fI 1), some (fI 2), some (fI 0), some (fI 2)]) (st_q := [fJ z_832, fJ (-1)]) (h_q := h_832) (cl_q := 0) (sl_q := 0) rfl ?_
                refine ik_Wk 3 (pc_q := 104) (loc_q := [some (.ref 66), some (fI sz), some (fI i), some (fI j), some (fJ (-1)), none, some (fI 1), some (fI 2), some (fI 0), some (fI 2)]) (st_q := [fI 2, fI 2, .ref 66, fJ z_832, fJ (-1)]) (h_q := h_832) (cl_q := 0) (sl_q := 0) rfl ?_
                refine fw_call 174 3 0 [.ref 66, fI 2, fI 2] [fJ z_832, fJ (-1)] rfl rfl rfl (Nat.le_of_ble_eq_true rfl) rfl rfl (fw_rec k_832 rfl g_832_66 rfl (Nat.le_of_ble_eq_true rfl)) (cr_fear (f := fun j => ((f 0 :: 0 :: 0 :: 0 :: f 4 :: 0 :: 0 :: f 7 :: f 8 :: 0 :: f 10 :: f 11 :: f 12 :: f 13 :: f 14 :: f 15 :: f 16 :: f 17 :: 0 :: 0 :: 0 :: 0 :: 0 :: 0 :: f 24 :: 0 :: 0 :: 0 :: 0 :: 0 :: 0 :: 0 :: f 32 :: f 33 :: 0 :: 0 :: f 36 :: 0 :: 0 :: 0 :: 0 :: 0 :: 0 :: []) : List Int).getD j 0) (fr := fr) (ro := ro) (cl := cl) (i := 2) (j := 2) (by omega) (by omega) q3 q4 g_832_66 g_832_83 n83 g_832_86 n86 g_832_87 n87 k_832) ?_
                rintro _ h_833 ⟨z_833, rfl, F_833⟩
                have k_833 : cL h_833 := F_833.1.trans k_832
                have fr_833 := hfr_cb fr_832 F_833 rfl
                have g_833_66 := (hfr_g F_833 66 rfl).trans g_832_66
                have g_833_83 := (hfr_g F_833 83 rfl).trans g_832_83
                have g_833_86 := (hfr_g F_833 86 rfl).trans g_832_86
                have g_833_87 := (hfr_g F_833 87 rfl).trans g_832_87
                refine ik_Wk 0 (pc_q := 107) (loc_q := [some (.ref 66), some (fI sz), some (fI i), some (fI j), some (fJ (-1)), none, some (fI 1), some (fI 2), some (fI 0), some (fI 2)]) (st_q := [fJ z_833, fJ z_832, fJ (-1)]) (h_q := h_833) (cl_q := 0) (sl_q := 0) rfl ?_
                refine fw_lmul rfl ?_
                refine ik_Wk 3 (pc_q := 113) (loc_q := [some (.ref 66), some (fI sz), some (fI i), some (fI j), some (fJ (-1)), none, some (fI 1), some (fI 2), some (fI 0), some (fI 2)]) (st_q := [fI 2, fI 1, .ref 66, fJ (z_832 * z_833), fJ (-1)]) (h_q := h_833) (cl_q := 0) (sl_q := 0) rfl ?_
                refine fw_call 174 3 0 [.ref 66, fI 1, fI 2] [fJ (z_832 * z_833), fJ (-1)] rfl rfl rfl (Nat.le_of_ble_eq_true rfl) rfl rfl (fw_rec k_833 rfl g_833_66 rfl (Nat.le_of_ble_eq_true rfl)) (cr_fear (f := fun j => ((f 0 :: 0 :: 0 :: 0 :: f 4 :: 0 :: 0 :: f 7 :: f 8 :: 0 :: f 10 :: f 11 :: f 12 :: f 13 :: f 14 :: f 15 :: f 16 :: f 17 :: 0 :: 0 :: 0 :: 0 :: 0 :: 0 :: f 24 :: 0 :: 0 :: 0 :: 0 :: 0 :: 0 :: 0 :: f 32 :: f 33 :: 0 :: 0 :: f 36 :: 0 :: 0 :: 0 :: 0 :: 0 :: 0 :: []) : List Int).getD j 0) (fr := fr) (ro := ro) (cl := cl) (i := 1) (j := 2) (by omega) (by omega) q3 q4 g_833_66 g_833_83 n83 g_833_86 n86 g_833_87 n87 k_833) ?_
                rintro _ h_834 ⟨z_834, rfl, F_834⟩
                have k_834 : cL h_834 := F_834.1.trans k_833
                have fr_834 := hfr_cb fr_833 F_834 rfl
                have g_834_66 := (hfr_g F_834 66 rfl).trans g_833_66
                have g_834_83 := (hfr_g F_834 83 rfl).trans g_833_83
                have g_834_86 := (hfr_g F_834 86 rfl).trans g_833_86
                have g_834_87 := (hfr_g F_834 87 rfl).trans g_833_87
                refine ik_Wk 0 (pc_q := 116) (loc_q := [some (.ref 66), some (fI sz), some (fI i), some (fI j), some (fJ (-1)), none, some (fI 1), some (fI 2), some (fI 0), some (fI 2)]) (st_q := [fJ z_834, fJ (z_832 * z_833), fJ (-1)]) (h_q := h_834) (cl_q := 0) (sl_q := 0) rfl ?_
                refine ik_Wk 3 (pc_q := 121) (loc_q := [some (.ref 66), some (fI sz), some (fI i), some (fI j), some (fJ (-1)), none, some (fI 1), some (fI 2), some (fI 0), some (fI 2)]) (st_q := [fI 0, fI 2, .ref 66, fJ z_834, fJ (z_832 * z_833), fJ (-1)]) (h_q := h_834) (cl_q := 0) (sl_q := 0) rfl ?_
                refine fw_call 174 3 0 [.ref 66, fI 2, fI 0] [fJ z_834, fJ (z_832 * z_833), fJ (-1)] rfl rfl rfl (Nat.le_of_ble_eq_true rfl) rfl rfl (fw_rec k_834 rfl g_834_66 rfl (Nat.le_of_ble_eq_true rfl)) (cr_fear (f := fun j => ((f 0 :: 0 :: 0 :: 0 :: f 4 :: 0 :: 0 :: f 7 :: f 8 :: 0 :: f 10 :: f 11 :: f 12 :: f 13 :: f 14 :: f 15 :: f 16 :: f 17 :: 0 :: 0 :: 0 :: 0 :: 0 :: 0 :: f 24 :: 0 :: 0 :: 0 :: 0 :: 0 :: 0 :: 0 :: f 32 :: f 33 :: 0 :: 0 :: f 36 :: 0 :: 0 :: 0 :: 0 :: 0 :: 0 :: []) : List Int).getD j 0) (fr := fr) (ro := ro) (cl := cl) (i := 2) (j := 0) (by omega) (by omega) q3 q4 g_834_66 g_834_83 n83 g_834_86 n86 g_834_87 n87 k_834) ?_
                rintro _ h_835 ⟨z_835, rfl, F_835⟩
                have k_835 : cL h_835 := F_835.1.trans k_834
                have fr_835 := hfr_cb fr_834 F_835 rfl
                have g_835_66 := (hfr_g F_835 66 rfl).trans g_834_66
                have g_835_83 := (hfr_g F_835 83 rfl).trans g_834_83
                have g_835_86 := (hfr_g F_835 86 rfl).trans g_834_86
                have g_835_87 := (hfr_g F_835 87 rfl).trans g_834_87
                refine ik_Wk 0 (pc_q := 124) (loc_q := [some (.ref 66), some (fI sz), some (fI i), some (fI j), some (fJ (-1)), none, some (fI 1), some (fI 2), some (fI 0), some (fI 2)]) (st_q := [fJ z_835, fJ z_834, fJ (z_832 * z_833), fJ (-1)]) (h_q := h_835) (cl_q := 0) (sl_q := 0) rfl ?_
                refine fw_lmul rfl ?_
                refine fw_lsub rfl ?_
                refine fw_lmul rfl ?_
                exact ik_Wret rfl rfl ⟨_, _, rfl, rfl, rfl, rfl, ⟨((-1) * ((z_832 * z_833) - (z_834 * z_835))), rfl, fr_835⟩⟩
        · refine ik_Wk 4 (pc_q := 56) (loc_q := [some (.ref 66), some (fI sz), some (fI i), some (fI j), some (fJ (-1)), none, some (fI 0), none, none, none]) (st_q := [fI 2, fI i]) (h_q := h) (cl_q := 0) (sl_q := 0) rfl ?_
          refine fw_ic_ne rfl rfl (by omega) (by omega) (by omega) (by omega) (fun hc28 => ?_) (fun hc28 => ?_)
          · refine ik_Wk 4 (pc_q := 67) (loc_q := [some (.ref 66), some (fI sz), some (fI i), some (fI j), some (fJ (-1)), none, some (fI 0), some (fI 1), none, none]) (st_q := [fI j]) (h_q := h) (cl_q := 0) (sl_q := 0) rfl ?_
            refine fw_if_ne rfl rfl (by omega) (by omega) (fun hc29 => ?_) (fun hc29 => ?_)
            · refine ik_Wk 5 (pc_q := 79) (loc_q := [some (.ref 66), some (fI sz), some (fI i), some (fI j), some (fJ (-1)), none, some (fI 0), some (fI 1), some (fI 1), none]) (st_q := [fI 2, fI j]) (h_q := h) (cl_q := 0) (sl_q := 0) rfl ?_
              refine fw_ic_ne rfl rfl (by omega) (by omega) (by omega) (by omega) (fun hc30 => ?_) (fun hc30 => ?_)
              · refine ik_Wk 7 (pc_q := 96) (loc_q := [some (.ref 66), some (fI sz), some (fI i), some (fI j), some (fJ (-1)), none, some (fI 0), some (fI 1), some (fI 1), some (fI 1)]) (st_q := [fI 1, fI 0, .ref 66, fJ (-1)]) (h_q := h) (cl_q := 0) (sl_q := 0) rfl ?_
                refine fw_call 174 3 0 [.ref 66, fI 0, fI 1] [fJ (-1)] rfl rfl rfl (Nat.le_of_ble_eq_true rfl) rfl rfl (fw_rec hl rfl h66 rfl (Nat.le_of_ble_eq_true rfl)) (cr_fear (f := fun j => ((f 0 :: 0 :: 0 :: 0 :: f 4 :: 0 :: 0 :: f 7 :: f 8 :: 0 :: f 10 :: f 11 :: f 12 :: f 13 :: f 14 :: f 15 :: f 16 :: f 17 :: 0 :: 0 :: 0 :: 0 :: 0 :: 0 :: f 24 :: 0 :: 0 :: 0 :: 0 :: 0 :: 0 :: 0 :: f 32 :: f 33 :: 0 :: 0 :: f 36 :: 0 :: 0 :: 0 :: 0 :: 0 :: 0 :: []) : List Int).getD j 0) (fr := fr) (ro := ro) (cl := cl) (i := 0) (j := 1) (by omega) (by omega) q3 q4 h66 h83 n83 h86 n86 h87 n87 hl) ?_
                rintro _ h_836 ⟨z_836, rfl, F_836⟩
                have k_836 : cL h_836 := F_836.1.trans hl
                have fr_836 := hfr_cb (hfr_refl [] h) F_836 rfl
                have g_836_66 := (hfr_g F_836 66 rfl).trans h66
                have g_836_83 := (hfr_g F_836 83 rfl).trans h83
                have g_836_86 := (hfr_g F_836 86 rfl).trans h86
                have g_836_87 := (hfr_g F_836 87 rfl).trans h87
                refine ik_Wk 0 (pc_q := 99) (loc_q := [some (.ref 66), some (fI sz), some (fI i), some (fI j), some (fJ (-1)), none, some (fI 0), some (fI 1), some (fI 1), some (fI 1)]) (st_q := [fJ z_836, fJ (-1)]) (h_q := h_836) (cl_q := 0) (sl_q := 0) rfl ?_
                refine ik_Wk 3 (pc_q := 104) (loc_q := [some (.ref 66), some (fI sz), some (fI i), some (fI j), some (fJ (-1)), none, some (fI 0), some (fI 1), some (fI 1), some (fI 1)]) (st_q := [fI 1, fI 1, .ref 66, fJ z_836, fJ (-1)]) (h_q := h_836) (cl_q := 0) (sl_q := 0) rfl ?_
                refine fw_call 174 3 0 [.ref 66, fI 1, fI 1] [fJ z_836, fJ (-1)] rfl rfl rfl (Nat.le_of_ble_eq_true rfl) rfl rfl (fw_rec k_836 rfl g_836_66 rfl (Nat.le_of_ble_eq_true rfl)) (cr_fear (f := fun j => ((f 0 :: 0 :: 0 :: 0 :: f 4 :: 0 :: 0 :: f 7 :: f 8 :: 0 :: f 10 :: f 11 :: f 12 :: f 13 :: f 14 :: f 15 :: f 16 :: f 17 :: 0 :: 0 :: 0 :: 0 :: 0 :: 0 :: f 24 :: 0 :: 0 :: 0 :: 0 :: 0 :: 0 :: 0 :: f 32 :: f 33 :: 0 :: 0 :: f 36 :: 0 :: 0 :: 0 :: 0 :: 0 :: 0 :: []) : List Int).getD j 0) (fr := fr) (ro := ro) (cl := cl) (i := 1) (j := 1) (by omega) (by omega) q3 q4 g_836_66 g_836_83 n83 g_836_86 n86 g_836_87 n87 k_836) ?_
                rintro _ h_837 ⟨z_837, rfl, F_837⟩
                have k_837 : cL h_837 := F_837.1.trans k_836
                have fr_837 := hfr_cb fr_836 F_837 rfl
                have g_837_66 := (hfr_g F_837 66 rfl).trans g_836_66
                have g_837_83 := (hfr_g F_837 83 rfl).trans g_836_83
                have g_837_86 := (hfr_g F_837 86 rfl).trans g_836_86
                have g_837_87 := (hfr_g F_837 87 rfl).trans g_836_87
                refine ik_Wk 0 (pc_q := 107) (loc_q := [some (.ref 66), some (fI sz), some (fI i), some (fI j), some (fJ (-1)), none, some (fI 0), some (fI 1), some (fI 1), some (fI 1)]) (st_q := [fJ z_837, fJ z_836, fJ (-1)]) (h_q := h_837) (cl_q := 0) (sl_q := 0) rfl ?_
                refine fw_lmul rfl ?_
                refine ik_Wk 3 (pc_q := 113) (loc_q := [some (.ref 66), some (fI sz), some (fI i), some (fI j), some (fJ (-1)), none, some (fI 0), some (fI 1), some (fI 1), some (fI 1)]) (st_q := [fI 1, fI 0, .ref 66, fJ (z_836 * z_837), fJ (-1)]) (h_q := h_837) (cl_q := 0) (sl_q := 0) rfl ?_
                refine fw_call 174 3 0 [.ref 66, fI 0, fI 1] [fJ (z_836 * z_837), fJ (-1)] rfl rfl rfl (Nat.le_of_ble_eq_true rfl) rfl rfl (fw_rec k_837 rfl g_837_66 rfl (Nat.le_of_ble_eq_true rfl)) (cr_fear (f := fun j => ((f 0 :: 0 :: 0 :: 0 :: f 4 :: 0 :: 0 :: f 7 :: f 8 :: 0 :: f 10 :: f 11 :: f 12 :: f 13 :: f 14 :: f 15 :: f 16 :: f 17 :: 0 :: 0 :: 0 :: 0 :: 0 :: 0 :: f 24 :: 0 :: 0 :: 0 :: 0 :: 0 :: 0 :: 0 :: f 32 :: f 33 :: 0 :: 0 :: f 36 :: 0 :: 0 :: 0 :: 0 :: 0 :: 0 :: []) : List Int).getD j 0) (fr := fr) (ro := ro) (cl := cl) (i := 0) (j := 1) (by omega) (by omega) q3 q4 g_837_66 g_837_83 n83 g_837_86 n86 g_837_87 n87 k_837) ?_
                rintro _ h_838 ⟨z_838, rfl, F_838⟩
                have k_838 : cL h_838 := F_838.1.trans k_837
                have fr_838 := hfr_cb fr_837 F_838 rfl
                have g_838_66 := (hfr_g F_838 66 rfl).trans g_837_66
                have g_838_83 := (hfr_g F_838 83 rfl).trans g_837_83
                have g_838_86 := (hfr_g F_838 86 rfl).trans g_837_86
                have g_838_87 := (hfr_g F_838 87 rfl).trans g_837_87
                refine ik_Wk 0 (pc_q := 116) (loc_q := [some (.ref 66), some (fI sz), some (fI i), some (fI j), some (fJ (-1)), none, some (fI 0), some (fI 1), some (fI 1), some (fI 1)]) (st_q := [fJ z_838, fJ (z_836 * z_837), fJ (-1)]) (h_q := h_838) (cl_q := 0) (sl_q := 0) rfl ?_
                refine ik_Wk 3 (pc_q := 121) (loc_q := [some (.ref 66), some (fI sz), some (fI i), some (fI j), some (fJ (-1)), none, some (fI 0), some (fI 1), some (fI 1), some (fI 1)]) (st_q := [fI 1, fI 1, .ref 66, fJ z_838, fJ (z_836 * z_837), fJ (-1)]) (h_q := h_838) (cl_q := 0) (sl_q := 0) rfl ?_
                refine fw_call 174 3 0 [.ref 66, fI 1, fI 1] [fJ z_838, fJ (z_836 * z_837), fJ (-1)] rfl rfl rfl (Nat.le_of_ble_eq_true rfl) rfl rfl (fw_rec k_838 rfl g_838_66 rfl (Nat.le_of_ble_eq_true rfl)) (cr_fear (f := fun j => ((f 0 :: 0 :: 0 :: 0 :: f 4 :: 0 :: 0 :: f 7 :: f 8 :: 0 :: f 10 :: f 11 :: f 12 :: f 13 :: f 14 :: f 15 :: f 16 :: f 17 :: 0 :: 0 :: 0 :: 0 :: 0 :: 0 :: f 24 :: 0 :: 0 :: 0 :: 0 :: 0 :: 0 :: 0 :: f 32 :: f 33 :: 0 :: 0 :: f 36 :: 0 :: 0 :: 0 :: 0 :: 0 :: 0 :: []) : List Int).getD j 0) (fr := fr) (ro := ro) (cl := cl) (i := 1) (j := 1) (by omega) (by omega) q3 q4 g_838_66 g_838_83 n83 g_838_86 n86 g_838_87 n87 k_838) ?_
                rintro _ h_839 ⟨z_839, rfl, F_839⟩
                have k_839 : cL h_839 := F_839.1.trans k_838
                have fr_839 := hfr_cb fr_838 F_839 rfl
                have g_839_66 := (hfr_g F_839 66 rfl).trans g_838_66
                have g_839_83 := (hfr_g F_839 83 rfl).trans g_838_83
                have g_839_86 := (hfr_g F_839 86 rfl).trans g_838_86
                have g_839_87 := (hfr_g F_839 87 rfl).trans g_838_87
                refine ik_Wk 0 (pc_q := 124) (loc_q := [some (.ref 66), some (fI sz), some (fI i), some (fI j), some (fJ (-1)), none, some (fI 0), some (fI 1), some (fI 1), some (fI 1)]) (st_q := [fJ z_839, fJ z_838, fJ (z_836 * z_837), fJ (-1)]) (h_q := h_839) (cl_q := 0) (sl_q := 0) rfl ?_
                refine fw_lmul rfl ?_
                refine fw_lsub rfl ?_
                refine fw_lmul rfl ?_
                exact ik_Wret rfl rfl ⟨_, _, rfl, rfl, rfl, rfl, ⟨((-1) * ((z_836 * z_837) - (z_838 * z_839))), rfl, fr_839⟩⟩
              · refine ik_Wk 6 (pc_q := 96) (loc_q := [some (.ref 66), some (fI sz), some (fI i), some (fI j), some (fJ (-1)), none, some (fI 0), some (fI 1), some (fI 1), some (fI 2)]) (st_q := [fI 1, fI 0, .ref 66, fJ (-1)]) (h_q := h) (cl_q := 0) (sl_q := 0) rfl ?_
                refine fw_call 174 3 0 [.ref 66, fI 0, fI 1] [fJ (-1)] rfl rfl rfl (Nat.le_of_ble_eq_true rfl) rfl rfl (fw_rec hl rfl h66 rfl (Nat.le_of_ble_eq_true rfl)) (cr_fear (f := fun j => ((f 0 :: 0 :: 0 :: 0 :: f 4 :: 0 :: 0 :: f 7 :: f 8 :: 0 :: f 10 :: f 11 :: f 12 :: f 13 :: f 14 :: f 15 :: f 16 :: f 17 :: 0 :: 0 :: 0 :: 0 :: 0 :: 0 :: f 24 :: 0 :: 0 :: 0 :: 0 :: 0 :: 0 :: 0 :: f 32 :: f 33 :: 0 :: 0 :: f 36 :: 0 :: 0 :: 0 :: 0 :: 0 :: 0 :: []) : List Int).getD j 0) (fr := fr) (ro := ro) (cl := cl) (i := 0) (j := 1) (by omega) (by omega) q3 q4 h66 h83 n83 h86 n86 h87 n87 hl) ?_
                rintro _ h_840 ⟨z_840, rfl, F_840⟩
                have k_840 : cL h_840 := F_840.1.trans hl
                have fr_840 := hfr_cb (hfr_refl [] h) F_840 rfl
                have g_840_66 := (hfr_g F_840 66 rfl).trans h66
                have g_840_83 := (hfr_g F_840 83 rfl).trans h83
                have g_840_86 := (hfr_g F_840 86 rfl).trans h86
                have g_840_87 := (hfr_g F_840 87 rfl).trans h87
                refine ik_Wk 0 (pc_q := 99) (loc_q := [some (.ref 66), some (fI sz), some (fI i), some (fI j), some (fJ (-1)), none, some (fI 0), some (fI 1), some (fI 1), some (fI 2)]) (st_q := [fJ z_840, fJ (-1)]) (h_q := h_840) (cl_q := 0) (sl_q := 0) rfl ?_
                refine ik_Wk 3 (pc_q := 104) (loc_q := [some (.ref 66), some (fI sz), some (fI i), some (fI j), some (fJ (-1)), none, some (fI 0), some (fI 1), some (fI 1), some (fI 2)]) (st_q := [fI 2, fI 1, .ref 66, fJ z_840, fJ (-1)]) (h_q := h_840) (cl_q := 0) (sl_q := 0) rfl ?_
                refine fw_call 174 3 0 [.ref 66, fI 1, fI 2] [fJ z_840, fJ (-1)] rfl rfl rfl (Nat.le_of_ble_eq_true rfl) rfl rfl (fw_rec k_840 rfl g_840_66 rfl (Nat.le_of_ble_eq_true rfl)) (cr_fear (f := fun j => ((f 0 :: 0 :: 0 :: 0 :: f 4 :: 0 :: 0 :: f 7 :: f 8 :: 0 :: f 10 :: f 11 :: f 12 :: f 13 :: f 14 :: f 15 :: f 16 :: f 17 :: 0 :: 0 :: 0 :: 0 :: 0 :: 0 :: f 24 :: 0 :: 0 :: 0 :: 0 :: 0 :: 0 :: 0 :: f 32 :: f 33 :: 0 :: 0 :: f 36 :: 0 :: 0 :: 0 :: 0 :: 0 :: 0 :: []) : List Int).getD j 0) (fr := fr) (ro := ro) (cl := cl) (i := 1) (j := 2) (by omega) (by omega) q3 q4 g_840_66 g_840_83 n83 g_840_86 n86 g_840_87 n87 k_840) ?_
                rintro _ h_841 ⟨z_841, rfl, F_841⟩
                have k_841 : cL h_841 := F_841.1.trans k_840
                have fr_841 := hfr_cb fr_840 F_841 rfl
                have g_841_66 := (hfr_g F_841 66 rfl).trans g_840_66
                have g_841_83 := (hfr_g F_841 83 rfl).trans g_840_83
                have g_841_86 := (hfr_g F_841 86 rfl).trans g_840_86
                have g_841_87 := (hfr_g F_841 87 rfl).trans g_840_87
                refine ik_Wk 0 (pc_q := 107) (loc_q := [some (.ref 66), some (fI sz), some (fI i), some (fI j), some (fJ (-1)), none, some (fI 0), some (fI 1), some (fI 1), some (fI 2)]) (st_q := [fJ z_841, fJ z_840, fJ (-1)]) (h_q := h_841) (cl_q := 0) (sl_q := 0) rfl ?_
                refine fw_lmul rfl ?_
                refine ik_Wk 3 (pc_q := 113) (loc_q := [some (.ref 66), some (fI sz), some (fI i), some (fI j), some (fJ (-1)), none, some (fI 0), some (fI 1), some (fI 1), some (fI 2)]) (st_q := [fI 2, fI 0, .ref 66, fJ (z_840 * z_841), fJ (-1)]) (h_q := h_841) (cl_q := 0) (sl_q := 0) rfl ?_
                refine fw_call 174 3 0 [.ref 66, fI 0, fI 2] [fJ (z_840 * z_841), fJ (-1)] rfl rfl rfl (Nat.le_of_ble_eq_true rfl) rfl rfl (fw_rec k_841 rfl g_841_66 rfl (Nat.le_of_ble_eq_true rfl)) (cr_fear (f := fun j => ((f 0 :: 0 :: 0 :: 0 :: f 4 :: 0 :: 0 :: f 7 :: f 8 :: 0 :: f 10 :: f 11 :: f 12 :: f 13 :: f 14 :: f 15 :: f 16 :: f 17 :: 0 :: 0 :: 0 :: 0 :: 0 :: 0 :: f 24 :: 0 :: 0 :: 0 :: 0 :: 0 :: 0 :: 0 :: f 32 :: f 33 :: 0 :: 0 :: f 36 :: 0 :: 0 :: 0 :: 0 :: 0 :: 0 :: []) : List Int).getD j 0) (fr := fr) (ro := ro) (cl := cl) (i := 0) (j := 2) (by omega) (by omega) q3 q4 g_841_66 g_841_83 n83 g_841_86 n86 g_841_87 n87 k_841) ?_
                rintro _ h_842 ⟨z_842, rfl, F_842⟩
                have k_842 : cL h_842 := F_842.1.trans k_841
                have fr_842 := hfr_cb fr_841 F_842 rfl
                have g_842_66 := (hfr_g F_842 66 rfl).trans g_841_66
                have g_842_83 := (hfr_g F_842 83 rfl).trans g_841_83
                have g_842_86 := (hfr_g F_842 86 rfl).trans g_841_86
                have g_842_87 := (hfr_g F_842 87 rfl).trans g_841_87
                refine ik_Wk 0 (pc_q := 116) (loc_q := [some (.ref 66), some (fI sz), some (fI i), some (fI j), some (fJ (-1)), none, some (fI 0), some (fI 1), some (fI 1), some (fI 2)]) (st_q := [fJ z_842, fJ (z_840 * z_841), fJ (-1)]) (h_q := h_842) (cl_q := 0) (sl_q := 0) rfl ?_
                refine ik_Wk 3 (pc_q := 121) (loc_q := [some (.ref 66), some (fI sz), some (fI i), some (fI j), some (fJ (-1)), none, some (fI 0), some (fI 1), some (fI 1), some (fI 2)]) (st_q := [fI 1, fI 1, .ref 66, fJ z_842, fJ (z_840 * z_841), fJ (-1)]) (h_q := h_842) (cl_q := 0) (sl_q := 0) rfl ?_
                refine fw_call 174 3 0 [.ref 66, fI 1, fI 1] [fJ z_842, fJ (z_840 * z_841), fJ (-1)] rfl rfl rfl (Nat.le_of_ble_eq_true rfl) rfl rfl (fw_rec k_842 rfl g_842_66 rfl (Nat.le_of_ble_eq_true rfl)) (cr_fear (f := fun j => ((f 0 :: 0 :: 0 :: 0 :: f 4 :: 0 :: 0 :: f 7 :: f 8 :: 0 :: f 10 :: f 11 :: f 12 :: f 13 :: f 14 :: f 15 :: f 16 :: f 17 :: 0 :: 0 :: 0 :: 0 :: 0 :: 0 :: f 24 :: 0 :: 0 :: 0 :: 0 :: 0 :: 0 :: 0 :: f 32 :: f 33 :: 0 :: 0 :: f 36 :: 0 :: 0 :: 0 :: 0 :: 0 :: 0 :: []) : List Int).getD j 0) (fr := fr) (ro := ro) (cl := cl) (i := 1) (j := 1) (by omega) (by omega) q3 q4 g_842_66 g_842_83 n83 g_842_86 n86 g_842_87 n87 k_842) ?_
                rintro _ h_843 ⟨z_843, rfl, F_843⟩
                have k_843 : cL h_843 := F_843.1.trans k_842
                have fr_843 := hfr_cb fr_842 F_843 rfl
                have g_843_66 := (hfr_g F_843 66 rfl).trans g_842_66
                have g_843_83 := (hfr_g F_843 83 rfl).trans g_842_83
                have g_843_86 := (hfr_g F_843 86 rfl).trans g_842_86
                have g_843_87 := (hfr_g F_843 87 rfl).trans g_842_87
                refine ik_Wk 0 (pc_q := 124) (loc_q := [some (.ref 66), some (fI sz), some (fI i), some (fI j), some (fJ (-1)), none, some (fI 0), some (fI 1), some (fI 1), some (fI 2)]) (st_q := [fJ z_843, fJ z_842, fJ (z_840 * z_841), fJ (-1)]) (h_q := h_843) (cl_q := 0) (sl_q := 0) rfl ?_
                refine fw_lmul rfl ?_
                refine fw_lsub rfl ?_
                refine fw_lmul rfl ?_
                exact ik_Wret rfl rfl ⟨_, _, rfl, rfl, rfl, rfl, ⟨((-1) * ((z_840 * z_841) - (z_842 * z_843))), rfl, fr_843⟩⟩
            · refine ik_Wk 4 (pc_q := 79) (loc_q := [some (.ref 66), some (fI sz), some (fI i), some (fI j), some (fJ (-1)), none, some (fI 0), some (fI 1), some (fI 0), none]) (st_q := [fI 2, fI j]) (h_q := h) (cl_q := 0) (sl_q := 0) rfl ?_
              refine fw_ic_ne rfl rfl (by omega) (by omega) (by omega) (by omega) (fun hc31 => ?_) (fun hc31 => ?_)
              · refine ik_Wk 7 (pc_q := 96) (loc_q := [some (.ref 66), some (fI sz), some (fI i), some (fI j), some (fJ (-1)), none, some (fI 0), some (fI 1), some (fI 0), some (fI 1)]) (st_q := [fI 0, fI 0, .ref 66, fJ (-1)]) (h_q := h) (cl_q := 0) (sl_q := 0) rfl ?_
                refine fw_call 174 3 0 [.ref 66, fI 0, fI 0] [fJ (-1)] rfl rfl rfl (Nat.le_of_ble_eq_true rfl) rfl rfl (fw_rec hl rfl h66 rfl (Nat.le_of_ble_eq_true rfl)) (cr_fear (f := fun j => ((f 0 :: 0 :: 0 :: 0 :: f 4 :: 0 :: 0 :: f 7 :: f 8 :: 0 :: f 10 :: f 11 :: f 12 :: f 13 :: f 14 :: f 15 :: f 16 :: f 17 :: 0 :: 0 :: 0 :: 0 :: 0 :: 0 :: f 24 :: 0 :: 0 :: 0 :: 0 :: 0 :: 0 :: 0 :: f 32 :: f 33 :: 0 :: 0 :: f 36 :: 0 :: 0 :: 0 :: 0 :: 0 :: 0 :: []) : List Int).getD j 0) (fr := fr) (ro := ro) (cl := cl) (i := 0) (j := 0) (by omega) (by omega) q3 q4 h66 h83 n83 h86 n86 h87 n87 hl) ?_
                rintro _ h_844 ⟨z_844, rfl, F_844⟩
                have k_844 : cL h_844 := F_844.1.trans hl
                have fr_844 := hfr_cb (hfr_refl [] h) F_844 rfl
                have g_844_66 := (hfr_g F_844 66 rfl).trans h66
                have g_844_83 := (hfr_g F_844 83 rfl).trans h83
                have g_844_86 := (hfr_g F_844 86 rfl).trans h86
                have g_844_87 := (hfr_g F_844 87 rfl).trans h87
                refine ik_Wk 0 (pc_q := 99) (loc_q := [some (.ref 66), some (fI sz), some (fI i), some (fI j), some (fJ (-1)), none, some (fI 0), some (fI 1), some (fI 0), some (fI 1)]) (st_q := [fJ z_844, fJ (-1)]) (h_q := h_844) (cl_q := 0) (sl_q := 0) rfl ?_
                refine ik_Wk 3 (pc_q := 104) (loc_q := [some (.ref 66), some (fI sz), some (fI i), some (fI j), some (fJ (-1)), none, some (fI 0), some (fI 1), some (fI 0), some (fI 1)]) (st_q := [fI 1, fI 1, .ref 66, fJ z_844, fJ (-1)]) (h_q := h_844) (cl_q := 0) (sl_q := 0) rfl ?_
                refine fw_call 174 3 0 [.ref 66, fI 1, fI 1] [fJ z_844, fJ (-1)] rfl rfl rfl (Nat.le_of_ble_eq_true rfl) rfl rfl (fw_rec k_844 rfl g_844_66 rfl (Nat.le_of_ble_eq_true rfl)) (cr_fear (f := fun j => ((f 0 :: 0 :: 0 :: 0 :: f 4 :: 0 :: 0 :: f 7 :: f 8 :: 0 :: f 10 :: f 11 :: f 12 :: f 13 :: f 14 :: f 15 :: f 16 :: f 17 :: 0 :: 0 :: 0 :: 0 :: 0 :: 0 :: f 24 :: 0 :: 0 :: 0 :: 0 :: 0 :: 0 :: 0 :: f 32 :: f 33 :: 0 :: 0 :: f 36 :: 0 :: 0 :: 0 :: 0 :: 0 :: 0 :: []) : List Int).getD j 0) (fr := fr) (ro := ro) (cl := cl) (i := 1) (j := 1) (by omega) (by omega) q3 q4 g_844_66 g_844_83 n83 g_844_86 n86 g_844_87 n87 k_844) ?_
                rintro _ h_845 ⟨z_845, rfl, F_845⟩
                have k_845 : cL h_845 := F_845.1.trans k_844
                have fr_845 := hfr_cb fr_844 F_845 rfl
                have g_845_66 := (hfr_g F_845 66 rfl).trans g_844_66
                have g_845_83 := (hfr_g F_845 83 rfl).trans g_844_83
                have g_845_86 := (hfr_g F_845 86 rfl).trans g_844_86
                have g_845_87 := (hfr_g F_845 87 rfl).trans g_844_87
                refine ik_Wk 0 (pc_q := 107) (loc_q := [some (.ref 66), some (fI sz), some (fI i), some (fI j), some (fJ (-1)), none, some (fI 0), some (fI 1), some (fI 0), some (fI 1)]) (st_q := [fJ z_845, fJ z_844, fJ (-1)]) (h_q := h_845) (cl_q := 0) (sl_q := 0) rfl ?_
                refine fw_lmul rfl ?_
                refine ik_Wk 3 (pc_q := 113) (loc_q := [some (.ref 66), some (fI sz), some (fI i), some (fI j), some (fJ (-1)), none, some (fI 0), some (fI 1), some (fI 0), some (fI 1)]) (st_q := [fI 1, fI 0, .ref 66, fJ (z_844 * z_845), fJ (-1)]) (h_q := h_845) (cl_q := 0) (sl_q := 0) rfl ?_
                refine fw_call 174 3 0 [.ref 66, fI 0, fI 1] [fJ (z_844 * z_845), fJ (-1)] rfl rfl rfl (Nat.le_of_ble_eq_true rfl) rfl rfl (fw_rec k_845 rfl g_845_66 rfl (Nat.le_of_ble_eq_true rfl)) (cr_fear (f := fun j => ((f 0 :: 0 :: 0 :: 0 :: f 4 :: 0 :: 0 :: f 7 :: f 8 :: 0 :: f 10 :: f 11 :: f 12 :: f 13 :: f 14 :: f 15 :: f 16 :: f 17 :: 0 :: 0 :: 0 :: 0 :: 0 :: 0 :: f 24 :: 0 :: 0 :: 0 :: 0 :: 0 :: 0 :: 0 :: f 32 :: f 33 :: 0 :: 0 :: f 36 :: 0 :: 0 :: 0 :: 0 :: 0 :: 0 :: []) : List Int).getD j 0) (fr := fr) (ro := ro) (cl := cl) (i := 0) (j := 1) (by omega) (by omega) q3 q4 g_845_66 g_845_83 n83 g_845_86 n86 g_845_87 n87 k_845) ?_
                rintro _ h_846 ⟨z_846, rfl, F_846⟩
                have k_846 : cL h_846 := F_846.1.trans k_845
                have fr_846 := hfr_cb fr_845 F_846 rfl
                have g_846_66 := (hfr_g F_846 66 rfl).trans g_845_66
                have g_846_83 := (hfr_g F_846 83 rfl).trans g_845_83
                have g_846_86 := (hfr_g F_846 86 rfl).trans g_845_86
                have g_846_87 := (hfr_g F_846 87 rfl).trans g_845_87
                refine ik_Wk 0 (pc_q := 116) (loc_q := [some (.ref 66), some (fI sz), some (fI i), some (fI j), some (fJ (-1)), none, some (fI 0), some (fI 1), some (fI 0), some (fI 1)]) (st_q := [fJ z_846, fJ (z_844 * z_845), fJ (-1)]) (h_q := h_846) (cl_q := 0) (sl_q := 0) rfl ?_
                refine ik_Wk 3 (pc_q := 121) (loc_q := [some (.ref 66), some (fI sz), some (fI i), some (fI j), some (fJ (-1)), none, some (fI 0), some (fI 1), some (fI 0), some (fI 1)]) (st_q := [fI 0, fI 1, .ref 66, fJ z_846, fJ (z_844 * z_845), fJ (-1)]) (h_q := h_846) (cl_q := 0) (sl_q := 0) rfl ?_
                refine fw_call 174 3 0 [.ref 66, fI 1, fI 0] [fJ z_846, fJ (z_844 * z_845), fJ (-1)] rfl rfl rfl (Nat.le_of_ble_eq_true rfl) rfl rfl (fw_rec k_846 rfl g_846_66 rfl (Nat.le_of_ble_eq_true rfl)) (cr_fear (f := fun j => ((f 0 :: 0 :: 0 :: 0 :: f 4 :: 0 :: 0 :: f 7 :: f 8 :: 0 :: f 10 :: f 11 :: f 12 :: f 13 :: f 14 :: f 15 :: f 16 :: f 17 :: 0 :: 0 :: 0 :: 0 :: 0 :: 0 :: f 24 :: 0 :: 0 :: 0 :: 0 :: 0 :: 0 :: 0 :: f 32 :: f 33 :: 0 :: 0 :: f 36 :: 0 :: 0 :: 0 :: 0 :: 0 :: 0 :: []) : List Int).getD j 0) (fr := fr) (ro := ro) (cl := cl) (i := 1) (j := 0) (by omega) (by omega) q3 q4 g_846_66 g_846_83 n83 g_846_86 n86 g_846_87 n87 k_846) ?_
                rintro _ h_847 ⟨z_847, rfl, F_847⟩
                have k_847 : cL h_847 := F_847.1.trans k_846
                have fr_847 := hfr_cb fr_846 F_847 rfl
                have g_847_66 := (hfr_g F_847 66 rfl).trans g_846_66
                have g_847_83 := (hfr_g F_847 83 rfl).trans g_846_83
                have g_847_86 := (hfr_g F_847 86 rfl).trans g_846_86
                have g_847_87 := (hfr_g F_847 87 rfl).trans g_846_87
                refine ik_Wk 0 (pc_q := 124) (loc_q := [some (.ref 66), some (fI sz), some (fI i), some (fI j), some (fJ (-1)), none, some (fI 0), some (fI 1), some (fI 0), some (fI 1)]) (st_q := [fJ z_847, fJ z_846, fJ (z_844 * z_845), fJ (-1)]) (h_q := h_847) (cl_q := 0) (sl_q := 0) rfl ?_
                refine fw_lmul rfl ?_
                refine fw_lsub rfl ?_
                refine fw_lmul rfl ?_
                exact ik_Wret rfl rfl ⟨_, _, rfl, rfl, rfl, rfl, ⟨((-1) * ((z_844 * z_845) - (z_846 * z_847))), rfl, fr_847⟩⟩
              · refine ik_Wk 6 (pc_q := 96) (loc_q := [some (.ref 66), some (fI sz), some (fI i), some (fI j), some (fJ (-1)), none, some (fI 0), some (fI 1), some (fI 0), some (fI 2)]) (st_q := [fI 0, fI 0, .ref 66, fJ (-1)]) (h_q := h) (cl_q := 0) (sl_q := 0) rfl ?_
                refine fw_call 174 3 0 [.ref 66, fI 0, fI 0] [fJ (-1)] rfl rfl rfl (Nat.le_of_ble_eq_true rfl) rfl rfl (fw_rec hl rfl h66 rfl (Nat.le_of_ble_eq_true rfl)) (cr_fear (f := fun j => ((f 0 :: 0 :: 0 :: 0 :: f 4 :: 0 :: 0 :: f 7 :: f 8 :: 0 :: f 10 :: f 11 :: f 12 :: f 13 :: f 14 :: f 15 :: f 16 :: f 17 :: 0 :: 0 :: 0 :: 0 :: 0 :: 0 :: f 24 :: 0 :: 0 :: 0 :: 0 :: 0 :: 0 :: 0 :: f 32 :: f 33 :: 0 :: 0 :: f 36 :: 0 :: 0 :: 0 :: 0 :: 0 :: 0 :: []) : List Int).getD j 0) (fr := fr) (ro := ro) (cl := cl) (i := 0) (j := 0) (by omega) (by omega) q3 q4 h66 h83 n83 h86 n86 h87 n87 hl) ?_
                rintro _ h_848 ⟨z_848, rfl, F_848⟩
                have k_848 : cL h_848 := F_848.1.trans hl
                have fr_848 := hfr_cb (hfr_refl [] h) F_848 rfl
                have g_848_66 := (hfr_g F_848 66 rfl).trans h66
                have g_848_83 := (hfr_g F_848 83 rfl).trans h83
                have g_848_86 := (hfr_g F_848 86 rfl).trans h86
                have g_848_87 := (hfr_g F_848 87 rfl).trans h87
                refine ik_Wk 0 (pc_q := 99) (loc_q := [some (.ref 66), some (fI sz), some (fI i), some (fI j), some (fJ (-1)), none, some (fI 0), some (fI 1), some (fI 0), some (fI 2)]) (st_q := [fJ z_848, fJ (-1)]) (h_q := h_848) (cl_q := 0) (sl_q := 0) rfl ?_
                refine ik_Wk 3 (pc_q := 104) (loc_q := [some (.ref 66), some (fI sz), some (fI i), some (fI j), some (fJ (-1)), none, some (fI 0), some (fI 1), some (fI 0), some (fI 2)]) (st_q := [fI 2, fI 1, .ref 66, fJ z_848, fJ (-1)]) (h_q := h_848) (cl_q := 0) (sl_q := 0) rfl ?_
                refine fw_call 174 3 0 [.ref 66, fI 1, fI 2] [fJ z_848, fJ (-1)] rfl rfl rfl (Nat.le_of_ble_eq_true rfl) rfl rfl (fw_rec k_848 rfl g_848_66 rfl (Nat.le_of_ble_eq_true rfl)) (cr_fear (f := fun j => ((f 0 :: 0 :: 0 :: 0 :: f 4 :: 0 :: 0 :: f 7 :: f 8 :: 0 :: f 10 :: f 11 :: f 12 :: f 13 :: f 14 :: f 15 :: f 16 :: f 17 :: 0 :: 0 :: 0 :: 0 :: 0 :: 0 :: f 24 :: 0 :: 0 :: 0 :: 0 :: 0 :: 0 :: 0 :: f 32 :: f 33 :: 0 :: 0 :: f 36 :: 0 :: 0 :: 0 :: 0 :: 0 :: 0 :: []) : List Int).getD j 0) (fr := fr) (ro := ro) (cl := cl) (i := 1) (j := 2) (by omega) (by omega) q3 q4 g_848_66 g_848_83 n83 g_848_86 n86 g_848_87 n87 k_848) ?_
                rintro _ h_849 ⟨z_849, rfl, F_849⟩
                have k_849 : cL h_849 := F_849.1.trans k_848
                have fr_849 := hfr_cb fr_848 F_849 rfl
                have g_849_66 := (hfr_g F_849 66 rfl).trans g_848_66
                have g_849_83 := (hfr_g F_849 83 rfl).trans g_848_83
                have g_849_86 := (hfr_g F_849 86 rfl).trans g_848_86
                have g_849_87 := (hfr_g F_849 87 rfl).trans g_848_87
                refine ik_Wk 0 (pc_q := 107) (loc_q := [some (.ref 66), some (fI sz), some (fI i), some (fI j), some (fJ (-1)), none, some (fI 0), some (fI 1), some (fI 0), some (fI 2)]) (st_q := [fJ z_849, fJ z_848, fJ (-1)]) (h_q := h_849) (cl_q := 0) (sl_q := 0) rfl ?_
                refine fw_lmul rfl ?_
                refine ik_Wk 3 (pc_q := 113) (loc_q := [some (.ref 66), some (fI sz), some (fI i), some (fI j), some (fJ (-1)), none, some (fI 0), some (fI 1), some (fI 0), some (fI 2)]) (st_q := [fI 2, fI 0, .ref 66, fJ (z_848 * z_849), fJ (-1)]) (h_q := h_849) (cl_q := 0) (sl_q := 0) rfl ?_
                refine fw_call 174 3 0 [.ref 66, fI 0, fI 2] [fJ (z_848 * z_849), fJ (-1)] rfl rfl rfl (Nat.le_of_ble_eq_true rfl) rfl rfl (fw_rec k_849 rfl g_849_66 rfl (Nat.le_of_ble_eq_true rfl)) (cr_fear (f := fun j => ((f 0 :: 0 :: 0 :: 0 :: f 4 :: 0 :: 0 :: f 7 :: f 8 :: 0 :: f 10 :: f 11 :: f 12 :: f 13 :: f 14 :: f 15 :: f 16 :: f 17 :: 0 :: 0 :: 0 :: 0 :: 0 :: 0 :: f 24 :: 0 :: 0 :: 0 :: 0 :: 0 :: 0 :: 0 :: f 32 :: f 33 :: 0 :: 0 :: f 36 :: 0 :: 0 :: 0 :: 0 :: 0 :: 0 :: []) : List Int).getD j 0) (fr := fr) (ro := ro) (cl := cl) (i := 0) (j := 2) (by omega) (by omega) q3 q4 g_849_66 g_849_83 n83 g_849_86 n86 g_849_87 n87 k_849) ?_
                rintro _ h_850 ⟨z_850, rfl, F_850⟩
                have k_850 : cL h_850 := F_850.1.trans k_849
                have fr_850 := hfr_cb fr_849 F_850 rfl
                have g_850_66 := (hfr_g F_850 66 rfl).trans g_849_66
                have g_850_83 := (hfr_g F_850 83 rfl).trans g_849_83
                have g_850_86 := (hfr_g F_850 86 rfl).trans g_849_86
                have g_850_87 := (hfr_g F_850 87 rfl).trans g_849_87
                refine ik_Wk 0 (pc_q := 116) (loc_q := [some (.ref 66), some (fI sz), some (fI i), some (fI j), some (fJ (-1)), none, some (fI 0), some (fI 1), some (fI 0), some (fI 2)]) (st_q := [fJ z_850, fJ (z_848 * z_849), fJ (-1)]) (h_q := h_850) (cl_q := 0) (sl_q := 0) rfl ?_
                refine ik_Wk 3 (pc_q := 121) (loc_q := [some (.ref 66), some (fI sz), some (fI i), some (fI j), some (fJ (-1)), none, some (fI 0), some (fI 1), some (fI 0), some (fI 2)]) (st_q := [fI 0, fI 1, .ref 66, fJ z_850, fJ (z_848 * z_849), fJ (-1)]) (h_q := h_850) (cl_q := 0) (sl_q := 0) rfl ?_
                refine fw_call 174 3 0 [.ref 66, fI 1, fI 0] [fJ z_850, fJ (z_848 * z_849), fJ (-1)] rfl rfl rfl (Nat.le_of_ble_eq_true rfl) rfl rfl (fw_rec k_850 rfl g_850_66 rfl (Nat.le_of_ble_eq_true rfl)) (cr_fear (f := fun j => ((f 0 :: 0 :: 0 :: 0 :: f 4 :: 0 :: 0 :: f 7 :: f 8 :: 0 :: f 10 :: f 11 :: f 12 :: f 13 :: f 14 :: f 15 :: f 16 :: f 17 :: 0 :: 0 :: 0 :: 0 :: 0 :: 0 :: f 24 :: 0 :: 0 :: 0 :: 0 :: 0 :: 0 :: 0 :: f 32 :: f 33 :: 0 :: 0 :: f 36 :: 0 :: 0 :: 0 :: 0 :: 0 :: 0 :: []) : List Int).getD j 0) (fr := fr) (ro := ro) (cl := cl) (i := 1) (j := 0) (by omega) (by omega) q3 q4 g_850_66 g_850_83 n83 g_850_86 n86 g_850_87 n87 k_850) ?_
                rintro _ h_851 ⟨z_851, rfl, F_851⟩
                have k_851 : cL h_851 := F_851.1.trans k_850
                have fr_851 := hfr_cb fr_850 F_851 rfl
                have g_851_66 := (hfr_g F_851 66 rfl).trans g_850_66
                have g_851_83 := (hfr_g F_851 83 rfl).trans g_850_83
                have g_851_86 := (hfr_g F_851 86 rfl).trans g_850_86
                have g_851_87 := (hfr_g F_851 87 rfl).trans g_850_87
                refine ik_Wk 0 (pc_q := 124) (loc_q := [some (.ref 66), some (fI sz), some (fI i), some (fI j), some (fJ (-1)), none, some (fI 0), some (fI 1), some (fI 0), some (fI 2)]) (st_q := [fJ z_851, fJ z_850, fJ (z_848 * z_849), fJ (-1)]) (h_q := h_851) (cl_q := 0) (sl_q := 0) rfl ?_
                refine fw_lmul rfl ?_
                refine fw_lsub rfl ?_
                refine fw_lmul rfl ?_
                exact ik_Wret rfl rfl ⟨_, _, rfl, rfl, rfl, rfl, ⟨((-1) * ((z_848 * z_849) - (z_850 * z_851))), rfl, fr_851⟩⟩
          · refine ik_Wk 3 (pc_q := 67) (loc_q := [some (.ref 66), some (fI sz), some (fI i), some (fI j), some (fJ (-1)), none, some (fI 0), some (fI 2), none, none]) (st_q := [fI j]) (h_q := h) (cl_q := 0) (sl_q := 0) rfl ?_
            refine fw_if_ne rfl rfl (by omega) (by omega) (fun hc32 => ?_) (fun hc32 => ?_)
            · refine ik_Wk 5 (pc_q := 79) (loc_q := [some (.ref 66), some (fI sz), some (fI i), some (fI j), some (fJ (-1)), none, some (fI 0), some (fI 2), some (fI 1), none]) (st_q := [fI 2, fI j]) (h_q := h) (cl_q := 0) (sl_q := 0) rfl ?_
              refine fw_ic_ne rfl rfl (by omega) (by omega) (by omega) (by omega) (fun hc33 => ?_) (fun hc33 => ?_)
              · refine ik_Wk 7 (pc_q := 96) (loc_q := [some (.ref 66), some (fI sz), some (fI i), some (fI j), some (fJ (-1)), none, some (fI 0), some (fI 2), some (fI 1), some (fI 1)]) (st_q := [fI 1, fI 0, .ref 66, fJ (-1)]) (h_q := h) (cl_q := 0) (sl_q := 0) rfl ?_
                refine fw_call 174 3 0 [.ref 66, fI 0, fI 1] [fJ (-1)] rfl rfl rfl (Nat.le_of_ble_eq_true rfl) rfl rfl (fw_rec hl rfl h66 rfl (Nat.le_of_ble_eq_true rfl)) (cr_fear (f := fun j => ((f 0 :: 0 :: 0 :: 0 :: f 4 :: 0 :: 0 :: f 7 :: f 8 :: 0 :: f 10 :: f 11 :: f 12 :: f 13 :: f 14 :: f 15 :: f 16 :: f 17 :: 0 :: 0 :: 0 :: 0 :: 0 :: 0 :: f 24 :: 0 :: 0 :: 0 :: 0 :: 0 :: 0 :: 0 :: f 32 :: f 33 :: 0 :: 0 :: f 36 :: 0 :: 0 :: 0 :: 0 :: 0 :: 0 :: []) : List Int).getD j 0) (fr := fr) (ro := ro) (cl := cl) (i := 0) (j := 1) (by omega) (by omega) q3 q4 h66 h83 n83 h86 n86 h87 n87 hl) ?_
                rintro _ h_852 ⟨z_852, rfl, F_852⟩
                have k_852 : cL h_852 := F_852.1.trans hl
                have fr_852 := hfr_cb (hfr_refl [] h) F_852 rfl
                have g_852_66 := (hfr_g F_852 66 rfl).trans h66
                have g_852_83 := (hfr_g F_852 83 rfl).trans h83
                have g_852_86 := (hfr_g F_852 86 rfl).trans h86
                have g_852_87 := (hfr_g F_852 87 rfl).trans h87
                refine ik_Wk 0 (pc_q := 99) (loc_q := [some (.ref 66), some (fI sz), some (fI i), some (fI j), some (fJ (-1)), none, some (fI 0), some (fI 2), some (fI 1), some (fI 1)]) (st_q := [fJ z_852, fJ (-1)]) (h_q := h_852) (cl_q := 0) (sl_q := 0) rfl ?_
                refine ik_Wk 3 (pc_q := 104) (loc_q := [some (.ref 66), some (fI sz), some (fI i), some (fI j), some (fJ (-1)), none, some (fI 0), some (fI 2), some (fI 1), some (fI 1)]) (st_q := [fI 1, fI 2, .ref 66, fJ z_852, fJ (-1)]) (h_q := h_852) (cl_q := 0) (sl_q := 0) rfl ?_
                refine fw_call 174 3 0 [.ref 66, fI 2, fI 1] [fJ z_852, fJ (-1)] rfl rfl rfl (Nat.le_of_ble_eq_true rfl) rfl rfl (fw_rec k_852 rfl g_852_66 rfl (Nat.le_of_ble_eq_true rfl)) (cr_fear (f := fun j => ((f 0 :: 0 :: 0 :: 0 :: f 4 :: 0 :: 0 :: f 7 :: f 8 :: 0 :: f 10 :: f 11 :: f 12 :: f 13 :: f 14 :: f 15 :: f 16 :: f 17 :: 0 :: 0 :: 0 :: 0 :: 0 :: 0 :: f 24 :: 0 :: 0 :: 0 :: 0 :: 0 :: 0 :: 0 :: f 32 :: f 33 :: 0 :: 0 :: f 36 :: 0 :: 0 :: 0 :: 0 :: 0 :: 0 :: []) : List Int).getD j 0) (fr := fr) (ro := ro) (cl := cl) (i := 2) (j := 1) (by omega) (by omega) q3 q4 g_852_66 g_852_83 n83 g_852_86 n86 g_852_87 n87 k_852) ?_
                rintro _ h_853 ⟨z_853, rfl, F_853⟩
                have k_853 : cL h_853 := F_853.1.trans k_852
                have fr_853 := hfr_cb fr_852 F_853 rfl
                have g_853_66 := (hfr_g F_853 66 rfl).trans g_852_66
                have g_853_83 := (hfr_g F_853 83 rfl).trans g_852_83
                have g_853_86 := (hfr_g F_853 86 rfl).trans g_852_86
                have g_853_87 := (hfr_g F_853 87 rfl).trans g_852_87
                refine ik_Wk 0 (pc_q := 107) (loc_q := [some (.ref 66), some (fI sz), some (fI i), some (fI j), some (fJ (-1)), none, some (fI 0), some (fI 2), some (fI 1), some (fI 1)]) (st_q := [fJ z_853, fJ z_852, fJ (-1)]) (h_q := h_853) (cl_q := 0) (sl_q := 0) rfl ?_
                refine fw_lmul rfl ?_
                refine ik_Wk 3 (pc_q := 113) (loc_q := [some (.ref 66), some (fI sz), some (fI i), some (fI j), some (fJ (-1)), none, some (fI 0), some (fI 2), some (fI 1), some (fI 1)]) (st_q := [fI 1, fI 0, .ref 66, fJ (z_852 * z_853), fJ (-1)]) (h_q := h_853) (cl_q := 0) (sl_q := 0) rfl ?_
                refine fw_call 174 3 0 [.ref 66, fI 0, fI 1] [fJ (z_852 * z_853), fJ (-1)] rfl rfl rfl (Nat.le_of_ble_eq_true rfl) rfl rfl (fw_rec k_853 rfl g_853_66 rfl (Nat.le_of_ble_eq_true rfl)) (cr_fear (f := fun j => ((f 0 :: 0 :: 0 :: 0 :: f 4 :: 0 :: 0 :: f 7 :: f 8 :: 0 :: f 10 :: f 11 :: f 12 :: f 13 :: f 14 :: f 15 :: f 16 :: f 17 :: 0 :: 0 :: 0 :: 0 :: 0 :: 0 :: f 24 :: 0 :: 0 :: 0 :: 0 :: 0 :: 0 :: 0 :: f 32 :: f 33 :: 0 :: 0 :: f 36 :: 0 :: 0 :: 0 :: 0 :: 0 :: 0 :: []) : List Int).getD j 0) (fr := fr) (ro := ro) (cl := cl) (i := 0) (j := 1) (by omega) (by omega) q3 q4 g_853_66 g_853_83 n83 g_853_86 n86 g_853_87 n87 k_853) ?_
                rintro _ h_854 ⟨z_854, rfl, F_854⟩
                have k_854 : cL h_854 := F_854.1.trans k_853
                have fr_854 := hfr_cb fr_853 F_854 rfl
                have g_854_66 := (hfr_g F_854 66 rfl).trans g_853_66
                have g_854_83 := (hfr_g F_854 83 rfl).trans g_853_83
                have g_854_86 := (hfr_g F_854 86 rfl).trans g_853_86
                have g_854_87 := (hfr_g F_854 87 rfl).trans g_853_87
                refine ik_Wk 0 (pc_q := 116) (loc_q := [some (.ref 66), some (fI sz), some (fI i), some (fI j), some (fJ (-1)), none, some (fI 0), some (fI 2), some (fI 1), some (fI 1)]) (st_q := [fJ z_854, fJ (z_852 * z_853), fJ (-1)]) (h_q := h_854) (cl_q := 0) (sl_q := 0) rfl ?_
                refine ik_Wk 3 (pc_q := 121) (loc_q := [some (.ref 66), some (fI sz), some (fI i), some (fI j), some (fJ (-1)), none, some (fI 0), some (fI 2), some (fI 1), some (fI 1)]) (st_q := [fI 1, fI 2, .ref 66, fJ z_854, fJ (z_852 * z_853), fJ (-1)]) (h_q := h_854) (cl_q := 0) (sl_q := 0) rfl ?_
                refine fw_call 174 3 0 [.ref 66, fI 2, fI 1] [fJ z_854, fJ (z_852 * z_853), fJ (-1)] rfl rfl rfl (Nat.le_of_ble_eq_true rfl) rfl rfl (fw_rec k_854 rfl g_854_66 rfl (Nat.le_of_ble_eq_true rfl)) (cr_fear (f := fun j => ((f 0 :: 0 :: 0 :: 0 :: f 4 :: 0 :: 0 :: f 7 :: f 8 :: 0 :: f 10 :: f 11 :: f 12 :: f 13 :: f 14 :: f 15 :: f 16 :: f 17 :: 0 :: 0 :: 0 :: 0 :: 0 :: 0 :: f 24 :: 0 :: 0 :: 0 :: 0 :: 0 :: 0 :: 0 :: f 32 :: f 33 :: 0 :: 0 :: f 36 :: 0 :: 0 :: 0 :: 0 :: 0 :: 0 :: []) : List Int).getD j 0) (fr := fr) (ro := ro) (cl := cl) (i := 2) (j := 1) (by omega) (by omega) q3 q4 g_854_66 g_854_83 n83 g_854_86 n86 g_854_87 n87 k_854) ?_
                rintro _ h_855 ⟨z_855, rfl, F_855⟩
                have k_855 : cL h_855 := F_855.1.trans k_854
                have fr_855 := hfr_cb fr_854 F_855 rfl
                have g_855_66 := (hfr_g F_855 66 rfl).trans g_854_66
                have g_855_83 := (hfr_g F_855 83 rfl).trans g_854_83
                have g_855_86 := (hfr_g F_855 86 rfl).trans g_854_86
                have g_855_87 := (hfr_g F_855 87 rfl).trans g_854_87
                refine ik_Wk 0 (pc_q := 124) (loc_q := [some (.ref 66), some (fI sz), some (fI i), some (fI j), some (fJ (-1)), none, some (fI 0), some (fI 2), some (fI 1), some (fI 1)]) (st_q := [fJ z_855, fJ z_854, fJ (z_852 * z_853), fJ (-1)]) (h_q := h_855) (cl_q := 0) (sl_q := 0) rfl ?_
                refine fw_lmul rfl ?_
                refine fw_lsub rfl ?_
                refine fw_lmul rfl ?_
                exact ik_Wret rfl rfl ⟨_, _, rfl, rfl, rfl, rfl, ⟨((-1) * ((z_852 * z_853) - (z_854 * z_855))), rfl, fr_855⟩⟩
              · refine ik_Wk 6 (pc_q := 96) (loc_q := [some (.ref 66), some (fI sz), some (fI i), some (fI j), some (fJ (-1)), none, some (fI 0), some (fI 2), some (fI 1), some (fI 2)]) (st_q := [fI 1, fI 0, .ref 66, fJ (-1)]) (h_q := h) (cl_q := 0) (sl_q := 0) rfl ?_
                refine fw_call 174 3 0 [.ref 66, fI 0, fI 1] [fJ (-1)] rfl rfl rfl (Nat.le_of_ble_eq_true rfl) rfl rfl (fw_rec hl rfl h66 rfl (Nat.le_of_ble_eq_true rfl)) (cr_fear (f := fun j => ((f 0 :: 0 :: 0 :: 0 :: f 4 :: 0 :: 0 :: f 7 :: f 8 :: 0 :: f 10 :: f 11 :: f 12 :: f 13 :: f 14 :: f 15 :: f 16 :: f 17 :: 0 :: 0 :: 0 :: 0 :: 0 :: 0 :: f 24 :: 0 :: 0 :: 0 :: 0 :: 0 :: 0 :: 0 :: f 32 :: f 33 :: 0 :: 0 :: f 36 :: 0 :: 0 :: 0 :: 0 :: 0 :: 0 :: []) : List Int).getD j 0) (fr := fr) (ro := ro) (cl := cl) (i := 0) (j := 1) (by omega) (by omega) q3 q4 h66 h83 n83 h86 n86 h87 n87 hl) ?_
                rintro _ h_856 ⟨z_856, rfl, F_856⟩
                have k_856 : cL h_856 := F_856.1.trans hl
                have fr_856 := hfr_cb (hfr_refl [] h) F_856 rfl
                have g_856_66 := (hfr_g F_856 66 rfl).trans h66
                have g_856_83 := (hfr_g F_856 83 rfl).trans h83
                have g_856_86 := (hfr_g F_856 86 rfl).trans h86
                have g_856_87 := (hfr_g F_856 87 rfl).trans h87
                refine ik_Wk 0 (pc_q := 99) (loc_q := [some (.ref 66), some (fI sz), some (fI i), some (fI j), some (fJ (-1)), none, some (fI 0), some (fI 2), some (fI 1), some (fI 2)]) (st_q := [fJ z_856, fJ (-1)]) (h_q := h_856) (cl_q := 0) (sl_q := 0) rfl ?_
                refine ik_Wk 3 (pc_q := 104) (loc_q := [some (.ref 66), some (fI sz), some (fI i), some (fI j), some (fJ (-1)), none, some (fI 0), some (fI 2), some (fI 1), some (fI 2)]) (st_q := [fI 2, fI 2, .ref 66, fJ z_856, fJ (-1)]) (h_q := h_856) (cl_q := 0) (sl_q := 0) rfl ?_
                refine fw_call 174 3 0 [.ref 66, fI 2, fI 2] [fJ z_856, fJ (-1)] rfl rfl rfl (Nat.le_of_ble_eq_true rfl) rfl rfl (fw_rec k_856 rfl g_856_66 rfl (Nat.le_of_ble_eq_true rfl)) (cr_fear (f := fun j => ((f 0 :: 0 :: 0 :: 0 :: f 4 :: 0 :: 0 :: f 7 :: f 8 :: 0 :: f 10 :: f 11 :: f 12 :: f 13 :: f 14 :: f 15 :: f 16 :: f 17 :: 0 :: 0 :: 0 :: 0 :: 0 :: 0 :: f 24 :: 0 :: 0 :: 0 :: 0 :: 0 :: 0 :: 0 :: f 32 :: f 33 :: 0 :: 0 :: f 36 :: 0 :: 0 :: 0 :: 0 :: 0 :: 0 :: []) : List Int).getD j 0) (fr := fr) (ro := ro) (cl := cl) (i := 2) (j := 2) (by omega) (by omega) q3 q4 g_856_66 g_856_83 n83 g_856_86 n86 g_856_87 n87 k_856) ?_
                rintro _ h_857 ⟨z_857, rfl, F_857⟩
                have k_857 : cL h_857 := F_857.1.trans k_856
                have fr_857 := hfr_cb fr_856 F_857 rfl
                have g_857_66 := (hfr_g F_857 66 rfl).trans g_856_66
                have g_857_83 := (hfr_g F_857 83 rfl).trans g_856_83
                have g_857_86 := (hfr_g F_857 86 rfl).trans g_856_86
                have g_857_87 := (hfr_g F_857 87 rfl).trans g_856_87
                refine ik_Wk 0 (pc_q := 107) (loc_q := [some (.ref 66), some (fI sz), some (fI i), some (fI j), some (fJ (-1)), none, some (fI 0), some (fI 2), some (fI 1), some (fI 2)]) (st_q := [fJ z_857, fJ z_856, fJ (-1)]) (h_q := h_857) (cl_q := 0) (sl_q := 0) rfl ?_
                refine fw_lmul rfl ?_
                refine ik_Wk 3 (pc_q := 113) (loc_q := [some (.ref 66), some (fI sz), some (fI i), some (fI j), some (fJ (-1)), none, some (fI 0), some (fI 2), some (fI 1), some (fI 2)]) (st_q := [fI 2, fI 0, .ref 66, fJ (z_856 * z_857), fJ (-1)]) (h_q := h_857) (cl_q := 0) (sl_q := 0) rfl ?_
                refine fw_call 174 3 0 [.ref 66, fI 0, fI 2] [fJ (z_856 * z_857), fJ (-1)] rfl rfl rfl (Nat.le_of_ble_eq_true rfl) rfl rfl (fw_rec k_857 rfl g_857_66 rfl (Nat.le_of_ble_eq_true rfl)) (cr_fear (f := fun j => ((f 0 :: 0 :: 0 :: 0 :: f 4 :: 0 :: 0 :: f 7 :: f 8 :: 0 :: f 10 :: f 11 :: f 12 :: f 13 :: f 14 :: f 15 :: f 16 :: f 17 :: 0 :: 0 :: 0 :: 0 :: 0 :: 0 :: f 24 :: 0 :: 0 :: 0 :: 0 :: 0 :: 0 :: 0 :: f 32 :: f 33 :: 0 :: 0 :: f 36 :: 0 :: 0 :: 0 :: 0 :: 0 :: 0 :: []) : List Int).getD j 0) (fr := fr) (ro := ro) (cl := cl) (i := 0) (j := 2) (by omega) (by omega) q3 q4 g_857_66 g_857_83 n83 g_857_86 n86 g_857_87 n87 k_857) ?_
                rintro _ h_858 ⟨z_858, rfl, F_858⟩
                have k_858 : cL h_858 := F_858.1.trans k_857
                have fr_858 := hfr_cb fr_857 F_858 rfl
                have g_858_66 := (hfr_g F_858 66 rfl).trans g_857_66
                have g_858_83 := (hfr_g F_858 83 rfl).trans g_857_83
                have g_858_86 := (hfr_g F_858 86 rfl).trans g_857_86
                have g_858_87 := (hfr_g F_858 87 rfl).trans g_857_87
                refine ik_Wk 0 (pc_q := 116) (loc_q := [some (.ref 66), some (fI sz), some (fI i), some (fI j), some (fJ (-1)), none, some (fI 0), some (fI 2), some (fI 1), some (fI 2)]) (st_q := [fJ z_858, fJ (z_856 * z_857), fJ (-1)]) (h_q := h_858) (cl_q := 0) (sl_q := 0) rfl ?_
                refine ik_Wk 3 (pc_q := 121) (loc_q := [some (.ref 66), some (fI sz), some (fI i), some (fI j), some (fJ (-1)), none, some (fI 0), some (fI 2), some (fI 1), some (fI 2)]) (st_q := [fI 1, fI 2, .ref 66, fJ z_858, fJ (z_856 * z_857), fJ (-1)]) (h_q := h_858) (cl_q := 0) (sl_q := 0) rfl ?_
                refine fw_call 174 3 0 [.ref 66, fI 2, fI 1] [fJ z_858, fJ (z_856 * z_857), fJ (-1)] rfl rfl rfl (Nat.le_of_ble_eq_true rfl) rfl rfl (fw_rec k_858 rfl g_858_66 rfl (Nat.le_of_ble_eq_true rfl)) (cr_fear (f := fun j => ((f 0 :: 0 :: 0 :: 0 :: f 4 :: 0 :: 0 :: f 7 :: f 8 :: 0 :: f 10 :: f 11 :: f 12 :: f 13 :: f 14 :: f 15 :: f 16 :: f 17 :: 0 :: 0 :: 0 :: 0 :: 0 :: 0 :: f 24 :: 0 :: 0 :: 0 :: 0 :: 0 :: 0 :: 0 :: f 32 :: f 33 :: 0 :: 0 :: f 36 :: 0 :: 0 :: 0 :: 0 :: 0 :: 0 :: []) : List Int).getD j 0) (fr := fr) (ro := ro) (cl := cl) (i := 2) (j := 1) (by omega) (by omega) q3 q4 g_858_66 g_858_83 n83 g_858_86 n86 g_858_87 n87 k_858) ?_
                rintro _ h_859 ⟨z_859, rfl, F_859⟩
                have k_859 : cL h_859 := F_859.1.trans k_858
                have fr_859 := hfr_cb fr_858 F_859 rfl
                have g_859_66 := (hfr_g F_859 66 rfl).trans g_858_66
                have g_859_83 := (hfr_g F_859 83 rfl).trans g_858_83
                have g_859_86 := (hfr_g F_859 86 rfl).trans g_858_86
                have g_859_87 := (hfr_g F_859 87 rfl).trans g_858_87
                refine ik_Wk 0 (pc_q := 124) (loc_q := [some (.ref 66), some (fI sz), some (fI i), some (fI j), some (fJ (-1)), none, some (fI 0), some (fI 2), some (fI 1), some (fI 2)]) (st_q := [fJ z_859, fJ z_858, fJ (z_856 * z_857), fJ (-1)]) (h_q := h_859) (cl_q := 0) (sl_q := 0) rfl ?_
                refine fw_lmul rfl ?_
                refine fw_lsub rfl ?_
                refine fw_lmul rfl ?_
                exact ik_Wret rfl rfl ⟨_, _, rfl, rfl, rfl, rfl, ⟨((-1) * ((z_856 * z_857) - (z_858 * z_859))), rfl, fr_859⟩⟩
            · refine ik_Wk 4 (pc_q := 79) (loc_q := [some (.ref 66), some (fI sz), some (fI i), some (fI j), some (fJ (-1)), none, some (fI 0), some (fI 2), some (fI 0), none]) (st_q := [fI 2, fI j]) (h_q := h) (cl_q := 0) (sl_q := 0) rfl ?_
              refine fw_ic_ne rfl rfl (by omega) (by omega) (by omega) (by omega) (fun hc34 => ?_) (fun hc34 => ?_)
              · refine ik_Wk 7 (pc_q := 96) (loc_q := [some (.ref 66), some (fI sz), some (fI i), some (fI j), some (fJ (-1)), none, some (fI 0), some (fI 2), some (fI 0), some (fI 1)]) (st_q := [fI 0, fI 0, .ref 66, fJ (-1)]) (h_q := h) (cl_q := 0) (sl_q := 0) rfl ?_
                refine fw_call 174 3 0 [.ref 66, fI 0, fI 0] [fJ (-1)] rfl rfl rfl (Nat.le_of_ble_eq_true rfl) rfl rfl (fw_rec hl rfl h66 rfl (Nat.le_of_ble_eq_true rfl)) (cr_fear (f := fun j => ((f 0 :: 0 :: 0 :: 0 :: f 4 :: 0 :: 0 :: f 7 :: f 8 :: 0 :: f 10 :: f 11 :: f 12 :: f 13 :: f 14 :: f 15 :: f 16 :: f 17 :: 0 :: 0 :: 0 :: 0 :: 0 :: 0 :: f 24 :: 0 :: 0 :: 0 :: 0 :: 0 :: 0 :: 0 :: f 32 :: f 33 :: 0 :: 0 :: f 36 :: 0 :: 0 :: 0 :: 0 :: 0 :: 0 :: []) : List Int).getD j 0) (fr := fr) (ro := ro) (cl := cl) (i := 0) (j := 0) (by omega) (by omega) q3 q4 h66 h83 n83 h86 n86 h87 n87 hl) ?_
                rintro _ h_860 ⟨z_860, rfl, F_860⟩
                have k_860 : cL h_860 := F_860.1.trans hl
                have fr_860 := hfr_cb (hfr_refl [] h) F_860 rfl
                have g_860_66 := (hfr_g F_860 66 rfl).trans h66
                have g_860_83 := (hfr_g F_860 83 rfl).trans h83
                have g_860_86 := (hfr_g F_860 86 rfl).trans h86
                have g_860_87 := (hfr_g F_860 87 rfl).trans h87
                refine ik_Wk 0 (pc_q := 99) (loc_q := [some (.ref 66), some (fI sz), some (fI i), some (fI j), some (fJ (-1)), none, some (fI 0), some (fI 2), some (fI 0), some (fI 1)]) (st_q := [fJ z_860, fJ (-1)]) (h_q := h_860) (cl_q := 0) (sl_q := 0) rfl ?_
                refine ik_Wk 3 (pc_q := 104) (loc_q := [some (.ref 66), some (fI sz), some (fI i), some (fI j), some (fJ (-1)), none, some (fI 0), some (fI 2), some (fI 0), some (fI 1)]) (st_q := [fI 1, fI 2, .ref 66, fJ z_860, fJ (-1)]) (h_q := h_860) (cl_q := 0) (sl_q := 0) rfl ?_
                refine fw_call 174 3 0 [.ref 66, fI 2, fI 1] [fJ z_860, fJ (-1)] rfl rfl rfl (Nat.le_of_ble_eq_true rfl) rfl rfl (fw_rec k_860 rfl g_860_66 rfl (Nat.le_of_ble_eq_true rfl)) (cr_fear (f := fun j => ((f 0 :: 0 :: 0 :: 0 :: f 4 :: 0 :: 0 :: f 7 :: f 8 :: 0 :: f 10 :: f 11 :: f 12 :: f 13 :: f 14 :: f 15 :: f 16 :: f 17 :: 0 :: 0 :: 0 :: 0 :: 0 :: 0 :: f 24 :: 0 :: 0 :: 0 :: 0 :: 0 :: 0 :: 0 :: f 32 :: f 33 :: 0 :: 0 :: f 36 :: 0 :: 0 :: 0 :: 0 :: 0 :: 0 :: []) : List Int).getD j 0) (fr := fr) (ro := ro) (cl := cl) (i := 2) (j := 1) (by omega) (by omega) q3 q4 g_860_66 g_860_83 n83 g_860_86 n86 g_860_87 n87 k_860) ?_
                rintro _ h_861 ⟨z_861, rfl, F_861⟩
                have k_861 : cL h_861 := F_861.1.trans k_860
                have fr_861 := hfr_cb fr_860 F_861 rfl
                have g_861_66 := (hfr_g F_861 66 rfl).trans g_860_66
                have g_861_83 := (hfr_g F_861 83 rfl).trans g_860_83
                have g_861_86 := (hfr_g F_861 86 rfl).trans g_860_86
                have g_861_87 := (hfr_g F_861 87 rfl).trans g_860_87
                refine ik_Wk 0 (pc_q := 107) (loc_q := [some (.ref 66), some (fI sz), some (fI i), some (fI j), some (fJ (-1)), none, some (fI 0), some (fI 2), some (fI 0), some (fI 1)]) (st_q := [fJ z_861, fJ z_860, fJ (-1)]) (h_q := h_861) (cl_q := 0) (sl_q := 0) rfl ?_
                refine fw_lmul rfl ?_
                refine ik_Wk 3 (pc_q := 113) (loc_q := [some (.ref 66), some (fI sz), some (fI i), some (fI j), some (fJ (-1)), none, some (fI 0), some (fI 2), some (fI 0), some (fI 1)]) (st_q := [fI 1, fI 0, .ref 66, fJ (z_860 * z_861), fJ (-1)]) (h_q := h_861) (cl_q := 0) (sl_q := 0) rfl ?_
                refine fw_call 174 3 0 [.ref 66, fI 0, fI 1] [fJ (z_860 * z_861), fJ (-1)] rfl rfl rfl (Nat.le_of_ble_eq_true rfl) rfl rfl (fw_rec k_861 rfl g_861_66 rfl (Nat.le_of_ble_eq_true rfl)) (cr_fear (f := fun j => ((f 0 :: 0 :: 0 :: 0 :: f 4 :: 0 :: 0 :: f 7 :: f 8 :: 0 :: f 10 :: f 11 :: f 12 :: f 13 :: f 14 :: f 15 :: f 16 :: f 17 :: 0 :: 0 :: 0 :: 0 :: 0 :: 0 :: f 24 :: 0 :: 0 :: 0 :: 0 :: 0 :: 0 :: 0 :: f 32 :: f 33 :: 0 :: 0 :: f 36 :: 0 :: 0 :: 0 :: 0 :: 0 :: 0 :: []) : List Int).getD j 0) (fr := fr) (ro := ro) (cl := cl) (i := 0) (j := 1) (by omega) (by omega) q3 q4 g_861_66 g_861_83 n83 g_861_86 n86 g_861_87 n87 k_861) ?_
                rintro _ h_862 ⟨z_862, rfl, F_862⟩
                have k_862 : cL h_862 := F_862.1.trans k_861
                have fr_862 := hfr_cb fr_861 F_862 rfl
                have g_862_66 := (hfr_g F_862 66 rfl).trans g_861_66
                have g_862_83 := (hfr_g F_862 83 rfl).trans g_861_83
                have g_862_86 := (hfr_g F_862 86 rfl).trans g_861_86
                have g_862_87 := (hfr_g F_862 87 rfl).trans g_861_87
                refine ik_Wk 0 (pc_q := 116) (loc_q := [some (.ref 66), some (fI sz), some (fI i), some (fI j), some (fJ (-1)), none, some (fI 0), some (fI 2), some (fI 0), some (fI 1)]) (st_q := [fJ z_862, fJ (z_860 * z_861), fJ (-1)]) (h_q := h_862) (cl_q := 0) (sl_q := 0) rfl ?_
                refine ik_Wk 3 (pc_q := 121) (loc_q := [some (.ref 66), some (fI sz), some (fI i), some (fI j), some (fJ (-1)), none, some (fI 0), some (fI 2), some (fI 0), some (fI 1)]) (st_q := [fI 0, fI 2, .ref 66, fJ z_862, fJ (z_860 * z_861), fJ (-1)]) (h_q := h_862) (cl_q := 0) (sl_q := 0) rfl ?_
                refine fw_call 174 3 0 [.ref 66, fI 2, fI 0] [fJ z_862, fJ (z_860 * z_861), fJ (-1)] rfl rfl rfl (Nat.le_of_ble_eq_true rfl) rfl rfl (fw_rec k_862 rfl g_862_66 rfl (Nat.le_of_ble_eq_true rfl)) (cr_fear (f := fun j => ((f 0 :: 0 :: 0 :: 0 :: f 4 :: 0 :: 0 :: f 7 :: f 8 :: 0 :: f 10 :: f 11 :: f 12 :: f 13 :: f 14 :: f 15 :: f 16 :: f 17 :: 0 :: 0 :: 0 :: 0 :: 0 :: 0 :: f 24 :: 0 :: 0 :: 0 :: 0 :: 0 :: 0 :: 0 :: f 32 :: f 33 :: 0 :: 0 :: f 36 :: 0 :: 0 :: 0 :: 0 :: 0 :: 0 :: []) : List Int).getD j 0) (fr := fr) (ro := ro) (cl := cl) (i := 2) (j := 0) (by omega) (by omega) q3 q4 g_862_66 g_862_83 n83 g_862_86 n86 g_862_87 n87 k_862) ?_
                rintro _ h_863 ⟨z_863, rfl, F_863⟩
                have k_863 : cL h_863 := F_863.1.trans k_862
                have fr_863 := hfr_cb fr_862 F_863 rfl
                have g_863_66 := (hfr_g F_863 66 rfl).trans g_862_66
                have g_863_83 := (hfr_g F_863 83 rfl).trans g_862_83
                have g_863_86 := (hfr_g F_863 86 rfl).trans g_862_86
                have g_863_87 := (hfr_g F_863 87 rfl).trans g_862_87
                refine ik_Wk 0 (pc_q := 124) (loc_q := [some (.ref 66), some (fI sz), some (fI i), some (fI j), some (fJ (-1)), none, some (fI 0), some (fI 2), some (fI 0), some (fI 1)]) (st_q := [fJ z_863, fJ z_862, fJ (z_860 * z_861), fJ (-1)]) (h_q := h_863) (cl_q := 0) (sl_q := 0) rfl ?_
                refine fw_lmul rfl ?_
                refine fw_lsub rfl ?_
                refine fw_lmul rfl ?_
                exact ik_Wret rfl rfl ⟨_, _, rfl, rfl, rfl, rfl, ⟨((-1) * ((z_860 * z_861) - (z_862 * z_863))), rfl, fr_863⟩⟩
              · refine ik_Wk 6 (pc_q := 96) (loc_q := [some (.ref 66), some (fI sz), some (fI i), some (fI j), some (fJ (-1)), none, some (fI 0), some (fI 2), some (fI 0), some (fI 2)]) (st_q := [fI 0, fI 0, .ref 66, fJ (-1)]) (h_q := h) (cl_q := 0) (sl_q := 0) rfl ?_
                refine fw_call 174 3 0 [.ref 66, fI 0, fI 0] [fJ (-1)] rfl rfl rfl (Nat.le_of_ble_eq_true rfl) rfl rfl (fw_rec hl rfl h66 rfl (Nat.le_of_ble_eq_true rfl)) (cr_fear (f := fun j => ((f 0 :: 0 :: 0 :: 0 :: f 4 :: 0 :: 0 :: f 7 :: f 8 :: 0 :: f 10 :: f 11 :: f 12 :: f 13 :: f 14 :: f 15 :: f 16 :: f 17 :: 0 :: 0 :: 0 :: 0 :: 0 :: 0 :: f 24 :: 0 :: 0 :: 0 :: 0 :: 0 :: 0 :: 0 :: f 32 :: f 33 :: 0 :: 0 :: f 36 :: 0 :: 0 :: 0 :: 0 :: 0 :: 0 :: []) : List Int).getD j 0) (fr := fr) (ro := ro) (cl := cl) (i := 0) (j := 0) (by omega) (by omega) q3 q4 h66 h83 n83 h86 n86 h87 n87 hl) ?_
                rintro _ h_864 ⟨z_864, rfl, F_864⟩
                have k_864 : cL h_864 := F_864.1.trans hl
                have fr_864 := hfr_cb (hfr_refl [] h) F_864 rfl
                have g_864_66 := (hfr_g F_864 66 rfl).trans h66
                have g_864_83 := (hfr_g F_864 83 rfl).trans h83
                have g_864_86 := (hfr_g F_864 86 rfl).trans h86
                have g_864_87 := (hfr_g F_864 87 rfl).trans h87
                refine ik_Wk 0 (pc_q := 99) (loc_q := [some (.ref 66), some (fI sz), some (fI i), some (fI j), some (fJ (-1)), none, some (fI 0), some (fI 2), some (fI 0), some (fI 2)]) (st_q := [fJ z_864, fJ (-1)]) (h_q := h_864) (cl_q := 0) (sl_q := 0) rfl ?_
                refine ik_Wk 3 (pc_q := 104) (loc_q := [some (.ref 66), some (fI sz), some (fI i), some (fI j), some (fJ (-1)), none, some (fI 0), some (fI 2), some (fI 0), some (fI 2)]) (st_q := [fI 2, fI 2, .ref 66, fJ z_864, fJ (-1)]) (h_q := h_864) (cl_q := 0) (sl_q := 0) rfl ?_
                refine fw_call 174 3 0 [.ref 66, fI 2, fI 2] [fJ z_864, fJ (-1)] rfl rfl rfl (Nat.le_of_ble_eq_true rfl) rfl rfl (fw_rec k_864 rfl g_864_66 rfl (Nat.le_of_ble_eq_true rfl)) (cr_fear (f := fun j => ((f 0 :: 0 :: 0 :: 0 :: f 4 :: 0 :: 0 :: f 7 :: f 8 :: 0 :: f 10 :: f 11 :: f 12 :: f 13 :: f 14 :: f 15 :: f 16 :: f 17 :: 0 :: 0 :: 0 :: 0 :: 0 :: 0 :: f 24 :: 0 :: 0 :: 0 :: 0 :: 0 :: 0 :: 0 :: f 32 :: f 33 :: 0 :: 0 :: f 36 :: 0 :: 0 :: 0 :: 0 :: 0 :: 0 :: []) : List Int).getD j 0) (fr := fr) (ro := ro) (cl := cl) (i := 2) (j := 2) (by omega) (by omega) q3 q4 g_864_66 g_864_83 n83 g_864_86 n86 g_864_87 n87 k_864) ?_
                rintro _ h_865 ⟨z_865, rfl, F_865⟩
                have k_865 : cL h_865 := F_865.1.trans k_864
                have fr_865 := hfr_cb fr_864 F_865 rfl
                have g_865_66 := (hfr_g F_865 66 rfl).trans g_864_66
                have g_865_83 := (hfr_g F_865 83 rfl).trans g_864_83
                have g_865_86 := (hfr_g F_865 86 rfl).trans g_864_86
                have g_865_87 := (hfr_g F_865 87 rfl).trans g_864_87
                refine ik_Wk 0 (pc_q := 107) (loc_q := [some (.ref 66), some (fI sz), some (fI i), some (fI j), some (fJ (-1)), none, some (fI 0), some (fI 2), some (fI 0), some (fI 2)]) (st_q := [fJ z_865, fJ z_864, fJ (-1)]) (h_q := h_865) (cl_q := 0) (sl_q := 0) rfl ?_
                refine fw_lmul rfl ?_
                refine ik_Wk 3 (pc_q := 113) (loc_q := [some (.ref 66), some (fI sz), some (fI i), some (fI j), some (fJ (-1)), none, some (fI 0), some (fI 2), some (fI 0), some (fI 2)]) (st_q := [fI 2, fI 0, .ref 66, fJ (z_864 * z_865), fJ (-1)]) (h_q := h_865) (cl_q := 0) (sl_q := 0) rfl ?_
                refine fw_call 174 3 0 [.ref 66, fI 0, fI 2] [fJ (z_864 * z_865), fJ (-1)] rfl rfl rfl (Nat.le_of_ble_eq_true rfl) rfl rfl (fw_rec k_865 rfl g_865_66 rfl (Nat.le_of_ble_eq_true rfl)) (cr_fear (f := fun j => ((f 0 :: 0 :: 0 :: 0 :: f 4 :: 0 :: 0 :: f 7 :: f 8 :: 0 :: f 10 :: f 11 :: f 12 :: f 13 :: f 14 :: f 15 :: f 16 :: f 17 :: 0 :: 0 :: 0 :: 0 :: 0 :: 0 :: f 24 :: 0 :: 0 :: 0 :: 0 :: 0 :: 0 :: 0 :: f 32 :: f 33 :: 0 :: 0 :: f 36 :: 0 :: 0 :: 0 :: 0 :: 0 :: 0 :: []) : List Int).getD j 0) (fr := fr) (ro := ro) (cl := cl) (i := 0) (j := 2) (by omega) (by omega) q3 q4 g_865_66 g_865_83 n83 g_865_86 n86 g_865_87 n87 k_865) ?_
                rintro _ h_866 ⟨z_866, rfl, F_866⟩
                have k_866 : cL h_866 := F_866.1.trans k_865
                have fr_866 := hfr_cb fr_865 F_866 rfl
                have g_866_66 := (hfr_g F_866 66 rfl).trans g_865_66
                have g_866_83 := (hfr_g F_866 83 rfl).trans g_865_83
                have g_866_86 := (hfr_g F_866 86 rfl).trans g_865_86
                have g_866_87 := (hfr_g F_866 87 rfl).trans g_865_87
                refine ik_Wk 0 (pc_q := 116) (loc_q := [some (.ref 66), some (fI sz), some (fI i), some (fI j), some (fJ (-1)), none, some (fI 0), some (fI 2), some (fI 0), some (fI 2)]) (st_q := [fJ z_866, fJ (z_864 * z_865), fJ (-1)]) (h_q := h_866) (cl_q := 0) (sl_q := 0) rfl ?_
                refine ik_Wk 3 (pc_q := 121) (loc_q := [some (.ref 66), some (fI sz), some (fI i), some (fI j), some (fJ (-1)), none, some (fI 0), some (fI 2), some (fI 0), some (fI 2)]) (st_q := [fI 0, fI 2, .ref 66, fJ z_866, fJ (z_864 * z_865), fJ (-1)]) (h_q := h_866) (cl_q := 0) (sl_q := 0) rfl ?_
                refine fw_call 174 3 0 [.ref 66, fI 2, fI 0] [fJ z_866, fJ (z_864 * z_865), fJ (-1)] rfl rfl rfl (Nat.le_of_ble_eq_true rfl) rfl rfl (fw_rec k_866 rfl g_866_66 rfl (Nat.le_of_ble_eq_true rfl)) (cr_fear (f := fun j => ((f 0 :: 0 :: 0 :: 0 :: f 4 :: 0 :: 0 :: f 7 :: f 8 :: 0 :: f 10 :: f 11 :: f 12 :: f 13 :: f 14 :: f 15 :: f 16 :: f 17 :: 0 :: 0 :: 0 :: 0 :: 0 :: 0 :: f 24 :: 0 :: 0 :: 0 :: 0 :: 0 :: 0 :: 0 :: f 32 :: f 33 :: 0 :: 0 :: f 36 :: 0 :: 0 :: 0 :: 0 :: 0 :: 0 :: []) : List Int).getD j 0) (fr := fr) (ro := ro) (cl := cl) (i := 2) (j := 0) (by omega) (by omega) q3 q4 g_866_66 g_866_83 n83 g_866_86 n86 g_866_87 n87 k_866) ?_
                rintro _ h_867 ⟨z_867, rfl, F_867⟩
                have k_867 : cL h_867 := F_867.1.trans k_866
                have fr_867 := hfr_cb fr_866 F_867 rfl
                have g_867_66 := (hfr_g F_867 66 rfl).trans g_866_66
                have g_867_83 := (hfr_g F_867 83 rfl).trans g_866_83
                have g_867_86 := (hfr_g F_867 86 rfl).trans g_866_86
                have g_867_87 := (hfr_g F_867 87 rfl).trans g_866_87
                refine ik_Wk 0 (pc_q := 124) (loc_q := [some (.ref 66), some (fI sz), some (fI i), some (fI j), some (fJ (-1)), none, some (fI 0), some (fI 2), some (fI 0), some (fI 2)]) (st_q := [fJ z_867, fJ z_866, fJ (z_864 * z_865), fJ (-1)]) (h_q := h_867) (cl_q := 0) (sl_q := 0) rfl ?_
                refine fw_lmul rfl ?_
                refine fw_lsub rfl ?_
                refine fw_lmul rfl ?_
                exact ik_Wret rfl rfl ⟨_, _, rfl, rfl, rfl, rfl, ⟨((-1) * ((z_864 * z_865) - (z_866 * z_867))), rfl, fr_867⟩⟩

theorem cr_isAtRestI {h : List ik_E} {f : Nat → Int} {n : Int} {fr : List Int} {so : List Int} {sw : List Int} (q0 : 1 ≤ n ∧ n ≤ 3) (rs : Int) (k0 : Int) (hk2 : 0 ≤ k0 ∧ k0 < n) {R : List Value → List ik_E → Prop} (K : ∀ (w : List ik_E) (ra2 : Int) (rb2 : Int) (j2 : Int) (w66 : cE w 66 (.inr (10, (fI (f 0) :: .ref 67 :: .ref 68 :: .ref 69 :: fI (f 4) :: .ref 70 :: .ref 71 :: fI (f 7) :: fI (f 8) :: .ref 72 :: fI (f 10) :: fI (f 11) :: fI (f 12) :: fJ (f 13) :: fI (f 14) :: fI (f 15) :: fI (f 16) :: fI (f 17) :: .ref 73 :: .ref 74 :: .ref 75 :: .ref 76 :: .ref 77 :: .ref 78 :: fI (f 24) :: .ref 79 :: .ref 80 :: .ref 81 :: .ref 82 :: .ref 83 :: .ref 84 :: .ref 85 :: fJ (f 32) :: fJ (f 33) :: .ref 86 :: .ref 87 :: fI (f 36) :: .ref 88 :: .ref 89 :: .ref 90 :: .ref 91 :: .ref 92 :: .ref 93 :: [])))) (w83 : cE w 83 (.inl (.long, fL fr))) (nw_83 : fr.length = (9 : Nat)) (w84 : cE w 84 (.inl (.long, fL so))) (nw_84 : so.length = (3 : Nat)) (w85 : cE w 85 (.inl (.long, fL sw))) (nw_85 : sw.length = (3 : Nat)) (wl : w.length = (94 : Nat)) (F : hfr [] h w) , ik_G 177 78 [some (.ref 66), some (fI n), some (fI rs), some (fI k0), some (fJ ra2), none, some (fJ rb2), none, some (fI j2)] [] w R) : ∀ (k : Nat) (j : Int) (ra : Int) (rb : Int) (u : List ik_E) (u66 : cE u 66 (.inr (10, (fI (f 0) :: .ref 67 :: .ref 68 :: .ref 69 :: fI (f 4) :: .ref 70 :: .ref 71 :: fI (f 7) :: fI (f 8) :: .ref 72 :: fI (f 10) :: fI (f 11) :: fI (f 12) :: fJ (f 13) :: fI (f 14) :: fI (f 15) :: fI (f 16) :: fI (f 17) :: .ref 73 :: .ref 74 :: .ref 75 :: .ref 76 :: .ref 77 :: .ref 78 :: fI (f 24) :: .ref 79 :: .ref 80 :: .ref 81 :: .ref 82 :: .ref 83 :: .ref 84 :: .ref 85 :: fJ (f 32) :: fJ (f 33) :: .ref 86 :: .ref 87 :: fI (f 36) :: .ref 88 :: .ref 89 :: .ref 90 :: .ref 91 :: .ref 92 :: .ref 93 :: [])))) (u83 : cE u 83 (.inl (.long, fL fr))) (n83 : fr.length = (9 : Nat)) (u84 : cE u 84 (.inl (.long, fL so))) (n84 : so.length = (3 : Nat)) (u85 : cE u 85 (.inl (.long, fL sw))) (n85 : sw.length = (3 : Nat)) (ul : u.length = (94 : Nat)) (F : hfr [] h u) (hj : (0 : Int) ≤ j ∧ j ≤ n) (hk : n - j < (k : Int)), ik_G 177 18 [some (.ref 66), some (fI n), some (fI rs), some (fI k0), some (fJ ra), none, some (fJ rb), none, some (fI j)] [] u R := by
  intro k
  induction k with
  | zero => intro j ra rb u u66 u83 n83 u84 n84 u85 n85 ul F hj hk; omega
  | succ k ih =>
    intro j ra rb u u66 u83 n83 u84 n84 u85 n85 ul F hj hk
    refine ik_Wk 2 (pc_q := 21) (loc_q := [some (.ref 66), some (fI n), some (fI rs), some (fI k0), some (fJ ra), none, some (fJ rb), none, some (fI j)]) (st_q := [fI n, fI j]) (h_q := u) (cl_q := 0) (sl_q := 0) rfl ?_
    refine fw_ic_ge rfl rfl (by omega) (by omega) (by omega) (by omega) (fun hc1 => ?_) (fun hc1 => ?_)
    · exact K u ra rb j u66 u83 n83 u84 n84 u85 n85 ul F 
    · refine ik_Wk 2 (pc_q := 27) (loc_q := [some (.ref 66), some (fI n), some (fI rs), some (fI k0), some (fJ ra), none, some (fJ rb), none, some (fI j)]) (st_q := [.ref 66, fJ ra]) (h_q := u) (cl_q := 0) (sl_q := 0) rfl ?_
      refine fw_gf rfl rfl u66 rfl ?_
      refine ik_Wk 1 (pc_q := 32) (loc_q := [some (.ref 66), some (fI n), some (fI rs), some (fI k0), some (fJ ra), none, some (fJ rb), none, some (fI j)]) (st_q := [fI j, .ref 85, fJ ra]) (h_q := u) (cl_q := 0) (sl_q := 0) rfl ?_
      refine fx_lal rfl u85 (by omega) (by omega) (by omega) ?_
      refine ik_Wk 1 (pc_q := 34) (loc_q := [some (.ref 66), some (fI n), some (fI rs), some (fI k0), some (fJ ra), none, some (fJ rb), none, some (fI j)]) (st_q := [.ref 66, fJ (sw.getD j.toNat 0), fJ ra]) (h_q := u) (cl_q := 0) (sl_q := 0) rfl ?_
      refine fw_gf rfl rfl u66 rfl ?_
      refine ik_Wk 2 (pc_q := 39) (loc_q := [some (.ref 66), some (fI n), some (fI rs), some (fI k0), some (fJ ra), none, some (fJ rb), none, some (fI j)]) (st_q := [fI k0, fI 3, .ref 83, fJ (sw.getD j.toNat 0), fJ ra]) (h_q := u) (cl_q := 0) (sl_q := 0) rfl ?_
      refine fw_mul rfl ?_
      refine ik_Wk 1 (pc_q := 42) (loc_q := [some (.ref 66), some (fI n), some (fI rs), some (fI k0), some (fJ ra), none, some (fJ rb), none, some (fI j)]) (st_q := [fI j, fI (3 * k0), .ref 83, fJ (sw.getD j.toNat 0), fJ ra]) (h_q := u) (cl_q := 0) (sl_q := 0) rfl ?_
      refine fw_add rfl ?_
      refine fx_lal rfl u83 (by omega) (by omega) (by omega) ?_
      refine fw_lmul rfl ?_
      refine fw_ladd rfl ?_
      refine ik_Wk 3 (pc_q := 51) (loc_q := [some (.ref 66), some (fI n), some (fI rs), some (fI k0), some (fJ (ra + ((sw.getD j.toNat 0) * (fr.getD ((3 * k0) + j).toNat 0)))), none, some (fJ rb), none, some (fI j)]) (st_q := [.ref 66, fJ rb]) (h_q := u) (cl_q := 0) (sl_q := 0) rfl ?_
      refine fw_gf rfl rfl u66 rfl ?_
      refine ik_Wk 1 (pc_q := 56) (loc_q := [some (.ref 66), some (fI n), some (fI rs), some (fI k0), some (fJ (ra + ((sw.getD j.toNat 0) * (fr.getD ((3 * k0) + j).toNat 0)))), none, some (fJ rb), none, some (fI j)]) (st_q := [fI j, .ref 84, fJ rb]) (h_q := u) (cl_q := 0) (sl_q := 0) rfl ?_
      refine fx_lal rfl u84 (by omega) (by omega) (by omega) ?_
      refine ik_Wk 1 (pc_q := 58) (loc_q := [some (.ref 66), some (fI n), some (fI rs), some (fI k0), some (fJ (ra + ((sw.getD j.toNat 0) * (fr.getD ((3 * k0) + j).toNat 0)))), none, some (fJ rb), none, some (fI j)]) (st_q := [.ref 66, fJ (so.getD j.toNat 0), fJ rb]) (h_q := u) (cl_q := 0) (sl_q := 0) rfl ?_
      refine fw_gf rfl rfl u66 rfl ?_
      refine ik_Wk 2 (pc_q := 64) (loc_q := [some (.ref 66), some (fI n), some (fI rs), some (fI k0), some (fJ (ra + ((sw.getD j.toNat 0) * (fr.getD ((3 * k0) + j).toNat 0)))), none, some (fJ rb), none, some (fI j)]) (st_q := [fI j, fI 3, .ref 83, fJ (so.getD j.toNat 0), fJ rb]) (h_q := u) (cl_q := 0) (sl_q := 0) rfl ?_
      refine fw_mul rfl ?_
      refine ik_Wk 1 (pc_q := 66) (loc_q := [some (.ref 66), some (fI n), some (fI rs), some (fI k0), some (fJ (ra + ((sw.getD j.toNat 0) * (fr.getD ((3 * k0) + j).toNat 0)))), none, some (fJ rb), none, some (fI j)]) (st_q := [fI k0, fI (3 * j), .ref 83, fJ (so.getD j.toNat 0), fJ rb]) (h_q := u) (cl_q := 0) (sl_q := 0) rfl ?_
      refine fw_add rfl ?_
      refine fx_lal rfl u83 (by omega) (by omega) (by omega) ?_
      refine fw_lmul rfl ?_
      refine fw_ladd rfl ?_
      refine ik_Wk 1 (pc_q := 72) (loc_q := [some (.ref 66), some (fI n), some (fI rs), some (fI k0), some (fJ (ra + ((sw.getD j.toNat 0) * (fr.getD ((3 * k0) + j).toNat 0)))), none, some (fJ (rb + ((so.getD j.toNat 0) * (fr.getD ((3 * j) + k0).toNat 0)))), none, some (fI j)]) (st_q := []) (h_q := u) (cl_q := 0) (sl_q := 0) rfl ?_
      refine fw_inc (a := j) (loc_q := [some (.ref 66), some (fI n), some (fI rs), some (fI k0), some (fJ (ra + ((sw.getD j.toNat 0) * (fr.getD ((3 * k0) + j).toNat 0)))), none, some (fJ (rb + ((so.getD j.toNat 0) * (fr.getD ((3 * j) + k0).toNat 0)))), none, some (fI (j + 1))]) rfl rfl (Nat.le_of_ble_eq_true rfl) rfl ?_
      refine ik_Wk 1 (pc_q := 18) (loc_q := [some (.ref 66), some (fI n), some (fI rs), some (fI k0), some (fJ (ra + ((sw.getD j.toNat 0) * (fr.getD ((3 * k0) + j).toNat 0)))), none, some (fJ (rb + ((so.getD j.toNat 0) * (fr.getD ((3 * j) + k0).toNat 0)))), none, some (fI (j + 1))]) (st_q := []) (h_q := u) (cl_q := 0) (sl_q := 0) rfl ?_
      exact ih (j + 1) (ra + ((sw.getD j.toNat 0) * (fr.getD ((3 * k0) + j).toNat 0))) (rb + ((so.getD j.toNat 0) * (fr.getD ((3 * j) + k0).toNat 0))) u u66 u83 n83 u84 n84 u85 n85 ul F (by omega) (by omega)

theorem cr_isAtRestL {h : List ik_E} {f : Nat → Int} {n : Int} {fr : List Int} {so : List Int} {sw : List Int} (q0 : 1 ≤ n ∧ n ≤ 3)  : ∀ (k : Nat) (k0 : Int) (rs : Int) (x4 : Option Value) (x6 : Option Value) (x8 : Option Value) (u : List ik_E) (u66 : cE u 66 (.inr (10, (fI (f 0) :: .ref 67 :: .ref 68 :: .ref 69 :: fI (f 4) :: .ref 70 :: .ref 71 :: fI (f 7) :: fI (f 8) :: .ref 72 :: fI (f 10) :: fI (f 11) :: fI (f 12) :: fJ (f 13) :: fI (f 14) :: fI (f 15) :: fI (f 16) :: fI (f 17) :: .ref 73 :: .ref 74 :: .ref 75 :: .ref 76 :: .ref 77 :: .ref 78 :: fI (f 24) :: .ref 79 :: .ref 80 :: .ref 81 :: .ref 82 :: .ref 83 :: .ref 84 :: .ref 85 :: fJ (f 32) :: fJ (f 33) :: .ref 86 :: .ref 87 :: fI (f 36) :: .ref 88 :: .ref 89 :: .ref 90 :: .ref 91 :: .ref 92 :: .ref 93 :: [])))) (u83 : cE u 83 (.inl (.long, fL fr))) (n83 : fr.length = (9 : Nat)) (u84 : cE u 84 (.inl (.long, fL so))) (n84 : so.length = (3 : Nat)) (u85 : cE u 85 (.inl (.long, fL sw))) (n85 : sw.length = (3 : Nat)) (ul : u.length = (94 : Nat)) (F : hfr [] h u) (hk2 : (0 : Int) ≤ k0 ∧ k0 ≤ n) (hrs : (0 : Int) ≤ rs ∧ rs ≤ (1 : Int)) (w4 : ik_wl 94 x4 = true) (w6 : ik_wl 94 x6 = true) (w8 : ik_wl 94 x8 = true) (hk : n - k0 < (k : Int)), ik_G 177 4 [some (.ref 66), some (fI n), some (fI rs), some (fI k0), x4, none, x6, none, x8] [] u (fun rv h_q => ∃ (b : Int), rv = [fI b] ∧ ((0 : Int) ≤ b ∧ b ≤ (1 : Int)) ∧ hfr [] h h_q) := by
  intro k
  induction k with
  | zero => intro k0 rs x4 x6 x8 u u66 u83 n83 u84 n84 u85 n85 ul F hk2 hrs w4 w6 w8 hk; omega
  | succ k ih =>
    intro k0 rs x4 x6 x8 u u66 u83 n83 u84 n84 u85 n85 ul F hk2 hrs w4 w6 w8 hk
    refine ik_Wk 2 (pc_q := 6) (loc_q := [some (.ref 66), some (fI n), some (fI rs), some (fI k0), x4, none, x6, none, x8]) (st_q := [fI n, fI k0]) (h_q := u) (cl_q := 0) (sl_q := 0) rfl ?_
    refine fw_ic_ge rfl rfl (by omega) (by omega) (by omega) (by omega) (fun hc1 => ?_) (fun hc1 => ?_)
    · refine ik_Wk 1 (pc_q := 137) (loc_q := [some (.ref 66), some (fI n), some (fI rs), some (fI k0), x4, none, x6, none, x8]) (st_q := [fI rs]) (h_q := u) (cl_q := 0) (sl_q := 0) rfl ?_
      have hz : rs = 0 ∨ rs = 1 := by omega
      rcases hz with z | z
      · subst z
        exact ik_Wret rfl rfl ⟨_, _, rfl, rfl, rfl, rfl, ⟨0, rfl, (by decide +kernel), F⟩⟩
      · subst z
        exact ik_Wret rfl rfl ⟨_, _, rfl, rfl, rfl, rfl, ⟨1, rfl, (by decide +kernel), F⟩⟩
    · refine fw_lc (z := 0) rfl (by decide +kernel) ?_
      refine ik_Wk 1 (pc_q := 12) (loc_q := [some (.ref 66), some (fI n), some (fI rs), some (fI k0), some (fJ 0), none, x6, none, x8]) (st_q := []) (h_q := u) (cl_q := 0) (sl_q := 0) rfl ?_
      refine fw_lc (z := 0) rfl (by decide +kernel) ?_
      refine ik_Wk 3 (pc_q := 18) (loc_q := [some (.ref 66), some (fI n), some (fI rs), some (fI k0), some (fJ 0), none, some (fJ 0), none, some (fI 0)]) (st_q := []) (h_q := u) (cl_q := 0) (sl_q := 0) rfl ?_
      refine cr_isAtRestI (f := f) (n := n) (fr := fr) (so := so) (sw := sw) q0 rs k0 (by omega) (R := (fun rv h_q => ∃ (b : Int), rv = [fI b] ∧ (0 ≤ b ∧ b ≤ 1) ∧ hfr [] h h_q)) (fun h_868 ra2_868 rb2_868 j2_868 g_868_66 g_868_83 m_868_83 g_868_84 m_868_84 g_868_85 m_868_85 k_868 fr_868 => ?_) (n.toNat + 1) 0 0 0 u u66 u83 n83 u84 n84 u85 n85 ul F (by omega) (by omega)
      refine ik_Wk 1 (pc_q := 79) (loc_q := [some (.ref 66), some (fI n), some (fI rs), some (fI k0), some (fJ ra2_868), none, some (fJ rb2_868), none, some (fI j2_868)]) (st_q := [fI rs]) (h_q := h_868) (cl_q := 0) (sl_q := 0) rfl ?_
      refine fw_if_eq rfl rfl (by omega) (by omega) (fun hc2 => ?_) (fun hc2 => ?_)
      · refine ik_Wk 2 (pc_q := 130) (loc_q := [some (.ref 66), some (fI n), some (fI 0), some (fI k0), some (fJ ra2_868), none, some (fJ rb2_868), none, some (fI j2_868)]) (st_q := []) (h_q := h_868) (cl_q := 0) (sl_q := 0) rfl ?_
        refine fw_inc (a := k0) (loc_q := [some (.ref 66), some (fI n), some (fI 0), some (fI (k0 + 1)), some (fJ ra2_868), none, some (fJ rb2_868), none, some (fI j2_868)]) rfl rfl (Nat.le_of_ble_eq_true rfl) rfl ?_
        refine ik_Wk 1 (pc_q := 4) (loc_q := [some (.ref 66), some (fI n), some (fI 0), some (fI (k0 + 1)), some (fJ ra2_868), none, some (fJ rb2_868), none, some (fI j2_868)]) (st_q := []) (h_q := h_868) (cl_q := 0) (sl_q := 0) rfl ?_
        exact ih  (k0 + 1) 0 (some (fJ ra2_868)) (some (fJ rb2_868)) (some (fI j2_868)) h_868 g_868_66 g_868_83 m_868_83 g_868_84 m_868_84 g_868_85 m_868_85 k_868 fr_868 (by omega) (by omega) rfl rfl rfl (by omega)
      · refine ik_Wk 1 (pc_q := 83) (loc_q := [some (.ref 66), some (fI n), some (fI rs), some (fI k0), some (fJ ra2_868), none, some (fJ rb2_868), none, some (fI j2_868)]) (st_q := [.ref 66]) (h_q := h_868) (cl_q := 0) (sl_q := 0) rfl ?_
        refine fw_gf rfl rfl g_868_66 rfl ?_
        refine ik_Wk 1 (pc_q := 87) (loc_q := [some (.ref 66), some (fI n), some (fI rs), some (fI k0), some (fJ ra2_868), none, some (fJ rb2_868), none, some (fI j2_868)]) (st_q := [fI k0, .ref 84]) (h_q := h_868) (cl_q := 0) (sl_q := 0) rfl ?_
        refine fx_lal rfl g_868_84 (by omega) (by omega) (by omega) ?_
        refine fw_lc (z := 0) rfl (by decide +kernel) ?_
        refine fx_lcx rfl (fun zc3 rzc3 szc3 => ?_)
        refine fw_if_lt rfl rfl (by omega) (by omega) (fun hc4 => ?_) (fun hc4 => ?_)
        · refine ik_Wk 2 (pc_q := 130) (loc_q := [some (.ref 66), some (fI n), some (fI 0), some (fI k0), some (fJ ra2_868), none, some (fJ rb2_868), none, some (fI j2_868)]) (st_q := []) (h_q := h_868) (cl_q := 0) (sl_q := 0) rfl ?_
          refine fw_inc (a := k0) (loc_q := [some (.ref 66), some (fI n), some (fI 0), some (fI (k0 + 1)), some (fJ ra2_868), none, some (fJ rb2_868), none, some (fI j2_868)]) rfl rfl (Nat.le_of_ble_eq_true rfl) rfl ?_
          refine ik_Wk 1 (pc_q := 4) (loc_q := [some (.ref 66), some (fI n), some (fI 0), some (fI (k0 + 1)), some (fJ ra2_868), none, some (fJ rb2_868), none, some (fI j2_868)]) (st_q := []) (h_q := h_868) (cl_q := 0) (sl_q := 0) rfl ?_
          exact ih  (k0 + 1) 0 (some (fJ ra2_868)) (some (fJ rb2_868)) (some (fI j2_868)) h_868 g_868_66 g_868_83 m_868_83 g_868_84 m_868_84 g_868_85 m_868_85 k_868 fr_868 (by omega) (by omega) rfl rfl rfl (by omega)
        · refine ik_Wk 1 (pc_q := 94) (loc_q := [some (.ref 66), some (fI n), some (fI rs), some (fI k0), some (fJ ra2_868), none, some (fJ rb2_868), none, some (fI j2_868)]) (st_q := [.ref 66]) (h_q := h_868) (cl_q := 0) (sl_q := 0) rfl ?_
          refine fw_gf rfl rfl g_868_66 rfl ?_
          refine ik_Wk 1 (pc_q := 98) (loc_q := [some (.ref 66), some (fI n), some (fI rs), some (fI k0), some (fJ ra2_868), none, some (fJ rb2_868), none, some (fI j2_868)]) (st_q := [fI k0, .ref 85]) (h_q := h_868) (cl_q := 0) (sl_q := 0) rfl ?_
          refine fx_lal rfl g_868_85 (by omega) (by omega) (by omega) ?_
          refine fw_lc (z := 0) rfl (by decide +kernel) ?_
          refine fx_lcx rfl (fun zc5 rzc5 szc5 => ?_)
          refine fw_if_lt rfl rfl (by omega) (by omega) (fun hc6 => ?_) (fun hc6 => ?_)
          · refine ik_Wk 2 (pc_q := 130) (loc_q := [some (.ref 66), some (fI n), some (fI 0), some (fI k0), some (fJ ra2_868), none, some (fJ rb2_868), none, some (fI j2_868)]) (st_q := []) (h_q := h_868) (cl_q := 0) (sl_q := 0) rfl ?_
            refine fw_inc (a := k0) (loc_q := [some (.ref 66), some (fI n), some (fI 0), some (fI (k0 + 1)), some (fJ ra2_868), none, some (fJ rb2_868), none, some (fI j2_868)]) rfl rfl (Nat.le_of_ble_eq_true rfl) rfl ?_
            refine ik_Wk 1 (pc_q := 4) (loc_q := [some (.ref 66), some (fI n), some (fI 0), some (fI (k0 + 1)), some (fJ ra2_868), none, some (fJ rb2_868), none, some (fI j2_868)]) (st_q := []) (h_q := h_868) (cl_q := 0) (sl_q := 0) rfl ?_
            exact ih  (k0 + 1) 0 (some (fJ ra2_868)) (some (fJ rb2_868)) (some (fI j2_868)) h_868 g_868_66 g_868_83 m_868_83 g_868_84 m_868_84 g_868_85 m_868_85 k_868 fr_868 (by omega) (by omega) rfl rfl rfl (by omega)
          · refine ik_Wk 2 (pc_q := 107) (loc_q := [some (.ref 66), some (fI n), some (fI rs), some (fI k0), some (fJ ra2_868), none, some (fJ rb2_868), none, some (fI j2_868)]) (st_q := [.ref 66, fJ ra2_868]) (h_q := h_868) (cl_q := 0) (sl_q := 0) rfl ?_
            refine fw_gf rfl rfl g_868_66 rfl ?_
            refine fx_lcx rfl (fun zc7 rzc7 szc7 => ?_)
            refine fw_if_lt rfl rfl (by omega) (by omega) (fun hc8 => ?_) (fun hc8 => ?_)
            · refine ik_Wk 2 (pc_q := 130) (loc_q := [some (.ref 66), some (fI n), some (fI 0), some (fI k0), some (fJ ra2_868), none, some (fJ rb2_868), none, some (fI j2_868)]) (st_q := []) (h_q := h_868) (cl_q := 0) (sl_q := 0) rfl ?_
              refine fw_inc (a := k0) (loc_q := [some (.ref 66), some (fI n), some (fI 0), some (fI (k0 + 1)), some (fJ ra2_868), none, some (fJ rb2_868), none, some (fI j2_868)]) rfl rfl (Nat.le_of_ble_eq_true rfl) rfl ?_
              refine ik_Wk 1 (pc_q := 4) (loc_q := [some (.ref 66), some (fI n), some (fI 0), some (fI (k0 + 1)), some (fJ ra2_868), none, some (fJ rb2_868), none, some (fI j2_868)]) (st_q := []) (h_q := h_868) (cl_q := 0) (sl_q := 0) rfl ?_
              exact ih  (k0 + 1) 0 (some (fJ ra2_868)) (some (fJ rb2_868)) (some (fI j2_868)) h_868 g_868_66 g_868_83 m_868_83 g_868_84 m_868_84 g_868_85 m_868_85 k_868 fr_868 (by omega) (by omega) rfl rfl rfl (by omega)
            · refine ik_Wk 2 (pc_q := 117) (loc_q := [some (.ref 66), some (fI n), some (fI rs), some (fI k0), some (fJ ra2_868), none, some (fJ rb2_868), none, some (fI j2_868)]) (st_q := [.ref 66, fJ rb2_868]) (h_q := h_868) (cl_q := 0) (sl_q := 0) rfl ?_
              refine fw_gf rfl rfl g_868_66 rfl ?_
              refine fx_lcx rfl (fun zc9 rzc9 szc9 => ?_)
              refine fw_if_gt rfl rfl (by omega) (by omega) (fun hc10 => ?_) (fun hc10 => ?_)
              · refine ik_Wk 2 (pc_q := 130) (loc_q := [some (.ref 66), some (fI n), some (fI 0), some (fI k0), some (fJ ra2_868), none, some (fJ rb2_868), none, some (fI j2_868)]) (st_q := []) (h_q := h_868) (cl_q := 0) (sl_q := 0) rfl ?_
                refine fw_inc (a := k0) (loc_q := [some (.ref 66), some (fI n), some (fI 0), some (fI (k0 + 1)), some (fJ ra2_868), none, some (fJ rb2_868), none, some (fI j2_868)]) rfl rfl (Nat.le_of_ble_eq_true rfl) rfl ?_
                refine ik_Wk 1 (pc_q := 4) (loc_q := [some (.ref 66), some (fI n), some (fI 0), some (fI (k0 + 1)), some (fJ ra2_868), none, some (fJ rb2_868), none, some (fI j2_868)]) (st_q := []) (h_q := h_868) (cl_q := 0) (sl_q := 0) rfl ?_
                exact ih  (k0 + 1) 0 (some (fJ ra2_868)) (some (fJ rb2_868)) (some (fI j2_868)) h_868 g_868_66 g_868_83 m_868_83 g_868_84 m_868_84 g_868_85 m_868_85 k_868 fr_868 (by omega) (by omega) rfl rfl rfl (by omega)
              · refine ik_Wk 3 (pc_q := 130) (loc_q := [some (.ref 66), some (fI n), some (fI 1), some (fI k0), some (fJ ra2_868), none, some (fJ rb2_868), none, some (fI j2_868)]) (st_q := []) (h_q := h_868) (cl_q := 0) (sl_q := 0) rfl ?_
                refine fw_inc (a := k0) (loc_q := [some (.ref 66), some (fI n), some (fI 1), some (fI (k0 + 1)), some (fJ ra2_868), none, some (fJ rb2_868), none, some (fI j2_868)]) rfl rfl (Nat.le_of_ble_eq_true rfl) rfl ?_
                refine ik_Wk 1 (pc_q := 4) (loc_q := [some (.ref 66), some (fI n), some (fI 1), some (fI (k0 + 1)), some (fJ ra2_868), none, some (fJ rb2_868), none, some (fI j2_868)]) (st_q := []) (h_q := h_868) (cl_q := 0) (sl_q := 0) rfl ?_
                exact ih  (k0 + 1) 1 (some (fJ ra2_868)) (some (fJ rb2_868)) (some (fI j2_868)) h_868 g_868_66 g_868_83 m_868_83 g_868_84 m_868_84 g_868_85 m_868_85 k_868 fr_868 (by omega) (by omega) rfl rfl rfl (by omega)

theorem cr_isAtRest {h : List ik_E} {f : Nat → Int} {n : Int} {fr : List Int} {so : List Int} {sw : List Int} (q0 : 1 ≤ n ∧ n ≤ 3) (h66 : cE h 66 (.inr (10, (fI (f 0) :: .ref 67 :: .ref 68 :: .ref 69 :: fI (f 4) :: .ref 70 :: .ref 71 :: fI (f 7) :: fI (f 8) :: .ref 72 :: fI (f 10) :: fI (f 11) :: fI (f 12) :: fJ (f 13) :: fI (f 14) :: fI (f 15) :: fI (f 16) :: fI (f 17) :: .ref 73 :: .ref 74 :: .ref 75 :: .ref 76 :: .ref 77 :: .ref 78 :: fI (f 24) :: .ref 79 :: .ref 80 :: .ref 81 :: .ref 82 :: .ref 83 :: .ref 84 :: .ref 85 :: fJ (f 32) :: fJ (f 33) :: .ref 86 :: .ref 87 :: fI (f 36) :: .ref 88 :: .ref 89 :: .ref 90 :: .ref 91 :: .ref 92 :: .ref 93 :: [])))) (h83 : cE h 83 (.inl (.long, fL fr))) (n83 : fr.length = (9 : Nat)) (h84 : cE h 84 (.inl (.long, fL so))) (n84 : so.length = (3 : Nat)) (h85 : cE h 85 (.inl (.long, fL sw))) (n85 : sw.length = (3 : Nat)) (hl : h.length = (94 : Nat)) : ik_F 177 [.ref 66, fI n] h (fun rv h_q => ∃ (b : Int), rv = [fI b] ∧ ((0 : Int) ≤ b ∧ b ≤ (1 : Int)) ∧ hfr [] h h_q) := by
  refine ik_Wk 4 (pc_q := 4) (loc_q := [some (.ref 66), some (fI n), some (fI 1), some (fI 0), none, none, none, none, none]) (st_q := []) (h_q := h) (cl_q := 0) (sl_q := 0) rfl ?_
  exact cr_isAtRestL (f := f) (n := n) (fr := fr) (so := so) (sw := sw) q0  (n.toNat + 1) 0 1 none none none h h66 h83 n83 h84 n84 h85 n85 hl (hfr_refl [] h) (by omega) (by omega) rfl rfl rfl (by omega)

end
