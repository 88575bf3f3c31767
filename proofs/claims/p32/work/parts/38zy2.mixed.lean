noncomputable section
theorem cp_mixed1 {h : List ik_E} {pl : Int} {lo : Int} {s : Nat} {ka : Int} {pa : Int} {fa : Int} {kb : Int} {pb : Int} {fb : Int} {bo : Int} {la : Int} {lb : Int} {wg : List Int} {wc : List Int} {we : List Int} {W : Int → List (Int × Int)} {fe : List Int} {bo_ : List Int} {sh : List Int} {wh : List Int} {wo : List Int} {p : Int} {what : Int} (q0 : 0 ≤ pl ∧ pl ≤ 12) (q1 : 1 < pl → 0 ≤ ka ∧ ka ≤ 2 ∧ 0 ≤ kb ∧ kb ≤ 2) (q2 : ∀ x : Int, 0 ≤ x → x < pl - 1 → mx_wy wg wc we x (W x)) (q3 : ∀ x : Int, 0 ≤ x → x < pl - 1 → mx_ok pl (W x)) (q4 : ∀ i : Int, 0 ≤ i → i < 9 → 0 ≤ fe.getD i.toNat 0 ∧ fe.getD i.toNat 0 ≤ 1000) (q5 : -2147483648 ≤ p ∧ p < 2147483648) (q6 : -2147483648 ≤ what ∧ what < 2147483648) (h0 : cE h 0 (.inr (9, [.ref 1, .ref 7, .ref 14, .ref 17, .ref 45, .ref 51, .ref 54, .ref 57]))) (h7 : cE h 7 (.inr (0, [fI pl, fI ((s : Nat) : Int), fI lo, .ref 8, .ref 9, .ref 10, .ref 11, .ref 12, .ref 13]))) (h11 : cE h 11 (.inl (.int, fA wg))) (n11 : wg.length = 60) (h12 : cE h 12 (.inl (.int, fA wc))) (n12 : wc.length = 60) (h13 : cE h 13 (.inl (.int, fA we))) (n13 : we.length = 12) (h15 : cE h 15 (.inl (.int, fA [ka, pa, fa, kb, pb, fb]))) (h17 : cE h 17 (.inr (8, [.ref 7, .ref 15, .ref 18, .ref 19, fJ bo, .ref 20]))) (h18 : cE h 18 (.inl (.object "SlowerCork$Course", [.ref 21, .ref 25, .ref 29, .ref 33, .ref 37, .ref 41]))) (h19 : cE h 19 (.inl (.long, fL [la, lb]))) (h21 : mf_cr h 21 ) (h25 : mf_cr h 25 ) (h29 : mf_cr h 29 ) (h33 : mf_cr h 33 ) (h37 : mf_cr h 37 ) (h41 : mf_cr h 41 ) (h46 : cE h 46 (.inl (.int, fA fe))) (n46 : fe.length = 9) (h45 : cE h 45 (.inr (5, [.ref 46, .ref 47, .ref 48, .ref 49, .ref 50]))) (h47 : cE h 47 (.inl (.long, fL bo_))) (n47 : bo_.length = 12) (h48 : cE h 48 (.inl (.long, fL sh))) (n48 : sh.length = 6) (h49 : cE h 49 (.inl (.long, fL wh))) (n49 : wh.length = 2) (h50 : cE h 50 (.inl (.long, fL wo))) (n50 : wo.length = 2) (hl : h.length = 94) : ik_F 102 [.ref 0, fI p, fI 1, fI what] h (fun rv h' => ∃ (l0 : Int) (l1 : Int) (l2 : Int) (fe' : List Int) (bo' : List Int) (sh' : List Int) (wh' : List Int) (wo' : List Int) (v : Int), rv = [fI v] ∧ cE h' 17 (.inr (8, [.ref 7, .ref 15, .ref 18, .ref 19, fJ l2, .ref 20])) ∧ cE h' 19 (.inl (.long, fL [l0, l1])) ∧ mf_cr h' 21  ∧ mf_cr h' 25  ∧ mf_cr h' 29  ∧ mf_cr h' 33  ∧ mf_cr h' 37  ∧ mf_cr h' 41  ∧ cE h' 46 (.inl (.int, fA fe')) ∧ fe'.length = 9 ∧ cE h' 47 (.inl (.long, fL bo')) ∧ bo'.length = 12 ∧ cE h' 48 (.inl (.long, fL sh')) ∧ sh'.length = 6 ∧ cE h' 49 (.inl (.long, fL wh')) ∧ wh'.length = 2 ∧ cE h' 50 (.inl (.long, fL wo')) ∧ wo'.length = 2 ∧ (∀ i : Int, 0 ≤ i → i < 9 → 0 ≤ fe'.getD i.toNat 0 ∧ fe'.getD i.toNat 0 ≤ 1000) ∧ hfr [17, 19, 46, 47, 48, 49, 50, 21, 22, 23, 24, 25, 26, 27, 28, 29, 30, 31, 32, 33, 34, 35, 36, 37, 38, 39, 40, 41, 42, 43, 44] h h') := by
  refine ik_Wk 1 (pc' := 1) (loc' := [some (.ref 0), some (fI p), some (fI 1), some (fI what)]) (st' := [.ref 0]) (h' := h) (cl' := 0) (sl' := 0) rfl ?_
  refine fw_gf rfl rfl h0 rfl ?_
  refine ik_Wk 1 (pc' := 5) (loc' := [some (.ref 0), some (fI p), some (fI 1), some (fI what)]) (st' := [fI p, .ref 7]) (h' := h) (cl' := 0) (sl' := 0) rfl ?_
  refine ik_Wc 4 2 0 [.ref 7, fI p] [] rfl rfl rfl (by decide) rfl rfl (fw_rec hl rfl h7 rfl (by decide)) ?_
  refine ik_Wk 0 (pc' := 0) (loc' := [some (.ref 7), some (fI p)]) (st' := []) (h' := h) (cl' := 0) (sl' := 0) rfl ?_
  refine ik_Wk 1 (pc' := 1) (loc' := [some (.ref 7), some (fI p)]) (st' := [fI p]) (h' := h) (cl' := 0) (sl' := 0) rfl ?_
  refine fw_if_lt rfl rfl (by omega) (by omega) (fun hc1 => ?_) (fun hc1 => ?_)
  · refine ik_Wk 1 (pc' := 19) (loc' := [some (.ref 7), some (fI p)]) (st' := [fI 0]) (h' := h) (cl' := 0) (sl' := 0) rfl ?_
    refine ik_Wret rfl rfl ⟨_, _, rfl, rfl, ?_⟩
    refine ik_Wk 0 (pc' := 8) (loc' := [some (.ref 0), some (fI p), some (fI 1), some (fI what)]) (st' := [fI 0]) (h' := h) (cl' := 0) (sl' := 0) rfl ?_
    refine fw_if_eq rfl rfl (by omega) (by omega) (fun hc2 => ?_) (fun hc2 => absurd hc2 (by omega))
    refine fw_ld (-1000000001) rfl rfl (by decide) ?_
    exact ik_Wret rfl rfl ⟨_, _, rfl, rfl, rfl, rfl, ⟨la, lb, bo, fe, bo_, sh, wh, wo, (-1000000001), rfl, h17, h19, h21, h25, h29, h33, h37, h41, h46, n46, h47, n47, h48, n48, h49, n49, h50, n50, q4, (hfr_refl [17, 19, 46, 47, 48, 49, 50, 21, 22, 23, 24, 25, 26, 27, 28, 29, 30, 31, 32, 33, 34, 35, 36, 37, 38, 39, 40, 41, 42, 43, 44] h)⟩⟩
  · refine ik_Wk 2 (pc' := 6) (loc' := [some (.ref 7), some (fI p)]) (st' := [.ref 7, fI p]) (h' := h) (cl' := 0) (sl' := 0) rfl ?_
    refine fw_gf rfl rfl h7 rfl ?_
    refine ik_Wk 1 (pc' := 10) (loc' := [some (.ref 7), some (fI p)]) (st' := [fI 1, fI pl, fI p]) (h' := h) (cl' := 0) (sl' := 0) rfl ?_
    refine fw_sub rfl ?_
    refine fw_ic_ge rfl rfl (by omega) (by omega) (by omega) (by omega) (fun hc3 => ?_) (fun hc3 => ?_)
    · refine ik_Wk 1 (pc' := 19) (loc' := [some (.ref 7), some (fI p)]) (st' := [fI 0]) (h' := h) (cl' := 0) (sl' := 0) rfl ?_
      refine ik_Wret rfl rfl ⟨_, _, rfl, rfl, ?_⟩
      refine ik_Wk 0 (pc' := 8) (loc' := [some (.ref 0), some (fI p), some (fI 1), some (fI what)]) (st' := [fI 0]) (h' := h) (cl' := 0) (sl' := 0) rfl ?_
      refine fw_if_eq rfl rfl (by omega) (by omega) (fun hc4 => ?_) (fun hc4 => absurd hc4 (by omega))
      refine fw_ld (-1000000001) rfl rfl (by decide) ?_
      exact ik_Wret rfl rfl ⟨_, _, rfl, rfl, rfl, rfl, ⟨la, lb, bo, fe, bo_, sh, wh, wo, (-1000000001), rfl, h17, h19, h21, h25, h29, h33, h37, h41, h46, n46, h47, n47, h48, n48, h49, n49, h50, n50, q4, (hfr_refl [17, 19, 46, 47, 48, 49, 50, 21, 22, 23, 24, 25, 26, 27, 28, 29, 30, 31, 32, 33, 34, 35, 36, 37, 38, 39, 40, 41, 42, 43, 44] h)⟩⟩
    · refine ik_Wk 2 (pc' := 19) (loc' := [some (.ref 7), some (fI p)]) (st' := [fI 1]) (h' := h) (cl' := 0) (sl' := 0) rfl ?_
      refine ik_Wret rfl rfl ⟨_, _, rfl, rfl, ?_⟩
      refine ik_Wk 0 (pc' := 8) (loc' := [some (.ref 0), some (fI p), some (fI 1), some (fI what)]) (st' := [fI 1]) (h' := h) (cl' := 0) (sl' := 0) rfl ?_
      refine fw_if_eq rfl rfl (by omega) (by omega) (fun hc5 => absurd hc5 (by omega)) (fun hc5 => ?_)
      refine ik_Wk 2 (pc' := 13) (loc' := [some (.ref 0), some (fI p), some (fI 1), some (fI what)]) (st' := [.ref 0, fI 1]) (h' := h) (cl' := 0) (sl' := 0) rfl ?_
      refine fw_gf rfl rfl h0 rfl ?_
      refine ik_Wc 2 1 0 [.ref 7] [fI 1] rfl rfl rfl (by decide) rfl rfl (fw_rec hl rfl h7 rfl (by decide)) ?_
      refine ik_Wk 0 (pc' := 0) (loc' := [some (.ref 7)]) (st' := []) (h' := h) (cl' := 0) (sl' := 0) rfl ?_
      refine ik_Wk 1 (pc' := 1) (loc' := [some (.ref 7)]) (st' := [.ref 7]) (h' := h) (cl' := 0) (sl' := 0) rfl ?_
      refine fw_gf rfl rfl h7 rfl ?_
      refine ik_Wk 1 (pc' := 5) (loc' := [some (.ref 7)]) (st' := [fI 1, fI pl]) (h' := h) (cl' := 0) (sl' := 0) rfl ?_
      refine fw_sub rfl ?_
      refine ik_Wret rfl rfl ⟨_, _, rfl, rfl, ?_⟩
      refine ik_Wk 0 (pc' := 19) (loc' := [some (.ref 0), some (fI p), some (fI 1), some (fI what)]) (st' := [fI (pl - 1), fI 1]) (h' := h) (cl' := 0) (sl' := 0) rfl ?_
      refine ik_Wk 1 (pc' := 20) (loc' := [some (.ref 0), some (fI p), some (fI 1), some (fI what)]) (st' := [fI p, fI (pl - 1), fI 1]) (h' := h) (cl' := 0) (sl' := 0) rfl ?_
      refine fw_sub rfl ?_
      refine fw_ic_le rfl rfl (by omega) (by omega) (by omega) (by omega) (fun hc6 => ?_) (fun hc6 => ?_)
      · refine ik_Wk 2 (pc' := 29) (loc' := [some (.ref 0), some (fI p), some (fI 1), some (fI what)]) (st' := [fI 1, fI 1]) (h' := h) (cl' := 0) (sl' := 0) rfl ?_
        refine fw_ic_lt rfl rfl (by omega) (by omega) (by omega) (by omega) (fun hc7 => absurd hc7 (by omega)) (fun hc7 => ?_)
        refine ik_Wk 2 (pc' := 34) (loc' := [some (.ref 0), some (fI p), some (fI 1), some (fI what)]) (st' := [fI 3, fI 1]) (h' := h) (cl' := 0) (sl' := 0) rfl ?_
        refine fw_ic_gt rfl rfl (by omega) (by omega) (by omega) (by omega) (fun hc8 => absurd hc8 (by omega)) (fun hc8 => ?_)
        refine ik_Wk 1 (pc' := 38) (loc' := [some (.ref 0), some (fI p), some (fI 1), some (fI what)]) (st' := [fI what]) (h' := h) (cl' := 0) (sl' := 0) rfl ?_
        refine fw_if_lt rfl rfl (by omega) (by omega) (fun hc9 => ?_) (fun hc9 => ?_)
        · refine fw_ld (-1000000002) rfl rfl (by decide) ?_
          exact ik_Wret rfl rfl ⟨_, _, rfl, rfl, rfl, rfl, ⟨la, lb, bo, fe, bo_, sh, wh, wo, (-1000000002), rfl, h17, h19, h21, h25, h29, h33, h37, h41, h46, n46, h47, n47, h48, n48, h49, n49, h50, n50, q4, (hfr_refl [17, 19, 46, 47, 48, 49, 50, 21, 22, 23, 24, 25, 26, 27, 28, 29, 30, 31, 32, 33, 34, 35, 36, 37, 38, 39, 40, 41, 42, 43, 44] h)⟩⟩
        · refine ik_Wk 1 (pc' := 42) (loc' := [some (.ref 0), some (fI p), some (fI 1), some (fI what)]) (st' := [fI what]) (h' := h) (cl' := 0) (sl' := 0) rfl ?_
          refine fw_bi rfl (by decide) ?_
          refine fw_ic_le rfl rfl (by omega) (by omega) (by omega) (by omega) (fun hc10 => ?_) (fun hc10 => ?_)
          · refine ik_Wk 1 (pc' := 51) (loc' := [some (.ref 0), some (fI p), some (fI 1), some (fI what)]) (st' := [.ref 0]) (h' := h) (cl' := 0) (sl' := 0) rfl ?_
            refine fw_gf rfl rfl h0 rfl ?_
            refine ik_Wk 3 (pc' := 57) (loc' := [some (.ref 0), some (fI p), some (fI 1), some (fI what)]) (st' := [.ref 0, fI 1, fI p, .ref 17]) (h' := h) (cl' := 0) (sl' := 0) rfl ?_
            refine fw_gf rfl rfl h0 rfl ?_
            refine fw_gf rfl rfl h45 rfl ?_
            refine fw_call 84 4 0 [.ref 17, fI p, fI 1, .ref 46] [] rfl rfl rfl (by decide) rfl rfl (fw_rec hl rfl h17 rfl (by decide)) (cs_fears1 (pl := pl) (lo := lo) (s := s) (ka := ka) (pa := pa) (fa := fa) (kb := kb) (pb := pb) (fb := fb) (bo := bo) (la := la) (lb := lb) (p := p) (wg := wg) (wc := wc) (we := we) (fe := fe) (W := W) (by omega) (q1 (by omega)) (by omega) q2 q3 q4 h7 h11 n11 h12 n12 h13 n13 h15 h17 h18 h19 h21 h25 h29 h33 h37 h41 h46 n46 hl) ?_
            rintro _ h_730 ⟨l0_730, l1_730, l2_730, fe'_730, rfl, e_730_17, e_730_19, e_730_21, e_730_25, e_730_29, e_730_33, e_730_37, e_730_41, e_730_46, m_730_46, p_730_0, F_730⟩
            have k_730 := F_730.1.trans hl
            have fr_730 := hfr_c (hfr_refl [17, 19, 46, 47, 48, 49, 50, 21, 22, 23, 24, 25, 26, 27, 28, 29, 30, 31, 32, 33, 34, 35, 36, 37, 38, 39, 40, 41, 42, 43, 44] h) F_730 (by decide)
            have g_730_0 := (F_730.2 0 (by decide +kernel)).trans h0
            have g_730_7 := (F_730.2 7 (by decide +kernel)).trans h7
            have g_730_11 := (F_730.2 11 (by decide +kernel)).trans h11
            have g_730_12 := (F_730.2 12 (by decide +kernel)).trans h12
            have g_730_13 := (F_730.2 13 (by decide +kernel)).trans h13
            have g_730_15 := (F_730.2 15 (by decide +kernel)).trans h15
            have g_730_18 := (F_730.2 18 (by decide +kernel)).trans h18
            have g_730_45 := (F_730.2 45 (by decide +kernel)).trans h45
            have g_730_47 := (F_730.2 47 (by decide +kernel)).trans h47
            have g_730_48 := (F_730.2 48 (by decide +kernel)).trans h48
            have g_730_49 := (F_730.2 49 (by decide +kernel)).trans h49
            have g_730_50 := (F_730.2 50 (by decide +kernel)).trans h50
            have g_730_17 : cE h_730 17 (.inr (8, [.ref 7, .ref 15, .ref 18, .ref 19, fJ l2_730, .ref 20])) := e_730_17
            have g_730_19 : cE h_730 19 (.inl (.long, fL [l0_730, l1_730])) := e_730_19
            have g_730_21 : mf_cr h_730 21  := e_730_21
            have g_730_25 : mf_cr h_730 25  := e_730_25
            have g_730_29 : mf_cr h_730 29  := e_730_29
            have g_730_33 : mf_cr h_730 33  := e_730_33
            have g_730_37 : mf_cr h_730 37  := e_730_37
            have g_730_41 : mf_cr h_730 41  := e_730_41
            have g_730_46 : cE h_730 46 (.inl (.int, fA fe'_730)) := e_730_46
            refine ik_Wk 0 (pc' := 66) (loc' := [some (.ref 0), some (fI p), some (fI 1), some (fI what)]) (st' := []) (h' := h_730) (cl' := 0) (sl' := 0) rfl ?_
            refine ik_Wk 1 (pc' := 67) (loc' := [some (.ref 0), some (fI p), some (fI 1), some (fI what)]) (st' := [.ref 0]) (h' := h_730) (cl' := 0) (sl' := 0) rfl ?_
            refine fw_gf rfl rfl g_730_0 rfl ?_
            refine ik_Wk 1 (pc' := 71) (loc' := [some (.ref 0), some (fI p), some (fI 1), some (fI what)]) (st' := [fI 1, .ref 45]) (h' := h_730) (cl' := 0) (sl' := 0) rfl ?_
            refine fw_call 43 2 0 [.ref 45, fI 1] [] rfl rfl rfl (by decide) rfl rfl (fw_rec k_730 rfl g_730_45 rfl (by decide)) (cs_findPair (n := 1) (fe := fe'_730) (bo_ := bo_) (sh := sh) (wh := wh) (wo := wo) (by omega) p_730_0 g_730_45 g_730_46 m_730_46 g_730_47 n47 g_730_48 n48 g_730_49 n49 g_730_50 n50 k_730) ?_
            rintro _ h_731 ⟨bo'_731, sh'_731, wh'_731, wo'_731, b_731, rfl, e_731_47, m_731_47, e_731_48, m_731_48, e_731_49, m_731_49, e_731_50, m_731_50, p_731_0, F_731⟩
            have k_731 := F_731.1.trans k_730
            have fr_731 := hfr_c fr_730 F_731 (by decide)
            have g_731_0 := (F_731.2 0 (by decide +kernel)).trans g_730_0
            have g_731_7 := (F_731.2 7 (by decide +kernel)).trans g_730_7
            have g_731_11 := (F_731.2 11 (by decide +kernel)).trans g_730_11
            have g_731_12 := (F_731.2 12 (by decide +kernel)).trans g_730_12
            have g_731_13 := (F_731.2 13 (by decide +kernel)).trans g_730_13
            have g_731_15 := (F_731.2 15 (by decide +kernel)).trans g_730_15
            have g_731_17 := (F_731.2 17 (by decide +kernel)).trans g_730_17
            have g_731_18 := (F_731.2 18 (by decide +kernel)).trans g_730_18
            have g_731_19 := (F_731.2 19 (by decide +kernel)).trans g_730_19
            have g_731_21 := mf_cr_f g_730_21 (F_731.2 21 (by decide)) (F_731.2 22 (by decide)) (F_731.2 23 (by decide)) (F_731.2 24 (by decide))
            have g_731_25 := mf_cr_f g_730_25 (F_731.2 25 (by decide)) (F_731.2 26 (by decide)) (F_731.2 27 (by decide)) (F_731.2 28 (by decide))
            have g_731_29 := mf_cr_f g_730_29 (F_731.2 29 (by decide)) (F_731.2 30 (by decide)) (F_731.2 31 (by decide)) (F_731.2 32 (by decide))
            have g_731_33 := mf_cr_f g_730_33 (F_731.2 33 (by decide)) (F_731.2 34 (by decide)) (F_731.2 35 (by decide)) (F_731.2 36 (by decide))
            have g_731_37 := mf_cr_f g_730_37 (F_731.2 37 (by decide)) (F_731.2 38 (by decide)) (F_731.2 39 (by decide)) (F_731.2 40 (by decide))
            have g_731_41 := mf_cr_f g_730_41 (F_731.2 41 (by decide)) (F_731.2 42 (by decide)) (F_731.2 43 (by decide)) (F_731.2 44 (by decide))
            have g_731_46 := (F_731.2 46 (by decide +kernel)).trans g_730_46
            have g_731_45 := (F_731.2 45 (by decide +kernel)).trans g_730_45
            have g_731_47 : cE h_731 47 (.inl (.long, fL bo'_731)) := e_731_47
            have g_731_48 : cE h_731 48 (.inl (.long, fL sh'_731)) := e_731_48
            have g_731_49 : cE h_731 49 (.inl (.long, fL wh'_731)) := e_731_49
            have g_731_50 : cE h_731 50 (.inl (.long, fL wo'_731)) := e_731_50
            refine ik_Wk 0 (pc' := 74) (loc' := [some (.ref 0), some (fI p), some (fI 1), some (fI what)]) (st' := [fI b_731]) (h' := h_731) (cl' := 0) (sl' := 0) rfl ?_
            refine fw_if_ne rfl rfl (by omega) (by omega) (fun hc11 => ?_) (fun hc11 => ?_)
            · refine fw_ld (-1000000003) rfl rfl (by decide) ?_
              exact ik_Wret rfl rfl ⟨_, _, rfl, rfl, rfl, rfl, ⟨l0_730, l1_730, l2_730, fe'_730, bo'_731, sh'_731, wh'_731, wo'_731, (-1000000003), rfl, g_731_17, g_731_19, g_731_21, g_731_25, g_731_29, g_731_33, g_731_37, g_731_41, g_731_46, m_730_46, g_731_47, m_731_47, g_731_48, m_731_48, g_731_49, m_731_49, g_731_50, m_731_50, p_730_0, fr_731⟩⟩
            · refine ik_Wk 1 (pc' := 81) (loc' := [some (.ref 0), some (fI p), some (fI 1), some (fI what)]) (st' := [fI what]) (h' := h_731) (cl' := 0) (sl' := 0) rfl ?_
              refine fw_if_ne rfl rfl (by omega) (by omega) (fun hc12 => ?_) (fun hc12 => ?_)
              · refine ik_Wk 1 (pc' := 85) (loc' := [some (.ref 0), some (fI p), some (fI 1), some (fI what)]) (st' := [.ref 0]) (h' := h_731) (cl' := 0) (sl' := 0) rfl ?_
                refine fw_gf rfl rfl g_731_0 rfl ?_
                refine ik_Wc 41 1 0 [.ref 45] [] rfl rfl rfl (by decide) rfl rfl (fw_rec k_731 rfl g_731_45 rfl (by decide)) ?_
                refine ik_Wk 0 (pc' := 0) (loc' := [some (.ref 45)]) (st' := []) (h' := h_731) (cl' := 0) (sl' := 0) rfl ?_
                refine ik_Wk 1 (pc' := 1) (loc' := [some (.ref 45)]) (st' := [.ref 45]) (h' := h_731) (cl' := 0) (sl' := 0) rfl ?_
                refine fw_gf rfl rfl g_731_45 rfl ?_
                refine ik_Wk 1 (pc' := 5) (loc' := [some (.ref 45)]) (st' := [fI 0, .ref 49]) (h' := h_731) (cl' := 0) (sl' := 0) rfl ?_
                refine fx_lal rfl g_731_49 (by omega) (by omega) (by omega) ?_
                refine fw_lc (z := 0) rfl (by decide) ?_
                refine fx_lcx rfl (fun zc13 rzc13 szc13 => ?_)
                refine fw_if_le rfl rfl (by omega) (by omega) (fun hc14 => ?_) (fun hc14 => ?_)
                · refine ik_Wk 1 (pc' := 33) (loc' := [some (.ref 45)]) (st' := [fI 0]) (h' := h_731) (cl' := 0) (sl' := 0) rfl ?_
                  refine ik_Wret rfl rfl ⟨_, _, rfl, rfl, ?_⟩
                  refine ik_Wk 0 (pc' := 91) (loc' := [some (.ref 0), some (fI p), some (fI 1), some (fI what)]) (st' := [fI 0]) (h' := h_731) (cl' := 0) (sl' := 0) rfl ?_
                  refine ik_Wk 1 (pc' := 111) (loc' := [some (.ref 0), some (fI p), some (fI 1), some (fI what)]) (st' := [fI 0]) (h' := h_731) (cl' := 0) (sl' := 0) rfl ?_
                  exact ik_Wret rfl rfl ⟨_, _, rfl, rfl, rfl, rfl, ⟨l0_730, l1_730, l2_730, fe'_730, bo'_731, sh'_731, wh'_731, wo'_731, 0, rfl, g_731_17, g_731_19, g_731_21, g_731_25, g_731_29, g_731_33, g_731_37, g_731_41, g_731_46, m_730_46, g_731_47, m_731_47, g_731_48, m_731_48, g_731_49, m_731_49, g_731_50, m_731_50, p_730_0, fr_731⟩⟩
                · refine ik_Wk 1 (pc' := 12) (loc' := [some (.ref 45)]) (st' := [.ref 45]) (h' := h_731) (cl' := 0) (sl' := 0) rfl ?_
                  refine fw_gf rfl rfl g_731_45 rfl ?_
                  refine ik_Wk 1 (pc' := 16) (loc' := [some (.ref 45)]) (st' := [fI 0, .ref 50]) (h' := h_731) (cl' := 0) (sl' := 0) rfl ?_
                  refine fx_lal rfl g_731_50 (by omega) (by omega) (by omega) ?_
                  refine fw_l2 1000 rfl rfl (by decide) ?_
                  refine fw_lmul rfl ?_
                  refine ik_Wk 1 (pc' := 22) (loc' := [some (.ref 45)]) (st' := [.ref 45, fJ ((wo'_731.getD (0 : Int).toNat 0) * 1000)]) (h' := h_731) (cl' := 0) (sl' := 0) rfl ?_
                  refine fw_gf rfl rfl g_731_45 rfl ?_
                  refine ik_Wk 1 (pc' := 26) (loc' := [some (.ref 45)]) (st' := [fI 0, .ref 49, fJ ((wo'_731.getD (0 : Int).toNat 0) * 1000)]) (h' := h_731) (cl' := 0) (sl' := 0) rfl ?_
                  refine fx_lal rfl g_731_49 (by omega) (by omega) (by omega) ?_
                  refine fx_ldo rfl (by rcases szc13 with w | w; omega; exact fun e => w (e.trans (by decide))) (fun qd15 => ?_)
                  refine fx_l2i rfl ?_
                  refine ik_Wk 1 (pc' := 33) (loc' := [some (.ref 45)]) (st' := [fI qd15]) (h' := h_731) (cl' := 0) (sl' := 0) rfl ?_
                  refine ik_Wret rfl rfl ⟨_, _, rfl, rfl, ?_⟩
                  refine ik_Wk 0 (pc' := 91) (loc' := [some (.ref 0), some (fI p), some (fI 1), some (fI what)]) (st' := [fI qd15]) (h' := h_731) (cl' := 0) (sl' := 0) rfl ?_
                  refine ik_Wk 1 (pc' := 111) (loc' := [some (.ref 0), some (fI p), some (fI 1), some (fI what)]) (st' := [fI qd15]) (h' := h_731) (cl' := 0) (sl' := 0) rfl ?_
                  exact ik_Wret rfl rfl ⟨_, _, rfl, rfl, rfl, rfl, ⟨l0_730, l1_730, l2_730, fe'_730, bo'_731, sh'_731, wh'_731, wo'_731, qd15, rfl, g_731_17, g_731_19, g_731_21, g_731_25, g_731_29, g_731_33, g_731_37, g_731_41, g_731_46, m_730_46, g_731_47, m_731_47, g_731_48, m_731_48, g_731_49, m_731_49, g_731_50, m_731_50, p_730_0, fr_731⟩⟩
              · refine ik_Wk 1 (pc' := 95) (loc' := [some (.ref 0), some (fI p), some (fI 1), some (fI what)]) (st' := [.ref 0]) (h' := h_731) (cl' := 0) (sl' := 0) rfl ?_
                refine fw_gf rfl rfl g_731_0 rfl ?_
                refine ik_Wk 2 (pc' := 100) (loc' := [some (.ref 0), some (fI p), some (fI 1), some (fI what)]) (st' := [fI 1, fI what, .ref 45]) (h' := h_731) (cl' := 0) (sl' := 0) rfl ?_
                refine fw_sub rfl ?_
                refine ik_Wk 1 (pc' := 102) (loc' := [some (.ref 0), some (fI p), some (fI 1), some (fI what)]) (st' := [fI 3, fI (what - 1), .ref 45]) (h' := h_731) (cl' := 0) (sl' := 0) rfl ?_
                refine fx_idiv rfl (by omega) (by omega) (by omega) (by omega) ?_
                refine ik_Wk 2 (pc' := 105) (loc' := [some (.ref 0), some (fI p), some (fI 1), some (fI what)]) (st' := [fI 1, fI what, fI ((what - 1) / 3), .ref 45]) (h' := h_731) (cl' := 0) (sl' := 0) rfl ?_
                refine fw_sub rfl ?_
                refine ik_Wk 1 (pc' := 107) (loc' := [some (.ref 0), some (fI p), some (fI 1), some (fI what)]) (st' := [fI 3, fI (what - 1), fI ((what - 1) / 3), .ref 45]) (h' := h_731) (cl' := 0) (sl' := 0) rfl ?_
                refine fx_irem rfl (by omega) (by omega) (by omega) (by omega) ?_
                refine ik_Wc 42 3 0 [.ref 45, fI ((what - 1) / 3), fI ((what - 1) % 3)] [] rfl rfl rfl (by decide) rfl rfl (fw_rec k_731 rfl g_731_45 rfl (by decide)) ?_
                refine ik_Wk 0 (pc' := 0) (loc' := [some (.ref 45), some (fI ((what - 1) / 3)), some (fI ((what - 1) % 3))]) (st' := []) (h' := h_731) (cl' := 0) (sl' := 0) rfl ?_
                refine ik_Wk 1 (pc' := 1) (loc' := [some (.ref 45), some (fI ((what - 1) / 3)), some (fI ((what - 1) % 3))]) (st' := [.ref 45]) (h' := h_731) (cl' := 0) (sl' := 0) rfl ?_
                refine fw_gf rfl rfl g_731_45 rfl ?_
                refine ik_Wk 1 (pc' := 5) (loc' := [some (.ref 45), some (fI ((what - 1) / 3)), some (fI ((what - 1) % 3))]) (st' := [fI ((what - 1) / 3), .ref 49]) (h' := h_731) (cl' := 0) (sl' := 0) rfl ?_
                refine fx_lal rfl g_731_49 (by omega) (by omega) (by omega) ?_
                refine fw_lc (z := 0) rfl (by decide) ?_
                refine fx_lcx rfl (fun zc16 rzc16 szc16 => ?_)
                refine fw_if_le rfl rfl (by omega) (by omega) (fun hc17 => ?_) (fun hc17 => ?_)
                · refine ik_Wk 1 (pc' := 37) (loc' := [some (.ref 45), some (fI ((what - 1) / 3)), some (fI ((what - 1) % 3))]) (st' := [fI 0]) (h' := h_731) (cl' := 0) (sl' := 0) rfl ?_
                  refine ik_Wret rfl rfl ⟨_, _, rfl, rfl, ?_⟩
                  refine ik_Wk 0 (pc' := 111) (loc' := [some (.ref 0), some (fI p), some (fI 1), some (fI what)]) (st' := [fI 0]) (h' := h_731) (cl' := 0) (sl' := 0) rfl ?_
                  exact ik_Wret rfl rfl ⟨_, _, rfl, rfl, rfl, rfl, ⟨l0_730, l1_730, l2_730, fe'_730, bo'_731, sh'_731, wh'_731, wo'_731, 0, rfl, g_731_17, g_731_19, g_731_21, g_731_25, g_731_29, g_731_33, g_731_37, g_731_41, g_731_46, m_730_46, g_731_47, m_731_47, g_731_48, m_731_48, g_731_49, m_731_49, g_731_50, m_731_50, p_730_0, fr_731⟩⟩
                · refine ik_Wk 1 (pc' := 12) (loc' := [some (.ref 45), some (fI ((what - 1) / 3)), some (fI ((what - 1) % 3))]) (st' := [.ref 45]) (h' := h_731) (cl' := 0) (sl' := 0) rfl ?_
                  refine fw_gf rfl rfl g_731_45 rfl ?_
                  refine ik_Wk 2 (pc' := 17) (loc' := [some (.ref 45), some (fI ((what - 1) / 3)), some (fI ((what - 1) % 3))]) (st' := [fI 3, fI ((what - 1) / 3), .ref 48]) (h' := h_731) (cl' := 0) (sl' := 0) rfl ?_
                  refine fx_mulc rfl ?_
                  refine ik_Wk 1 (pc' := 19) (loc' := [some (.ref 45), some (fI ((what - 1) / 3)), some (fI ((what - 1) % 3))]) (st' := [fI ((what - 1) % 3), fI (3 * ((what - 1) / 3)), .ref 48]) (h' := h_731) (cl' := 0) (sl' := 0) rfl ?_
                  refine fw_add rfl ?_
                  refine fx_lal rfl g_731_48 (by omega) (by omega) (by omega) ?_
                  refine fw_l2 1000000 rfl rfl (by decide) ?_
                  refine fw_lmul rfl ?_
                  refine ik_Wk 1 (pc' := 26) (loc' := [some (.ref 45), some (fI ((what - 1) / 3)), some (fI ((what - 1) % 3))]) (st' := [.ref 45, fJ ((sh'_731.getD ((3 * ((what - 1) / 3)) + ((what - 1) % 3)).toNat 0) * 1000000)]) (h' := h_731) (cl' := 0) (sl' := 0) rfl ?_
                  refine fw_gf rfl rfl g_731_45 rfl ?_
                  refine ik_Wk 1 (pc' := 30) (loc' := [some (.ref 45), some (fI ((what - 1) / 3)), some (fI ((what - 1) % 3))]) (st' := [fI ((what - 1) / 3), .ref 49, fJ ((sh'_731.getD ((3 * ((what - 1) / 3)) + ((what - 1) % 3)).toNat 0) * 1000000)]) (h' := h_731) (cl' := 0) (sl' := 0) rfl ?_
                  refine fx_lal rfl g_731_49 (by omega) (by omega) (by omega) ?_
                  refine fx_ldo rfl (by rcases szc16 with w | w; omega; exact fun e => w (e.trans (by decide))) (fun qd18 => ?_)
                  refine fx_l2i rfl ?_
                  refine ik_Wk 1 (pc' := 37) (loc' := [some (.ref 45), some (fI ((what - 1) / 3)), some (fI ((what - 1) % 3))]) (st' := [fI qd18]) (h' := h_731) (cl' := 0) (sl' := 0) rfl ?_
                  refine ik_Wret rfl rfl ⟨_, _, rfl, rfl, ?_⟩
                  refine ik_Wk 0 (pc' := 111) (loc' := [some (.ref 0), some (fI p), some (fI 1), some (fI what)]) (st' := [fI qd18]) (h' := h_731) (cl' := 0) (sl' := 0) rfl ?_
                  exact ik_Wret rfl rfl ⟨_, _, rfl, rfl, rfl, rfl, ⟨l0_730, l1_730, l2_730, fe'_730, bo'_731, sh'_731, wh'_731, wo'_731, qd18, rfl, g_731_17, g_731_19, g_731_21, g_731_25, g_731_29, g_731_33, g_731_37, g_731_41, g_731_46, m_730_46, g_731_47, m_731_47, g_731_48, m_731_48, g_731_49, m_731_49, g_731_50, m_731_50, p_730_0, fr_731⟩⟩
          · refine fw_ld (-1000000002) rfl rfl (by decide) ?_
            exact ik_Wret rfl rfl ⟨_, _, rfl, rfl, rfl, rfl, ⟨la, lb, bo, fe, bo_, sh, wh, wo, (-1000000002), rfl, h17, h19, h21, h25, h29, h33, h37, h41, h46, n46, h47, n47, h48, n48, h49, n49, h50, n50, q4, (hfr_refl [17, 19, 46, 47, 48, 49, 50, 21, 22, 23, 24, 25, 26, 27, 28, 29, 30, 31, 32, 33, 34, 35, 36, 37, 38, 39, 40, 41, 42, 43, 44] h)⟩⟩
      · refine fw_ld (-1000000001) rfl rfl (by decide) ?_
        exact ik_Wret rfl rfl ⟨_, _, rfl, rfl, rfl, rfl, ⟨la, lb, bo, fe, bo_, sh, wh, wo, (-1000000001), rfl, h17, h19, h21, h25, h29, h33, h37, h41, h46, n46, h47, n47, h48, n48, h49, n49, h50, n50, q4, (hfr_refl [17, 19, 46, 47, 48, 49, 50, 21, 22, 23, 24, 25, 26, 27, 28, 29, 30, 31, 32, 33, 34, 35, 36, 37, 38, 39, 40, 41, 42, 43, 44] h)⟩⟩

theorem cp_mixed2 {h : List ik_E} {pl : Int} {lo : Int} {s : Nat} {ka : Int} {pa : Int} {fa : Int} {kb : Int} {pb : Int} {fb : Int} {bo : Int} {la : Int} {lb : Int} {wg : List Int} {wc : List Int} {we : List Int} {W : Int → List (Int × Int)} {fe : List Int} {bo_ : List Int} {sh : List Int} {wh : List Int} {wo : List Int} {p : Int} {what : Int} (q0 : 0 ≤ pl ∧ pl ≤ 12) (q1 : 1 < pl → 0 ≤ ka ∧ ka ≤ 2 ∧ 0 ≤ kb ∧ kb ≤ 2) (q2 : ∀ x : Int, 0 ≤ x → x < pl - 1 → mx_wy wg wc we x (W x)) (q3 : ∀ x : Int, 0 ≤ x → x < pl - 1 → mx_ok pl (W x)) (q4 : ∀ i : Int, 0 ≤ i → i < 9 → 0 ≤ fe.getD i.toNat 0 ∧ fe.getD i.toNat 0 ≤ 1000) (q5 : -2147483648 ≤ p ∧ p < 2147483648) (q6 : -2147483648 ≤ what ∧ what < 2147483648) (h0 : cE h 0 (.inr (9, [.ref 1, .ref 7, .ref 14, .ref 17, .ref 45, .ref 51, .ref 54, .ref 57]))) (h7 : cE h 7 (.inr (0, [fI pl, fI ((s : Nat) : Int), fI lo, .ref 8, .ref 9, .ref 10, .ref 11, .ref 12, .ref 13]))) (h11 : cE h 11 (.inl (.int, fA wg))) (n11 : wg.length = 60) (h12 : cE h 12 (.inl (.int, fA wc))) (n12 : wc.length = 60) (h13 : cE h 13 (.inl (.int, fA we))) (n13 : we.length = 12) (h15 : cE h 15 (.inl (.int, fA [ka, pa, fa, kb, pb, fb]))) (h17 : cE h 17 (.inr (8, [.ref 7, .ref 15, .ref 18, .ref 19, fJ bo, .ref 20]))) (h18 : cE h 18 (.inl (.object "SlowerCork$Course", [.ref 21, .ref 25, .ref 29, .ref 33, .ref 37, .ref 41]))) (h19 : cE h 19 (.inl (.long, fL [la, lb]))) (h21 : mf_cr h 21 ) (h25 : mf_cr h 25 ) (h29 : mf_cr h 29 ) (h33 : mf_cr h 33 ) (h37 : mf_cr h 37 ) (h41 : mf_cr h 41 ) (h46 : cE h 46 (.inl (.int, fA fe))) (n46 : fe.length = 9) (h45 : cE h 45 (.inr (5, [.ref 46, .ref 47, .ref 48, .ref 49, .ref 50]))) (h47 : cE h 47 (.inl (.long, fL bo_))) (n47 : bo_.length = 12) (h48 : cE h 48 (.inl (.long, fL sh))) (n48 : sh.length = 6) (h49 : cE h 49 (.inl (.long, fL wh))) (n49 : wh.length = 2) (h50 : cE h 50 (.inl (.long, fL wo))) (n50 : wo.length = 2) (hl : h.length = 94) : ik_F 102 [.ref 0, fI p, fI 2, fI what] h (fun rv h' => ∃ (l0 : Int) (l1 : Int) (l2 : Int) (fe' : List Int) (bo' : List Int) (sh' : List Int) (wh' : List Int) (wo' : List Int) (v : Int), rv = [fI v] ∧ cE h' 17 (.inr (8, [.ref 7, .ref 15, .ref 18, .ref 19, fJ l2, .ref 20])) ∧ cE h' 19 (.inl (.long, fL [l0, l1])) ∧ mf_cr h' 21  ∧ mf_cr h' 25  ∧ mf_cr h' 29  ∧ mf_cr h' 33  ∧ mf_cr h' 37  ∧ mf_cr h' 41  ∧ cE h' 46 (.inl (.int, fA fe')) ∧ fe'.length = 9 ∧ cE h' 47 (.inl (.long, fL bo')) ∧ bo'.length = 12 ∧ cE h' 48 (.inl (.long, fL sh')) ∧ sh'.length = 6 ∧ cE h' 49 (.inl (.long, fL wh')) ∧ wh'.length = 2 ∧ cE h' 50 (.inl (.long, fL wo')) ∧ wo'.length = 2 ∧ (∀ i : Int, 0 ≤ i → i < 9 → 0 ≤ fe'.getD i.toNat 0 ∧ fe'.getD i.toNat 0 ≤ 1000) ∧ hfr [17, 19, 46, 47, 48, 49, 50, 21, 22, 23, 24, 25, 26, 27, 28, 29, 30, 31, 32, 33, 34, 35, 36, 37, 38, 39, 40, 41, 42, 43, 44] h h') := by
  refine ik_Wk 1 (pc' := 1) (loc' := [some (.ref 0), some (fI p), some (fI 2), some (fI what)]) (st' := [.ref 0]) (h' := h) (cl' := 0) (sl' := 0) rfl ?_
  refine fw_gf rfl rfl h0 rfl ?_
  refine ik_Wk 1 (pc' := 5) (loc' := [some (.ref 0), some (fI p), some (fI 2), some (fI what)]) (st' := [fI p, .ref 7]) (h' := h) (cl' := 0) (sl' := 0) rfl ?_
  refine ik_Wc 4 2 0 [.ref 7, fI p] [] rfl rfl rfl (by decide) rfl rfl (fw_rec hl rfl h7 rfl (by decide)) ?_
  refine ik_Wk 0 (pc' := 0) (loc' := [some (.ref 7), some (fI p)]) (st' := []) (h' := h) (cl' := 0) (sl' := 0) rfl ?_
  refine ik_Wk 1 (pc' := 1) (loc' := [some (.ref 7), some (fI p)]) (st' := [fI p]) (h' := h) (cl' := 0) (sl' := 0) rfl ?_
  refine fw_if_lt rfl rfl (by omega) (by omega) (fun hc1 => ?_) (fun hc1 => ?_)
  · refine ik_Wk 1 (pc' := 19) (loc' := [some (.ref 7), some (fI p)]) (st' := [fI 0]) (h' := h) (cl' := 0) (sl' := 0) rfl ?_
    refine ik_Wret rfl rfl ⟨_, _, rfl, rfl, ?_⟩
    refine ik_Wk 0 (pc' := 8) (loc' := [some (.ref 0), some (fI p), some (fI 2), some (fI what)]) (st' := [fI 0]) (h' := h) (cl' := 0) (sl' := 0) rfl ?_
    refine fw_if_eq rfl rfl (by omega) (by omega) (fun hc2 => ?_) (fun hc2 => absurd hc2 (by omega))
    refine fw_ld (-1000000001) rfl rfl (by decide) ?_
    exact ik_Wret rfl rfl ⟨_, _, rfl, rfl, rfl, rfl, ⟨la, lb, bo, fe, bo_, sh, wh, wo, (-1000000001), rfl, h17, h19, h21, h25, h29, h33, h37, h41, h46, n46, h47, n47, h48, n48, h49, n49, h50, n50, q4, (hfr_refl [17, 19, 46, 47, 48, 49, 50, 21, 22, 23, 24, 25, 26, 27, 28, 29, 30, 31, 32, 33, 34, 35, 36, 37, 38, 39, 40, 41, 42, 43, 44] h)⟩⟩
  · refine ik_Wk 2 (pc' := 6) (loc' := [some (.ref 7), some (fI p)]) (st' := [.ref 7, fI p]) (h' := h) (cl' := 0) (sl' := 0) rfl ?_
    refine fw_gf rfl rfl h7 rfl ?_
    refine ik_Wk 1 (pc' := 10) (loc' := [some (.ref 7), some (fI p)]) (st' := [fI 1, fI pl, fI p]) (h' := h) (cl' := 0) (sl' := 0) rfl ?_
    refine fw_sub rfl ?_
    refine fw_ic_ge rfl rfl (by omega) (by omega) (by omega) (by omega) (fun hc3 => ?_) (fun hc3 => ?_)
    · refine ik_Wk 1 (pc' := 19) (loc' := [some (.ref 7), some (fI p)]) (st' := [fI 0]) (h' := h) (cl' := 0) (sl' := 0) rfl ?_
      refine ik_Wret rfl rfl ⟨_, _, rfl, rfl, ?_⟩
      refine ik_Wk 0 (pc' := 8) (loc' := [some (.ref 0), some (fI p), some (fI 2), some (fI what)]) (st' := [fI 0]) (h' := h) (cl' := 0) (sl' := 0) rfl ?_
      refine fw_if_eq rfl rfl (by omega) (by omega) (fun hc4 => ?_) (fun hc4 => absurd hc4 (by omega))
      refine fw_ld (-1000000001) rfl rfl (by decide) ?_
      exact ik_Wret rfl rfl ⟨_, _, rfl, rfl, rfl, rfl, ⟨la, lb, bo, fe, bo_, sh, wh, wo, (-1000000001), rfl, h17, h19, h21, h25, h29, h33, h37, h41, h46, n46, h47, n47, h48, n48, h49, n49, h50, n50, q4, (hfr_refl [17, 19, 46, 47, 48, 49, 50, 21, 22, 23, 24, 25, 26, 27, 28, 29, 30, 31, 32, 33, 34, 35, 36, 37, 38, 39, 40, 41, 42, 43, 44] h)⟩⟩
    · refine ik_Wk 2 (pc' := 19) (loc' := [some (.ref 7), some (fI p)]) (st' := [fI 1]) (h' := h) (cl' := 0) (sl' := 0) rfl ?_
      refine ik_Wret rfl rfl ⟨_, _, rfl, rfl, ?_⟩
      refine ik_Wk 0 (pc' := 8) (loc' := [some (.ref 0), some (fI p), some (fI 2), some (fI what)]) (st' := [fI 1]) (h' := h) (cl' := 0) (sl' := 0) rfl ?_
      refine fw_if_eq rfl rfl (by omega) (by omega) (fun hc5 => absurd hc5 (by omega)) (fun hc5 => ?_)
      refine ik_Wk 2 (pc' := 13) (loc' := [some (.ref 0), some (fI p), some (fI 2), some (fI what)]) (st' := [.ref 0, fI 2]) (h' := h) (cl' := 0) (sl' := 0) rfl ?_
      refine fw_gf rfl rfl h0 rfl ?_
      refine ik_Wc 2 1 0 [.ref 7] [fI 2] rfl rfl rfl (by decide) rfl rfl (fw_rec hl rfl h7 rfl (by decide)) ?_
      refine ik_Wk 0 (pc' := 0) (loc' := [some (.ref 7)]) (st' := []) (h' := h) (cl' := 0) (sl' := 0) rfl ?_
      refine ik_Wk 1 (pc' := 1) (loc' := [some (.ref 7)]) (st' := [.ref 7]) (h' := h) (cl' := 0) (sl' := 0) rfl ?_
      refine fw_gf rfl rfl h7 rfl ?_
      refine ik_Wk 1 (pc' := 5) (loc' := [some (.ref 7)]) (st' := [fI 1, fI pl]) (h' := h) (cl' := 0) (sl' := 0) rfl ?_
      refine fw_sub rfl ?_
      refine ik_Wret rfl rfl ⟨_, _, rfl, rfl, ?_⟩
      refine ik_Wk 0 (pc' := 19) (loc' := [some (.ref 0), some (fI p), some (fI 2), some (fI what)]) (st' := [fI (pl - 1), fI 2]) (h' := h) (cl' := 0) (sl' := 0) rfl ?_
      refine ik_Wk 1 (pc' := 20) (loc' := [some (.ref 0), some (fI p), some (fI 2), some (fI what)]) (st' := [fI p, fI (pl - 1), fI 2]) (h' := h) (cl' := 0) (sl' := 0) rfl ?_
      refine fw_sub rfl ?_
      refine fw_ic_le rfl rfl (by omega) (by omega) (by omega) (by omega) (fun hc6 => ?_) (fun hc6 => ?_)
      · refine ik_Wk 2 (pc' := 29) (loc' := [some (.ref 0), some (fI p), some (fI 2), some (fI what)]) (st' := [fI 1, fI 2]) (h' := h) (cl' := 0) (sl' := 0) rfl ?_
        refine fw_ic_lt rfl rfl (by omega) (by omega) (by omega) (by omega) (fun hc7 => absurd hc7 (by omega)) (fun hc7 => ?_)
        refine ik_Wk 2 (pc' := 34) (loc' := [some (.ref 0), some (fI p), some (fI 2), some (fI what)]) (st' := [fI 3, fI 2]) (h' := h) (cl' := 0) (sl' := 0) rfl ?_
        refine fw_ic_gt rfl rfl (by omega) (by omega) (by omega) (by omega) (fun hc8 => absurd hc8 (by omega)) (fun hc8 => ?_)
        refine ik_Wk 1 (pc' := 38) (loc' := [some (.ref 0), some (fI p), some (fI 2), some (fI what)]) (st' := [fI what]) (h' := h) (cl' := 0) (sl' := 0) rfl ?_
        refine fw_if_lt rfl rfl (by omega) (by omega) (fun hc9 => ?_) (fun hc9 => ?_)
        · refine fw_ld (-1000000002) rfl rfl (by decide) ?_
          exact ik_Wret rfl rfl ⟨_, _, rfl, rfl, rfl, rfl, ⟨la, lb, bo, fe, bo_, sh, wh, wo, (-1000000002), rfl, h17, h19, h21, h25, h29, h33, h37, h41, h46, n46, h47, n47, h48, n48, h49, n49, h50, n50, q4, (hfr_refl [17, 19, 46, 47, 48, 49, 50, 21, 22, 23, 24, 25, 26, 27, 28, 29, 30, 31, 32, 33, 34, 35, 36, 37, 38, 39, 40, 41, 42, 43, 44] h)⟩⟩
        · refine ik_Wk 1 (pc' := 42) (loc' := [some (.ref 0), some (fI p), some (fI 2), some (fI what)]) (st' := [fI what]) (h' := h) (cl' := 0) (sl' := 0) rfl ?_
          refine fw_bi rfl (by decide) ?_
          refine fw_ic_le rfl rfl (by omega) (by omega) (by omega) (by omega) (fun hc10 => ?_) (fun hc10 => ?_)
          · refine ik_Wk 1 (pc' := 51) (loc' := [some (.ref 0), some (fI p), some (fI 2), some (fI what)]) (st' := [.ref 0]) (h' := h) (cl' := 0) (sl' := 0) rfl ?_
            refine fw_gf rfl rfl h0 rfl ?_
            refine ik_Wk 3 (pc' := 57) (loc' := [some (.ref 0), some (fI p), some (fI 2), some (fI what)]) (st' := [.ref 0, fI 2, fI p, .ref 17]) (h' := h) (cl' := 0) (sl' := 0) rfl ?_
            refine fw_gf rfl rfl h0 rfl ?_
            refine fw_gf rfl rfl h45 rfl ?_
            refine fw_call 84 4 0 [.ref 17, fI p, fI 2, .ref 46] [] rfl rfl rfl (by decide) rfl rfl (fw_rec hl rfl h17 rfl (by decide)) (cs_fears2 (pl := pl) (lo := lo) (s := s) (ka := ka) (pa := pa) (fa := fa) (kb := kb) (pb := pb) (fb := fb) (bo := bo) (la := la) (lb := lb) (p := p) (wg := wg) (wc := wc) (we := we) (fe := fe) (W := W) (by omega) (q1 (by omega)) (by omega) q2 q3 q4 h7 h11 n11 h12 n12 h13 n13 h15 h17 h18 h19 h21 h25 h29 h33 h37 h41 h46 n46 hl) ?_
            rintro _ h_732 ⟨l0_732, l1_732, l2_732, fe'_732, rfl, e_732_17, e_732_19, e_732_21, e_732_25, e_732_29, e_732_33, e_732_37, e_732_41, e_732_46, m_732_46, p_732_0, F_732⟩
            have k_732 := F_732.1.trans hl
            have fr_732 := hfr_c (hfr_refl [17, 19, 46, 47, 48, 49, 50, 21, 22, 23, 24, 25, 26, 27, 28, 29, 30, 31, 32, 33, 34, 35, 36, 37, 38, 39, 40, 41, 42, 43, 44] h) F_732 (by decide)
            have g_732_0 := (F_732.2 0 (by decide +kernel)).trans h0
            have g_732_7 := (F_732.2 7 (by decide +kernel)).trans h7
            have g_732_11 := (F_732.2 11 (by decide +kernel)).trans h11
            have g_732_12 := (F_732.2 12 (by decide +kernel)).trans h12
            have g_732_13 := (F_732.2 13 (by decide +kernel)).trans h13
            have g_732_15 := (F_732.2 15 (by decide +kernel)).trans h15
            have g_732_18 := (F_732.2 18 (by decide +kernel)).trans h18
            have g_732_45 := (F_732.2 45 (by decide +kernel)).trans h45
            have g_732_47 := (F_732.2 47 (by decide +kernel)).trans h47
            have g_732_48 := (F_732.2 48 (by decide +kernel)).trans h48
            have g_732_49 := (F_732.2 49 (by decide +kernel)).trans h49
            have g_732_50 := (F_732.2 50 (by decide +kernel)).trans h50
            have g_732_17 : cE h_732 17 (.inr (8, [.ref 7, .ref 15, .ref 18, .ref 19, fJ l2_732, .ref 20])) := e_732_17
            have g_732_19 : cE h_732 19 (.inl (.long, fL [l0_732, l1_732])) := e_732_19
            have g_732_21 : mf_cr h_732 21  := e_732_21
            have g_732_25 : mf_cr h_732 25  := e_732_25
            have g_732_29 : mf_cr h_732 29  := e_732_29
            have g_732_33 : mf_cr h_732 33  := e_732_33
            have g_732_37 : mf_cr h_732 37  := e_732_37
            have g_732_41 : mf_cr h_732 41  := e_732_41
            have g_732_46 : cE h_732 46 (.inl (.int, fA fe'_732)) := e_732_46
            refine ik_Wk 0 (pc' := 66) (loc' := [some (.ref 0), some (fI p), some (fI 2), some (fI what)]) (st' := []) (h' := h_732) (cl' := 0) (sl' := 0) rfl ?_
            refine ik_Wk 1 (pc' := 67) (loc' := [some (.ref 0), some (fI p), some (fI 2), some (fI what)]) (st' := [.ref 0]) (h' := h_732) (cl' := 0) (sl' := 0) rfl ?_
            refine fw_gf rfl rfl g_732_0 rfl ?_
            refine ik_Wk 1 (pc' := 71) (loc' := [some (.ref 0), some (fI p), some (fI 2), some (fI what)]) (st' := [fI 2, .ref 45]) (h' := h_732) (cl' := 0) (sl' := 0) rfl ?_
            refine fw_call 43 2 0 [.ref 45, fI 2] [] rfl rfl rfl (by decide) rfl rfl (fw_rec k_732 rfl g_732_45 rfl (by decide)) (cs_findPair (n := 2) (fe := fe'_732) (bo_ := bo_) (sh := sh) (wh := wh) (wo := wo) (by omega) p_732_0 g_732_45 g_732_46 m_732_46 g_732_47 n47 g_732_48 n48 g_732_49 n49 g_732_50 n50 k_732) ?_
            rintro _ h_733 ⟨bo'_733, sh'_733, wh'_733, wo'_733, b_733, rfl, e_733_47, m_733_47, e_733_48, m_733_48, e_733_49, m_733_49, e_733_50, m_733_50, p_733_0, F_733⟩
            have k_733 := F_733.1.trans k_732
            have fr_733 := hfr_c fr_732 F_733 (by decide)
            have g_733_0 := (F_733.2 0 (by decide +kernel)).trans g_732_0
            have g_733_7 := (F_733.2 7 (by decide +kernel)).trans g_732_7
            have g_733_11 := (F_733.2 11 (by decide +kernel)).trans g_732_11
            have g_733_12 := (F_733.2 12 (by decide +kernel)).trans g_732_12
            have g_733_13 := (F_733.2 13 (by decide +kernel)).trans g_732_13
            have g_733_15 := (F_733.2 15 (by decide +kernel)).trans g_732_15
            have g_733_17 := (F_733.2 17 (by decide +kernel)).trans g_732_17
            have g_733_18 := (F_733.2 18 (by decide +kernel)).trans g_732_18
            have g_733_19 := (F_733.2 19 (by decide +kernel)).trans g_732_19
            have g_733_21 := mf_cr_f g_732_21 (F_733.2 21 (by decide)) (F_733.2 22 (by decide)) (F_733.2 23 (by decide)) (F_733.2 24 (by decide))
            have g_733_25 := mf_cr_f g_732_25 (F_733.2 25 (by decide)) (F_733.2 26 (by decide)) (F_733.2 27 (by decide)) (F_733.2 28 (by decide))
            have g_733_29 := mf_cr_f g_732_29 (F_733.2 29 (by decide)) (F_733.2 30 (by decide)) (F_733.2 31 (by decide)) (F_733.2 32 (by decide))
            have g_733_33 := mf_cr_f g_732_33 (F_733.2 33 (by decide)) (F_733.2 34 (by decide)) (F_733.2 35 (by decide)) (F_733.2 36 (by decide))
            have g_733_37 := mf_cr_f g_732_37 (F_733.2 37 (by decide)) (F_733.2 38 (by decide)) (F_733.2 39 (by decide)) (F_733.2 40 (by decide))
            have g_733_41 := mf_cr_f g_732_41 (F_733.2 41 (by decide)) (F_733.2 42 (by decide)) (F_733.2 43 (by decide)) (F_733.2 44 (by decide))
            have g_733_46 := (F_733.2 46 (by decide +kernel)).trans g_732_46
            have g_733_45 := (F_733.2 45 (by decide +kernel)).trans g_732_45
            have g_733_47 : cE h_733 47 (.inl (.long, fL bo'_733)) := e_733_47
            have g_733_48 : cE h_733 48 (.inl (.long, fL sh'_733)) := e_733_48
            have g_733_49 : cE h_733 49 (.inl (.long, fL wh'_733)) := e_733_49
            have g_733_50 : cE h_733 50 (.inl (.long, fL wo'_733)) := e_733_50
            refine ik_Wk 0 (pc' := 74) (loc' := [some (.ref 0), some (fI p), some (fI 2), some (fI what)]) (st' := [fI b_733]) (h' := h_733) (cl' := 0) (sl' := 0) rfl ?_
            refine fw_if_ne rfl rfl (by omega) (by omega) (fun hc11 => ?_) (fun hc11 => ?_)
            · refine fw_ld (-1000000003) rfl rfl (by decide) ?_
              exact ik_Wret rfl rfl ⟨_, _, rfl, rfl, rfl, rfl, ⟨l0_732, l1_732, l2_732, fe'_732, bo'_733, sh'_733, wh'_733, wo'_733, (-1000000003), rfl, g_733_17, g_733_19, g_733_21, g_733_25, g_733_29, g_733_33, g_733_37, g_733_41, g_733_46, m_732_46, g_733_47, m_733_47, g_733_48, m_733_48, g_733_49, m_733_49, g_733_50, m_733_50, p_732_0, fr_733⟩⟩
            · refine ik_Wk 1 (pc' := 81) (loc' := [some (.ref 0), some (fI p), some (fI 2), some (fI what)]) (st' := [fI what]) (h' := h_733) (cl' := 0) (sl' := 0) rfl ?_
              refine fw_if_ne rfl rfl (by omega) (by omega) (fun hc12 => ?_) (fun hc12 => ?_)
              · refine ik_Wk 1 (pc' := 85) (loc' := [some (.ref 0), some (fI p), some (fI 2), some (fI what)]) (st' := [.ref 0]) (h' := h_733) (cl' := 0) (sl' := 0) rfl ?_
                refine fw_gf rfl rfl g_733_0 rfl ?_
                refine ik_Wc 41 1 0 [.ref 45] [] rfl rfl rfl (by decide) rfl rfl (fw_rec k_733 rfl g_733_45 rfl (by decide)) ?_
                refine ik_Wk 0 (pc' := 0) (loc' := [some (.ref 45)]) (st' := []) (h' := h_733) (cl' := 0) (sl' := 0) rfl ?_
                refine ik_Wk 1 (pc' := 1) (loc' := [some (.ref 45)]) (st' := [.ref 45]) (h' := h_733) (cl' := 0) (sl' := 0) rfl ?_
                refine fw_gf rfl rfl g_733_45 rfl ?_
                refine ik_Wk 1 (pc' := 5) (loc' := [some (.ref 45)]) (st' := [fI 0, .ref 49]) (h' := h_733) (cl' := 0) (sl' := 0) rfl ?_
                refine fx_lal rfl g_733_49 (by omega) (by omega) (by omega) ?_
                refine fw_lc (z := 0) rfl (by decide) ?_
                refine fx_lcx rfl (fun zc13 rzc13 szc13 => ?_)
                refine fw_if_le rfl rfl (by omega) (by omega) (fun hc14 => ?_) (fun hc14 => ?_)
                · refine ik_Wk 1 (pc' := 33) (loc' := [some (.ref 45)]) (st' := [fI 0]) (h' := h_733) (cl' := 0) (sl' := 0) rfl ?_
                  refine ik_Wret rfl rfl ⟨_, _, rfl, rfl, ?_⟩
                  refine ik_Wk 0 (pc' := 91) (loc' := [some (.ref 0), some (fI p), some (fI 2), some (fI what)]) (st' := [fI 0]) (h' := h_733) (cl' := 0) (sl' := 0) rfl ?_
                  refine ik_Wk 1 (pc' := 111) (loc' := [some (.ref 0), some (fI p), some (fI 2), some (fI what)]) (st' := [fI 0]) (h' := h_733) (cl' := 0) (sl' := 0) rfl ?_
                  exact ik_Wret rfl rfl ⟨_, _, rfl, rfl, rfl, rfl, ⟨l0_732, l1_732, l2_732, fe'_732, bo'_733, sh'_733, wh'_733, wo'_733, 0, rfl, g_733_17, g_733_19, g_733_21, g_733_25, g_733_29, g_733_33, g_733_37, g_733_41, g_733_46, m_732_46, g_733_47, m_733_47, g_733_48, m_733_48, g_733_49, m_733_49, g_733_50, m_733_50, p_732_0, fr_733⟩⟩
                · refine ik_Wk 1 (pc' := 12) (loc' := [some (.ref 45)]) (st' := [.ref 45]) (h' := h_733) (cl' := 0) (sl' := 0) rfl ?_
                  refine fw_gf rfl rfl g_733_45 rfl ?_
                  refine ik_Wk 1 (pc' := 16) (loc' := [some (.ref 45)]) (st' := [fI 0, .ref 50]) (h' := h_733) (cl' := 0) (sl' := 0) rfl ?_
                  refine fx_lal rfl g_733_50 (by omega) (by omega) (by omega) ?_
                  refine fw_l2 1000 rfl rfl (by decide) ?_
                  refine fw_lmul rfl ?_
                  refine ik_Wk 1 (pc' := 22) (loc' := [some (.ref 45)]) (st' := [.ref 45, fJ ((wo'_733.getD (0 : Int).toNat 0) * 1000)]) (h' := h_733) (cl' := 0) (sl' := 0) rfl ?_
                  refine fw_gf rfl rfl g_733_45 rfl ?_
                  refine ik_Wk 1 (pc' := 26) (loc' := [some (.ref 45)]) (st' := [fI 0, .ref 49, fJ ((wo'_733.getD (0 : Int).toNat 0) * 1000)]) (h' := h_733) (cl' := 0) (sl' := 0) rfl ?_
                  refine fx_lal rfl g_733_49 (by omega) (by omega) (by omega) ?_
                  refine fx_ldo rfl (by rcases szc13 with w | w; omega; exact fun e => w (e.trans (by decide))) (fun qd15 => ?_)
                  refine fx_l2i rfl ?_
                  refine ik_Wk 1 (pc' := 33) (loc' := [some (.ref 45)]) (st' := [fI qd15]) (h' := h_733) (cl' := 0) (sl' := 0) rfl ?_
                  refine ik_Wret rfl rfl ⟨_, _, rfl, rfl, ?_⟩
                  refine ik_Wk 0 (pc' := 91) (loc' := [some (.ref 0), some (fI p), some (fI 2), some (fI what)]) (st' := [fI qd15]) (h' := h_733) (cl' := 0) (sl' := 0) rfl ?_
                  refine ik_Wk 1 (pc' := 111) (loc' := [some (.ref 0), some (fI p), some (fI 2), some (fI what)]) (st' := [fI qd15]) (h' := h_733) (cl' := 0) (sl' := 0) rfl ?_
                  exact ik_Wret rfl rfl ⟨_, _, rfl, rfl, rfl, rfl, ⟨l0_732, l1_732, l2_732, fe'_732, bo'_733, sh'_733, wh'_733, wo'_733, qd15, rfl, g_733_17, g_733_19, g_733_21, g_733_25, g_733_29, g_733_33, g_733_37, g_733_41, g_733_46, m_732_46, g_733_47, m_733_47, g_733_48, m_733_48, g_733_49, m_733_49, g_733_50, m_733_50, p_732_0, fr_733⟩⟩
              · refine ik_Wk 1 (pc' := 95) (loc' := [some (.ref 0), some (fI p), some (fI 2), some (fI what)]) (st' := [.ref 0]) (h' := h_733) (cl' := 0) (sl' := 0) rfl ?_
                refine fw_gf rfl rfl g_733_0 rfl ?_
                refine ik_Wk 2 (pc' := 100) (loc' := [some (.ref 0), some (fI p), some (fI 2), some (fI what)]) (st' := [fI 1, fI what, .ref 45]) (h' := h_733) (cl' := 0) (sl' := 0) rfl ?_
                refine fw_sub rfl ?_
                refine ik_Wk 1 (pc' := 102) (loc' := [some (.ref 0), some (fI p), some (fI 2), some (fI what)]) (st' := [fI 3, fI (what - 1), .ref 45]) (h' := h_733) (cl' := 0) (sl' := 0) rfl ?_
                refine fx_idiv rfl (by omega) (by omega) (by omega) (by omega) ?_
                refine ik_Wk 2 (pc' := 105) (loc' := [some (.ref 0), some (fI p), some (fI 2), some (fI what)]) (st' := [fI 1, fI what, fI ((what - 1) / 3), .ref 45]) (h' := h_733) (cl' := 0) (sl' := 0) rfl ?_
                refine fw_sub rfl ?_
                refine ik_Wk 1 (pc' := 107) (loc' := [some (.ref 0), some (fI p), some (fI 2), some (fI what)]) (st' := [fI 3, fI (what - 1), fI ((what - 1) / 3), .ref 45]) (h' := h_733) (cl' := 0) (sl' := 0) rfl ?_
                refine fx_irem rfl (by omega) (by omega) (by omega) (by omega) ?_
                refine ik_Wc 42 3 0 [.ref 45, fI ((what - 1) / 3), fI ((what - 1) % 3)] [] rfl rfl rfl (by decide) rfl rfl (fw_rec k_733 rfl g_733_45 rfl (by decide)) ?_
                refine ik_Wk 0 (pc' := 0) (loc' := [some (.ref 45), some (fI ((what - 1) / 3)), some (fI ((what - 1) % 3))]) (st' := []) (h' := h_733) (cl' := 0) (sl' := 0) rfl ?_
                refine ik_Wk 1 (pc' := 1) (loc' := [some (.ref 45), some (fI ((what - 1) / 3)), some (fI ((what - 1) % 3))]) (st' := [.ref 45]) (h' := h_733) (cl' := 0) (sl' := 0) rfl ?_
                refine fw_gf rfl rfl g_733_45 rfl ?_
                refine ik_Wk 1 (pc' := 5) (loc' := [some (.ref 45), some (fI ((what - 1) / 3)), some (fI ((what - 1) % 3))]) (st' := [fI ((what - 1) / 3), .ref 49]) (h' := h_733) (cl' := 0) (sl' := 0) rfl ?_
                refine fx_lal rfl g_733_49 (by omega) (by omega) (by omega) ?_
                refine fw_lc (z := 0) rfl (by decide) ?_
                refine fx_lcx rfl (fun zc16 rzc16 szc16 => ?_)
                refine fw_if_le rfl rfl (by omega) (by omega) (fun hc17 => ?_) (fun hc17 => ?_)
                · refine ik_Wk 1 (pc' := 37) (loc' := [some (.ref 45), some (fI ((what - 1) / 3)), some (fI ((what - 1) % 3))]) (st' := [fI 0]) (h' := h_733) (cl' := 0) (sl' := 0) rfl ?_
                  refine ik_Wret rfl rfl ⟨_, _, rfl, rfl, ?_⟩
                  refine ik_Wk 0 (pc' := 111) (loc' := [some (.ref 0), some (fI p), some (fI 2), some (fI what)]) (st' := [fI 0]) (h' := h_733) (cl' := 0) (sl' := 0) rfl ?_
                  exact ik_Wret rfl rfl ⟨_, _, rfl, rfl, rfl, rfl, ⟨l0_732, l1_732, l2_732, fe'_732, bo'_733, sh'_733, wh'_733, wo'_733, 0, rfl, g_733_17, g_733_19, g_733_21, g_733_25, g_733_29, g_733_33, g_733_37, g_733_41, g_733_46, m_732_46, g_733_47, m_733_47, g_733_48, m_733_48, g_733_49, m_733_49, g_733_50, m_733_50, p_732_0, fr_733⟩⟩
                · refine ik_Wk 1 (pc' := 12) (loc' := [some (.ref 45), some (fI ((what - 1) / 3)), some (fI ((what - 1) % 3))]) (st' := [.ref 45]) (h' := h_733) (cl' := 0) (sl' := 0) rfl ?_
                  refine fw_gf rfl rfl g_733_45 rfl ?_
                  refine ik_Wk 2 (pc' := 17) (loc' := [some (.ref 45), some (fI ((what - 1) / 3)), some (fI ((what - 1) % 3))]) (st' := [fI 3, fI ((what - 1) / 3), .ref 48]) (h' := h_733) (cl' := 0) (sl' := 0) rfl ?_
                  refine fx_mulc rfl ?_
                  refine ik_Wk 1 (pc' := 19) (loc' := [some (.ref 45), some (fI ((what - 1) / 3)), some (fI ((what - 1) % 3))]) (st' := [fI ((what - 1) % 3), fI (3 * ((what - 1) / 3)), .ref 48]) (h' := h_733) (cl' := 0) (sl' := 0) rfl ?_
                  refine fw_add rfl ?_
                  refine fx_lal rfl g_733_48 (by omega) (by omega) (by omega) ?_
                  refine fw_l2 1000000 rfl rfl (by decide) ?_
                  refine fw_lmul rfl ?_
                  refine ik_Wk 1 (pc' := 26) (loc' := [some (.ref 45), some (fI ((what - 1) / 3)), some (fI ((what - 1) % 3))]) (st' := [.ref 45, fJ ((sh'_733.getD ((3 * ((what - 1) / 3)) + ((what - 1) % 3)).toNat 0) * 1000000)]) (h' := h_733) (cl' := 0) (sl' := 0) rfl ?_
                  refine fw_gf rfl rfl g_733_45 rfl ?_
                  refine ik_Wk 1 (pc' := 30) (loc' := [some (.ref 45), some (fI ((what - 1) / 3)), some (fI ((what - 1) % 3))]) (st' := [fI ((what - 1) / 3), .ref 49, fJ ((sh'_733.getD ((3 * ((what - 1) / 3)) + ((what - 1) % 3)).toNat 0) * 1000000)]) (h' := h_733) (cl' := 0) (sl' := 0) rfl ?_
                  refine fx_lal rfl g_733_49 (by omega) (by omega) (by omega) ?_
                  refine fx_ldo rfl (by rcases szc16 with w | w; omega; exact fun e => w (e.trans (by decide))) (fun qd18 => ?_)
                  refine fx_l2i rfl ?_
                  refine ik_Wk 1 (pc' := 37) (loc' := [some (.ref 45), some (fI ((what - 1) / 3)), some (fI ((what - 1) % 3))]) (st' := [fI qd18]) (h' := h_733) (cl' := 0) (sl' := 0) rfl ?_
                  refine ik_Wret rfl rfl ⟨_, _, rfl, rfl, ?_⟩
                  refine ik_Wk 0 (pc' := 111) (loc' := [some (.ref 0), some (fI p), some (fI 2), some (fI what)]) (st' := [fI qd18]) (h' := h_733) (cl' := 0) (sl' := 0) rfl ?_
                  exact ik_Wret rfl rfl ⟨_, _, rfl, rfl, rfl, rfl, ⟨l0_732, l1_732, l2_732, fe'_732, bo'_733, sh'_733, wh'_733, wo'_733, qd18, rfl, g_733_17, g_733_19, g_733_21, g_733_25, g_733_29, g_733_33, g_733_37, g_733_41, g_733_46, m_732_46, g_733_47, m_733_47, g_733_48, m_733_48, g_733_49, m_733_49, g_733_50, m_733_50, p_732_0, fr_733⟩⟩
          · refine fw_ld (-1000000002) rfl rfl (by decide) ?_
            exact ik_Wret rfl rfl ⟨_, _, rfl, rfl, rfl, rfl, ⟨la, lb, bo, fe, bo_, sh, wh, wo, (-1000000002), rfl, h17, h19, h21, h25, h29, h33, h37, h41, h46, n46, h47, n47, h48, n48, h49, n49, h50, n50, q4, (hfr_refl [17, 19, 46, 47, 48, 49, 50, 21, 22, 23, 24, 25, 26, 27, 28, 29, 30, 31, 32, 33, 34, 35, 36, 37, 38, 39, 40, 41, 42, 43, 44] h)⟩⟩
      · refine fw_ld (-1000000001) rfl rfl (by decide) ?_
        exact ik_Wret rfl rfl ⟨_, _, rfl, rfl, rfl, rfl, ⟨la, lb, bo, fe, bo_, sh, wh, wo, (-1000000001), rfl, h17, h19, h21, h25, h29, h33, h37, h41, h46, n46, h47, n47, h48, n48, h49, n49, h50, n50, q4, (hfr_refl [17, 19, 46, 47, 48, 49, 50, 21, 22, 23, 24, 25, 26, 27, 28, 29, 30, 31, 32, 33, 34, 35, 36, 37, 38, 39, 40, 41, 42, 43, 44] h)⟩⟩

theorem cp_mixed3 {h : List ik_E} {pl : Int} {lo : Int} {s : Nat} {ka : Int} {pa : Int} {fa : Int} {kb : Int} {pb : Int} {fb : Int} {bo : Int} {la : Int} {lb : Int} {wg : List Int} {wc : List Int} {we : List Int} {W : Int → List (Int × Int)} {fe : List Int} {bo_ : List Int} {sh : List Int} {wh : List Int} {wo : List Int} {p : Int} {what : Int} (q0 : 0 ≤ pl ∧ pl ≤ 12) (q1 : 1 < pl → 0 ≤ ka ∧ ka ≤ 2 ∧ 0 ≤ kb ∧ kb ≤ 2) (q2 : ∀ x : Int, 0 ≤ x → x < pl - 1 → mx_wy wg wc we x (W x)) (q3 : ∀ x : Int, 0 ≤ x → x < pl - 1 → mx_ok pl (W x)) (q4 : ∀ i : Int, 0 ≤ i → i < 9 → 0 ≤ fe.getD i.toNat 0 ∧ fe.getD i.toNat 0 ≤ 1000) (q5 : -2147483648 ≤ p ∧ p < 2147483648) (q6 : -2147483648 ≤ what ∧ what < 2147483648) (h0 : cE h 0 (.inr (9, [.ref 1, .ref 7, .ref 14, .ref 17, .ref 45, .ref 51, .ref 54, .ref 57]))) (h7 : cE h 7 (.inr (0, [fI pl, fI ((s : Nat) : Int), fI lo, .ref 8, .ref 9, .ref 10, .ref 11, .ref 12, .ref 13]))) (h11 : cE h 11 (.inl (.int, fA wg))) (n11 : wg.length = 60) (h12 : cE h 12 (.inl (.int, fA wc))) (n12 : wc.length = 60) (h13 : cE h 13 (.inl (.int, fA we))) (n13 : we.length = 12) (h15 : cE h 15 (.inl (.int, fA [ka, pa, fa, kb, pb, fb]))) (h17 : cE h 17 (.inr (8, [.ref 7, .ref 15, .ref 18, .ref 19, fJ bo, .ref 20]))) (h18 : cE h 18 (.inl (.object "SlowerCork$Course", [.ref 21, .ref 25, .ref 29, .ref 33, .ref 37, .ref 41]))) (h19 : cE h 19 (.inl (.long, fL [la, lb]))) (h21 : mf_cr h 21 ) (h25 : mf_cr h 25 ) (h29 : mf_cr h 29 ) (h33 : mf_cr h 33 ) (h37 : mf_cr h 37 ) (h41 : mf_cr h 41 ) (h46 : cE h 46 (.inl (.int, fA fe))) (n46 : fe.length = 9) (h45 : cE h 45 (.inr (5, [.ref 46, .ref 47, .ref 48, .ref 49, .ref 50]))) (h47 : cE h 47 (.inl (.long, fL bo_))) (n47 : bo_.length = 12) (h48 : cE h 48 (.inl (.long, fL sh))) (n48 : sh.length = 6) (h49 : cE h 49 (.inl (.long, fL wh))) (n49 : wh.length = 2) (h50 : cE h 50 (.inl (.long, fL wo))) (n50 : wo.length = 2) (hl : h.length = 94) : ik_F 102 [.ref 0, fI p, fI 3, fI what] h (fun rv h' => ∃ (l0 : Int) (l1 : Int) (l2 : Int) (fe' : List Int) (bo' : List Int) (sh' : List Int) (wh' : List Int) (wo' : List Int) (v : Int), rv = [fI v] ∧ cE h' 17 (.inr (8, [.ref 7, .ref 15, .ref 18, .ref 19, fJ l2, .ref 20])) ∧ cE h' 19 (.inl (.long, fL [l0, l1])) ∧ mf_cr h' 21  ∧ mf_cr h' 25  ∧ mf_cr h' 29  ∧ mf_cr h' 33  ∧ mf_cr h' 37  ∧ mf_cr h' 41  ∧ cE h' 46 (.inl (.int, fA fe')) ∧ fe'.length = 9 ∧ cE h' 47 (.inl (.long, fL bo')) ∧ bo'.length = 12 ∧ cE h' 48 (.inl (.long, fL sh')) ∧ sh'.length = 6 ∧ cE h' 49 (.inl (.long, fL wh')) ∧ wh'.length = 2 ∧ cE h' 50 (.inl (.long, fL wo')) ∧ wo'.length = 2 ∧ (∀ i : Int, 0 ≤ i → i < 9 → 0 ≤ fe'.getD i.toNat 0 ∧ fe'.getD i.toNat 0 ≤ 1000) ∧ hfr [17, 19, 46, 47, 48, 49, 50, 21, 22, 23, 24, 25, 26, 27, 28, 29, 30, 31, 32, 33, 34, 35, 36, 37, 38, 39, 40, 41, 42, 43, 44] h h') := by
  refine ik_Wk 1 (pc' := 1) (loc' := [some (.ref 0), some (fI p), some (fI 3), some (fI what)]) (st' := [.ref 0]) (h' := h) (cl' := 0) (sl' := 0) rfl ?_
  refine fw_gf rfl rfl h0 rfl ?_
  refine ik_Wk 1 (pc' := 5) (loc' := [some (.ref 0), some (fI p), some (fI 3), some (fI what)]) (st' := [fI p, .ref 7]) (h' := h) (cl' := 0) (sl' := 0) rfl ?_
  refine ik_Wc 4 2 0 [.ref 7, fI p] [] rfl rfl rfl (by decide) rfl rfl (fw_rec hl rfl h7 rfl (by decide)) ?_
  refine ik_Wk 0 (pc' := 0) (loc' := [some (.ref 7), some (fI p)]) (st' := []) (h' := h) (cl' := 0) (sl' := 0) rfl ?_
  refine ik_Wk 1 (pc' := 1) (loc' := [some (.ref 7), some (fI p)]) (st' := [fI p]) (h' := h) (cl' := 0) (sl' := 0) rfl ?_
  refine fw_if_lt rfl rfl (by omega) (by omega) (fun hc1 => ?_) (fun hc1 => ?_)
  · refine ik_Wk 1 (pc' := 19) (loc' := [some (.ref 7), some (fI p)]) (st' := [fI 0]) (h' := h) (cl' := 0) (sl' := 0) rfl ?_
    refine ik_Wret rfl rfl ⟨_, _, rfl, rfl, ?_⟩
    refine ik_Wk 0 (pc' := 8) (loc' := [some (.ref 0), some (fI p), some (fI 3), some (fI what)]) (st' := [fI 0]) (h' := h) (cl' := 0) (sl' := 0) rfl ?_
    refine fw_if_eq rfl rfl (by omega) (by omega) (fun hc2 => ?_) (fun hc2 => absurd hc2 (by omega))
    refine fw_ld (-1000000001) rfl rfl (by decide) ?_
    exact ik_Wret rfl rfl ⟨_, _, rfl, rfl, rfl, rfl, ⟨la, lb, bo, fe, bo_, sh, wh, wo, (-1000000001), rfl, h17, h19, h21, h25, h29, h33, h37, h41, h46, n46, h47, n47, h48, n48, h49, n49, h50, n50, q4, (hfr_refl [17, 19, 46, 47, 48, 49, 50, 21, 22, 23, 24, 25, 26, 27, 28, 29, 30, 31, 32, 33, 34, 35, 36, 37, 38, 39, 40, 41, 42, 43, 44] h)⟩⟩
  · refine ik_Wk 2 (pc' := 6) (loc' := [some (.ref 7), some (fI p)]) (st' := [.ref 7, fI p]) (h' := h) (cl' := 0) (sl' := 0) rfl ?_
    refine fw_gf rfl rfl h7 rfl ?_
    refine ik_Wk 1 (pc' := 10) (loc' := [some (.ref 7), some (fI p)]) (st' := [fI 1, fI pl, fI p]) (h' := h) (cl' := 0) (sl' := 0) rfl ?_
    refine fw_sub rfl ?_
    refine fw_ic_ge rfl rfl (by omega) (by omega) (by omega) (by omega) (fun hc3 => ?_) (fun hc3 => ?_)
    · refine ik_Wk 1 (pc' := 19) (loc' := [some (.ref 7), some (fI p)]) (st' := [fI 0]) (h' := h) (cl' := 0) (sl' := 0) rfl ?_
      refine ik_Wret rfl rfl ⟨_, _, rfl, rfl, ?_⟩
      refine ik_Wk 0 (pc' := 8) (loc' := [some (.ref 0), some (fI p), some (fI 3), some (fI what)]) (st' := [fI 0]) (h' := h) (cl' := 0) (sl' := 0) rfl ?_
      refine fw_if_eq rfl rfl (by omega) (by omega) (fun hc4 => ?_) (fun hc4 => absurd hc4 (by omega))
      refine fw_ld (-1000000001) rfl rfl (by decide) ?_
      exact ik_Wret rfl rfl ⟨_, _, rfl, rfl, rfl, rfl, ⟨la, lb, bo, fe, bo_, sh, wh, wo, (-1000000001), rfl, h17, h19, h21, h25, h29, h33, h37, h41, h46, n46, h47, n47, h48, n48, h49, n49, h50, n50, q4, (hfr_refl [17, 19, 46, 47, 48, 49, 50, 21, 22, 23, 24, 25, 26, 27, 28, 29, 30, 31, 32, 33, 34, 35, 36, 37, 38, 39, 40, 41, 42, 43, 44] h)⟩⟩
    · refine ik_Wk 2 (pc' := 19) (loc' := [some (.ref 7), some (fI p)]) (st' := [fI 1]) (h' := h) (cl' := 0) (sl' := 0) rfl ?_
      refine ik_Wret rfl rfl ⟨_, _, rfl, rfl, ?_⟩
      refine ik_Wk 0 (pc' := 8) (loc' := [some (.ref 0), some (fI p), some (fI 3), some (fI what)]) (st' := [fI 1]) (h' := h) (cl' := 0) (sl' := 0) rfl ?_
      refine fw_if_eq rfl rfl (by omega) (by omega) (fun hc5 => absurd hc5 (by omega)) (fun hc5 => ?_)
      refine ik_Wk 2 (pc' := 13) (loc' := [some (.ref 0), some (fI p), some (fI 3), some (fI what)]) (st' := [.ref 0, fI 3]) (h' := h) (cl' := 0) (sl' := 0) rfl ?_
      refine fw_gf rfl rfl h0 rfl ?_
      refine ik_Wc 2 1 0 [.ref 7] [fI 3] rfl rfl rfl (by decide) rfl rfl (fw_rec hl rfl h7 rfl (by decide)) ?_
      refine ik_Wk 0 (pc' := 0) (loc' := [some (.ref 7)]) (st' := []) (h' := h) (cl' := 0) (sl' := 0) rfl ?_
      refine ik_Wk 1 (pc' := 1) (loc' := [some (.ref 7)]) (st' := [.ref 7]) (h' := h) (cl' := 0) (sl' := 0) rfl ?_
      refine fw_gf rfl rfl h7 rfl ?_
      refine ik_Wk 1 (pc' := 5) (loc' := [some (.ref 7)]) (st' := [fI 1, fI pl]) (h' := h) (cl' := 0) (sl' := 0) rfl ?_
      refine fw_sub rfl ?_
      refine ik_Wret rfl rfl ⟨_, _, rfl, rfl, ?_⟩
      refine ik_Wk 0 (pc' := 19) (loc' := [some (.ref 0), some (fI p), some (fI 3), some (fI what)]) (st' := [fI (pl - 1), fI 3]) (h' := h) (cl' := 0) (sl' := 0) rfl ?_
      refine ik_Wk 1 (pc' := 20) (loc' := [some (.ref 0), some (fI p), some (fI 3), some (fI what)]) (st' := [fI p, fI (pl - 1), fI 3]) (h' := h) (cl' := 0) (sl' := 0) rfl ?_
      refine fw_sub rfl ?_
      refine fw_ic_le rfl rfl (by omega) (by omega) (by omega) (by omega) (fun hc6 => ?_) (fun hc6 => ?_)
      · refine ik_Wk 2 (pc' := 29) (loc' := [some (.ref 0), some (fI p), some (fI 3), some (fI what)]) (st' := [fI 1, fI 3]) (h' := h) (cl' := 0) (sl' := 0) rfl ?_
        refine fw_ic_lt rfl rfl (by omega) (by omega) (by omega) (by omega) (fun hc7 => absurd hc7 (by omega)) (fun hc7 => ?_)
        refine ik_Wk 2 (pc' := 34) (loc' := [some (.ref 0), some (fI p), some (fI 3), some (fI what)]) (st' := [fI 3, fI 3]) (h' := h) (cl' := 0) (sl' := 0) rfl ?_
        refine fw_ic_gt rfl rfl (by omega) (by omega) (by omega) (by omega) (fun hc8 => absurd hc8 (by omega)) (fun hc8 => ?_)
        refine ik_Wk 1 (pc' := 38) (loc' := [some (.ref 0), some (fI p), some (fI 3), some (fI what)]) (st' := [fI what]) (h' := h) (cl' := 0) (sl' := 0) rfl ?_
        refine fw_if_lt rfl rfl (by omega) (by omega) (fun hc9 => ?_) (fun hc9 => ?_)
        · refine fw_ld (-1000000002) rfl rfl (by decide) ?_
          exact ik_Wret rfl rfl ⟨_, _, rfl, rfl, rfl, rfl, ⟨la, lb, bo, fe, bo_, sh, wh, wo, (-1000000002), rfl, h17, h19, h21, h25, h29, h33, h37, h41, h46, n46, h47, n47, h48, n48, h49, n49, h50, n50, q4, (hfr_refl [17, 19, 46, 47, 48, 49, 50, 21, 22, 23, 24, 25, 26, 27, 28, 29, 30, 31, 32, 33, 34, 35, 36, 37, 38, 39, 40, 41, 42, 43, 44] h)⟩⟩
        · refine ik_Wk 1 (pc' := 42) (loc' := [some (.ref 0), some (fI p), some (fI 3), some (fI what)]) (st' := [fI what]) (h' := h) (cl' := 0) (sl' := 0) rfl ?_
          refine fw_bi rfl (by decide) ?_
          refine fw_ic_le rfl rfl (by omega) (by omega) (by omega) (by omega) (fun hc10 => ?_) (fun hc10 => ?_)
          · refine ik_Wk 1 (pc' := 51) (loc' := [some (.ref 0), some (fI p), some (fI 3), some (fI what)]) (st' := [.ref 0]) (h' := h) (cl' := 0) (sl' := 0) rfl ?_
            refine fw_gf rfl rfl h0 rfl ?_
            refine ik_Wk 3 (pc' := 57) (loc' := [some (.ref 0), some (fI p), some (fI 3), some (fI what)]) (st' := [.ref 0, fI 3, fI p, .ref 17]) (h' := h) (cl' := 0) (sl' := 0) rfl ?_
            refine fw_gf rfl rfl h0 rfl ?_
            refine fw_gf rfl rfl h45 rfl ?_
            refine fw_call 84 4 0 [.ref 17, fI p, fI 3, .ref 46] [] rfl rfl rfl (by decide) rfl rfl (fw_rec hl rfl h17 rfl (by decide)) (cs_fears3 (pl := pl) (lo := lo) (s := s) (ka := ka) (pa := pa) (fa := fa) (kb := kb) (pb := pb) (fb := fb) (bo := bo) (la := la) (lb := lb) (p := p) (wg := wg) (wc := wc) (we := we) (fe := fe) (W := W) (by omega) (q1 (by omega)) (by omega) q2 q3 q4 h7 h11 n11 h12 n12 h13 n13 h15 h17 h18 h19 h21 h25 h29 h33 h37 h41 h46 n46 hl) ?_
            rintro _ h_734 ⟨l0_734, l1_734, l2_734, fe'_734, rfl, e_734_17, e_734_19, e_734_21, e_734_25, e_734_29, e_734_33, e_734_37, e_734_41, e_734_46, m_734_46, p_734_0, F_734⟩
            have k_734 := F_734.1.trans hl
            have fr_734 := hfr_c (hfr_refl [17, 19, 46, 47, 48, 49, 50, 21, 22, 23, 24, 25, 26, 27, 28, 29, 30, 31, 32, 33, 34, 35, 36, 37, 38, 39, 40, 41, 42, 43, 44] h) F_734 (by decide)
            have g_734_0 := (F_734.2 0 (by decide +kernel)).trans h0
            have g_734_7 := (F_734.2 7 (by decide +kernel)).trans h7
            have g_734_11 := (F_734.2 11 (by decide +kernel)).trans h11
            have g_734_12 := (F_734.2 12 (by decide +kernel)).trans h12
            have g_734_13 := (F_734.2 13 (by decide +kernel)).trans h13
            have g_734_15 := (F_734.2 15 (by decide +kernel)).trans h15
            have g_734_18 := (F_734.2 18 (by decide +kernel)).trans h18
            have g_734_45 := (F_734.2 45 (by decide +kernel)).trans h45
            have g_734_47 := (F_734.2 47 (by decide +kernel)).trans h47
            have g_734_48 := (F_734.2 48 (by decide +kernel)).trans h48
            have g_734_49 := (F_734.2 49 (by decide +kernel)).trans h49
            have g_734_50 := (F_734.2 50 (by decide +kernel)).trans h50
            have g_734_17 : cE h_734 17 (.inr (8, [.ref 7, .ref 15, .ref 18, .ref 19, fJ l2_734, .ref 20])) := e_734_17
            have g_734_19 : cE h_734 19 (.inl (.long, fL [l0_734, l1_734])) := e_734_19
            have g_734_21 : mf_cr h_734 21  := e_734_21
            have g_734_25 : mf_cr h_734 25  := e_734_25
            have g_734_29 : mf_cr h_734 29  := e_734_29
            have g_734_33 : mf_cr h_734 33  := e_734_33
            have g_734_37 : mf_cr h_734 37  := e_734_37
            have g_734_41 : mf_cr h_734 41  := e_734_41
            have g_734_46 : cE h_734 46 (.inl (.int, fA fe'_734)) := e_734_46
            refine ik_Wk 0 (pc' := 66) (loc' := [some (.ref 0), some (fI p), some (fI 3), some (fI what)]) (st' := []) (h' := h_734) (cl' := 0) (sl' := 0) rfl ?_
            refine ik_Wk 1 (pc' := 67) (loc' := [some (.ref 0), some (fI p), some (fI 3), some (fI what)]) (st' := [.ref 0]) (h' := h_734) (cl' := 0) (sl' := 0) rfl ?_
            refine fw_gf rfl rfl g_734_0 rfl ?_
            refine ik_Wk 1 (pc' := 71) (loc' := [some (.ref 0), some (fI p), some (fI 3), some (fI what)]) (st' := [fI 3, .ref 45]) (h' := h_734) (cl' := 0) (sl' := 0) rfl ?_
            refine fw_call 43 2 0 [.ref 45, fI 3] [] rfl rfl rfl (by decide) rfl rfl (fw_rec k_734 rfl g_734_45 rfl (by decide)) (cs_findPair (n := 3) (fe := fe'_734) (bo_ := bo_) (sh := sh) (wh := wh) (wo := wo) (by omega) p_734_0 g_734_45 g_734_46 m_734_46 g_734_47 n47 g_734_48 n48 g_734_49 n49 g_734_50 n50 k_734) ?_
            rintro _ h_735 ⟨bo'_735, sh'_735, wh'_735, wo'_735, b_735, rfl, e_735_47, m_735_47, e_735_48, m_735_48, e_735_49, m_735_49, e_735_50, m_735_50, p_735_0, F_735⟩
            have k_735 := F_735.1.trans k_734
            have fr_735 := hfr_c fr_734 F_735 (by decide)
            have g_735_0 := (F_735.2 0 (by decide +kernel)).trans g_734_0
            have g_735_7 := (F_735.2 7 (by decide +kernel)).trans g_734_7
            have g_735_11 := (F_735.2 11 (by decide +kernel)).trans g_734_11
            have g_735_12 := (F_735.2 12 (by decide +kernel)).trans g_734_12
            have g_735_13 := (F_735.2 13 (by decide +kernel)).trans g_734_13
            have g_735_15 := (F_735.2 15 (by decide +kernel)).trans g_734_15
            have g_735_17 := (F_735.2 17 (by decide +kernel)).trans g_734_17
            have g_735_18 := (F_735.2 18 (by decide +kernel)).trans g_734_18
            have g_735_19 := (F_735.2 19 (by decide +kernel)).trans g_734_19
            have g_735_21 := mf_cr_f g_734_21 (F_735.2 21 (by decide)) (F_735.2 22 (by decide)) (F_735.2 23 (by decide)) (F_735.2 24 (by decide))
            have g_735_25 := mf_cr_f g_734_25 (F_735.2 25 (by decide)) (F_735.2 26 (by decide)) (F_735.2 27 (by decide)) (F_735.2 28 (by decide))
            have g_735_29 := mf_cr_f g_734_29 (F_735.2 29 (by decide)) (F_735.2 30 (by decide)) (F_735.2 31 (by decide)) (F_735.2 32 (by decide))
            have g_735_33 := mf_cr_f g_734_33 (F_735.2 33 (by decide)) (F_735.2 34 (by decide)) (F_735.2 35 (by decide)) (F_735.2 36 (by decide))
            have g_735_37 := mf_cr_f g_734_37 (F_735.2 37 (by decide)) (F_735.2 38 (by decide)) (F_735.2 39 (by decide)) (F_735.2 40 (by decide))
            have g_735_41 := mf_cr_f g_734_41 (F_735.2 41 (by decide)) (F_735.2 42 (by decide)) (F_735.2 43 (by decide)) (F_735.2 44 (by decide))
            have g_735_46 := (F_735.2 46 (by decide +kernel)).trans g_734_46
            have g_735_45 := (F_735.2 45 (by decide +kernel)).trans g_734_45
            have g_735_47 : cE h_735 47 (.inl (.long, fL bo'_735)) := e_735_47
            have g_735_48 : cE h_735 48 (.inl (.long, fL sh'_735)) := e_735_48
            have g_735_49 : cE h_735 49 (.inl (.long, fL wh'_735)) := e_735_49
            have g_735_50 : cE h_735 50 (.inl (.long, fL wo'_735)) := e_735_50
            refine ik_Wk 0 (pc' := 74) (loc' := [some (.ref 0), some (fI p), some (fI 3), some (fI what)]) (st' := [fI b_735]) (h' := h_735) (cl' := 0) (sl' := 0) rfl ?_
            refine fw_if_ne rfl rfl (by omega) (by omega) (fun hc11 => ?_) (fun hc11 => ?_)
            · refine fw_ld (-1000000003) rfl rfl (by decide) ?_
              exact ik_Wret rfl rfl ⟨_, _, rfl, rfl, rfl, rfl, ⟨l0_734, l1_734, l2_734, fe'_734, bo'_735, sh'_735, wh'_735, wo'_735, (-1000000003), rfl, g_735_17, g_735_19, g_735_21, g_735_25, g_735_29, g_735_33, g_735_37, g_735_41, g_735_46, m_734_46, g_735_47, m_735_47, g_735_48, m_735_48, g_735_49, m_735_49, g_735_50, m_735_50, p_734_0, fr_735⟩⟩
            · refine ik_Wk 1 (pc' := 81) (loc' := [some (.ref 0), some (fI p), some (fI 3), some (fI what)]) (st' := [fI what]) (h' := h_735) (cl' := 0) (sl' := 0) rfl ?_
              refine fw_if_ne rfl rfl (by omega) (by omega) (fun hc12 => ?_) (fun hc12 => ?_)
              · refine ik_Wk 1 (pc' := 85) (loc' := [some (.ref 0), some (fI p), some (fI 3), some (fI what)]) (st' := [.ref 0]) (h' := h_735) (cl' := 0) (sl' := 0) rfl ?_
                refine fw_gf rfl rfl g_735_0 rfl ?_
                refine ik_Wc 41 1 0 [.ref 45] [] rfl rfl rfl (by decide) rfl rfl (fw_rec k_735 rfl g_735_45 rfl (by decide)) ?_
                refine ik_Wk 0 (pc' := 0) (loc' := [some (.ref 45)]) (st' := []) (h' := h_735) (cl' := 0) (sl' := 0) rfl ?_
                refine ik_Wk 1 (pc' := 1) (loc' := [some (.ref 45)]) (st' := [.ref 45]) (h' := h_735) (cl' := 0) (sl' := 0) rfl ?_
                refine fw_gf rfl rfl g_735_45 rfl ?_
                refine ik_Wk 1 (pc' := 5) (loc' := [some (.ref 45)]) (st' := [fI 0, .ref 49]) (h' := h_735) (cl' := 0) (sl' := 0) rfl ?_
                refine fx_lal rfl g_735_49 (by omega) (by omega) (by omega) ?_
                refine fw_lc (z := 0) rfl (by decide) ?_
                refine fx_lcx rfl (fun zc13 rzc13 szc13 => ?_)
                refine fw_if_le rfl rfl (by omega) (by omega) (fun hc14 => ?_) (fun hc14 => ?_)
                · refine ik_Wk 1 (pc' := 33) (loc' := [some (.ref 45)]) (st' := [fI 0]) (h' := h_735) (cl' := 0) (sl' := 0) rfl ?_
                  refine ik_Wret rfl rfl ⟨_, _, rfl, rfl, ?_⟩
                  refine ik_Wk 0 (pc' := 91) (loc' := [some (.ref 0), some (fI p), some (fI 3), some (fI what)]) (st' := [fI 0]) (h' := h_735) (cl' := 0) (sl' := 0) rfl ?_
                  refine ik_Wk 1 (pc' := 111) (loc' := [some (.ref 0), some (fI p), some (fI 3), some (fI what)]) (st' := [fI 0]) (h' := h_735) (cl' := 0) (sl' := 0) rfl ?_
                  exact ik_Wret rfl rfl ⟨_, _, rfl, rfl, rfl, rfl, ⟨l0_734, l1_734, l2_734, fe'_734, bo'_735, sh'_735, wh'_735, wo'_735, 0, rfl, g_735_17, g_735_19, g_735_21, g_735_25, g_735_29, g_735_33, g_735_37, g_735_41, g_735_46, m_734_46, g_735_47, m_735_47, g_735_48, m_735_48, g_735_49, m_735_49, g_735_50, m_735_50, p_734_0, fr_735⟩⟩
                · refine ik_Wk 1 (pc' := 12) (loc' := [some (.ref 45)]) (st' := [.ref 45]) (h' := h_735) (cl' := 0) (sl' := 0) rfl ?_
                  refine fw_gf rfl rfl g_735_45 rfl ?_
                  refine ik_Wk 1 (pc' := 16) (loc' := [some (.ref 45)]) (st' := [fI 0, .ref 50]) (h' := h_735) (cl' := 0) (sl' := 0) rfl ?_
                  refine fx_lal rfl g_735_50 (by omega) (by omega) (by omega) ?_
                  refine fw_l2 1000 rfl rfl (by decide) ?_
                  refine fw_lmul rfl ?_
                  refine ik_Wk 1 (pc' := 22) (loc' := [some (.ref 45)]) (st' := [.ref 45, fJ ((wo'_735.getD (0 : Int).toNat 0) * 1000)]) (h' := h_735) (cl' := 0) (sl' := 0) rfl ?_
                  refine fw_gf rfl rfl g_735_45 rfl ?_
                  refine ik_Wk 1 (pc' := 26) (loc' := [some (.ref 45)]) (st' := [fI 0, .ref 49, fJ ((wo'_735.getD (0 : Int).toNat 0) * 1000)]) (h' := h_735) (cl' := 0) (sl' := 0) rfl ?_
                  refine fx_lal rfl g_735_49 (by omega) (by omega) (by omega) ?_
                  refine fx_ldo rfl (by rcases szc13 with w | w; omega; exact fun e => w (e.trans (by decide))) (fun qd15 => ?_)
                  refine fx_l2i rfl ?_
                  refine ik_Wk 1 (pc' := 33) (loc' := [some (.ref 45)]) (st' := [fI qd15]) (h' := h_735) (cl' := 0) (sl' := 0) rfl ?_
                  refine ik_Wret rfl rfl ⟨_, _, rfl, rfl, ?_⟩
                  refine ik_Wk 0 (pc' := 91) (loc' := [some (.ref 0), some (fI p), some (fI 3), some (fI what)]) (st' := [fI qd15]) (h' := h_735) (cl' := 0) (sl' := 0) rfl ?_
                  refine ik_Wk 1 (pc' := 111) (loc' := [some (.ref 0), some (fI p), some (fI 3), some (fI what)]) (st' := [fI qd15]) (h' := h_735) (cl' := 0) (sl' := 0) rfl ?_
                  exact ik_Wret rfl rfl ⟨_, _, rfl, rfl, rfl, rfl, ⟨l0_734, l1_734, l2_734, fe'_734, bo'_735, sh'_735, wh'_735, wo'_735, qd15, rfl, g_735_17, g_735_19, g_735_21, g_735_25, g_735_29, g_735_33, g_735_37, g_735_41, g_735_46, m_734_46, g_735_47, m_735_47, g_735_48, m_735_48, g_735_49, m_735_49, g_735_50, m_735_50, p_734_0, fr_735⟩⟩
              · refine ik_Wk 1 (pc' := 95) (loc' := [some (.ref 0), some (fI p), some (fI 3), some (fI what)]) (st' := [.ref 0]) (h' := h_735) (cl' := 0) (sl' := 0) rfl ?_
                refine fw_gf rfl rfl g_735_0 rfl ?_
                refine ik_Wk 2 (pc' := 100) (loc' := [some (.ref 0), some (fI p), some (fI 3), some (fI what)]) (st' := [fI 1, fI what, .ref 45]) (h' := h_735) (cl' := 0) (sl' := 0) rfl ?_
                refine fw_sub rfl ?_
                refine ik_Wk 1 (pc' := 102) (loc' := [some (.ref 0), some (fI p), some (fI 3), some (fI what)]) (st' := [fI 3, fI (what - 1), .ref 45]) (h' := h_735) (cl' := 0) (sl' := 0) rfl ?_
                refine fx_idiv rfl (by omega) (by omega) (by omega) (by omega) ?_
                refine ik_Wk 2 (pc' := 105) (loc' := [some (.ref 0), some (fI p), some (fI 3), some (fI what)]) (st' := [fI 1, fI what, fI ((what - 1) / 3), .ref 45]) (h' := h_735) (cl' := 0) (sl' := 0) rfl ?_
                refine fw_sub rfl ?_
                refine ik_Wk 1 (pc' := 107) (loc' := [some (.ref 0), some (fI p), some (fI 3), some (fI what)]) (st' := [fI 3, fI (what - 1), fI ((what - 1) / 3), .ref 45]) (h' := h_735) (cl' := 0) (sl' := 0) rfl ?_
                refine fx_irem rfl (by omega) (by omega) (by omega) (by omega) ?_
                refine ik_Wc 42 3 0 [.ref 45, fI ((what - 1) / 3), fI ((what - 1) % 3)] [] rfl rfl rfl (by decide) rfl rfl (fw_rec k_735 rfl g_735_45 rfl (by decide)) ?_
                refine ik_Wk 0 (pc' := 0) (loc' := [some (.ref 45), some (fI ((what - 1) / 3)), some (fI ((what - 1) % 3))]) (st' := []) (h' := h_735) (cl' := 0) (sl' := 0) rfl ?_
                refine ik_Wk 1 (pc' := 1) (loc' := [some (.ref 45), some (fI ((what - 1) / 3)), some (fI ((what - 1) % 3))]) (st' := [.ref 45]) (h' := h_735) (cl' := 0) (sl' := 0) rfl ?_
                refine fw_gf rfl rfl g_735_45 rfl ?_
                refine ik_Wk 1 (pc' := 5) (loc' := [some (.ref 45), some (fI ((what - 1) / 3)), some (fI ((what - 1) % 3))]) (st' := [fI ((what - 1) / 3), .ref 49]) (h' := h_735) (cl' := 0) (sl' := 0) rfl ?_
                refine fx_lal rfl g_735_49 (by omega) (by omega) (by omega) ?_
                refine fw_lc (z := 0) rfl (by decide) ?_
                refine fx_lcx rfl (fun zc16 rzc16 szc16 => ?_)
                refine fw_if_le rfl rfl (by omega) (by omega) (fun hc17 => ?_) (fun hc17 => ?_)
                · refine ik_Wk 1 (pc' := 37) (loc' := [some (.ref 45), some (fI ((what - 1) / 3)), some (fI ((what - 1) % 3))]) (st' := [fI 0]) (h' := h_735) (cl' := 0) (sl' := 0) rfl ?_
                  refine ik_Wret rfl rfl ⟨_, _, rfl, rfl, ?_⟩
                  refine ik_Wk 0 (pc' := 111) (loc' := [some (.ref 0), some (fI p), some (fI 3), some (fI what)]) (st' := [fI 0]) (h' := h_735) (cl' := 0) (sl' := 0) rfl ?_
                  exact ik_Wret rfl rfl ⟨_, _, rfl, rfl, rfl, rfl, ⟨l0_734, l1_734, l2_734, fe'_734, bo'_735, sh'_735, wh'_735, wo'_735, 0, rfl, g_735_17, g_735_19, g_735_21, g_735_25, g_735_29, g_735_33, g_735_37, g_735_41, g_735_46, m_734_46, g_735_47, m_735_47, g_735_48, m_735_48, g_735_49, m_735_49, g_735_50, m_735_50, p_734_0, fr_735⟩⟩
                · refine ik_Wk 1 (pc' := 12) (loc' := [some (.ref 45), some (fI ((what - 1) / 3)), some (fI ((what - 1) % 3))]) (st' := [.ref 45]) (h' := h_735) (cl' := 0) (sl' := 0) rfl ?_
                  refine fw_gf rfl rfl g_735_45 rfl ?_
                  refine ik_Wk 2 (pc' := 17) (loc' := [some (.ref 45), some (fI ((what - 1) / 3)), some (fI ((what - 1) % 3))]) (st' := [fI 3, fI ((what - 1) / 3), .ref 48]) (h' := h_735) (cl' := 0) (sl' := 0) rfl ?_
                  refine fx_mulc rfl ?_
                  refine ik_Wk 1 (pc' := 19) (loc' := [some (.ref 45), some (fI ((what - 1) / 3)), some (fI ((what - 1) % 3))]) (st' := [fI ((what - 1) % 3), fI (3 * ((what - 1) / 3)), .ref 48]) (h' := h_735) (cl' := 0) (sl' := 0) rfl ?_
                  refine fw_add rfl ?_
                  refine fx_lal rfl g_735_48 (by omega) (by omega) (by omega) ?_
                  refine fw_l2 1000000 rfl rfl (by decide) ?_
                  refine fw_lmul rfl ?_
                  refine ik_Wk 1 (pc' := 26) (loc' := [some (.ref 45), some (fI ((what - 1) / 3)), some (fI ((what - 1) % 3))]) (st' := [.ref 45, fJ ((sh'_735.getD ((3 * ((what - 1) / 3)) + ((what - 1) % 3)).toNat 0) * 1000000)]) (h' := h_735) (cl' := 0) (sl' := 0) rfl ?_
                  refine fw_gf rfl rfl g_735_45 rfl ?_
                  refine ik_Wk 1 (pc' := 30) (loc' := [some (.ref 45), some (fI ((what - 1) / 3)), some (fI ((what - 1) % 3))]) (st' := [fI ((what - 1) / 3), .ref 49, fJ ((sh'_735.getD ((3 * ((what - 1) / 3)) + ((what - 1) % 3)).toNat 0) * 1000000)]) (h' := h_735) (cl' := 0) (sl' := 0) rfl ?_
                  refine fx_lal rfl g_735_49 (by omega) (by omega) (by omega) ?_
                  refine fx_ldo rfl (by rcases szc16 with w | w; omega; exact fun e => w (e.trans (by decide))) (fun qd18 => ?_)
                  refine fx_l2i rfl ?_
                  refine ik_Wk 1 (pc' := 37) (loc' := [some (.ref 45), some (fI ((what - 1) / 3)), some (fI ((what - 1) % 3))]) (st' := [fI qd18]) (h' := h_735) (cl' := 0) (sl' := 0) rfl ?_
                  refine ik_Wret rfl rfl ⟨_, _, rfl, rfl, ?_⟩
                  refine ik_Wk 0 (pc' := 111) (loc' := [some (.ref 0), some (fI p), some (fI 3), some (fI what)]) (st' := [fI qd18]) (h' := h_735) (cl' := 0) (sl' := 0) rfl ?_
                  exact ik_Wret rfl rfl ⟨_, _, rfl, rfl, rfl, rfl, ⟨l0_734, l1_734, l2_734, fe'_734, bo'_735, sh'_735, wh'_735, wo'_735, qd18, rfl, g_735_17, g_735_19, g_735_21, g_735_25, g_735_29, g_735_33, g_735_37, g_735_41, g_735_46, m_734_46, g_735_47, m_735_47, g_735_48, m_735_48, g_735_49, m_735_49, g_735_50, m_735_50, p_734_0, fr_735⟩⟩
          · refine fw_ld (-1000000002) rfl rfl (by decide) ?_
            exact ik_Wret rfl rfl ⟨_, _, rfl, rfl, rfl, rfl, ⟨la, lb, bo, fe, bo_, sh, wh, wo, (-1000000002), rfl, h17, h19, h21, h25, h29, h33, h37, h41, h46, n46, h47, n47, h48, n48, h49, n49, h50, n50, q4, (hfr_refl [17, 19, 46, 47, 48, 49, 50, 21, 22, 23, 24, 25, 26, 27, 28, 29, 30, 31, 32, 33, 34, 35, 36, 37, 38, 39, 40, 41, 42, 43, 44] h)⟩⟩
      · refine fw_ld (-1000000001) rfl rfl (by decide) ?_
        exact ik_Wret rfl rfl ⟨_, _, rfl, rfl, rfl, rfl, ⟨la, lb, bo, fe, bo_, sh, wh, wo, (-1000000001), rfl, h17, h19, h21, h25, h29, h33, h37, h41, h46, n46, h47, n47, h48, n48, h49, n49, h50, n50, q4, (hfr_refl [17, 19, 46, 47, 48, 49, 50, 21, 22, 23, 24, 25, 26, 27, 28, 29, 30, 31, 32, 33, 34, 35, 36, 37, 38, 39, 40, 41, 42, 43, 44] h)⟩⟩

theorem cp_mixedE {h : List ik_E} {pl : Int} {st : Int} {lo : Int} {p : Int} {n : Int} {what : Int} (q0 : 0 ≤ pl ∧ pl ≤ 12) (q1 : -2147483648 ≤ p ∧ p < 2147483648) (q2 : -2147483648 ≤ n ∧ n < 2147483648) (q3 : -2147483648 ≤ what ∧ what < 2147483648) (q4 : n < 1 ∨ 3 < n) (h0 : cE h 0 (.inr (9, [.ref 1, .ref 7, .ref 14, .ref 17, .ref 45, .ref 51, .ref 54, .ref 57]))) (h7 : cE h 7 (.inr (0, [fI pl, fI st, fI lo, .ref 8, .ref 9, .ref 10, .ref 11, .ref 12, .ref 13]))) (hl : h.length = 94) : ik_F 102 [.ref 0, fI p, fI n, fI what] h (fun rv h' => ∃ (v : Int), rv = [fI v] ∧ hfr [] h h') := by
  refine ik_Wk 1 (pc' := 1) (loc' := [some (.ref 0), some (fI p), some (fI n), some (fI what)]) (st' := [.ref 0]) (h' := h) (cl' := 0) (sl' := 0) rfl ?_
  refine fw_gf rfl rfl h0 rfl ?_
  refine ik_Wk 1 (pc' := 5) (loc' := [some (.ref 0), some (fI p), some (fI n), some (fI what)]) (st' := [fI p, .ref 7]) (h' := h) (cl' := 0) (sl' := 0) rfl ?_
  refine ik_Wc 4 2 0 [.ref 7, fI p] [] rfl rfl rfl (by decide) rfl rfl (fw_rec hl rfl h7 rfl (by decide)) ?_
  refine ik_Wk 0 (pc' := 0) (loc' := [some (.ref 7), some (fI p)]) (st' := []) (h' := h) (cl' := 0) (sl' := 0) rfl ?_
  refine ik_Wk 1 (pc' := 1) (loc' := [some (.ref 7), some (fI p)]) (st' := [fI p]) (h' := h) (cl' := 0) (sl' := 0) rfl ?_
  refine fw_if_lt rfl rfl (by omega) (by omega) (fun hc1 => ?_) (fun hc1 => ?_)
  · refine ik_Wk 1 (pc' := 19) (loc' := [some (.ref 7), some (fI p)]) (st' := [fI 0]) (h' := h) (cl' := 0) (sl' := 0) rfl ?_
    refine ik_Wret rfl rfl ⟨_, _, rfl, rfl, ?_⟩
    refine ik_Wk 0 (pc' := 8) (loc' := [some (.ref 0), some (fI p), some (fI n), some (fI what)]) (st' := [fI 0]) (h' := h) (cl' := 0) (sl' := 0) rfl ?_
    refine fw_if_eq rfl rfl (by omega) (by omega) (fun hc2 => ?_) (fun hc2 => absurd hc2 (by omega))
    refine fw_ld (-1000000001) rfl rfl (by decide) ?_
    exact ik_Wret rfl rfl ⟨_, _, rfl, rfl, rfl, rfl, ⟨(-1000000001), rfl, (hfr_refl [] h)⟩⟩
  · refine ik_Wk 2 (pc' := 6) (loc' := [some (.ref 7), some (fI p)]) (st' := [.ref 7, fI p]) (h' := h) (cl' := 0) (sl' := 0) rfl ?_
    refine fw_gf rfl rfl h7 rfl ?_
    refine ik_Wk 1 (pc' := 10) (loc' := [some (.ref 7), some (fI p)]) (st' := [fI 1, fI pl, fI p]) (h' := h) (cl' := 0) (sl' := 0) rfl ?_
    refine fw_sub rfl ?_
    refine fw_ic_ge rfl rfl (by omega) (by omega) (by omega) (by omega) (fun hc3 => ?_) (fun hc3 => ?_)
    · refine ik_Wk 1 (pc' := 19) (loc' := [some (.ref 7), some (fI p)]) (st' := [fI 0]) (h' := h) (cl' := 0) (sl' := 0) rfl ?_
      refine ik_Wret rfl rfl ⟨_, _, rfl, rfl, ?_⟩
      refine ik_Wk 0 (pc' := 8) (loc' := [some (.ref 0), some (fI p), some (fI n), some (fI what)]) (st' := [fI 0]) (h' := h) (cl' := 0) (sl' := 0) rfl ?_
      refine fw_if_eq rfl rfl (by omega) (by omega) (fun hc4 => ?_) (fun hc4 => absurd hc4 (by omega))
      refine fw_ld (-1000000001) rfl rfl (by decide) ?_
      exact ik_Wret rfl rfl ⟨_, _, rfl, rfl, rfl, rfl, ⟨(-1000000001), rfl, (hfr_refl [] h)⟩⟩
    · refine ik_Wk 2 (pc' := 19) (loc' := [some (.ref 7), some (fI p)]) (st' := [fI 1]) (h' := h) (cl' := 0) (sl' := 0) rfl ?_
      refine ik_Wret rfl rfl ⟨_, _, rfl, rfl, ?_⟩
      refine ik_Wk 0 (pc' := 8) (loc' := [some (.ref 0), some (fI p), some (fI n), some (fI what)]) (st' := [fI 1]) (h' := h) (cl' := 0) (sl' := 0) rfl ?_
      refine fw_if_eq rfl rfl (by omega) (by omega) (fun hc5 => absurd hc5 (by omega)) (fun hc5 => ?_)
      refine ik_Wk 2 (pc' := 13) (loc' := [some (.ref 0), some (fI p), some (fI n), some (fI what)]) (st' := [.ref 0, fI n]) (h' := h) (cl' := 0) (sl' := 0) rfl ?_
      refine fw_gf rfl rfl h0 rfl ?_
      refine ik_Wc 2 1 0 [.ref 7] [fI n] rfl rfl rfl (by decide) rfl rfl (fw_rec hl rfl h7 rfl (by decide)) ?_
      refine ik_Wk 0 (pc' := 0) (loc' := [some (.ref 7)]) (st' := []) (h' := h) (cl' := 0) (sl' := 0) rfl ?_
      refine ik_Wk 1 (pc' := 1) (loc' := [some (.ref 7)]) (st' := [.ref 7]) (h' := h) (cl' := 0) (sl' := 0) rfl ?_
      refine fw_gf rfl rfl h7 rfl ?_
      refine ik_Wk 1 (pc' := 5) (loc' := [some (.ref 7)]) (st' := [fI 1, fI pl]) (h' := h) (cl' := 0) (sl' := 0) rfl ?_
      refine fw_sub rfl ?_
      refine ik_Wret rfl rfl ⟨_, _, rfl, rfl, ?_⟩
      refine ik_Wk 0 (pc' := 19) (loc' := [some (.ref 0), some (fI p), some (fI n), some (fI what)]) (st' := [fI (pl - 1), fI n]) (h' := h) (cl' := 0) (sl' := 0) rfl ?_
      refine ik_Wk 1 (pc' := 20) (loc' := [some (.ref 0), some (fI p), some (fI n), some (fI what)]) (st' := [fI p, fI (pl - 1), fI n]) (h' := h) (cl' := 0) (sl' := 0) rfl ?_
      refine fw_sub rfl ?_
      refine fw_ic_le rfl rfl (by omega) (by omega) (by omega) (by omega) (fun hc6 => ?_) (fun hc6 => ?_)
      · refine ik_Wk 2 (pc' := 29) (loc' := [some (.ref 0), some (fI p), some (fI n), some (fI what)]) (st' := [fI 1, fI n]) (h' := h) (cl' := 0) (sl' := 0) rfl ?_
        refine fw_ic_lt rfl rfl (by omega) (by omega) (by omega) (by omega) (fun hc7 => ?_) (fun hc7 => ?_)
        · refine fw_ld (-1000000002) rfl rfl (by decide) ?_
          exact ik_Wret rfl rfl ⟨_, _, rfl, rfl, rfl, rfl, ⟨(-1000000002), rfl, (hfr_refl [] h)⟩⟩
        · refine ik_Wk 2 (pc' := 34) (loc' := [some (.ref 0), some (fI p), some (fI n), some (fI what)]) (st' := [fI 3, fI n]) (h' := h) (cl' := 0) (sl' := 0) rfl ?_
          refine fw_ic_gt rfl rfl (by omega) (by omega) (by omega) (by omega) (fun hc8 => ?_) (fun hc8 => absurd hc8 (by omega))
          refine fw_ld (-1000000002) rfl rfl (by decide) ?_
          exact ik_Wret rfl rfl ⟨_, _, rfl, rfl, rfl, rfl, ⟨(-1000000002), rfl, (hfr_refl [] h)⟩⟩
      · refine fw_ld (-1000000001) rfl rfl (by decide) ?_
        exact ik_Wret rfl rfl ⟨_, _, rfl, rfl, rfl, rfl, ⟨(-1000000001), rfl, (hfr_refl [] h)⟩⟩

end