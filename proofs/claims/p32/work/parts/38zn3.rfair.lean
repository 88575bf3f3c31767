noncomputable section
theorem rp_fair {h : List ik_E} {pl : Int} {f : Nat → Int} {s : Nat} {cn : List Int} {go : List Int} {ch : List Int} {gt : List Int} {gd : List Int} {xs : List Int} {ys : List Int} {ka : Int} {pa : Int} {fa : Int} {kb : Int} {pb : Int} {fb : Int} {r1 : List Int} {r2 : List Int} {e : Int} {what : Int} (q0 : 0 ≤ pl ∧ pl ≤ 12) (q1 : s < 4096) (q2 : mx_rw pl cn go ch) (q3 : 0 ≤ ka ∧ ka ≤ 2) (q4 : 0 ≤ kb ∧ kb ≤ 2) (q5 : 1 < pl → 0 ≤ pa ∧ pa < pl - 1) (q6 : 1 < pl → 0 ≤ pb ∧ pb < pl - 1) (q7 : 0 ≤ fa ∧ fa ≤ 30) (q8 : 0 ≤ fb ∧ fb ≤ 30) (q9 : -2147483648 ≤ e ∧ e < 2147483648) (q10 : -2147483648 ≤ what ∧ what < 2147483648) (h66 : cE h 66 (.inr (10, [fI pl, .ref 67, .ref 68, .ref 69, fI ((s : Nat) : Int), .ref 70, .ref 71, fI (f 7), fI (f 8), .ref 72, fI (f 10), fI (f 11), fI (f 12), fJ (f 13), fI (f 14), fI (f 15), fI (f 16), fI (f 17), .ref 73, .ref 74, .ref 75, .ref 76, .ref 77, .ref 78, fI (f 24), .ref 79, .ref 80, .ref 81, .ref 82, .ref 83, .ref 84, .ref 85, fJ (f 32), fJ (f 33), .ref 86, .ref 87, fI (f 36), .ref 88, .ref 89, .ref 90, .ref 91, .ref 92, .ref 93]))) (h67 : cE h 67 (.inl (.int, fA cn))) (n67 : cn.length = 12) (h68 : cE h 68 (.inl (.int, fA go))) (n68 : go.length = 48) (h69 : cE h 69 (.inl (.int, fA ch))) (n69 : ch.length = 48) (h77 : cE h 77 (.inl (.int, fA gt))) (n77 : gt.length = 5) (h78 : cE h 78 (.inl (.int, fA gd))) (n78 : gd.length = 5) (h79 : cE h 79 (.inl (.long, fL xs))) (n79 : xs.length = 12) (h80 : cE h 80 (.inl (.long, fL ys))) (n80 : ys.length = 12) (h70 : cE h 70 (.inl (.int, fA [ka, pa, fa, kb, pb, fb]))) (h81 : cE h 81 (.inl (.long, fL r1))) (n81 : r1.length = 201) (h82 : cE h 82 (.inl (.long, fL r2))) (n82 : r2.length = 201) (hl : h.length = 94) : ik_F 192 [.ref 66, fI e, fI what] h (fun rv h' => ∃ (w' : Int) (gt' : List Int) (gd' : List Int) (xs' : List Int) (ys' : List Int) (r1' : List Int) (r2' : List Int), rv = [fI (an_fa e what pl (an_fw (mk_fz cn go ch s pl ka pa fa kb pb fb e) what))] ∧ cE h' 66 (.inr (10, [fI pl, .ref 67, .ref 68, .ref 69, fI ((s : Nat) : Int), .ref 70, .ref 71, fI (f 7), fI (f 8), .ref 72, fI (f 10), fI (f 11), fI (f 12), fJ (f 13), fI (f 14), fI (f 15), fI (f 16), fI (f 17), .ref 73, .ref 74, .ref 75, .ref 76, .ref 77, .ref 78, fI w', .ref 79, .ref 80, .ref 81, .ref 82, .ref 83, .ref 84, .ref 85, fJ (f 32), fJ (f 33), .ref 86, .ref 87, fI (f 36), .ref 88, .ref 89, .ref 90, .ref 91, .ref 92, .ref 93])) ∧ cE h' 77 (.inl (.int, fA gt')) ∧ gt'.length = 5 ∧ cE h' 78 (.inl (.int, fA gd')) ∧ gd'.length = 5 ∧ cE h' 79 (.inl (.long, fL xs')) ∧ xs'.length = 12 ∧ cE h' 80 (.inl (.long, fL ys')) ∧ ys'.length = 12 ∧ cE h' 81 (.inl (.long, fL r1')) ∧ r1'.length = 201 ∧ cE h' 82 (.inl (.long, fL r2')) ∧ r2'.length = 201 ∧ cE h' 69 (.inl (.int, fA ch)) ∧ ch.length = 48 ∧ hfr [66, 77, 78, 79, 80, 81, 82, 69] h h') := by
  refine ik_Wk 1 (pc' := 1) (loc' := [some (.ref 66), some (fI e), some (fI what), none]) (st' := [fI e]) (h' := h) (cl' := 0) (sl' := 0) rfl ?_
  refine fw_i2l rfl (by omega) (by omega) ?_
  refine fw_lc (z := 0) rfl (by decide) ?_
  refine fw_l2 1000000 rfl rfl (by decide) ?_
  refine fw_call 127 3 3 [fJ e, fJ 0, fJ 1000000] [] rfl rfl rfl (by decide) rfl rfl (fw_sta hl rfl (by decide)) (cr_in (v := e) (a := 0) (b := 1000000) (by omega) (by omega) (by omega)  hl) ?_
  rintro _ h_327 (⟨rfl, p_327_0, F_327⟩ | ⟨rfl, p_327_0, F_327⟩)
  · have k_327 := F_327.1.trans hl
    have fr_327 := hfr_c (hfr_refl [66, 77, 78, 79, 80, 81, 82, 69] h) F_327 (by decide)
    have g_327_66 := (F_327.2 66 (by decide +kernel)).trans h66
    have g_327_67 := (F_327.2 67 (by decide +kernel)).trans h67
    have g_327_68 := (F_327.2 68 (by decide +kernel)).trans h68
    have g_327_69 := (F_327.2 69 (by decide +kernel)).trans h69
    have g_327_77 := (F_327.2 77 (by decide +kernel)).trans h77
    have g_327_78 := (F_327.2 78 (by decide +kernel)).trans h78
    have g_327_79 := (F_327.2 79 (by decide +kernel)).trans h79
    have g_327_80 := (F_327.2 80 (by decide +kernel)).trans h80
    have g_327_70 := (F_327.2 70 (by decide +kernel)).trans h70
    have g_327_81 := (F_327.2 81 (by decide +kernel)).trans h81
    have g_327_82 := (F_327.2 82 (by decide +kernel)).trans h82
    refine ik_Wk 0 (pc' := 9) (loc' := [some (.ref 66), some (fI e), some (fI what), none]) (st' := [fI 1]) (h' := h_327) (cl' := 0) (sl' := 0) rfl ?_
    refine fw_if_eq rfl rfl (by omega) (by omega) (fun hc1 => absurd hc1 (by omega)) (fun hc1 => ?_)
    refine ik_Wk 1 (pc' := 13) (loc' := [some (.ref 66), some (fI e), some (fI what), none]) (st' := [fI what]) (h' := h_327) (cl' := 0) (sl' := 0) rfl ?_
    refine fw_i2l rfl (by omega) (by omega) ?_
    refine fw_lc (z := 0) rfl (by decide) ?_
    refine fw_l2 3 rfl rfl (by decide) ?_
    refine fw_call 127 3 3 [fJ what, fJ 0, fJ 3] [] rfl rfl rfl (by decide) rfl rfl (fw_sta k_327 rfl (by decide)) (cr_in (v := what) (a := 0) (b := 3) (by omega) (by omega) (by omega)  k_327) ?_
    rintro _ h_328 (⟨rfl, p_328_0, F_328⟩ | ⟨rfl, p_328_0, F_328⟩)
    · have k_328 := F_328.1.trans k_327
      have fr_328 := hfr_c fr_327 F_328 (by decide)
      have g_328_66 := (F_328.2 66 (by decide +kernel)).trans g_327_66
      have g_328_67 := (F_328.2 67 (by decide +kernel)).trans g_327_67
      have g_328_68 := (F_328.2 68 (by decide +kernel)).trans g_327_68
      have g_328_69 := (F_328.2 69 (by decide +kernel)).trans g_327_69
      have g_328_77 := (F_328.2 77 (by decide +kernel)).trans g_327_77
      have g_328_78 := (F_328.2 78 (by decide +kernel)).trans g_327_78
      have g_328_79 := (F_328.2 79 (by decide +kernel)).trans g_327_79
      have g_328_80 := (F_328.2 80 (by decide +kernel)).trans g_327_80
      have g_328_70 := (F_328.2 70 (by decide +kernel)).trans g_327_70
      have g_328_81 := (F_328.2 81 (by decide +kernel)).trans g_327_81
      have g_328_82 := (F_328.2 82 (by decide +kernel)).trans g_327_82
      refine ik_Wk 0 (pc' := 21) (loc' := [some (.ref 66), some (fI e), some (fI what), none]) (st' := [fI 1]) (h' := h_328) (cl' := 0) (sl' := 0) rfl ?_
      refine fw_if_ne rfl rfl (by omega) (by omega) (fun hc2 => absurd hc2 (by omega)) (fun hc2 => ?_)
      refine ik_Wk 1 (pc' := 28) (loc' := [some (.ref 66), some (fI e), some (fI what), none]) (st' := [.ref 66]) (h' := h_328) (cl' := 0) (sl' := 0) rfl ?_
      refine ik_Wc 134 1 0 [.ref 66] [] rfl rfl rfl (by decide) rfl rfl (fw_rec k_328 rfl g_328_66 rfl (by decide)) ?_
      refine ik_Wk 0 (pc' := 0) (loc' := [some (.ref 66)]) (st' := []) (h' := h_328) (cl' := 0) (sl' := 0) rfl ?_
      refine ik_Wk 1 (pc' := 1) (loc' := [some (.ref 66)]) (st' := [.ref 66]) (h' := h_328) (cl' := 0) (sl' := 0) rfl ?_
      refine fw_gf rfl rfl g_328_66 rfl ?_
      refine ik_Wk 1 (pc' := 5) (loc' := [some (.ref 66)]) (st' := [fI 1, fI pl]) (h' := h_328) (cl' := 0) (sl' := 0) rfl ?_
      refine fw_ic_le rfl rfl (by omega) (by omega) (by omega) (by omega) (fun hc3 => ?_) (fun hc3 => ?_)
      · refine ik_Wk 1 (pc' := 13) (loc' := [some (.ref 66)]) (st' := [fI 0]) (h' := h_328) (cl' := 0) (sl' := 0) rfl ?_
        refine ik_Wret rfl rfl ⟨_, _, rfl, rfl, ?_⟩
        refine ik_Wk 0 (pc' := 31) (loc' := [some (.ref 66), some (fI e), some (fI what), none]) (st' := [fI 0]) (h' := h_328) (cl' := 0) (sl' := 0) rfl ?_
        refine fw_if_ne rfl rfl (by omega) (by omega) (fun hc4 => ?_) (fun hc4 => absurd hc4 (by omega))
        refine fw_ld (-1000000003) rfl rfl (by decide) ?_
        exact ik_Wret rfl rfl ⟨_, _, rfl, rfl, rfl, rfl, ⟨(f 24), gt, gd, xs, ys, r1, r2, (congrArg (fun z => [fI z]) (by unfold an_fa an_fw; (repeat' split) <;> first | rfl | omega)), g_328_66, g_328_77, n77, g_328_78, n78, g_328_79, n79, g_328_80, n80, g_328_81, n81, g_328_82, n82, g_328_69, n69, fr_328⟩⟩
      · refine ik_Wk 2 (pc' := 13) (loc' := [some (.ref 66)]) (st' := [fI 1]) (h' := h_328) (cl' := 0) (sl' := 0) rfl ?_
        refine ik_Wret rfl rfl ⟨_, _, rfl, rfl, ?_⟩
        refine ik_Wk 0 (pc' := 31) (loc' := [some (.ref 66), some (fI e), some (fI what), none]) (st' := [fI 1]) (h' := h_328) (cl' := 0) (sl' := 0) rfl ?_
        refine fw_if_ne rfl rfl (by omega) (by omega) (fun hc5 => absurd hc5 (by omega)) (fun hc5 => ?_)
        refine ik_Wk 2 (pc' := 39) (loc' := [some (.ref 66), some (fI e), some (fI what), none]) (st' := [fI e, .ref 66]) (h' := h_328) (cl' := 0) (sl' := 0) rfl ?_
        refine fw_call 191 2 0 [.ref 66, fI e] [] rfl rfl rfl (by decide) rfl rfl (fw_rec k_328 rfl g_328_66 rfl (by decide)) (cr_findFair (pl := pl) (f := fun j => ([0, 0, 0, 0, 0, 0, 0, f 7, f 8, 0, f 10, f 11, f 12, f 13, f 14, f 15, f 16, f 17, 0, 0, 0, 0, 0, 0, f 24, 0, 0, 0, 0, 0, 0, 0, f 32, f 33, 0, 0, f 36, 0, 0, 0, 0, 0, 0] : List Int).getD j 0) (s := s) (cn := cn) (go := go) (ch := ch) (gt := gt) (gd := gd) (xs := xs) (ys := ys) (ka := ka) (pa := pa) (fa := fa) (kb := kb) (pb := pb) (fb := fb) (r1 := r1) (r2 := r2) (e := e) (by omega) (by omega) q2 q3 q4 (q5 (by omega)) (q6 (by omega)) q7 q8 (by omega) g_328_66 g_328_67 n67 g_328_68 n68 g_328_69 n69 g_328_77 n77 g_328_78 n78 g_328_79 n79 g_328_80 n80 g_328_70 g_328_81 n81 g_328_82 n82 k_328) ?_
        rintro _ h_329 ⟨w'_329, gt'_329, gd'_329, xs'_329, ys'_329, r1'_329, r2'_329, rfl, e_329_66, e_329_77, m_329_77, e_329_78, m_329_78, e_329_79, m_329_79, e_329_80, m_329_80, e_329_81, m_329_81, e_329_82, m_329_82, e_329_69, m_329_69, F_329⟩
        have k_329 := F_329.1.trans k_328
        have fr_329 := hfr_c fr_328 F_329 (by decide)
        have g_329_67 := (F_329.2 67 (by decide +kernel)).trans g_328_67
        have g_329_68 := (F_329.2 68 (by decide +kernel)).trans g_328_68
        have g_329_70 := (F_329.2 70 (by decide +kernel)).trans g_328_70
        have g_329_66 : cE h_329 66 (.inr (10, [fI pl, .ref 67, .ref 68, .ref 69, fI ((s : Nat) : Int), .ref 70, .ref 71, fI (f 7), fI (f 8), .ref 72, fI (f 10), fI (f 11), fI (f 12), fJ (f 13), fI (f 14), fI (f 15), fI (f 16), fI (f 17), .ref 73, .ref 74, .ref 75, .ref 76, .ref 77, .ref 78, fI w'_329, .ref 79, .ref 80, .ref 81, .ref 82, .ref 83, .ref 84, .ref 85, fJ (f 32), fJ (f 33), .ref 86, .ref 87, fI (f 36), .ref 88, .ref 89, .ref 90, .ref 91, .ref 92, .ref 93])) := e_329_66
        have g_329_77 : cE h_329 77 (.inl (.int, fA gt'_329)) := e_329_77
        have g_329_78 : cE h_329 78 (.inl (.int, fA gd'_329)) := e_329_78
        have g_329_79 : cE h_329 79 (.inl (.long, fL xs'_329)) := e_329_79
        have g_329_80 : cE h_329 80 (.inl (.long, fL ys'_329)) := e_329_80
        have g_329_81 : cE h_329 81 (.inl (.long, fL r1'_329)) := e_329_81
        have g_329_82 : cE h_329 82 (.inl (.long, fL r2'_329)) := e_329_82
        have g_329_69 : cE h_329 69 (.inl (.int, fA ch)) := e_329_69
        refine ik_Wk 0 (pc' := 42) (loc' := [some (.ref 66), some (fI e), some (fI what), none]) (st' := [fI (mk_fz cn go ch s pl ka pa fa kb pb fb e)]) (h' := h_329) (cl' := 0) (sl' := 0) rfl ?_
        have hzb : -1 ≤ (mk_fz cn go ch s pl ka pa fa kb pb fb e) ∧ (mk_fz cn go ch s pl ka pa fa kb pb fb e) < 300000 := mk_fz_b (by omega)
        refine ik_Wk 2 (pc' := 44) (loc' := [some (.ref 66), some (fI e), some (fI what), some (fI (mk_fz cn go ch s pl ka pa fa kb pb fb e))]) (st' := [fI (mk_fz cn go ch s pl ka pa fa kb pb fb e)]) (h' := h_329) (cl' := 0) (sl' := 0) rfl ?_
        refine fw_if_gt rfl rfl (by omega) (by omega) (fun hc6 => ?_) (fun hc6 => ?_)
        · refine ik_Wk 1 (pc' := 58) (loc' := [some (.ref 66), some (fI e), some (fI what), some (fI (mk_fz cn go ch s pl ka pa fa kb pb fb e))]) (st' := [fI what]) (h' := h_329) (cl' := 0) (sl' := 0) rfl ?_
          refine fw_if_ne rfl rfl (by omega) (by omega) (fun hc7 => ?_) (fun hc7 => ?_)
          · refine ik_Wk 1 (pc' := 62) (loc' := [some (.ref 66), some (fI e), some (fI what), some (fI (mk_fz cn go ch s pl ka pa fa kb pb fb e))]) (st' := [fI (mk_fz cn go ch s pl ka pa fa kb pb fb e)]) (h' := h_329) (cl' := 0) (sl' := 0) rfl ?_
            refine fw_si rfl (by decide) ?_
            refine fx_idiv rfl (by omega) (by omega) (by omega) (by omega) ?_
            refine ik_Wk 1 (pc' := 103) (loc' := [some (.ref 66), some (fI e), some (fI what), some (fI (mk_fz cn go ch s pl ka pa fa kb pb fb e))]) (st' := [fI ((mk_fz cn go ch s pl ka pa fa kb pb fb e) / 10000)]) (h' := h_329) (cl' := 0) (sl' := 0) rfl ?_
            exact ik_Wret rfl rfl ⟨_, _, rfl, rfl, rfl, rfl, ⟨w'_329, gt'_329, gd'_329, xs'_329, ys'_329, r1'_329, r2'_329, (congrArg (fun z => [fI z]) (by unfold an_fa an_fw; (repeat' split) <;> first | rfl | omega)), g_329_66, g_329_77, m_329_77, g_329_78, m_329_78, g_329_79, m_329_79, g_329_80, m_329_80, g_329_81, m_329_81, g_329_82, m_329_82, g_329_69, m_329_69, fr_329⟩⟩
          · refine ik_Wk 2 (pc' := 71) (loc' := [some (.ref 66), some (fI e), some (fI what), some (fI (mk_fz cn go ch s pl ka pa fa kb pb fb e))]) (st' := [fI 1, fI what]) (h' := h_329) (cl' := 0) (sl' := 0) rfl ?_
            refine fw_ic_ne rfl rfl (by omega) (by omega) (by omega) (by omega) (fun hc8 => ?_) (fun hc8 => ?_)
            · refine ik_Wk 1 (pc' := 75) (loc' := [some (.ref 66), some (fI e), some (fI what), some (fI (mk_fz cn go ch s pl ka pa fa kb pb fb e))]) (st' := [fI (mk_fz cn go ch s pl ka pa fa kb pb fb e)]) (h' := h_329) (cl' := 0) (sl' := 0) rfl ?_
              refine fw_bi rfl (by decide) ?_
              refine fx_idiv rfl (by omega) (by omega) (by omega) (by omega) ?_
              refine fw_bi rfl (by decide) ?_
              refine fx_irem rfl (by omega) (by omega) (by omega) (by omega) ?_
              refine ik_Wk 1 (pc' := 103) (loc' := [some (.ref 66), some (fI e), some (fI what), some (fI (mk_fz cn go ch s pl ka pa fa kb pb fb e))]) (st' := [fI (((mk_fz cn go ch s pl ka pa fa kb pb fb e) / 100) % 100)]) (h' := h_329) (cl' := 0) (sl' := 0) rfl ?_
              exact ik_Wret rfl rfl ⟨_, _, rfl, rfl, rfl, rfl, ⟨w'_329, gt'_329, gd'_329, xs'_329, ys'_329, r1'_329, r2'_329, (congrArg (fun z => [fI z]) (by unfold an_fa an_fw; (repeat' split) <;> first | rfl | omega)), g_329_66, g_329_77, m_329_77, g_329_78, m_329_78, g_329_79, m_329_79, g_329_80, m_329_80, g_329_81, m_329_81, g_329_82, m_329_82, g_329_69, m_329_69, fr_329⟩⟩
            · refine ik_Wk 2 (pc' := 86) (loc' := [some (.ref 66), some (fI e), some (fI what), some (fI (mk_fz cn go ch s pl ka pa fa kb pb fb e))]) (st' := [fI 2, fI what]) (h' := h_329) (cl' := 0) (sl' := 0) rfl ?_
              refine fw_ic_ne rfl rfl (by omega) (by omega) (by omega) (by omega) (fun hc9 => ?_) (fun hc9 => ?_)
              · refine ik_Wk 1 (pc' := 90) (loc' := [some (.ref 66), some (fI e), some (fI what), some (fI (mk_fz cn go ch s pl ka pa fa kb pb fb e))]) (st' := [fI (mk_fz cn go ch s pl ka pa fa kb pb fb e)]) (h' := h_329) (cl' := 0) (sl' := 0) rfl ?_
                refine fw_bi rfl (by decide) ?_
                refine fx_idiv rfl (by omega) (by omega) (by omega) (by omega) ?_
                refine fw_bi rfl (by decide) ?_
                refine fx_irem rfl (by omega) (by omega) (by omega) (by omega) ?_
                refine ik_Wk 1 (pc' := 103) (loc' := [some (.ref 66), some (fI e), some (fI what), some (fI (mk_fz cn go ch s pl ka pa fa kb pb fb e))]) (st' := [fI (((mk_fz cn go ch s pl ka pa fa kb pb fb e) / 10) % 10)]) (h' := h_329) (cl' := 0) (sl' := 0) rfl ?_
                exact ik_Wret rfl rfl ⟨_, _, rfl, rfl, rfl, rfl, ⟨w'_329, gt'_329, gd'_329, xs'_329, ys'_329, r1'_329, r2'_329, (congrArg (fun z => [fI z]) (by unfold an_fa an_fw; (repeat' split) <;> first | rfl | omega)), g_329_66, g_329_77, m_329_77, g_329_78, m_329_78, g_329_79, m_329_79, g_329_80, m_329_80, g_329_81, m_329_81, g_329_82, m_329_82, g_329_69, m_329_69, fr_329⟩⟩
              · refine ik_Wk 1 (pc' := 100) (loc' := [some (.ref 66), some (fI e), some (fI what), some (fI (mk_fz cn go ch s pl ka pa fa kb pb fb e))]) (st' := [fI (mk_fz cn go ch s pl ka pa fa kb pb fb e)]) (h' := h_329) (cl' := 0) (sl' := 0) rfl ?_
                refine fw_bi rfl (by decide) ?_
                refine fx_irem rfl (by omega) (by omega) (by omega) (by omega) ?_
                exact ik_Wret rfl rfl ⟨_, _, rfl, rfl, rfl, rfl, ⟨w'_329, gt'_329, gd'_329, xs'_329, ys'_329, r1'_329, r2'_329, (congrArg (fun z => [fI z]) (by unfold an_fa an_fw; (repeat' split) <;> first | rfl | omega)), g_329_66, g_329_77, m_329_77, g_329_78, m_329_78, g_329_79, m_329_79, g_329_80, m_329_80, g_329_81, m_329_81, g_329_82, m_329_82, g_329_69, m_329_69, fr_329⟩⟩
        · refine ik_Wk 1 (pc' := 48) (loc' := [some (.ref 66), some (fI e), some (fI what), some (fI (mk_fz cn go ch s pl ka pa fa kb pb fb e))]) (st' := [fI what]) (h' := h_329) (cl' := 0) (sl' := 0) rfl ?_
          refine fw_if_ne rfl rfl (by omega) (by omega) (fun hc10 => ?_) (fun hc10 => ?_)
          · refine ik_Wk 2 (pc' := 56) (loc' := [some (.ref 66), some (fI e), some (fI what), some (fI (mk_fz cn go ch s pl ka pa fa kb pb fb e))]) (st' := [fI (mk_fz cn go ch s pl ka pa fa kb pb fb e)]) (h' := h_329) (cl' := 0) (sl' := 0) rfl ?_
            exact ik_Wret rfl rfl ⟨_, _, rfl, rfl, rfl, rfl, ⟨w'_329, gt'_329, gd'_329, xs'_329, ys'_329, r1'_329, r2'_329, (congrArg (fun z => [fI z]) (by unfold an_fa an_fw; (repeat' split) <;> first | rfl | omega)), g_329_66, g_329_77, m_329_77, g_329_78, m_329_78, g_329_79, m_329_79, g_329_80, m_329_80, g_329_81, m_329_81, g_329_82, m_329_82, g_329_69, m_329_69, fr_329⟩⟩
          · refine ik_Wk 1 (pc' := 56) (loc' := [some (.ref 66), some (fI e), some (fI what), some (fI (mk_fz cn go ch s pl ka pa fa kb pb fb e))]) (st' := [fI (-1)]) (h' := h_329) (cl' := 0) (sl' := 0) rfl ?_
            exact ik_Wret rfl rfl ⟨_, _, rfl, rfl, rfl, rfl, ⟨w'_329, gt'_329, gd'_329, xs'_329, ys'_329, r1'_329, r2'_329, (congrArg (fun z => [fI z]) (by unfold an_fa an_fw; (repeat' split) <;> first | rfl | omega)), g_329_66, g_329_77, m_329_77, g_329_78, m_329_78, g_329_79, m_329_79, g_329_80, m_329_80, g_329_81, m_329_81, g_329_82, m_329_82, g_329_69, m_329_69, fr_329⟩⟩
    · have k_328 := F_328.1.trans k_327
      have fr_328 := hfr_c fr_327 F_328 (by decide)
      have g_328_66 := (F_328.2 66 (by decide +kernel)).trans g_327_66
      have g_328_67 := (F_328.2 67 (by decide +kernel)).trans g_327_67
      have g_328_68 := (F_328.2 68 (by decide +kernel)).trans g_327_68
      have g_328_69 := (F_328.2 69 (by decide +kernel)).trans g_327_69
      have g_328_77 := (F_328.2 77 (by decide +kernel)).trans g_327_77
      have g_328_78 := (F_328.2 78 (by decide +kernel)).trans g_327_78
      have g_328_79 := (F_328.2 79 (by decide +kernel)).trans g_327_79
      have g_328_80 := (F_328.2 80 (by decide +kernel)).trans g_327_80
      have g_328_70 := (F_328.2 70 (by decide +kernel)).trans g_327_70
      have g_328_81 := (F_328.2 81 (by decide +kernel)).trans g_327_81
      have g_328_82 := (F_328.2 82 (by decide +kernel)).trans g_327_82
      refine ik_Wk 0 (pc' := 21) (loc' := [some (.ref 66), some (fI e), some (fI what), none]) (st' := [fI 0]) (h' := h_328) (cl' := 0) (sl' := 0) rfl ?_
      refine fw_if_ne rfl rfl (by omega) (by omega) (fun hc11 => ?_) (fun hc11 => absurd hc11 (by omega))
      refine fw_ld (-1000000002) rfl rfl (by decide) ?_
      exact ik_Wret rfl rfl ⟨_, _, rfl, rfl, rfl, rfl, ⟨(f 24), gt, gd, xs, ys, r1, r2, (congrArg (fun z => [fI z]) (by unfold an_fa an_fw; (repeat' split) <;> first | rfl | omega)), g_328_66, g_328_77, n77, g_328_78, n78, g_328_79, n79, g_328_80, n80, g_328_81, n81, g_328_82, n82, g_328_69, n69, fr_328⟩⟩
  · have k_327 := F_327.1.trans hl
    have fr_327 := hfr_c (hfr_refl [66, 77, 78, 79, 80, 81, 82, 69] h) F_327 (by decide)
    have g_327_66 := (F_327.2 66 (by decide +kernel)).trans h66
    have g_327_67 := (F_327.2 67 (by decide +kernel)).trans h67
    have g_327_68 := (F_327.2 68 (by decide +kernel)).trans h68
    have g_327_69 := (F_327.2 69 (by decide +kernel)).trans h69
    have g_327_77 := (F_327.2 77 (by decide +kernel)).trans h77
    have g_327_78 := (F_327.2 78 (by decide +kernel)).trans h78
    have g_327_79 := (F_327.2 79 (by decide +kernel)).trans h79
    have g_327_80 := (F_327.2 80 (by decide +kernel)).trans h80
    have g_327_70 := (F_327.2 70 (by decide +kernel)).trans h70
    have g_327_81 := (F_327.2 81 (by decide +kernel)).trans h81
    have g_327_82 := (F_327.2 82 (by decide +kernel)).trans h82
    refine ik_Wk 0 (pc' := 9) (loc' := [some (.ref 66), some (fI e), some (fI what), none]) (st' := [fI 0]) (h' := h_327) (cl' := 0) (sl' := 0) rfl ?_
    refine fw_if_eq rfl rfl (by omega) (by omega) (fun hc12 => ?_) (fun hc12 => absurd hc12 (by omega))
    refine fw_ld (-1000000002) rfl rfl (by decide) ?_
    exact ik_Wret rfl rfl ⟨_, _, rfl, rfl, rfl, rfl, ⟨(f 24), gt, gd, xs, ys, r1, r2, (congrArg (fun z => [fI z]) (by unfold an_fa an_fw; (repeat' split) <;> first | rfl | omega)), g_327_66, g_327_77, n77, g_327_78, n78, g_327_79, n79, g_327_80, n80, g_327_81, n81, g_327_82, n82, g_327_69, n69, fr_327⟩⟩

end