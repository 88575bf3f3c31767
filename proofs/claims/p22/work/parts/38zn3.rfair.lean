/-! 38zn3.rfair -/
noncomputable section
theorem rp_fair {h : List ik_E} {pl : Int} {f : Nat → Int} {s : Nat} {cn : List Int} {go : List Int} {ch : List Int} {gt : List Int} {gd : List Int} {xs : List Int} {ys : List Int} {ka : Int} {pa : Int} {fa : Int} {kb : Int} {pb : Int} {fb : Int} {r1 : List Int} {r2 : List Int} {e : Int} {what : Int} (q0 : 0 ≤ pl ∧ pl ≤ 12) (q1 : s < 4096) (q2 : mx_rw pl cn go ch) (q3 : 0 ≤ ka ∧ ka ≤ 2) (q4 : 0 ≤ kb ∧ kb ≤ 2) (q5 : 1 < pl → 0 ≤ pa ∧ pa < pl - 1) (q6 : 1 < pl → 0 ≤ pb ∧ pb < pl - 1) (q7 : 0 ≤ fa ∧ fa ≤ 30) (q8 : 0 ≤ fb ∧ fb ≤ 30) (q9 : -2147483648 ≤ e ∧ e < 2147483648) (q10 : -2147483648 ≤ what ∧ what < 2147483648) (h66 : cE h 66 (.inr (10, (fI pl :: .ref 67 :: .ref 68 :: .ref 69 :: fI ((s : Nat) : Int) :: .ref 70 :: .ref 71 :: fI (f 7) :: fI (f 8) :: .ref 72 :: fI (f 10) :: fI (f 11) :: fI (f 12) :: fJ (f 13) :: fI (f 14) :: fI (f 15) :: fI (f 16) :: fI (f 17) :: .ref 73 :: .ref 74 :: .ref 75 :: .ref 76 :: .ref 77 :: .ref 78 :: fI (f 24) :: .ref 79 :: .ref 80 :: .ref 81 :: .ref 82 :: .ref 83 :: .ref 84 :: .ref 85 :: fJ (f 32) :: fJ (f 33) :: .ref 86 :: .ref 87 :: fI (f 36) :: .ref 88 :: .ref 89 :: .ref 90 :: .ref 91 :: .ref 92 :: .ref 93 :: [])))) (h67 : cE h 67 (.inl (.int, fA cn))) (n67 : cn.length = (12 : Nat)) (h68 : cE h 68 (.inl (.int, fA go))) (n68 : go.length = (48 : Nat)) (h69 : cE h 69 (.inl (.int, fA ch))) (n69 : ch.length = (48 : Nat)) (h77 : cE h 77 (.inl (.int, fA gt))) (n77 : gt.length = (5 : Nat)) (h78 : cE h 78 (.inl (.int, fA gd))) (n78 : gd.length = (5 : Nat)) (h79 : cE h 79 (.inl (.long, fL xs))) (n79 : xs.length = (12 : Nat)) (h80 : cE h 80 (.inl (.long, fL ys))) (n80 : ys.length = (12 : Nat)) (h70 : cE h 70 (.inl (.int, fA [ka, pa, fa, kb, pb, fb]))) (h81 : cE h 81 (.inl (.long, fL r1))) (n81 : r1.length = (201 : Nat)) (h82 : cE h 82 (.inl (.long, fL r2))) (n82 : r2.length = (201 : Nat)) (hl : h.length = (94 : Nat)) : ik_F 192 [.ref 66, fI e, fI what] h (fun rv h_q => ∃ (w' : Int) (gt' : List Int) (gd' : List Int) (xs' : List Int) (ys' : List Int) (r1' : List Int) (r2' : List Int), rv = [fI (an_fa e what pl (an_fw (mk_fz cn go ch s pl ka pa fa kb pb fb e) what))] ∧ cE h_q 66 (.inr (10, (fI pl :: .ref 67 :: .ref 68 :: .ref 69 :: fI ((s : Nat) : Int) :: .ref 70 :: .ref 71 :: fI (f 7) :: fI (f 8) :: .ref 72 :: fI (f 10) :: fI (f 11) :: fI (f 12) :: fJ (f 13) :: fI (f 14) :: fI (f 15) :: fI (f 16) :: fI (f 17) :: .ref 73 :: .ref 74 :: .ref 75 :: .ref 76 :: .ref 77 :: .ref 78 :: fI w' :: .ref 79 :: .ref 80 :: .ref 81 :: .ref 82 :: .ref 83 :: .ref 84 :: .ref 85 :: fJ (f 32) :: fJ (f 33) :: .ref 86 :: .ref 87 :: fI (f 36) :: .ref 88 :: .ref 89 :: .ref 90 :: .ref 91 :: .ref 92 :: .ref 93 :: []))) ∧ cE h_q 77 (.inl (.int, fA gt')) ∧ gt'.length = (5 : Nat) ∧ cE h_q 78 (.inl (.int, fA gd')) ∧ gd'.length = (5 : Nat) ∧ cE h_q 79 (.inl (.long, fL xs')) ∧ xs'.length = (12 : Nat) ∧ cE h_q 80 (.inl (.long, fL ys')) ∧ ys'.length = (12 : Nat) ∧ cE h_q 81 (.inl (.long, fL r1')) ∧ r1'.length = (201 : Nat) ∧ cE h_q 82 (.inl (.long, fL r2')) ∧ r2'.length = (201 : Nat) ∧ cE h_q 69 (.inl (.int, fA ch)) ∧ ch.length = (48 : Nat) ∧ hfr [66, 77, 78, 79, 80, 81, 82, 69] h h_q) := by
  refine ik_Wk 1 (pc_q := 1) (loc_q := [some (.ref 66), some (fI e), some (fI what), none]) (st_q := [fI e]) (h_q := h) (cl_q := 0) (sl_q := 0) rfl ?_
  refine fw_i2l rfl (by omega) (by omega) ?_
  refine fw_lc (z := 0) rfl (by decide +kernel) ?_
  refine fw_l2 1000000 rfl rfl (by decide +kernel) ?_
  refine fw_call 127 3 3 [fJ e, fJ 0, fJ 1000000] [] rfl rfl rfl (Nat.le_of_ble_eq_true rfl) rfl rfl (fw_sta hl rfl (by decide +kernel)) (cr_in (v := e) (a := 0) (b := 1000000) (by omega) (by omega) (by omega)  hl) ?_
  rintro _ h_327 (⟨rfl, p_327_0, F_327⟩ | ⟨rfl, p_327_0, F_327⟩)
  · have k_327 : cL h_327 := F_327.1.trans hl
    have fr_327 := hfr_cb (hfr_refl [66, 77, 78, 79, 80, 81, 82, 69] h) F_327 rfl
    have g_327_66 := (hfr_g F_327 66 rfl).trans h66
    have g_327_67 := (hfr_g F_327 67 rfl).trans h67
    have g_327_68 := (hfr_g F_327 68 rfl).trans h68
    have g_327_69 := (hfr_g F_327 69 rfl).trans h69
    have g_327_77 := (hfr_g F_327 77 rfl).trans h77
    have g_327_78 := (hfr_g F_327 78 rfl).trans h78
    have g_327_79 := (hfr_g F_327 79 rfl).trans h79
    have g_327_80 := (hfr_g F_327 80 rfl).trans h80
    have g_327_70 := (hfr_g F_327 70 rfl).trans h70
    have g_327_81 := (hfr_g F_327 81 rfl).trans h81
    have g_327_82 := (hfr_g F_327 82 rfl).trans h82
    refine ik_Wk 0 (pc_q := 9) (loc_q := [some (.ref 66), some (fI e), some (fI what), none]) (st_q := [fI 1]) (h_q := h_327) (cl_q := 0) (sl_q := 0) rfl ?_
    refine fw_if_eq rfl rfl (by decide +kernel) (by decide +kernel) (fun hc1 => absurd hc1 (by decide +kernel)) (fun hc1 => ?_)
    refine ik_Wk 1 (pc_q := 13) (loc_q := [some (.ref 66), some (fI e), some (fI what), none]) (st_q := [fI what]) (h_q := h_327) (cl_q := 0) (sl_q := 0) rfl ?_
    refine fw_i2l rfl (by omega) (by omega) ?_
    refine fw_lc (z := 0) rfl (by decide +kernel) ?_
    refine fw_l2 3 rfl rfl (by decide +kernel) ?_
    refine fw_call 127 3 3 [fJ what, fJ 0, fJ 3] [] rfl rfl rfl (Nat.le_of_ble_eq_true rfl) rfl rfl (fw_sta k_327 rfl (by decide +kernel)) (cr_in (v := what) (a := 0) (b := 3) (by omega) (by omega) (by omega)  k_327) ?_
    rintro _ h_328 (⟨rfl, p_328_0, F_328⟩ | ⟨rfl, p_328_0, F_328⟩)
    · have k_328 : cL h_328 := F_328.1.trans k_327
      have fr_328 := hfr_cb fr_327 F_328 rfl
      have g_328_66 := (hfr_g F_328 66 rfl).trans g_327_66
      have g_328_67 := (hfr_g F_328 67 rfl).trans g_327_67
      have g_328_68 := (hfr_g F_328 68 rfl).trans g_327_68
      have g_328_69 := (hfr_g F_328 69 rfl).trans g_327_69
      have g_328_77 := (hfr_g F_328 77 rfl).trans g_327_77
      have g_328_78 := (hfr_g F_328 78 rfl).trans g_327_78
      have g_328_79 := (hfr_g F_328 79 rfl).trans g_327_79
      have g_328_80 := (hfr_g F_328 80 rfl).trans g_327_80
      have g_328_70 := (hfr_g F_328 70 rfl).trans g_327_70
      have g_328_81 := (hfr_g F_328 81 rfl).trans g_327_81
      have g_328_82 := (hfr_g F_328 82 rfl).trans g_327_82
      refine ik_Wk 0 (pc_q := 21) (loc_q := [some (.ref 66), some (fI e), some (fI what), none]) (st_q := [fI 1]) (h_q := h_328) (cl_q := 0) (sl_q := 0) rfl ?_
      refine fw_if_ne rfl rfl (by decide +kernel) (by decide +kernel) (fun hc2 => absurd hc2 (by decide +kernel)) (fun hc2 => ?_)
      refine ik_Wk 1 (pc_q := 28) (loc_q := [some (.ref 66), some (fI e), some (fI what), none]) (st_q := [.ref 66]) (h_q := h_328) (cl_q := 0) (sl_q := 0) rfl ?_
      refine ik_Wc 134 1 0 [.ref 66] [] rfl rfl rfl (by decide +kernel) rfl rfl (fw_rec k_328 rfl g_328_66 rfl (Nat.le_of_ble_eq_true rfl)) ?_
      refine ik_Wk 0 (pc_q := 0) (loc_q := [some (.ref 66)]) (st_q := []) (h_q := h_328) (cl_q := 0) (sl_q := 0) rfl ?_
      refine ik_Wk 1 (pc_q := 1) (loc_q := [some (.ref 66)]) (st_q := [.ref 66]) (h_q := h_328) (cl_q := 0) (sl_q := 0) rfl ?_
      refine fw_gf rfl rfl g_328_66 rfl ?_
      refine ik_Wk 1 (pc_q := 5) (loc_q := [some (.ref 66)]) (st_q := [fI 1, fI pl]) (h_q := h_328) (cl_q := 0) (sl_q := 0) rfl ?_
      refine fw_ic_le rfl rfl (by omega) (by omega) (by omega) (by omega) (fun hc3 => ?_) (fun hc3 => ?_)
      · refine ik_Wk 1 (pc_q := 13) (loc_q := [some (.ref 66)]) (st_q := [fI 0]) (h_q := h_328) (cl_q := 0) (sl_q := 0) rfl ?_
        refine ik_Wret rfl rfl ⟨_, _, rfl, rfl, ?_⟩
        refine ik_Wk 0 (pc_q := 31) (loc_q := [some (.ref 66), some (fI e), some (fI what), none]) (st_q := [fI 0]) (h_q := h_328) (cl_q := 0) (sl_q := 0) rfl ?_
        refine fw_if_ne rfl rfl (by decide +kernel) (by decide +kernel) (fun hc4 => ?_) (fun hc4 => absurd hc4 (by decide +kernel))
        refine fw_ld (-1000000003) rfl rfl (by decide +kernel) ?_
        exact ik_Wret rfl rfl ⟨_, _, rfl, rfl, rfl, rfl, ⟨(f 24), gt, gd, xs, ys, r1, r2, (congrArg (fun z => [fI z]) (by unfold an_fa an_fw; (repeat' split) <;> first | rfl | omega)), g_328_66, g_328_77, n77, g_328_78, n78, g_328_79, n79, g_328_80, n80, g_328_81, n81, g_328_82, n82, g_328_69, n69, fr_328⟩⟩
      · refine ik_Wk 2 (pc_q := 13) (loc_q := [some (.ref 66)]) (st_q := [fI 1]) (h_q := h_328) (cl_q := 0) (sl_q := 0) rfl ?_
        refine ik_Wret rfl rfl ⟨_, _, rfl, rfl, ?_⟩
        refine ik_Wk 0 (pc_q := 31) (loc_q := [some (.ref 66), some (fI e), some (fI what), none]) (st_q := [fI 1]) (h_q := h_328) (cl_q := 0) (sl_q := 0) rfl ?_
        refine fw_if_ne rfl rfl (by decide +kernel) (by decide +kernel) (fun hc5 => absurd hc5 (by decide +kernel)) (fun hc5 => ?_)
        refine ik_Wk 2 (pc_q := 39) (loc_q := [some (.ref 66), some (fI e), some (fI what), none]) (st_q := [fI e, .ref 66]) (h_q := h_328) (cl_q := 0) (sl_q := 0) rfl ?_
        refine fw_call 191 2 0 [.ref 66, fI e] [] rfl rfl rfl (Nat.le_of_ble_eq_true rfl) rfl rfl (fw_rec k_328 rfl g_328_66 rfl (Nat.le_of_ble_eq_true rfl)) (cr_findFair (pl := pl) (f := fun j => ((0 :: 0 :: 0 :: 0 :: 0 :: 0 :: 0 :: f 7 :: f 8 :: 0 :: f 10 :: f 11 :: f 12 :: f 13 :: f 14 :: f 15 :: f 16 :: f 17 :: 0 :: 0 :: 0 :: 0 :: 0 :: 0 :: f 24 :: 0 :: 0 :: 0 :: 0 :: 0 :: 0 :: 0 :: f 32 :: f 33 :: 0 :: 0 :: f 36 :: 0 :: 0 :: 0 :: 0 :: 0 :: 0 :: []) : List Int).getD j 0) (s := s) (cn := cn) (go := go) (ch := ch) (gt := gt) (gd := gd) (xs := xs) (ys := ys) (ka := ka) (pa := pa) (fa := fa) (kb := kb) (pb := pb) (fb := fb) (r1 := r1) (r2 := r2) (e := e) (by omega) (by omega) q2 q3 q4 (q5 (by omega)) (q6 (by omega)) q7 q8 (by omega) g_328_66 g_328_67 n67 g_328_68 n68 g_328_69 n69 g_328_77 n77 g_328_78 n78 g_328_79 n79 g_328_80 n80 g_328_70 g_328_81 n81 g_328_82 n82 k_328) ?_
        rintro _ h_329 ⟨w'_329, gt'_329, gd'_329, xs'_329, ys'_329, r1'_329, r2'_329, rfl, e_329_66, e_329_77, m_329_77, e_329_78, m_329_78, e_329_79, m_329_79, e_329_80, m_329_80, e_329_81, m_329_81, e_329_82, m_329_82, e_329_69, m_329_69, F_329⟩
        have k_329 : cL h_329 := F_329.1.trans k_328
        have fr_329 := hfr_cb fr_328 F_329 rfl
        have g_329_67 := (hfr_g F_329 67 rfl).trans g_328_67
        have g_329_68 := (hfr_g F_329 68 rfl).trans g_328_68
        have g_329_70 := (hfr_g F_329 70 rfl).trans g_328_70
        have g_329_66 : cE h_329 66 (.inr (10, (fI pl :: .ref 67 :: .ref 68 :: .ref 69 :: fI ((s : Nat) : Int) :: .ref 70 :: .ref 71 :: fI (f 7) :: fI (f 8) :: .ref 72 :: fI (f 10) :: fI (f 11) :: fI (f 12) :: fJ (f 13) :: fI (f 14) :: fI (f 15) :: fI (f 16) :: fI (f 17) :: .ref 73 :: .ref 74 :: .ref 75 :: .ref 76 :: .ref 77 :: .ref 78 :: fI w'_329 :: .ref 79 :: .ref 80 :: .ref 81 :: .ref 82 :: .ref 83 :: .ref 84 :: .ref 85 :: fJ (f 32) :: fJ (f 33) :: .ref 86 :: .ref 87 :: fI (f 36) :: .ref 88 :: .ref 89 :: .ref 90 :: .ref 91 :: .ref 92 :: .ref 93 :: []))) := e_329_66
        have g_329_77 : cE h_329 77 (.inl (.int, fA gt'_329)) := e_329_77
        have g_329_78 : cE h_329 78 (.inl (.int, fA gd'_329)) := e_329_78
        have g_329_79 : cE h_329 79 (.inl (.long, fL xs'_329)) := e_329_79
        have g_329_80 : cE h_329 80 (.inl (.long, fL ys'_329)) := e_329_80
        have g_329_81 : cE h_329 81 (.inl (.long, fL r1'_329)) := e_329_81
        have g_329_82 : cE h_329 82 (.inl (.long, fL r2'_329)) := e_329_82
        have g_329_69 : cE h_329 69 (.inl (.int, fA ch)) := e_329_69
        refine ik_Wk 0 (pc_q := 42) (loc_q := [some (.ref 66), some (fI e), some (fI what), none]) (st_q := [fI (mk_fz cn go ch s pl ka pa fa kb pb fb e)]) (h_q := h_329) (cl_q := 0) (sl_q := 0) rfl ?_
        have hzb : -1 ≤ (mk_fz cn go ch s pl ka pa fa kb pb fb e) ∧ (mk_fz cn go ch s pl ka pa fa kb pb fb e) < 300000 := mk_fz_b (by omega)
        refine ik_Wk 2 (pc_q := 44) (loc_q := [some (.ref 66), some (fI e), some (fI what), some (fI (mk_fz cn go ch s pl ka pa fa kb pb fb e))]) (st_q := [fI (mk_fz cn go ch s pl ka pa fa kb pb fb e)]) (h_q := h_329) (cl_q := 0) (sl_q := 0) rfl ?_
        refine fw_if_gt rfl rfl (by omega) (by omega) (fun hc6 => ?_) (fun hc6 => ?_)
        · refine ik_Wk 1 (pc_q := 58) (loc_q := [some (.ref 66), some (fI e), some (fI what), some (fI (mk_fz cn go ch s pl ka pa fa kb pb fb e))]) (st_q := [fI what]) (h_q := h_329) (cl_q := 0) (sl_q := 0) rfl ?_
          refine fw_if_ne rfl rfl (by omega) (by omega) (fun hc7 => ?_) (fun hc7 => ?_)
          · refine ik_Wk 1 (pc_q := 62) (loc_q := [some (.ref 66), some (fI e), some (fI what), some (fI (mk_fz cn go ch s pl ka pa fa kb pb fb e))]) (st_q := [fI (mk_fz cn go ch s pl ka pa fa kb pb fb e)]) (h_q := h_329) (cl_q := 0) (sl_q := 0) rfl ?_
            refine fw_si rfl (by decide +kernel) ?_
            refine fx_idiv rfl (by omega) (by omega) (by omega) (by omega) ?_
            refine ik_Wk 1 (pc_q := 103) (loc_q := [some (.ref 66), some (fI e), some (fI what), some (fI (mk_fz cn go ch s pl ka pa fa kb pb fb e))]) (st_q := [fI ((mk_fz cn go ch s pl ka pa fa kb pb fb e) / 10000)]) (h_q := h_329) (cl_q := 0) (sl_q := 0) rfl ?_
            exact ik_Wret rfl rfl ⟨_, _, rfl, rfl, rfl, rfl, ⟨w'_329, gt'_329, gd'_329, xs'_329, ys'_329, r1'_329, r2'_329, (congrArg (fun z => [fI z]) (by unfold an_fa an_fw; (repeat' split) <;> first | rfl | omega)), g_329_66, g_329_77, m_329_77, g_329_78, m_329_78, g_329_79, m_329_79, g_329_80, m_329_80, g_329_81, m_329_81, g_329_82, m_329_82, g_329_69, m_329_69, fr_329⟩⟩
          · refine ik_Wk 2 (pc_q := 71) (loc_q := [some (.ref 66), some (fI e), some (fI what), some (fI (mk_fz cn go ch s pl ka pa fa kb pb fb e))]) (st_q := [fI 1, fI what]) (h_q := h_329) (cl_q := 0) (sl_q := 0) rfl ?_
            refine fw_ic_ne rfl rfl (by omega) (by omega) (by omega) (by omega) (fun hc8 => ?_) (fun hc8 => ?_)
            · refine ik_Wk 1 (pc_q := 75) (loc_q := [some (.ref 66), some (fI e), some (fI what), some (fI (mk_fz cn go ch s pl ka pa fa kb pb fb e))]) (st_q := [fI (mk_fz cn go ch s pl ka pa fa kb pb fb e)]) (h_q := h_329) (cl_q := 0) (sl_q := 0) rfl ?_
              refine fw_bi rfl (by decide +kernel) ?_
              refine fx_idiv rfl (by omega) (by omega) (by omega) (by omega) ?_
              refine fw_bi rfl (by decide +kernel) ?_
              refine fx_irem rfl (by omega) (by omega) (by omega) (by omega) ?_
              refine ik_Wk 1 (pc_q := 103) (loc_q := [some (.ref 66), some (fI e), some (fI what), some (fI (mk_fz cn go ch s pl ka pa fa kb pb fb e))]) (st_q := [fI (((mk_fz cn go ch s pl ka pa fa kb pb fb e) / 100) % 100)]) (h_q := h_329) (cl_q := 0) (sl_q := 0) rfl ?_
              exact ik_Wret rfl rfl ⟨_, _, rfl, rfl, rfl, rfl, ⟨w'_329, gt'_329, gd'_329, xs'_329, ys'_329, r1'_329, r2'_329, (congrArg (fun z => [fI z]) (by unfold an_fa an_fw; (repeat' split) <;> first | rfl | omega)), g_329_66, g_329_77, m_329_77, g_329_78, m_329_78, g_329_79, m_329_79, g_329_80, m_329_80, g_329_81, m_329_81, g_329_82, m_329_82, g_329_69, m_329_69, fr_329⟩⟩
            · refine ik_Wk 2 (pc_q := 86) (loc_q := [some (.ref 66), some (fI e), some (fI what), some (fI (mk_fz cn go ch s pl ka pa fa kb pb fb e))]) (st_q := [fI 2, fI what]) (h_q := h_329) (cl_q := 0) (sl_q := 0) rfl ?_
              refine fw_ic_ne rfl rfl (by omega) (by omega) (by omega) (by omega) (fun hc9 => ?_) (fun hc9 => ?_)
              · refine ik_Wk 1 (pc_q := 90) (loc_q := [some (.ref 66), some (fI e), some (fI what), some (fI (mk_fz cn go ch s pl ka pa fa kb pb fb e))]) (st_q := [fI (mk_fz cn go ch s pl ka pa fa kb pb fb e)]) (h_q := h_329) (cl_q := 0) (sl_q := 0) rfl ?_
                refine fw_bi rfl (by decide +kernel) ?_
                refine fx_idiv rfl (by omega) (by omega) (by omega) (by omega) ?_
                refine fw_bi rfl (by decide +kernel) ?_
                refine fx_irem rfl (by omega) (by omega) (by omega) (by omega) ?_
                refine ik_Wk 1 (pc_q := 103) (loc_q := [some (.ref 66), some (fI e), some (fI what), some (fI (mk_fz cn go ch s pl ka pa fa kb pb fb e))]) (st_q := [fI (((mk_fz cn go ch s pl ka pa fa kb pb fb e) / 10) % 10)]) (h_q := h_329) (cl_q := 0) (sl_q := 0) rfl ?_
                exact ik_Wret rfl rfl ⟨_, _, rfl, rfl, rfl, rfl, ⟨w'_329, gt'_329, gd'_329, xs'_329, ys'_329, r1'_329, r2'_329, (congrArg (fun z => [fI z]) (by unfold an_fa an_fw; (repeat' split) <;> first | rfl | omega)), g_329_66, g_329_77, m_329_77, g_329_78, m_329_78, g_329_79, m_329_79, g_329_80, m_329_80, g_329_81, m_329_81, g_329_82, m_329_82, g_329_69, m_329_69, fr_329⟩⟩
              · refine ik_Wk 1 (pc_q := 100) (loc_q := [some (.ref 66), some (fI e), some (fI what), some (fI (mk_fz cn go ch s pl ka pa fa kb pb fb e))]) (st_q := [fI (mk_fz cn go ch s pl ka pa fa kb pb fb e)]) (h_q := h_329) (cl_q := 0) (sl_q := 0) rfl ?_
                refine fw_bi rfl (by decide +kernel) ?_
                refine fx_irem rfl (by omega) (by omega) (by omega) (by omega) ?_
                exact ik_Wret rfl rfl ⟨_, _, rfl, rfl, rfl, rfl, ⟨w'_329, gt'_329, gd'_329, xs'_329, ys'_329, r1'_329, r2'_329, (congrArg (fun z => [fI z]) (by unfold an_fa an_fw; (repeat' split) <;> first | rfl | omega)), g_329_66, g_329_77, m_329_77, g_329_78, m_329_78, g_329_79, m_329_79, g_329_80, m_329_80, g_329_81, m_329_81, g_329_82, m_329_82, g_329_69, m_329_69, fr_329⟩⟩
        · refine ik_Wk 1 (pc_q := 48) (loc_q := [some (.ref 66), some (fI e), some (fI what), some (fI (mk_fz cn go ch s pl ka pa fa kb pb fb e))]) (st_q := [fI what]) (h_q := h_329) (cl_q := 0) (sl_q := 0) rfl ?_
          refine fw_if_ne rfl rfl (by omega) (by omega) (fun hc10 => ?_) (fun hc10 => ?_)
          · refine ik_Wk 2 (pc_q := 56) (loc_q := [some (.ref 66), some (fI e), some (fI what), some (fI (mk_fz cn go ch s pl ka pa fa kb pb fb e))]) (st_q := [fI (mk_fz cn go ch s pl ka pa fa kb pb fb e)]) (h_q := h_329) (cl_q := 0) (sl_q := 0) rfl ?_
            exact ik_Wret rfl rfl ⟨_, _, rfl, rfl, rfl, rfl, ⟨w'_329, gt'_329, gd'_329, xs'_329, ys'_329, r1'_329, r2'_329, (congrArg (fun z => [fI z]) (by unfold an_fa an_fw; (repeat' split) <;> first | rfl | omega)), g_329_66, g_329_77, m_329_77, g_329_78, m_329_78, g_329_79, m_329_79, g_329_80, m_329_80, g_329_81, m_329_81, g_329_82, m_329_82, g_329_69, m_329_69, fr_329⟩⟩
          · refine ik_Wk 1 (pc_q := 56) (loc_q := [some (.ref 66), some (fI e), some (fI what), some (fI (mk_fz cn go ch s pl ka pa fa kb pb fb e))]) (st_q := [fI (-1)]) (h_q := h_329) (cl_q := 0) (sl_q := 0) rfl ?_
            exact ik_Wret rfl rfl ⟨_, _, rfl, rfl, rfl, rfl, ⟨w'_329, gt'_329, gd'_329, xs'_329, ys'_329, r1'_329, r2'_329, (congrArg (fun z => [fI z]) (by unfold an_fa an_fw; (repeat' split) <;> first | rfl | omega)), g_329_66, g_329_77, m_329_77, g_329_78, m_329_78, g_329_79, m_329_79, g_329_80, m_329_80, g_329_81, m_329_81, g_329_82, m_329_82, g_329_69, m_329_69, fr_329⟩⟩
    · have k_328 : cL h_328 := F_328.1.trans k_327
      have fr_328 := hfr_cb fr_327 F_328 rfl
      have g_328_66 := (hfr_g F_328 66 rfl).trans g_327_66
      have g_328_67 := (hfr_g F_328 67 rfl).trans g_327_67
      have g_328_68 := (hfr_g F_328 68 rfl).trans g_327_68
      have g_328_69 := (hfr_g F_328 69 rfl).trans g_327_69
      have g_328_77 := (hfr_g F_328 77 rfl).trans g_327_77
      have g_328_78 := (hfr_g F_328 78 rfl).trans g_327_78
      have g_328_79 := (hfr_g F_328 79 rfl).trans g_327_79
      have g_328_80 := (hfr_g F_328 80 rfl).trans g_327_80
      have g_328_70 := (hfr_g F_328 70 rfl).trans g_327_70
      have g_328_81 := (hfr_g F_328 81 rfl).trans g_327_81
      have g_328_82 := (hfr_g F_328 82 rfl).trans g_327_82
      refine ik_Wk 0 (pc_q := 21) (loc_q := [some (.ref 66), some (fI e), some (fI what), none]) (st_q := [fI 0]) (h_q := h_328) (cl_q := 0) (sl_q := 0) rfl ?_
      refine fw_if_ne rfl rfl (by decide +kernel) (by decide +kernel) (fun hc11 => ?_) (fun hc11 => absurd hc11 (by decide +kernel))
      refine fw_ld (-1000000002) rfl rfl (by decide +kernel) ?_
      exact ik_Wret rfl rfl ⟨_, _, rfl, rfl, rfl, rfl, ⟨(f 24), gt, gd, xs, ys, r1, r2, (congrArg (fun z => [fI z]) (by unfold an_fa an_fw; (repeat' split) <;> first | rfl | omega)), g_328_66, g_328_77, n77, g_328_78, n78, g_328_79, n79, g_328_80, n80, g_328_81, n81, g_328_82, n82, g_328_69, n69, fr_328⟩⟩
  · have k_327 : cL h_327 := F_327.1.trans hl
    have fr_327 := hfr_cb (hfr_refl [66, 77, 78, 79, 80, 81, 82, 69] h) F_327 rfl
    have g_327_66 := (hfr_g F_327 66 rfl).trans h66
    have g_327_67 := (hfr_g F_327 67 rfl).trans h67
    have g_327_68 := (hfr_g F_327 68 rfl).trans h68
    have g_327_69 := (hfr_g F_327 69 rfl).trans h69
    have g_327_77 := (hfr_g F_327 77 rfl).trans h77
    have g_327_78 := (hfr_g F_327 78 rfl).trans h78
    have g_327_79 := (hfr_g F_327 79 rfl).trans h79
    have g_327_80 := (hfr_g F_327 80 rfl).trans h80
    have g_327_70 := (hfr_g F_327 70 rfl).trans h70
    have g_327_81 := (hfr_g F_327 81 rfl).trans h81
    have g_327_82 := (hfr_g F_327 82 rfl).trans h82
    refine ik_Wk 0 (pc_q := 9) (loc_q := [some (.ref 66), some (fI e), some (fI what), none]) (st_q := [fI 0]) (h_q := h_327) (cl_q := 0) (sl_q := 0) rfl ?_
    refine fw_if_eq rfl rfl (by decide +kernel) (by decide +kernel) (fun hc12 => ?_) (fun hc12 => absurd hc12 (by decide +kernel))
    refine fw_ld (-1000000002) rfl rfl (by decide +kernel) ?_
    exact ik_Wret rfl rfl ⟨_, _, rfl, rfl, rfl, rfl, ⟨(f 24), gt, gd, xs, ys, r1, r2, (congrArg (fun z => [fI z]) (by unfold an_fa an_fw; (repeat' split) <;> first | rfl | omega)), g_327_66, g_327_77, n77, g_327_78, n78, g_327_79, n79, g_327_80, n80, g_327_81, n81, g_327_82, n82, g_327_69, n69, fr_327⟩⟩

end

/-! 38zo.sets -/
noncomputable section
/-! SETS of places as numbers: goals, what is come to, what is lost; logs judged -/
def mj_gj (L : List (Int × Int)) : Nat → Nat
  | 0 => 0
  | j + 1 => mj_gj L j ||| 1 <<< (L.getD j (0, 0)).1.toNat
def mj_gs (L : List (Int × Int)) : Nat := mj_gj L L.length
theorem mj_shl_lt {g n : Nat} (h : g < n) : 1 <<< g < 2 ^ n := by
  rw [Nat.shiftLeft_eq, Nat.one_mul]
  exact Nat.pow_lt_pow_right (by decide +kernel) h
theorem mj_gj_lt {pl : Int} {L : List (Int × Int)} (hL : mx_ok pl L) : ∀ j, j ≤ L.length → mj_gj L j < 2 ^ pl.toNat := by
  intro j
  induction j with
  | zero => intro _; exact Nat.two_pow_pos _
  | succ j ih =>
    intro h
    have b := hL.2.2 j (by omega)
    exact Nat.or_lt_two_pow (ih (by omega)) (mj_shl_lt (by omega))
theorem mj_12 {x : Nat} {pl : Int} (h : x < 2 ^ pl.toNat) (hp : pl ≤ 12) : x < 4096 := Nat.lt_of_lt_of_le h (Nat.pow_le_pow_right (by decide +kernel) (show pl.toNat ≤ 12 by omega))
def mj_of (W : Int → List (Int × Int)) (B : Nat) : Nat → Nat
  | 0 => 0
  | p + 1 => if B.testBit p then mj_of W B p ||| mj_gs (W (p : Nat)) else mj_of W B p
theorem mj_of_s {W : Int → List (Int × Int)} {B : Nat} {p : Int} (h : 0 ≤ p) : mj_of W B (p + 1).toNat = if B.testBit p.toNat then mj_of W B p.toNat ||| mj_gs (W p) else mj_of W B p.toNat := by
  rw [show (p + 1).toNat = p.toNat + 1 by omega]
  show (if B.testBit p.toNat then mj_of W B p.toNat ||| mj_gs (W ((p.toNat : Nat) : Int)) else _) = _
  rw [Int.toNat_of_nonneg h]
/-- one go from a set of places -/
def mj_on (W : Int → List (Int × Int)) (br : Int) (B : Nat) : Nat := mj_of W B br.toNat ||| (B &&& 1 <<< br.toNat)
theorem mj_and_bit {B b : Nat} : B &&& 1 <<< b = if B.testBit b then 1 <<< b else 0 := by
  refine Nat.eq_of_testBit_eq fun i => ?_
  rw [Nat.testBit_and]
  by_cases q : i = b
  · subst q
    cases hb : B.testBit i with
    | true => rw [if_pos rfl, mf_tb1]; rfl
    | false => rw [if_neg (by decide +kernel), Nat.zero_testBit]; rfl
  · rw [mf_tb0 q, Bool.and_false]
    split
    · rw [mf_tb0 q]
    · rw [Nat.zero_testBit]
theorem mj_of_lt {W : Int → List (Int × Int)} {pl : Int} {B : Nat} (hW : ∀ x : Int, (0 : Int) ≤ x → x < pl - 1 → mx_ok pl (W x)) : ∀ p : Nat, (p : Int) ≤ pl - 1 → mj_of W B p < 2 ^ pl.toNat := by
  intro p
  induction p with
  | zero => intro _; exact Nat.two_pow_pos _
  | succ p ih =>
    intro h
    show (if B.testBit p then mj_of W B p ||| mj_gs (W (p : Nat)) else mj_of W B p) < _
    split
    · exact Nat.or_lt_two_pow (ih (by omega)) (mj_gj_lt (hW (p : Nat) (by omega) (by omega)) _ (Nat.le_refl _))
    · exact ih (by omega)
theorem mj_on_lt {W : Int → List (Int × Int)} {pl : Int} (hW : ∀ x : Int, (0 : Int) ≤ x → x < pl - 1 → mx_ok pl (W x)) (h1 : (1 : Int) ≤ pl) (B : Nat) : mj_on W (pl - 1) B < 2 ^ pl.toNat := by
  refine Nat.or_lt_two_pow (mj_of_lt hW _ (by omega)) ?_
  rw [mj_and_bit]
  split
  · exact mj_shl_lt (by omega)
  · exact Nat.two_pow_pos _
def mj_oi (W : Int → List (Int × Int)) (br : Int) : Nat → Nat → Nat
  | 0, B => B
  | n + 1, B => mj_oi W br n (mj_on W br B)
theorem mj_oi_lt {W : Int → List (Int × Int)} {pl : Int} (hW : ∀ x : Int, (0 : Int) ≤ x → x < pl - 1 → mx_ok pl (W x)) (h1 : (1 : Int) ≤ pl) : ∀ (n B : Nat), B < 2 ^ pl.toNat → mj_oi W (pl - 1) n B < 2 ^ pl.toNat := by
  intro n
  induction n with
  | zero => intro B h; exact h
  | succ n ih => intro B _; exact ih _ (mj_on_lt hW h1 B)
/-- whether a cork that was seen at p can be at q after so many goes -/
def mj_ld (W : Int → List (Int × Int)) (pl p q : Int) (n : Nat) : Bool := decide ((0 ≤ p ∧ p < pl) ∧ (0 ≤ q ∧ q < pl) ∧ (mj_oi W (pl - 1) n (1 <<< p.toNat)).testBit q.toNat = true)
/-- whether what was seen in minute i can be -/
def mj_ok (W : Int → List (Int × Int)) (pl kd pc fr : Int) (lr : List Int) (o i : Int) : Bool := if i < fr then decide (lr.getD (o + i).toNat 0 = 12) else if i = fr then decide (lr.getD (o + i).toNat 0 = pc) else mj_ld W pl (lr.getD (o + i - 1).toNat 0) (lr.getD (o + i).toNat 0) (mx_tm kd (i - fr))
def mj_fw (g : Int → Bool) : Nat → Int → Int
  | 0, _ => -1
  | n + 1, i => if g i then mj_fw g n (i + 1) else i
theorem mj_fw_s {g : Int → Bool} {n i : Int} (h : i < n) : mj_fw g (n - i).toNat i = if g i then mj_fw g (n - (i + 1)).toNat (i + 1) else i := by
  rw [show (n - i).toNat = (n - (i + 1)).toNat + 1 by omega]
  rfl
/-! what is lost -/
def mj_sp (G : Nat → Nat) (x p : Nat) : Nat := if G p &&& x = 0 then x else x ||| 1 <<< p
def mj_rd (G : Nat → Nat) : Nat → Nat → Nat
  | 0, x => x
  | p + 1, x => mj_sp G (mj_rd G p x) p
def mj_rn (G : Nat → Nat) (br : Nat) : Nat → Nat → Nat
  | 0, x => x
  | n + 1, x => mj_rd G br (mj_rn G br n x)
theorem mj_rd_sub {G : Nat → Nat} {x : Nat} : ∀ p i, x.testBit i = true → (mj_rd G p x).testBit i = true := by
  intro p
  induction p with
  | zero => intro i h; exact h
  | succ p ih =>
    intro i h
    show (if G p &&& mj_rd G p x = 0 then mj_rd G p x else mj_rd G p x ||| 1 <<< p).testBit i = true
    split
    · exact ih i h
    · rw [Nat.testBit_or, ih i h]; rfl
theorem mj_rd_out {G : Nat → Nat} {x : Nat} : ∀ p i, p ≤ i → (mj_rd G p x).testBit i = x.testBit i := by
  intro p
  induction p with
  | zero => intro i _; rfl
  | succ p ih =>
    intro i h
    show (if G p &&& mj_rd G p x = 0 then mj_rd G p x else mj_rd G p x ||| 1 <<< p).testBit i = x.testBit i
    split
    · exact ih i (by omega)
    · rw [Nat.testBit_or, ih i (by omega), mf_tb0 (by omega), Bool.or_false]
def mj_ct (x : Nat) : Nat → Nat
  | 0 => 0
  | n + 1 => mj_ct x n + if x.testBit n then 1 else 0
theorem mj_ct_le (x : Nat) : ∀ n, mj_ct x n ≤ n := by
  intro n
  induction n with
  | zero => exact Nat.le_refl 0
  | succ n ih => show mj_ct x n + (if x.testBit n then 1 else 0) ≤ n + 1; split <;> omega
theorem mj_ct_mono {x y : Nat} (h : ∀ i, x.testBit i = true → y.testBit i = true) : ∀ n, mj_ct x n ≤ mj_ct y n := by
  intro n
  induction n with
  | zero => exact Nat.le_refl 0
  | succ n ih =>
    show mj_ct x n + (if x.testBit n then 1 else 0) ≤ mj_ct y n + (if y.testBit n then 1 else 0)
    cases q : x.testBit n with
    | true => rw [h n q]; omega
    | false => rw [if_neg (show ¬ (false = true) by decide)]; split <;> omega
theorem mj_ct_lt {x y : Nat} (h : ∀ i, x.testBit i = true → y.testBit i = true) : ∀ n j, j < n → x.testBit j = false → y.testBit j = true → mj_ct x n + 1 ≤ mj_ct y n := by
  intro n
  induction n with
  | zero => intro j hj; omega
  | succ n ih =>
    intro j hj h1 h2
    show mj_ct x n + (if x.testBit n then 1 else 0) + 1 ≤ mj_ct y n + (if y.testBit n then 1 else 0)
    by_cases e : j = n
    · subst e; have := mj_ct_mono h j; rw [h1, h2]; simp; omega
    · have := ih j (by omega) h1 h2
      cases q : x.testBit n with
      | true => rw [h n q]; omega
      | false => rw [if_neg (show ¬ (false = true) by decide)]; split <;> omega
theorem mj_grow {G : Nat → Nat} {br x : Nat} : mj_rd G br x = x ∨ mj_ct x br + 1 ≤ mj_ct (mj_rd G br x) br := by
  by_cases h : ∃ j, j < br ∧ x.testBit j = false ∧ (mj_rd G br x).testBit j = true
  · obtain ⟨j, h1, h2, h3⟩ := h
    exact Or.inr (mj_ct_lt (mj_rd_sub br) br j h1 h2 h3)
  · refine Or.inl (Nat.eq_of_testBit_eq fun i => ?_)
    by_cases q : br ≤ i
    · exact mj_rd_out br i q
    · cases a : x.testBit i with
      | true => exact mj_rd_sub br i a
      | false =>
        cases b : (mj_rd G br x).testBit i with
        | false => rfl
        | true => exact absurd ⟨i, by omega, a, b⟩ h
theorem mj_rn_fix {G : Nat → Nat} {br x : Nat} : ∀ n, mj_rn G br (n + 1) x = mj_rn G br n x ∨ n + 1 ≤ mj_ct (mj_rn G br (n + 1) x) br := by
  intro n
  induction n with
  | zero =>
    rcases mj_grow (G := G) (br := br) (x := x) with h | h
    · exact Or.inl h
    · refine Or.inr ?_; show 1 ≤ mj_ct (mj_rd G br x) br; omega
  | succ n ih =>
    rcases ih with h | h
    · refine Or.inl ?_; show mj_rd G br (mj_rn G br (n + 1) x) = mj_rn G br (n + 1) x; rw [h]; show mj_rd G br (mj_rn G br n x) = mj_rn G br n x; exact h
    · rcases mj_grow (G := G) (br := br) (x := mj_rn G br (n + 1) x) with g | g
      · exact Or.inl g
      · refine Or.inr ?_; show n + 1 + 1 ≤ mj_ct (mj_rd G br (mj_rn G br (n + 1) x)) br; omega
/-- as many rounds as there are places, or more: the same -/
theorem mj_rn_ge {G : Nat → Nat} {br x : Nat} : ∀ k, mj_rn G br (br + 1 + k) x = mj_rn G br (br + 1) x := by
  have st : mj_rn G br (br + 1) x = mj_rn G br br x := by
    rcases mj_rn_fix (G := G) (br := br) (x := x) br with h | h
    · exact h
    · have := mj_ct_le (mj_rn G br (br + 1) x) br; omega
  intro k
  induction k with
  | zero => rfl
  | succ k ih => show mj_rd G br (mj_rn G br (br + 1 + k) x) = _; rw [ih]; show mj_rd G br (mj_rn G br (br + 1) x) = mj_rn G br (br + 1) x; rw [st]; exact st
/-- the goals of a place as they are told -/
def mj_G (cn go : List Int) (p : Nat) : Nat → Nat
  | 0 => 0
  | i + 1 => mj_G cn go p i ||| 1 <<< (go.getD (4 * p + i) 0).toNat
def mj_GG (cn go : List Int) (p : Nat) : Nat := mj_G cn go p (cn.getD p 0).toNat
def mj_lost (pl : Int) (cn go : List Int) : Nat := if pl = 0 then 0 else (1 <<< pl.toNat - 1) ^^^ ((1 <<< pl.toNat - 1) &&& mj_rn (mj_GG cn go) (pl - 1).toNat 12 (1 <<< (pl - 1).toNat))
theorem mj_and_or {a g x : Nat} : ((a ||| 1 <<< g) &&& x = 0) ↔ (a &&& x = 0 ∧ x.testBit g = false) := by
  have e : (a ||| 1 <<< g) &&& x = (a &&& x) ||| (x &&& 1 <<< g) := by rw [Nat.and_or_distrib_right, Nat.and_comm (1 <<< g)]
  rw [e, mj_and_bit]
  constructor
  · intro h
    have h1 : a &&& x = 0 := Nat.eq_of_testBit_eq fun i => by
      have := congrArg (fun z => z.testBit i) h
      simp only [Nat.testBit_or, Nat.zero_testBit] at this
      rw [Nat.zero_testBit]
      cases q : (a &&& x).testBit i with
      | false => rfl
      | true => rw [q] at this; cases this
    refine ⟨h1, ?_⟩
    cases q : x.testBit g with
    | false => rfl
    | true =>
      rw [h1, q, if_pos rfl, Nat.zero_or] at h
      have := mf_tb1 g
      rw [h, Nat.zero_testBit] at this
      cases this
  · intro h
    rw [h.1, h.2, if_neg (by decide +kernel)]
    rfl
theorem mx_nd_1 {s p : Nat} (h : s.testBit p = true) : s ^^^ (s &&& 1 <<< p) = s ^^^ 1 <<< p := by rw [mj_and_bit, if_pos h]
theorem mx_nd_0 {s p : Nat} (h : s.testBit p = false) : s ^^^ (s &&& 1 <<< p) = s := by rw [mj_and_bit, if_neg (by rw [h]; decide), Nat.xor_zero]
end

/-! 38zp.judge -/
noncomputable section
/-! goals, goes of sets, logs judged (written by wip/fx/u16.py) -/
theorem cs_goalsL {h : List ik_E} {p : Int} {pl : Int} {lo : Int} {s : Nat} {wg : List Int} {wc : List Int} {we : List Int} {L : List (Int × Int)} (q0 : 0 ≤ p ∧ p < 12) (q1 : mx_wy wg wc we p L) (q2 : mx_ok pl L) (q3 : pl ≤ 12)  : ∀ (k : Nat) (j : Nat) (al : Nat) (kk : Int) (u : List ik_E) (u7 : cE u 7 (.inr (0, [fI pl, fI ((s : Nat) : Int), fI lo, .ref 8, .ref 9, .ref 10, .ref 11, .ref 12, .ref 13]))) (u11 : cE u 11 (.inl (.int, fA wg))) (n11 : wg.length = (60 : Nat)) (u12 : cE u 12 (.inl (.int, fA wc))) (n12 : wc.length = (60 : Nat)) (u13 : cE u 13 (.inl (.int, fA we))) (n13 : we.length = (12 : Nat)) (ul : u.length = (94 : Nat)) (F : hfr [] h u) (hj : j ≤ L.length) (hkk : kk = 5 * p + (j : Int)) (ha : al = mj_gj L j) (hk : (L.length : Int) - (j : Int) < (k : Int)), ik_G 10 6 [some (.ref 7), some (fI p), some (fI ((al : Nat) : Int)), some (fI kk)] [] u (fun rv h_q => rv = [fI ((mj_gs L : Nat) : Int)] ∧ hfr [] h h_q) := by
  intro k
  induction k with
  | zero => intro j al kk u u7 u11 n11 u12 n12 u13 n13 ul F hj hkk ha hk; omega
  | succ k ih =>
    intro j al kk u u7 u11 n11 u12 n12 u13 n13 ul F hj hkk ha hk
    obtain ⟨w1, w2⟩ := q1
    obtain ⟨o1, o2, o3⟩ := q2
    refine ik_Wk 2 (pc_q := 8) (loc_q := [some (.ref 7), some (fI p), some (fI ((al : Nat) : Int)), some (fI kk)]) (st_q := [.ref 7, fI kk]) (h_q := u) (cl_q := 0) (sl_q := 0) rfl ?_
    refine fw_gf rfl rfl u7 rfl ?_
    refine ik_Wk 1 (pc_q := 12) (loc_q := [some (.ref 7), some (fI p), some (fI ((al : Nat) : Int)), some (fI kk)]) (st_q := [fI p, .ref 13, fI kk]) (h_q := u) (cl_q := 0) (sl_q := 0) rfl ?_
    refine fw_ial rfl u13 (by omega) (by omega) (by omega) ?_
    refine fw_ic_ge rfl rfl (by omega) (by omega) (by omega) (by omega) (fun hc1 => ?_) (fun hc1 => ?_)
    · refine ik_Wk 1 (pc_q := 34) (loc_q := [some (.ref 7), some (fI p), some (fI ((al : Nat) : Int)), some (fI kk)]) (st_q := [fI ((al : Nat) : Int)]) (h_q := u) (cl_q := 0) (sl_q := 0) rfl ?_
      have ejl : j = L.length := by omega
      rw [ejl] at ha
      exact ik_Wret rfl rfl ⟨_, _, rfl, rfl, rfl, rfl, ⟨(congrArg (fun z => [fI ((z : Nat) : Int)]) ha), F⟩⟩
    · refine ik_Wk 3 (pc_q := 19) (loc_q := [some (.ref 7), some (fI p), some (fI ((al : Nat) : Int)), some (fI kk)]) (st_q := [.ref 7, fI 1, fI ((al : Nat) : Int)]) (h_q := u) (cl_q := 0) (sl_q := 0) rfl ?_
      refine fw_gf rfl rfl u7 rfl ?_
      refine ik_Wk 1 (pc_q := 23) (loc_q := [some (.ref 7), some (fI p), some (fI ((al : Nat) : Int)), some (fI kk)]) (st_q := [fI kk, .ref 11, fI 1, fI ((al : Nat) : Int)]) (h_q := u) (cl_q := 0) (sl_q := 0) rfl ?_
      refine fw_ial rfl u11 (by omega) (by omega) (by omega) ?_
      have ej : kk.toNat = 5 * p.toNat + j := by omega
      have hw := w2 j (by omega)
      rw [← ej] at hw
      have hq := o3 j (by omega)
      refine fx_shl rfl (by omega) (by omega) ?_
      refine fx_or (m := al) (n := 1 <<< (wg.getD kk.toNat 0).toNat) rfl ?_
      refine ik_Wk 1 (pc_q := 27) (loc_q := [some (.ref 7), some (fI p), some (fI ((al ||| (1 <<< (wg.getD kk.toNat 0).toNat) : Nat) : Int)), some (fI kk)]) (st_q := []) (h_q := u) (cl_q := 0) (sl_q := 0) rfl ?_
      refine fw_inc (a := kk) (loc_q := [some (.ref 7), some (fI p), some (fI ((al ||| (1 <<< (wg.getD kk.toNat 0).toNat) : Nat) : Int)), some (fI (kk + 1))]) rfl rfl (Nat.le_of_ble_eq_true rfl) rfl ?_
      refine ik_Wk 1 (pc_q := 6) (loc_q := [some (.ref 7), some (fI p), some (fI ((al ||| (1 <<< (wg.getD kk.toNat 0).toNat) : Nat) : Int)), some (fI (kk + 1))]) (st_q := []) (h_q := u) (cl_q := 0) (sl_q := 0) rfl ?_
      exact ih  (j + 1) (al ||| (1 <<< (wg.getD kk.toNat 0).toNat)) (kk + 1) u u7 u11 n11 u12 n12 u13 n13 ul F (by omega) (by omega) (by rw [ha, hw.1]; rfl) (by omega)

theorem cs_goals {h : List ik_E} {p : Int} {pl : Int} {lo : Int} {s : Nat} {wg : List Int} {wc : List Int} {we : List Int} {L : List (Int × Int)} (q0 : 0 ≤ p ∧ p < 12) (q1 : mx_wy wg wc we p L) (q2 : mx_ok pl L) (q3 : pl ≤ 12) (h7 : cE h 7 (.inr (0, [fI pl, fI ((s : Nat) : Int), fI lo, .ref 8, .ref 9, .ref 10, .ref 11, .ref 12, .ref 13]))) (h11 : cE h 11 (.inl (.int, fA wg))) (n11 : wg.length = 60) (h12 : cE h 12 (.inl (.int, fA wc))) (n12 : wc.length = 60) (h13 : cE h 13 (.inl (.int, fA we))) (n13 : we.length = 12) (hl : h.length = 94) : ik_F 10 [.ref 7, fI p] h (fun rv h_q => rv = [fI ((mj_gs L : Nat) : Int)] ∧ hfr [] h h_q) := by
  refine ik_Wk 4 (pc_q := 4) (loc_q := [some (.ref 7), some (fI p), some (fI 0), none]) (st_q := [fI 5, fI p]) (h_q := h) (cl_q := 0) (sl_q := 0) rfl ?_
  refine fx_mulc rfl ?_
  refine ik_Wk 1 (pc_q := 6) (loc_q := [some (.ref 7), some (fI p), some (fI 0), some (fI (5 * p))]) (st_q := []) (h_q := h) (cl_q := 0) (sl_q := 0) rfl ?_
  exact cs_goalsL (p := p) (pl := pl) (lo := lo) (s := s) (wg := wg) (wc := wc) (we := we) (L := L) q0 q1 q2 q3  (L.length + 1) 0 0 (5 * p) h h7 h11 n11 h12 n12 h13 n13 hl (hfr_refl [] h) (by omega) (by omega) rfl (by omega)

theorem cs_goOnceL {h : List ik_E} {pl : Int} {lo : Int} {s : Nat} {B : Nat} {wg : List Int} {wc : List Int} {we : List Int} {W : Int → List (Int × Int)} (q0 : 1 ≤ pl ∧ pl ≤ 12) (q1 : ∀ x : Int, (0 : Int) ≤ x → x < pl - 1 → mx_wy wg wc we x (W x)) (q2 : ∀ x : Int, (0 : Int) ≤ x → x < pl - 1 → mx_ok pl (W x)) (q3 : B < 4096)  : ∀ (k : Nat) (p : Int) (rd : Nat) (u : List ik_E) (u7 : cE u 7 (.inr (0, [fI pl, fI ((s : Nat) : Int), fI lo, .ref 8, .ref 9, .ref 10, .ref 11, .ref 12, .ref 13]))) (u11 : cE u 11 (.inl (.int, fA wg))) (n11 : wg.length = (60 : Nat)) (u12 : cE u 12 (.inl (.int, fA wc))) (n12 : wc.length = (60 : Nat)) (u13 : cE u 13 (.inl (.int, fA we))) (n13 : we.length = (12 : Nat)) (ul : u.length = (94 : Nat)) (F : hfr [] h u) (hp : (0 : Int) ≤ p ∧ p ≤ pl - 1) (hr : rd = (B &&& 1 <<< (pl - 1).toNat) ||| mj_of W B p.toNat) (hk : pl - 1 - p < (k : Int)), ik_G 20 11 [some (.ref 7), some (fI ((B : Nat) : Int)), some (fI ((rd : Nat) : Int)), some (fI p)] [] u (fun rv h_q => rv = [fI ((mj_on W (pl - 1) B : Nat) : Int)] ∧ hfr [] h h_q) := by
  intro k
  induction k with
  | zero => intro p rd u u7 u11 n11 u12 n12 u13 n13 ul F hp hr hk; omega
  | succ k ih =>
    intro p rd u u7 u11 n11 u12 n12 u13 n13 ul F hp hr hk
    refine ik_Wk 2 (pc_q := 13) (loc_q := [some (.ref 7), some (fI ((B : Nat) : Int)), some (fI ((rd : Nat) : Int)), some (fI p)]) (st_q := [.ref 7, fI p]) (h_q := u) (cl_q := 0) (sl_q := 0) rfl ?_
    refine ik_Wc 2 1 0 [.ref 7] [fI p] rfl rfl rfl (by decide +kernel) rfl rfl (fw_rec ul rfl u7 rfl (Nat.le_of_ble_eq_true rfl)) ?_
    refine ik_Wk 0 (pc_q := 0) (loc_q := [some (.ref 7)]) (st_q := []) (h_q := u) (cl_q := 0) (sl_q := 0) rfl ?_
    refine ik_Wk 1 (pc_q := 1) (loc_q := [some (.ref 7)]) (st_q := [.ref 7]) (h_q := u) (cl_q := 0) (sl_q := 0) rfl ?_
    refine fw_gf rfl rfl u7 rfl ?_
    refine ik_Wk 1 (pc_q := 5) (loc_q := [some (.ref 7)]) (st_q := [fI 1, fI pl]) (h_q := u) (cl_q := 0) (sl_q := 0) rfl ?_
    refine fw_sub rfl ?_
    refine ik_Wret rfl rfl ⟨_, _, rfl, rfl, ?_⟩
    refine ik_Wk 0 (pc_q := 16) (loc_q := [some (.ref 7), some (fI ((B : Nat) : Int)), some (fI ((rd : Nat) : Int)), some (fI p)]) (st_q := [fI (pl - 1), fI p]) (h_q := u) (cl_q := 0) (sl_q := 0) rfl ?_
    refine fw_ic_ge rfl rfl (by omega) (by omega) (by omega) (by omega) (fun hc1 => ?_) (fun hc1 => ?_)
    · refine ik_Wk 1 (pc_q := 42) (loc_q := [some (.ref 7), some (fI ((B : Nat) : Int)), some (fI ((rd : Nat) : Int)), some (fI p)]) (st_q := [fI ((rd : Nat) : Int)]) (h_q := u) (cl_q := 0) (sl_q := 0) rfl ?_
      have ep : p = pl - 1 := by omega
      rw [ep] at hr
      exact ik_Wret rfl rfl ⟨_, _, rfl, rfl, rfl, rfl, ⟨(congrArg (fun z => [fI ((z : Nat) : Int)]) (by rw [hr, Nat.or_comm]; rfl)), F⟩⟩
    · refine ik_Wk 2 (pc_q := 21) (loc_q := [some (.ref 7), some (fI ((B : Nat) : Int)), some (fI ((rd : Nat) : Int)), some (fI p)]) (st_q := [fI p, fI ((B : Nat) : Int)]) (h_q := u) (cl_q := 0) (sl_q := 0) rfl ?_
      refine fx_shr (n := B) rfl (by omega) (by omega) (by omega) ?_
      refine ik_Wk 1 (pc_q := 23) (loc_q := [some (.ref 7), some (fI ((B : Nat) : Int)), some (fI ((rd : Nat) : Int)), some (fI p)]) (st_q := [fI 1, fI ((B >>> p.toNat : Nat) : Int)]) (h_q := u) (cl_q := 0) (sl_q := 0) rfl ?_
      refine fx_bit (n := B) (k := p.toNat) rfl (fun hb2 => ?_) (fun hb2 => ?_)
      · refine ik_Wk 0 (pc_q := 24) (loc_q := [some (.ref 7), some (fI ((B : Nat) : Int)), some (fI ((rd : Nat) : Int)), some (fI p)]) (st_q := [fI 1]) (h_q := u) (cl_q := 0) (sl_q := 0) rfl ?_
        refine fw_if_eq rfl rfl (by decide +kernel) (by decide +kernel) (fun hc3 => absurd hc3 (by decide +kernel)) (fun hc3 => ?_)
        refine ik_Wk 3 (pc_q := 30) (loc_q := [some (.ref 7), some (fI ((B : Nat) : Int)), some (fI ((rd : Nat) : Int)), some (fI p)]) (st_q := [fI p, .ref 7, fI ((rd : Nat) : Int)]) (h_q := u) (cl_q := 0) (sl_q := 0) rfl ?_
        refine fw_call 10 2 0 [.ref 7, fI p] [fI ((rd : Nat) : Int)] rfl rfl rfl (Nat.le_of_ble_eq_true rfl) rfl rfl (fw_rec ul rfl u7 rfl (Nat.le_of_ble_eq_true rfl)) (cs_goals (p := p) (pl := pl) (lo := lo) (s := s) (wg := wg) (wc := wc) (we := we) (L := (W p)) (by omega) (q1 p (by omega) (by omega)) (q2 p (by omega) (by omega)) (by omega) u7 u11 n11 u12 n12 u13 n13 ul) ?_
        rintro _ h_330 ⟨rfl, F_330⟩
        have k_330 : cL h_330 := F_330.1.trans ul
        have fr_330 := hfr_cb F F_330 rfl
        have g_330_7 := (hfr_g F_330 7 rfl).trans u7
        have g_330_11 := (hfr_g F_330 11 rfl).trans u11
        have g_330_12 := (hfr_g F_330 12 rfl).trans u12
        have g_330_13 := (hfr_g F_330 13 rfl).trans u13
        refine ik_Wk 0 (pc_q := 33) (loc_q := [some (.ref 7), some (fI ((B : Nat) : Int)), some (fI ((rd : Nat) : Int)), some (fI p)]) (st_q := [fI ((mj_gs (W p) : Nat) : Int), fI ((rd : Nat) : Int)]) (h_q := h_330) (cl_q := 0) (sl_q := 0) rfl ?_
        refine fx_or (m := rd) (n := mj_gs (W p)) rfl ?_
        refine ik_Wk 1 (pc_q := 35) (loc_q := [some (.ref 7), some (fI ((B : Nat) : Int)), some (fI ((rd ||| (mj_gs (W p)) : Nat) : Int)), some (fI p)]) (st_q := []) (h_q := h_330) (cl_q := 0) (sl_q := 0) rfl ?_
        refine fw_inc (a := p) (loc_q := [some (.ref 7), some (fI ((B : Nat) : Int)), some (fI ((rd ||| (mj_gs (W p)) : Nat) : Int)), some (fI (p + 1))]) rfl rfl (Nat.le_of_ble_eq_true rfl) rfl ?_
        refine ik_Wk 1 (pc_q := 11) (loc_q := [some (.ref 7), some (fI ((B : Nat) : Int)), some (fI ((rd ||| (mj_gs (W p)) : Nat) : Int)), some (fI (p + 1))]) (st_q := []) (h_q := h_330) (cl_q := 0) (sl_q := 0) rfl ?_
        exact ih  (p + 1) (rd ||| (mj_gs (W p))) h_330 g_330_7 g_330_11 n11 g_330_12 n12 g_330_13 n13 k_330 fr_330 (by omega) (by rw [mj_of_s (by omega), if_pos hb2, hr, Nat.or_assoc]) (by omega)
      · refine ik_Wk 0 (pc_q := 24) (loc_q := [some (.ref 7), some (fI ((B : Nat) : Int)), some (fI ((rd : Nat) : Int)), some (fI p)]) (st_q := [fI 0]) (h_q := u) (cl_q := 0) (sl_q := 0) rfl ?_
        refine fw_if_eq rfl rfl (by decide +kernel) (by decide +kernel) (fun hc4 => ?_) (fun hc4 => absurd hc4 (by decide +kernel))
        refine fw_inc (a := p) (loc_q := [some (.ref 7), some (fI ((B : Nat) : Int)), some (fI ((rd : Nat) : Int)), some (fI (p + 1))]) rfl rfl (Nat.le_of_ble_eq_true rfl) rfl ?_
        refine ik_Wk 1 (pc_q := 11) (loc_q := [some (.ref 7), some (fI ((B : Nat) : Int)), some (fI ((rd : Nat) : Int)), some (fI (p + 1))]) (st_q := []) (h_q := u) (cl_q := 0) (sl_q := 0) rfl ?_
        exact ih  (p + 1) rd u u7 u11 n11 u12 n12 u13 n13 ul F (by omega) (by rw [mj_of_s (by omega), if_neg (by rw [hb2]; decide)]; exact hr) (by omega)

theorem cs_goOnce {h : List ik_E} {pl : Int} {lo : Int} {s : Nat} {B : Nat} {wg : List Int} {wc : List Int} {we : List Int} {W : Int → List (Int × Int)} (q0 : 1 ≤ pl ∧ pl ≤ 12) (q1 : ∀ x : Int, (0 : Int) ≤ x → x < pl - 1 → mx_wy wg wc we x (W x)) (q2 : ∀ x : Int, (0 : Int) ≤ x → x < pl - 1 → mx_ok pl (W x)) (q3 : B < 4096) (h7 : cE h 7 (.inr (0, [fI pl, fI ((s : Nat) : Int), fI lo, .ref 8, .ref 9, .ref 10, .ref 11, .ref 12, .ref 13]))) (h11 : cE h 11 (.inl (.int, fA wg))) (n11 : wg.length = (60 : Nat)) (h12 : cE h 12 (.inl (.int, fA wc))) (n12 : wc.length = (60 : Nat)) (h13 : cE h 13 (.inl (.int, fA we))) (n13 : we.length = (12 : Nat)) (hl : h.length = (94 : Nat)) : ik_F 20 [.ref 7, fI ((B : Nat) : Int)] h (fun rv h_q => rv = [fI ((mj_on W (pl - 1) B : Nat) : Int)] ∧ hfr [] h h_q) := by
  refine ik_Wk 3 (pc_q := 3) (loc_q := [some (.ref 7), some (fI ((B : Nat) : Int)), none, none]) (st_q := [.ref 7, fI 1, fI ((B : Nat) : Int)]) (h_q := h) (cl_q := 0) (sl_q := 0) rfl ?_
  refine ik_Wc 2 1 0 [.ref 7] [fI 1, fI ((B : Nat) : Int)] rfl rfl rfl (by decide +kernel) rfl rfl (fw_rec hl rfl h7 rfl (Nat.le_of_ble_eq_true rfl)) ?_
  refine ik_Wk 0 (pc_q := 0) (loc_q := [some (.ref 7)]) (st_q := []) (h_q := h) (cl_q := 0) (sl_q := 0) rfl ?_
  refine ik_Wk 1 (pc_q := 1) (loc_q := [some (.ref 7)]) (st_q := [.ref 7]) (h_q := h) (cl_q := 0) (sl_q := 0) rfl ?_
  refine fw_gf rfl rfl h7 rfl ?_
  refine ik_Wk 1 (pc_q := 5) (loc_q := [some (.ref 7)]) (st_q := [fI 1, fI pl]) (h_q := h) (cl_q := 0) (sl_q := 0) rfl ?_
  refine fw_sub rfl ?_
  refine ik_Wret rfl rfl ⟨_, _, rfl, rfl, ?_⟩
  refine ik_Wk 0 (pc_q := 6) (loc_q := [some (.ref 7), some (fI ((B : Nat) : Int)), none, none]) (st_q := [fI (pl - 1), fI 1, fI ((B : Nat) : Int)]) (h_q := h) (cl_q := 0) (sl_q := 0) rfl ?_
  refine fx_shl rfl (by omega) (by omega) ?_
  refine fx_and (m := B) (n := 1 <<< (pl - 1).toNat) rfl ?_
  refine ik_Wk 3 (pc_q := 11) (loc_q := [some (.ref 7), some (fI ((B : Nat) : Int)), some (fI ((B &&& (1 <<< (pl - 1).toNat) : Nat) : Int)), some (fI 0)]) (st_q := []) (h_q := h) (cl_q := 0) (sl_q := 0) rfl ?_
  exact cs_goOnceL (pl := pl) (lo := lo) (s := s) (B := B) (wg := wg) (wc := wc) (we := we) (W := W) q0 q1 q2 q3  (pl.toNat + 1) 0 (B &&& (1 <<< (pl - 1).toNat)) h h7 h11 n11 h12 n12 h13 n13 hl (hfr_refl [] h) (by omega) (Nat.or_zero _).symm (by omega)

theorem cs_leadsL {h : List ik_E} {p : Int} {q : Int} {n : Int} {pl : Int} {lo : Int} {s : Nat} {wg : List Int} {wc : List Int} {we : List Int} {W : Int → List (Int × Int)} (q0 : 0 ≤ pl ∧ pl ≤ 12) (q1 : ∀ x : Int, (0 : Int) ≤ x → x < pl - 1 → mx_wy wg wc we x (W x)) (q2 : ∀ x : Int, (0 : Int) ≤ x → x < pl - 1 → mx_ok pl (W x)) (q3 : (0 : Int) ≤ n ∧ n ≤ (2 : Int)) (q4 : (-2147483648 : Int) ≤ p ∧ p < (2147483648 : Int)) (q5 : (-2147483648 : Int) ≤ q ∧ q < (2147483648 : Int)) (hp : (0 : Int) ≤ p ∧ p < pl) (hq : (0 : Int) ≤ q ∧ q < pl) : ∀ (k : Nat) (i : Int) (B : Nat) (u : List ik_E) (u7 : cE u 7 (.inr (0, [fI pl, fI ((s : Nat) : Int), fI lo, .ref 8, .ref 9, .ref 10, .ref 11, .ref 12, .ref 13]))) (u11 : cE u 11 (.inl (.int, fA wg))) (n11 : wg.length = (60 : Nat)) (u12 : cE u 12 (.inl (.int, fA wc))) (n12 : wc.length = (60 : Nat)) (u13 : cE u 13 (.inl (.int, fA we))) (n13 : we.length = (12 : Nat)) (ul : u.length = (94 : Nat)) (F : hfr [] h u) (hi : (0 : Int) ≤ i ∧ i ≤ n) (hB : B < 2 ^ pl.toNat) (he : mj_oi W (pl - 1) n.toNat (1 <<< p.toNat) = mj_oi W (pl - 1) (n - i).toNat B) (hk : n - i < (k : Int)), ik_G 19 26 [some (.ref 7), some (fI p), some (fI q), some (fI n), some (fI ((B : Nat) : Int)), some (fI i)] [] u (fun rv h_q => (rv = [fI 1] ∧ (mj_ld W pl p q n.toNat = true) ∧ hfr [] h h_q) ∨ (rv = [fI 0] ∧ (mj_ld W pl p q n.toNat = false) ∧ hfr [] h h_q)) := by
  intro k
  induction k with
  | zero => intro i B u u7 u11 n11 u12 n12 u13 n13 ul F hi hB he hk; omega
  | succ k ih =>
    intro i B u u7 u11 n11 u12 n12 u13 n13 ul F hi hB he hk
    have hB4 := mj_12 hB (by omega)
    refine ik_Wk 2 (pc_q := 29) (loc_q := [some (.ref 7), some (fI p), some (fI q), some (fI n), some (fI ((B : Nat) : Int)), some (fI i)]) (st_q := [fI n, fI i]) (h_q := u) (cl_q := 0) (sl_q := 0) rfl ?_
    refine fw_ic_ge rfl rfl (by omega) (by omega) (by omega) (by omega) (fun hc1 => ?_) (fun hc1 => ?_)
    · refine ik_Wk 2 (pc_q := 49) (loc_q := [some (.ref 7), some (fI p), some (fI q), some (fI n), some (fI ((B : Nat) : Int)), some (fI i)]) (st_q := [fI q, fI ((B : Nat) : Int)]) (h_q := u) (cl_q := 0) (sl_q := 0) rfl ?_
      refine fx_shr (n := B) rfl (by omega) (by omega) (by omega) ?_
      refine ik_Wk 1 (pc_q := 51) (loc_q := [some (.ref 7), some (fI p), some (fI q), some (fI n), some (fI ((B : Nat) : Int)), some (fI i)]) (st_q := [fI 1, fI ((B >>> q.toNat : Nat) : Int)]) (h_q := u) (cl_q := 0) (sl_q := 0) rfl ?_
      refine fx_bit (n := B) (k := q.toNat) rfl (fun hb2 => ?_) (fun hb2 => ?_)
      · refine ik_Wk 0 (pc_q := 52) (loc_q := [some (.ref 7), some (fI p), some (fI q), some (fI n), some (fI ((B : Nat) : Int)), some (fI i)]) (st_q := [fI 1]) (h_q := u) (cl_q := 0) (sl_q := 0) rfl ?_
        refine fw_if_eq rfl rfl (by decide +kernel) (by decide +kernel) (fun hc3 => absurd hc3 (by decide +kernel)) (fun hc3 => ?_)
        refine ik_Wk 2 (pc_q := 60) (loc_q := [some (.ref 7), some (fI p), some (fI q), some (fI n), some (fI ((B : Nat) : Int)), some (fI i)]) (st_q := [fI 1]) (h_q := u) (cl_q := 0) (sl_q := 0) rfl ?_
        rw [show (n - i).toNat = 0 by omega] at he
        exact ik_Wret rfl rfl ⟨_, _, rfl, rfl, rfl, rfl, Or.inl ⟨rfl, (decide_eq_true ⟨hp, hq, by rw [he]; exact hb2⟩), F⟩⟩
      · refine ik_Wk 0 (pc_q := 52) (loc_q := [some (.ref 7), some (fI p), some (fI q), some (fI n), some (fI ((B : Nat) : Int)), some (fI i)]) (st_q := [fI 0]) (h_q := u) (cl_q := 0) (sl_q := 0) rfl ?_
        refine fw_if_eq rfl rfl (by decide +kernel) (by decide +kernel) (fun hc4 => ?_) (fun hc4 => absurd hc4 (by decide +kernel))
        refine ik_Wk 1 (pc_q := 60) (loc_q := [some (.ref 7), some (fI p), some (fI q), some (fI n), some (fI ((B : Nat) : Int)), some (fI i)]) (st_q := [fI 0]) (h_q := u) (cl_q := 0) (sl_q := 0) rfl ?_
        rw [show (n - i).toNat = 0 by omega] at he
        exact ik_Wret rfl rfl ⟨_, _, rfl, rfl, rfl, rfl, Or.inr ⟨rfl, (decide_eq_false (fun w => by have z := w.2.2; rw [he] at z; exact absurd (z.symm.trans hb2) (by decide +kernel))), F⟩⟩
    · refine ik_Wk 2 (pc_q := 35) (loc_q := [some (.ref 7), some (fI p), some (fI q), some (fI n), some (fI ((B : Nat) : Int)), some (fI i)]) (st_q := [fI ((B : Nat) : Int), .ref 7]) (h_q := u) (cl_q := 0) (sl_q := 0) rfl ?_
      refine fw_call 20 2 0 [.ref 7, fI ((B : Nat) : Int)] [] rfl rfl rfl (Nat.le_of_ble_eq_true rfl) rfl rfl (fw_rec ul rfl u7 rfl (Nat.le_of_ble_eq_true rfl)) (cs_goOnce (pl := pl) (lo := lo) (s := s) (B := B) (wg := wg) (wc := wc) (we := we) (by omega) q1 q2 (mj_12 hB (by omega)) u7 u11 n11 u12 n12 u13 n13 ul) ?_
      rintro _ h_331 ⟨rfl, F_331⟩
      have k_331 : cL h_331 := F_331.1.trans ul
      have fr_331 := hfr_cb F F_331 rfl
      have g_331_7 := (hfr_g F_331 7 rfl).trans u7
      have g_331_11 := (hfr_g F_331 11 rfl).trans u11
      have g_331_12 := (hfr_g F_331 12 rfl).trans u12
      have g_331_13 := (hfr_g F_331 13 rfl).trans u13
      refine ik_Wk 0 (pc_q := 38) (loc_q := [some (.ref 7), some (fI p), some (fI q), some (fI n), some (fI ((B : Nat) : Int)), some (fI i)]) (st_q := [fI ((mj_on W (pl - 1) B : Nat) : Int)]) (h_q := h_331) (cl_q := 0) (sl_q := 0) rfl ?_
      refine ik_Wk 1 (pc_q := 40) (loc_q := [some (.ref 7), some (fI p), some (fI q), some (fI n), some (fI ((mj_on W (pl - 1) B : Nat) : Int)), some (fI i)]) (st_q := []) (h_q := h_331) (cl_q := 0) (sl_q := 0) rfl ?_
      refine fw_inc (a := i) (loc_q := [some (.ref 7), some (fI p), some (fI q), some (fI n), some (fI ((mj_on W (pl - 1) B : Nat) : Int)), some (fI (i + 1))]) rfl rfl (Nat.le_of_ble_eq_true rfl) rfl ?_
      refine ik_Wk 1 (pc_q := 26) (loc_q := [some (.ref 7), some (fI p), some (fI q), some (fI n), some (fI ((mj_on W (pl - 1) B : Nat) : Int)), some (fI (i + 1))]) (st_q := []) (h_q := h_331) (cl_q := 0) (sl_q := 0) rfl ?_
      exact ih  (i + 1) (mj_on W (pl - 1) B) h_331 g_331_7 g_331_11 n11 g_331_12 n12 g_331_13 n13 k_331 fr_331 (by omega) (mj_on_lt q2 (by omega) B) (by rw [he, show (n - i).toNat = (n - (i + 1)).toNat + 1 by omega]; rfl) (by omega)

theorem cs_leads {h : List ik_E} {p : Int} {q : Int} {n : Int} {pl : Int} {lo : Int} {s : Nat} {wg : List Int} {wc : List Int} {we : List Int} {W : Int → List (Int × Int)} (q0 : 0 ≤ pl ∧ pl ≤ 12) (q1 : ∀ x : Int, (0 : Int) ≤ x → x < pl - 1 → mx_wy wg wc we x (W x)) (q2 : ∀ x : Int, (0 : Int) ≤ x → x < pl - 1 → mx_ok pl (W x)) (q3 : (0 : Int) ≤ n ∧ n ≤ (2 : Int)) (q4 : (-2147483648 : Int) ≤ p ∧ p < (2147483648 : Int)) (q5 : (-2147483648 : Int) ≤ q ∧ q < (2147483648 : Int)) (h7 : cE h 7 (.inr (0, [fI pl, fI ((s : Nat) : Int), fI lo, .ref 8, .ref 9, .ref 10, .ref 11, .ref 12, .ref 13]))) (h11 : cE h 11 (.inl (.int, fA wg))) (n11 : wg.length = (60 : Nat)) (h12 : cE h 12 (.inl (.int, fA wc))) (n12 : wc.length = (60 : Nat)) (h13 : cE h 13 (.inl (.int, fA we))) (n13 : we.length = (12 : Nat)) (hl : h.length = (94 : Nat)) : ik_F 19 [.ref 7, fI p, fI q, fI n] h (fun rv h_q => (rv = [fI 1] ∧ (mj_ld W pl p q n.toNat = true) ∧ hfr [] h h_q) ∨ (rv = [fI 0] ∧ (mj_ld W pl p q n.toNat = false) ∧ hfr [] h h_q)) := by
  refine ik_Wk 2 (pc_q := 2) (loc_q := [some (.ref 7), some (fI p), some (fI q), some (fI n), none, none]) (st_q := [fI p, .ref 7]) (h_q := h) (cl_q := 0) (sl_q := 0) rfl ?_
  refine ik_Wc 3 2 0 [.ref 7, fI p] [] rfl rfl rfl (by decide +kernel) rfl rfl (fw_rec hl rfl h7 rfl (Nat.le_of_ble_eq_true rfl)) ?_
  refine ik_Wk 0 (pc_q := 0) (loc_q := [some (.ref 7), some (fI p)]) (st_q := []) (h_q := h) (cl_q := 0) (sl_q := 0) rfl ?_
  refine ik_Wk 1 (pc_q := 1) (loc_q := [some (.ref 7), some (fI p)]) (st_q := [fI p]) (h_q := h) (cl_q := 0) (sl_q := 0) rfl ?_
  refine fw_if_lt rfl rfl (by omega) (by omega) (fun hc1 => ?_) (fun hc1 => ?_)
  · refine ik_Wk 1 (pc_q := 17) (loc_q := [some (.ref 7), some (fI p)]) (st_q := [fI 0]) (h_q := h) (cl_q := 0) (sl_q := 0) rfl ?_
    refine ik_Wret rfl rfl ⟨_, _, rfl, rfl, ?_⟩
    refine ik_Wk 0 (pc_q := 5) (loc_q := [some (.ref 7), some (fI p), some (fI q), some (fI n), none, none]) (st_q := [fI 0]) (h_q := h) (cl_q := 0) (sl_q := 0) rfl ?_
    refine fw_if_eq rfl rfl (by decide +kernel) (by decide +kernel) (fun hc2 => ?_) (fun hc2 => absurd hc2 (by decide +kernel))
    refine ik_Wk 1 (pc_q := 17) (loc_q := [some (.ref 7), some (fI p), some (fI q), some (fI n), none, none]) (st_q := [fI 0]) (h_q := h) (cl_q := 0) (sl_q := 0) rfl ?_
    exact ik_Wret rfl rfl ⟨_, _, rfl, rfl, rfl, rfl, Or.inr ⟨rfl, (decide_eq_false (fun w => by omega)), (hfr_refl [] h)⟩⟩
  · refine ik_Wk 2 (pc_q := 6) (loc_q := [some (.ref 7), some (fI p)]) (st_q := [.ref 7, fI p]) (h_q := h) (cl_q := 0) (sl_q := 0) rfl ?_
    refine fw_gf rfl rfl h7 rfl ?_
    refine fw_ic_ge rfl rfl (by omega) (by omega) (by omega) (by omega) (fun hc3 => ?_) (fun hc3 => ?_)
    · refine ik_Wk 1 (pc_q := 17) (loc_q := [some (.ref 7), some (fI p)]) (st_q := [fI 0]) (h_q := h) (cl_q := 0) (sl_q := 0) rfl ?_
      refine ik_Wret rfl rfl ⟨_, _, rfl, rfl, ?_⟩
      refine ik_Wk 0 (pc_q := 5) (loc_q := [some (.ref 7), some (fI p), some (fI q), some (fI n), none, none]) (st_q := [fI 0]) (h_q := h) (cl_q := 0) (sl_q := 0) rfl ?_
      refine fw_if_eq rfl rfl (by decide +kernel) (by decide +kernel) (fun hc4 => ?_) (fun hc4 => absurd hc4 (by decide +kernel))
      refine ik_Wk 1 (pc_q := 17) (loc_q := [some (.ref 7), some (fI p), some (fI q), some (fI n), none, none]) (st_q := [fI 0]) (h_q := h) (cl_q := 0) (sl_q := 0) rfl ?_
      exact ik_Wret rfl rfl ⟨_, _, rfl, rfl, rfl, rfl, Or.inr ⟨rfl, (decide_eq_false (fun w => by omega)), (hfr_refl [] h)⟩⟩
    · refine ik_Wk 2 (pc_q := 17) (loc_q := [some (.ref 7), some (fI p)]) (st_q := [fI 1]) (h_q := h) (cl_q := 0) (sl_q := 0) rfl ?_
      refine ik_Wret rfl rfl ⟨_, _, rfl, rfl, ?_⟩
      refine ik_Wk 0 (pc_q := 5) (loc_q := [some (.ref 7), some (fI p), some (fI q), some (fI n), none, none]) (st_q := [fI 1]) (h_q := h) (cl_q := 0) (sl_q := 0) rfl ?_
      refine fw_if_eq rfl rfl (by decide +kernel) (by decide +kernel) (fun hc5 => absurd hc5 (by decide +kernel)) (fun hc5 => ?_)
      refine ik_Wk 2 (pc_q := 10) (loc_q := [some (.ref 7), some (fI p), some (fI q), some (fI n), none, none]) (st_q := [fI q, .ref 7]) (h_q := h) (cl_q := 0) (sl_q := 0) rfl ?_
      refine ik_Wc 3 2 0 [.ref 7, fI q] [] rfl rfl rfl (by decide +kernel) rfl rfl (fw_rec hl rfl h7 rfl (Nat.le_of_ble_eq_true rfl)) ?_
      refine ik_Wk 0 (pc_q := 0) (loc_q := [some (.ref 7), some (fI q)]) (st_q := []) (h_q := h) (cl_q := 0) (sl_q := 0) rfl ?_
      refine ik_Wk 1 (pc_q := 1) (loc_q := [some (.ref 7), some (fI q)]) (st_q := [fI q]) (h_q := h) (cl_q := 0) (sl_q := 0) rfl ?_
      refine fw_if_lt rfl rfl (by omega) (by omega) (fun hc6 => ?_) (fun hc6 => ?_)
      · refine ik_Wk 1 (pc_q := 17) (loc_q := [some (.ref 7), some (fI q)]) (st_q := [fI 0]) (h_q := h) (cl_q := 0) (sl_q := 0) rfl ?_
        refine ik_Wret rfl rfl ⟨_, _, rfl, rfl, ?_⟩
        refine ik_Wk 0 (pc_q := 13) (loc_q := [some (.ref 7), some (fI p), some (fI q), some (fI n), none, none]) (st_q := [fI 0]) (h_q := h) (cl_q := 0) (sl_q := 0) rfl ?_
        refine fw_if_ne rfl rfl (by decide +kernel) (by decide +kernel) (fun hc7 => ?_) (fun hc7 => absurd hc7 (by decide +kernel))
        refine ik_Wk 1 (pc_q := 17) (loc_q := [some (.ref 7), some (fI p), some (fI q), some (fI n), none, none]) (st_q := [fI 0]) (h_q := h) (cl_q := 0) (sl_q := 0) rfl ?_
        exact ik_Wret rfl rfl ⟨_, _, rfl, rfl, rfl, rfl, Or.inr ⟨rfl, (decide_eq_false (fun w => by omega)), (hfr_refl [] h)⟩⟩
      · refine ik_Wk 2 (pc_q := 6) (loc_q := [some (.ref 7), some (fI q)]) (st_q := [.ref 7, fI q]) (h_q := h) (cl_q := 0) (sl_q := 0) rfl ?_
        refine fw_gf rfl rfl h7 rfl ?_
        refine fw_ic_ge rfl rfl (by omega) (by omega) (by omega) (by omega) (fun hc8 => ?_) (fun hc8 => ?_)
        · refine ik_Wk 1 (pc_q := 17) (loc_q := [some (.ref 7), some (fI q)]) (st_q := [fI 0]) (h_q := h) (cl_q := 0) (sl_q := 0) rfl ?_
          refine ik_Wret rfl rfl ⟨_, _, rfl, rfl, ?_⟩
          refine ik_Wk 0 (pc_q := 13) (loc_q := [some (.ref 7), some (fI p), some (fI q), some (fI n), none, none]) (st_q := [fI 0]) (h_q := h) (cl_q := 0) (sl_q := 0) rfl ?_
          refine fw_if_ne rfl rfl (by decide +kernel) (by decide +kernel) (fun hc9 => ?_) (fun hc9 => absurd hc9 (by decide +kernel))
          refine ik_Wk 1 (pc_q := 17) (loc_q := [some (.ref 7), some (fI p), some (fI q), some (fI n), none, none]) (st_q := [fI 0]) (h_q := h) (cl_q := 0) (sl_q := 0) rfl ?_
          exact ik_Wret rfl rfl ⟨_, _, rfl, rfl, rfl, rfl, Or.inr ⟨rfl, (decide_eq_false (fun w => by omega)), (hfr_refl [] h)⟩⟩
        · refine ik_Wk 2 (pc_q := 17) (loc_q := [some (.ref 7), some (fI q)]) (st_q := [fI 1]) (h_q := h) (cl_q := 0) (sl_q := 0) rfl ?_
          refine ik_Wret rfl rfl ⟨_, _, rfl, rfl, ?_⟩
          refine ik_Wk 0 (pc_q := 13) (loc_q := [some (.ref 7), some (fI p), some (fI q), some (fI n), none, none]) (st_q := [fI 1]) (h_q := h) (cl_q := 0) (sl_q := 0) rfl ?_
          refine fw_if_ne rfl rfl (by decide +kernel) (by decide +kernel) (fun hc10 => absurd hc10 (by decide +kernel)) (fun hc10 => ?_)
          refine ik_Wk 2 (pc_q := 20) (loc_q := [some (.ref 7), some (fI p), some (fI q), some (fI n), none, none]) (st_q := [fI p, fI 1]) (h_q := h) (cl_q := 0) (sl_q := 0) rfl ?_
          refine fx_shl rfl (by omega) (by omega) ?_
          refine ik_Wk 3 (pc_q := 26) (loc_q := [some (.ref 7), some (fI p), some (fI q), some (fI n), some (fI ((1 <<< p.toNat : Nat) : Int)), some (fI 0)]) (st_q := []) (h_q := h) (cl_q := 0) (sl_q := 0) rfl ?_
          exact cs_leadsL (p := p) (q := q) (n := n) (pl := pl) (lo := lo) (s := s) (wg := wg) (wc := wc) (we := we) (W := W) q0 q1 q2 q3 q4 q5 (by omega) (by omega) (n.toNat + 1) 0 (1 <<< p.toNat) h h7 h11 n11 h12 n12 h13 n13 hl (hfr_refl [] h) (by omega) (mj_shl_lt (by omega)) (by rw [Int.sub_zero]) (by omega)

theorem cs_wrong0L {h : List ik_E} {pl : Int} {lo : Int} {s : Nat} {n0 : Int} {n1 : Int} {ka : Int} {pa : Int} {fa : Int} {kb : Int} {pb : Int} {fb : Int} {lr : List Int} {wg : List Int} {wc : List Int} {we : List Int} {W : Int → List (Int × Int)} (q0 : 0 ≤ pl ∧ pl ≤ 12) (q1 : ∀ x : Int, (0 : Int) ≤ x → x < pl - 1 → mx_wy wg wc we x (W x)) (q2 : ∀ x : Int, (0 : Int) ≤ x → x < pl - 1 → mx_ok pl (W x)) (q3 : (0 : Int) ≤ ka ∧ ka ≤ (2 : Int)) (q4 : (0 : Int) ≤ pa ∧ pa ≤ (11 : Int)) (q5 : (0 : Int) ≤ fa ∧ fa ≤ (30 : Int)) (q6 : (0 : Int) ≤ n0 ∧ n0 ≤ (40 : Int)) (q7 : ∀ j : Nat, (j : Int) < n0 → lr.getD (0 + j) 0 = 12 ∨ (0 ≤ lr.getD (0 + j) 0 ∧ lr.getD (0 + j) (0 : Int) < pl))  : ∀ (k : Nat) (i : Int) (x7 : Option Value) (x8 : Option Value) (u : List ik_E) (u7 : cE u 7 (.inr (0, [fI pl, fI ((s : Nat) : Int), fI lo, .ref 8, .ref 9, .ref 10, .ref 11, .ref 12, .ref 13]))) (u11 : cE u 11 (.inl (.int, fA wg))) (n11 : wg.length = (60 : Nat)) (u12 : cE u 12 (.inl (.int, fA wc))) (n12 : wc.length = (60 : Nat)) (u13 : cE u 13 (.inl (.int, fA we))) (n13 : we.length = (12 : Nat)) (u15 : cE u 15 (.inl (.int, fA [ka, pa, fa, kb, pb, fb]))) (u54 : cE u 54 (.inr (4, [.ref 55, .ref 56]))) (u55 : cE u 55 (.inl (.int, fA lr))) (n55 : lr.length = (80 : Nat)) (u56 : cE u 56 (.inl (.int, fA [n0, n1]))) (ul : u.length = (94 : Nat)) (F : hfr [] h u) (hi : (0 : Int) ≤ i ∧ i ≤ n0) (he : mj_fw (mj_ok W pl ka pa fa lr 0) n0.toNat 0 = mj_fw (mj_ok W pl ka pa fa lr 0) (n0 - i).toNat i) (w7 : ik_wl 94 x7 = true) (w8 : ik_wl 94 x8 = true) (hk : n0 - i < (k : Int)), ik_G 39 21 [some (.ref 54), some (fI 0), some (.ref 7), some (.ref 15), some (fI ka), some (fI fa), some (fI i), x7, x8] [] u (fun rv h_q => rv = [fI (mj_fw (mj_ok W pl ka pa fa lr 0) n0.toNat 0)] ∧ hfr [] h h_q) := by
  intro k
  induction k with
  | zero => intro i x7 x8 u u7 u11 n11 u12 n12 u13 n13 u15 u54 u55 n55 u56 ul F hi he w7 w8 hk; omega
  | succ k ih =>
    intro i x7 x8 u u7 u11 n11 u12 n12 u13 n13 u15 u54 u55 n55 u56 ul F hi he w7 w8 hk
    refine ik_Wk 2 (pc_q := 24) (loc_q := [some (.ref 54), some (fI 0), some (.ref 7), some (.ref 15), some (fI ka), some (fI fa), some (fI i), x7, x8]) (st_q := [.ref 54, fI i]) (h_q := u) (cl_q := 0) (sl_q := 0) rfl ?_
    refine fw_gf rfl rfl u54 rfl ?_
    refine ik_Wk 1 (pc_q := 28) (loc_q := [some (.ref 54), some (fI 0), some (.ref 7), some (.ref 15), some (fI ka), some (fI fa), some (fI i), x7, x8]) (st_q := [fI 0, .ref 56, fI i]) (h_q := u) (cl_q := 0) (sl_q := 0) rfl ?_
    refine fw_ial (z := 0) rfl u56 (by decide +kernel) (Nat.le_of_ble_eq_true rfl) (by decide +kernel) ?_
    refine ik_Wk 0 (pc_q := 29) (loc_q := [some (.ref 54), some (fI 0), some (.ref 7), some (.ref 15), some (fI ka), some (fI fa), some (fI i), x7, x8]) (st_q := [fI n0, fI i]) (h_q := u) (cl_q := 0) (sl_q := 0) rfl ?_
    refine fw_ic_ge rfl rfl (by omega) (by omega) (by omega) (by omega) (fun hc1 => ?_) (fun hc1 => ?_)
    · refine ik_Wk 1 (pc_q := 146) (loc_q := [some (.ref 54), some (fI 0), some (.ref 7), some (.ref 15), some (fI ka), some (fI fa), some (fI i), x7, x8]) (st_q := [fI (-1)]) (h_q := u) (cl_q := 0) (sl_q := 0) rfl ?_
      rw [show (n0 - i).toNat = 0 by omega] at he
      exact ik_Wret rfl rfl ⟨_, _, rfl, rfl, rfl, rfl, ⟨(congrArg (fun z => [fI z]) he.symm), F⟩⟩
    · refine ik_Wk 1 (pc_q := 33) (loc_q := [some (.ref 54), some (fI 0), some (.ref 7), some (.ref 15), some (fI ka), some (fI fa), some (fI i), x7, x8]) (st_q := [.ref 54]) (h_q := u) (cl_q := 0) (sl_q := 0) rfl ?_
      refine fw_gf rfl rfl u54 rfl ?_
      refine ik_Wk 1 (pc_q := 37) (loc_q := [some (.ref 54), some (fI 0), some (.ref 7), some (.ref 15), some (fI ka), some (fI fa), some (fI i), x7, x8]) (st_q := [fI 0, .ref 55]) (h_q := u) (cl_q := 0) (sl_q := 0) rfl ?_
      refine fw_bi rfl (by decide +kernel) ?_
      refine fw_mul rfl ?_
      refine ik_Wk 1 (pc_q := 42) (loc_q := [some (.ref 54), some (fI 0), some (.ref 7), some (.ref 15), some (fI ka), some (fI fa), some (fI i), x7, x8]) (st_q := [fI i, fI 0, .ref 55]) (h_q := u) (cl_q := 0) (sl_q := 0) rfl ?_
      refine fw_add rfl ?_
      refine fw_ial rfl u55 (by omega) (by omega) (by omega) ?_
      have hl2 := q7 i.toNat (by omega)
      rw [show 0 + i.toNat = (0 + i).toNat by omega] at hl2
      refine ik_Wk 3 (pc_q := 50) (loc_q := [some (.ref 54), some (fI 0), some (.ref 7), some (.ref 15), some (fI ka), some (fI fa), some (fI i), some (fI (lr.getD (0 + i).toNat 0)), x8]) (st_q := [fI fa, fI i]) (h_q := u) (cl_q := 0) (sl_q := 0) rfl ?_
      refine fw_ic_ge rfl rfl (by omega) (by omega) (by omega) (by omega) (fun hc3 => ?_) (fun hc3 => ?_)
      · refine ik_Wk 2 (pc_q := 74) (loc_q := [some (.ref 54), some (fI 0), some (.ref 7), some (.ref 15), some (fI ka), some (fI fa), some (fI i), some (fI (lr.getD (0 + i).toNat 0)), x8]) (st_q := [fI fa, fI i]) (h_q := u) (cl_q := 0) (sl_q := 0) rfl ?_
        refine fw_ic_ne rfl rfl (by omega) (by omega) (by omega) (by omega) (fun hc4 => ?_) (fun hc4 => ?_)
        · refine ik_Wk 4 (pc_q := 82) (loc_q := [some (.ref 54), some (fI 0), some (.ref 7), some (.ref 15), some (fI ka), some (fI fa), some (fI i), some (fI (lr.getD (0 + i).toNat 0)), x8]) (st_q := [fI 3, fI 0, .ref 15, fI (lr.getD (0 + i).toNat 0)]) (h_q := u) (cl_q := 0) (sl_q := 0) rfl ?_
          refine fw_mul rfl ?_
          refine ik_Wk 1 (pc_q := 84) (loc_q := [some (.ref 54), some (fI 0), some (.ref 7), some (.ref 15), some (fI ka), some (fI fa), some (fI i), some (fI (lr.getD (0 + i).toNat 0)), x8]) (st_q := [fI 1, fI 0, .ref 15, fI (lr.getD (0 + i).toNat 0)]) (h_q := u) (cl_q := 0) (sl_q := 0) rfl ?_
          refine fw_add rfl ?_
          refine fw_ial (z := 1) rfl u15 (by decide +kernel) (Nat.le_of_ble_eq_true rfl) (by decide +kernel) ?_
          refine ik_Wk 0 (pc_q := 86) (loc_q := [some (.ref 54), some (fI 0), some (.ref 7), some (.ref 15), some (fI ka), some (fI fa), some (fI i), some (fI (lr.getD (0 + i).toNat 0)), x8]) (st_q := [fI pa, fI (lr.getD (0 + i).toNat 0)]) (h_q := u) (cl_q := 0) (sl_q := 0) rfl ?_
          refine fw_ic_ne rfl rfl (by omega) (by omega) (by omega) (by omega) (fun hc5 => ?_) (fun hc5 => ?_)
          · refine ik_Wk 5 (pc_q := 133) (loc_q := [some (.ref 54), some (fI 0), some (.ref 7), some (.ref 15), some (fI ka), some (fI fa), some (fI i), some (fI (lr.getD (0 + i).toNat 0)), some (fI 1)]) (st_q := [fI 1]) (h_q := u) (cl_q := 0) (sl_q := 0) rfl ?_
            refine fw_if_ne rfl rfl (by decide +kernel) (by decide +kernel) (fun hc6 => absurd hc6 (by decide +kernel)) (fun hc6 => ?_)
            refine fw_inc (a := i) (loc_q := [some (.ref 54), some (fI 0), some (.ref 7), some (.ref 15), some (fI ka), some (fI fa), some (fI (i + 1)), some (fI (lr.getD (0 + i).toNat 0)), some (fI 1)]) rfl rfl (Nat.le_of_ble_eq_true rfl) rfl ?_
            refine ik_Wk 1 (pc_q := 21) (loc_q := [some (.ref 54), some (fI 0), some (.ref 7), some (.ref 15), some (fI ka), some (fI fa), some (fI (i + 1)), some (fI (lr.getD (0 + i).toNat 0)), some (fI 1)]) (st_q := []) (h_q := u) (cl_q := 0) (sl_q := 0) rfl ?_
            have hG : (mj_ok W pl ka pa fa lr 0) i = true := by
              show (if i < fa then _ else if i = fa then _ else _) = _
              split
              · exact decide_eq_true (by omega)
              · first | exact decide_eq_true (by omega) | (rw [if_pos (by omega)]; exact decide_eq_true (by omega))
            exact ih  (i + 1) (some (fI (lr.getD (0 + i).toNat 0))) (some (fI 1)) u u7 u11 n11 u12 n12 u13 n13 u15 u54 u55 n55 u56 ul F (by omega) (by rw [he, mj_fw_s (by omega), hG, if_pos rfl]) rfl rfl (by omega)
          · refine ik_Wk 4 (pc_q := 133) (loc_q := [some (.ref 54), some (fI 0), some (.ref 7), some (.ref 15), some (fI ka), some (fI fa), some (fI i), some (fI (lr.getD (0 + i).toNat 0)), some (fI 0)]) (st_q := [fI 0]) (h_q := u) (cl_q := 0) (sl_q := 0) rfl ?_
            refine fw_if_ne rfl rfl (by decide +kernel) (by decide +kernel) (fun hc7 => ?_) (fun hc7 => absurd hc7 (by decide +kernel))
            refine ik_Wk 1 (pc_q := 138) (loc_q := [some (.ref 54), some (fI 0), some (.ref 7), some (.ref 15), some (fI ka), some (fI fa), some (fI i), some (fI (lr.getD (0 + i).toNat 0)), some (fI 0)]) (st_q := [fI i]) (h_q := u) (cl_q := 0) (sl_q := 0) rfl ?_
            have hG : (mj_ok W pl ka pa fa lr 0) i = false := by
              show (if i < fa then _ else if i = fa then _ else _) = _
              split
              · exact decide_eq_false (by omega)
              · first | exact decide_eq_false (by omega) | (rw [if_pos (by omega)]; exact decide_eq_false (by omega))
            exact ik_Wret rfl rfl ⟨_, _, rfl, rfl, rfl, rfl, ⟨(congrArg (fun z => [fI z]) (by rw [he, mj_fw_s (by omega), hG, if_neg (by decide +kernel)])), F⟩⟩
        · refine ik_Wk 2 (pc_q := 101) (loc_q := [some (.ref 54), some (fI 0), some (.ref 7), some (.ref 15), some (fI ka), some (fI fa), some (fI i), some (fI (lr.getD (0 + i).toNat 0)), x8]) (st_q := [.ref 54, .ref 7]) (h_q := u) (cl_q := 0) (sl_q := 0) rfl ?_
          refine fw_gf rfl rfl u54 rfl ?_
          refine ik_Wk 1 (pc_q := 105) (loc_q := [some (.ref 54), some (fI 0), some (.ref 7), some (.ref 15), some (fI ka), some (fI fa), some (fI i), some (fI (lr.getD (0 + i).toNat 0)), x8]) (st_q := [fI 0, .ref 55, .ref 7]) (h_q := u) (cl_q := 0) (sl_q := 0) rfl ?_
          refine fw_bi rfl (by decide +kernel) ?_
          refine fw_mul rfl ?_
          refine ik_Wk 1 (pc_q := 110) (loc_q := [some (.ref 54), some (fI 0), some (.ref 7), some (.ref 15), some (fI ka), some (fI fa), some (fI i), some (fI (lr.getD (0 + i).toNat 0)), x8]) (st_q := [fI i, fI 0, .ref 55, .ref 7]) (h_q := u) (cl_q := 0) (sl_q := 0) rfl ?_
          refine fw_add rfl ?_
          refine ik_Wk 1 (pc_q := 112) (loc_q := [some (.ref 54), some (fI 0), some (.ref 7), some (.ref 15), some (fI ka), some (fI fa), some (fI i), some (fI (lr.getD (0 + i).toNat 0)), x8]) (st_q := [fI 1, fI (0 + i), .ref 55, .ref 7]) (h_q := u) (cl_q := 0) (sl_q := 0) rfl ?_
          refine fw_sub rfl ?_
          refine fw_ial rfl u55 (by omega) (by omega) (by omega) ?_
          have hl8 := q7 (i - 1).toNat (by omega)
          rw [show 0 + (i - 1).toNat = ((0 + i) - 1).toNat by omega] at hl8
          refine ik_Wk 4 (pc_q := 122) (loc_q := [some (.ref 54), some (fI 0), some (.ref 7), some (.ref 15), some (fI ka), some (fI fa), some (fI i), some (fI (lr.getD (0 + i).toNat 0)), x8]) (st_q := [fI fa, fI i, fI ka, fI (lr.getD (0 + i).toNat 0), fI (lr.getD ((0 + i) - 1).toNat 0), .ref 7]) (h_q := u) (cl_q := 0) (sl_q := 0) rfl ?_
          refine fw_sub rfl ?_
          refine ik_Wc 125 2 4 [fI ka, fI (i - fa)] [fI (lr.getD (0 + i).toNat 0), fI (lr.getD ((0 + i) - 1).toNat 0), .ref 7] rfl rfl rfl (by decide +kernel) rfl rfl (fw_sta ul (fw_ftx rfl (wv_c rfl (wv_c rfl (wv_c rfl wv_n))) (wl_c rfl (wl_c rfl (wl_c rfl (wl_c rfl (wl_c rfl (wl_c rfl (wl_c rfl (wl_c rfl (wl_c w8 wl_n)))))))))) (by decide +kernel)) ?_
          refine ik_Wk 0 (pc_q := 0) (loc_q := [some (fI ka), some (fI (i - fa))]) (st_q := []) (h_q := u) (cl_q := 0) (sl_q := 0) rfl ?_
          refine ik_Wk 2 (pc_q := 2) (loc_q := [some (fI ka), some (fI (i - fa))]) (st_q := [fI 1, fI ka]) (h_q := u) (cl_q := 0) (sl_q := 0) rfl ?_
          refine fw_ic_ne rfl rfl (by omega) (by omega) (by omega) (by omega) (fun hc9 => ?_) (fun hc9 => ?_)
          · refine ik_Wk 1 (pc_q := 6) (loc_q := [some (fI ka), some (fI (i - fa))]) (st_q := [fI 2]) (h_q := u) (cl_q := 0) (sl_q := 0) rfl ?_
            refine ik_Wret rfl rfl ⟨_, _, rfl, rfl, ?_⟩
            refine ik_Wk 0 (pc_q := 126) (loc_q := [some (.ref 54), some (fI 0), some (.ref 7), some (.ref 15), some (fI ka), some (fI fa), some (fI i), some (fI (lr.getD (0 + i).toNat 0)), x8]) (st_q := [fI 2, fI (lr.getD (0 + i).toNat 0), fI (lr.getD ((0 + i) - 1).toNat 0), .ref 7]) (h_q := u) (cl_q := 0) (sl_q := 0) rfl ?_
            refine fw_call 19 4 0 [.ref 7, fI (lr.getD ((0 + i) - 1).toNat 0), fI (lr.getD (0 + i).toNat 0), fI 2] [] rfl rfl rfl (Nat.le_of_ble_eq_true rfl) rfl rfl (fw_rec ul (fw_ftx rfl wv_n (wl_c rfl (wl_c rfl (wl_c rfl (wl_c rfl (wl_c rfl (wl_c rfl (wl_c rfl (wl_c rfl (wl_c w8 wl_n)))))))))) u7 rfl (by decide +kernel)) (cs_leads (p := lr.getD ((0 + i) - 1).toNat 0) (q := lr.getD (0 + i).toNat 0) (n := 2) (pl := pl) (lo := lo) (s := s) (wg := wg) (wc := wc) (we := we) (by omega) q1 q2 (by omega) (by omega) (by omega) u7 u11 n11 u12 n12 u13 n13 ul) ?_
            rintro _ h_332 (⟨rfl, p_332_0, F_332⟩ | ⟨rfl, p_332_0, F_332⟩)
            · have k_332 : cL h_332 := F_332.1.trans ul
              have fr_332 := hfr_cb F F_332 rfl
              have g_332_7 := (hfr_g F_332 7 rfl).trans u7
              have g_332_11 := (hfr_g F_332 11 rfl).trans u11
              have g_332_12 := (hfr_g F_332 12 rfl).trans u12
              have g_332_13 := (hfr_g F_332 13 rfl).trans u13
              have g_332_15 := (hfr_g F_332 15 rfl).trans u15
              have g_332_54 := (hfr_g F_332 54 rfl).trans u54
              have g_332_55 := (hfr_g F_332 55 rfl).trans u55
              have g_332_56 := (hfr_g F_332 56 rfl).trans u56
              refine ik_Wk 0 (pc_q := 129) (loc_q := [some (.ref 54), some (fI 0), some (.ref 7), some (.ref 15), some (fI ka), some (fI fa), some (fI i), some (fI (lr.getD (0 + i).toNat 0)), x8]) (st_q := [fI 1]) (h_q := h_332) (cl_q := 0) (sl_q := 0) rfl ?_
              refine ik_Wk 2 (pc_q := 133) (loc_q := [some (.ref 54), some (fI 0), some (.ref 7), some (.ref 15), some (fI ka), some (fI fa), some (fI i), some (fI (lr.getD (0 + i).toNat 0)), some (fI 1)]) (st_q := [fI 1]) (h_q := h_332) (cl_q := 0) (sl_q := 0) rfl ?_
              refine fw_if_ne rfl rfl (by decide +kernel) (by decide +kernel) (fun hc10 => absurd hc10 (by decide +kernel)) (fun hc10 => ?_)
              refine fw_inc (a := i) (loc_q := [some (.ref 54), some (fI 0), some (.ref 7), some (.ref 15), some (fI ka), some (fI fa), some (fI (i + 1)), some (fI (lr.getD (0 + i).toNat 0)), some (fI 1)]) rfl rfl (Nat.le_of_ble_eq_true rfl) rfl ?_
              refine ik_Wk 1 (pc_q := 21) (loc_q := [some (.ref 54), some (fI 0), some (.ref 7), some (.ref 15), some (fI ka), some (fI fa), some (fI (i + 1)), some (fI (lr.getD (0 + i).toNat 0)), some (fI 1)]) (st_q := []) (h_q := h_332) (cl_q := 0) (sl_q := 0) rfl ?_
              have et : mx_tm ka (i - fa) = 2 := by unfold mx_tm; (repeat' split) <;> omega
              have hG : (mj_ok W pl ka pa fa lr 0) i = true := by
                show (if i < fa then _ else if i = fa then _ else _) = _
                rw [if_neg (by omega), if_neg (by omega), et]
                exact p_332_0
              exact ih  (i + 1) (some (fI (lr.getD (0 + i).toNat 0))) (some (fI 1)) h_332 g_332_7 g_332_11 n11 g_332_12 n12 g_332_13 n13 g_332_15 g_332_54 g_332_55 n55 g_332_56 k_332 fr_332 (by omega) (by rw [he, mj_fw_s (by omega), hG, if_pos rfl]) rfl rfl (by omega)
            · have k_332 : cL h_332 := F_332.1.trans ul
              have fr_332 := hfr_cb F F_332 rfl
              have g_332_7 := (hfr_g F_332 7 rfl).trans u7
              have g_332_11 := (hfr_g F_332 11 rfl).trans u11
              have g_332_12 := (hfr_g F_332 12 rfl).trans u12
              have g_332_13 := (hfr_g F_332 13 rfl).trans u13
              have g_332_15 := (hfr_g F_332 15 rfl).trans u15
              have g_332_54 := (hfr_g F_332 54 rfl).trans u54
              have g_332_55 := (hfr_g F_332 55 rfl).trans u55
              have g_332_56 := (hfr_g F_332 56 rfl).trans u56
              refine ik_Wk 0 (pc_q := 129) (loc_q := [some (.ref 54), some (fI 0), some (.ref 7), some (.ref 15), some (fI ka), some (fI fa), some (fI i), some (fI (lr.getD (0 + i).toNat 0)), x8]) (st_q := [fI 0]) (h_q := h_332) (cl_q := 0) (sl_q := 0) rfl ?_
              refine ik_Wk 2 (pc_q := 133) (loc_q := [some (.ref 54), some (fI 0), some (.ref 7), some (.ref 15), some (fI ka), some (fI fa), some (fI i), some (fI (lr.getD (0 + i).toNat 0)), some (fI 0)]) (st_q := [fI 0]) (h_q := h_332) (cl_q := 0) (sl_q := 0) rfl ?_
              refine fw_if_ne rfl rfl (by decide +kernel) (by decide +kernel) (fun hc11 => ?_) (fun hc11 => absurd hc11 (by decide +kernel))
              refine ik_Wk 1 (pc_q := 138) (loc_q := [some (.ref 54), some (fI 0), some (.ref 7), some (.ref 15), some (fI ka), some (fI fa), some (fI i), some (fI (lr.getD (0 + i).toNat 0)), some (fI 0)]) (st_q := [fI i]) (h_q := h_332) (cl_q := 0) (sl_q := 0) rfl ?_
              have et : mx_tm ka (i - fa) = 2 := by unfold mx_tm; (repeat' split) <;> omega
              have hG : (mj_ok W pl ka pa fa lr 0) i = false := by
                show (if i < fa then _ else if i = fa then _ else _) = _
                rw [if_neg (by omega), if_neg (by omega), et]
                exact p_332_0
              exact ik_Wret rfl rfl ⟨_, _, rfl, rfl, rfl, rfl, ⟨(congrArg (fun z => [fI z]) (by rw [he, mj_fw_s (by omega), hG, if_neg (by decide +kernel)])), fr_332⟩⟩
          · refine ik_Wk 2 (pc_q := 9) (loc_q := [some (fI ka), some (fI (i - fa))]) (st_q := [fI 2, fI ka]) (h_q := u) (cl_q := 0) (sl_q := 0) rfl ?_
            refine fw_ic_ne rfl rfl (by omega) (by omega) (by omega) (by omega) (fun hc12 => ?_) (fun hc12 => ?_)
            · refine ik_Wk 2 (pc_q := 14) (loc_q := [some (fI ka), some (fI (i - fa))]) (st_q := [fI 2, fI (i - fa)]) (h_q := u) (cl_q := 0) (sl_q := 0) rfl ?_
              refine fx_irem rfl (by omega) (by omega) (by omega) (by omega) ?_
              refine fw_if_eq rfl rfl (by omega) (by omega) (fun hc13 => ?_) (fun hc13 => ?_)
              · refine ik_Wk 1 (pc_q := 23) (loc_q := [some (fI ka), some (fI (i - fa))]) (st_q := [fI 1]) (h_q := u) (cl_q := 0) (sl_q := 0) rfl ?_
                refine ik_Wret rfl rfl ⟨_, _, rfl, rfl, ?_⟩
                refine ik_Wk 0 (pc_q := 126) (loc_q := [some (.ref 54), some (fI 0), some (.ref 7), some (.ref 15), some (fI ka), some (fI fa), some (fI i), some (fI (lr.getD (0 + i).toNat 0)), x8]) (st_q := [fI 1, fI (lr.getD (0 + i).toNat 0), fI (lr.getD ((0 + i) - 1).toNat 0), .ref 7]) (h_q := u) (cl_q := 0) (sl_q := 0) rfl ?_
                refine fw_call 19 4 0 [.ref 7, fI (lr.getD ((0 + i) - 1).toNat 0), fI (lr.getD (0 + i).toNat 0), fI 1] [] rfl rfl rfl (Nat.le_of_ble_eq_true rfl) rfl rfl (fw_rec ul (fw_ftx rfl wv_n (wl_c rfl (wl_c rfl (wl_c rfl (wl_c rfl (wl_c rfl (wl_c rfl (wl_c rfl (wl_c rfl (wl_c w8 wl_n)))))))))) u7 rfl (by decide +kernel)) (cs_leads (p := lr.getD ((0 + i) - 1).toNat 0) (q := lr.getD (0 + i).toNat 0) (n := 1) (pl := pl) (lo := lo) (s := s) (wg := wg) (wc := wc) (we := we) (by omega) q1 q2 (by omega) (by omega) (by omega) u7 u11 n11 u12 n12 u13 n13 ul) ?_
                rintro _ h_333 (⟨rfl, p_333_0, F_333⟩ | ⟨rfl, p_333_0, F_333⟩)
                · have k_333 : cL h_333 := F_333.1.trans ul
                  have fr_333 := hfr_cb F F_333 rfl
                  have g_333_7 := (hfr_g F_333 7 rfl).trans u7
                  have g_333_11 := (hfr_g F_333 11 rfl).trans u11
                  have g_333_12 := (hfr_g F_333 12 rfl).trans u12
                  have g_333_13 := (hfr_g F_333 13 rfl).trans u13
                  have g_333_15 := (hfr_g F_333 15 rfl).trans u15
                  have g_333_54 := (hfr_g F_333 54 rfl).trans u54
                  have g_333_55 := (hfr_g F_333 55 rfl).trans u55
                  have g_333_56 := (hfr_g F_333 56 rfl).trans u56
                  refine ik_Wk 0 (pc_q := 129) (loc_q := [some (.ref 54), some (fI 0), some (.ref 7), some (.ref 15), some (fI ka), some (fI fa), some (fI i), some (fI (lr.getD (0 + i).toNat 0)), x8]) (st_q := [fI 1]) (h_q := h_333) (cl_q := 0) (sl_q := 0) rfl ?_
                  refine ik_Wk 2 (pc_q := 133) (loc_q := [some (.ref 54), some (fI 0), some (.ref 7), some (.ref 15), some (fI ka), some (fI fa), some (fI i), some (fI (lr.getD (0 + i).toNat 0)), some (fI 1)]) (st_q := [fI 1]) (h_q := h_333) (cl_q := 0) (sl_q := 0) rfl ?_
                  refine fw_if_ne rfl rfl (by decide +kernel) (by decide +kernel) (fun hc14 => absurd hc14 (by decide +kernel)) (fun hc14 => ?_)
                  refine fw_inc (a := i) (loc_q := [some (.ref 54), some (fI 0), some (.ref 7), some (.ref 15), some (fI ka), some (fI fa), some (fI (i + 1)), some (fI (lr.getD (0 + i).toNat 0)), some (fI 1)]) rfl rfl (Nat.le_of_ble_eq_true rfl) rfl ?_
                  refine ik_Wk 1 (pc_q := 21) (loc_q := [some (.ref 54), some (fI 0), some (.ref 7), some (.ref 15), some (fI ka), some (fI fa), some (fI (i + 1)), some (fI (lr.getD (0 + i).toNat 0)), some (fI 1)]) (st_q := []) (h_q := h_333) (cl_q := 0) (sl_q := 0) rfl ?_
                  have et : mx_tm ka (i - fa) = 1 := by unfold mx_tm; (repeat' split) <;> omega
                  have hG : (mj_ok W pl ka pa fa lr 0) i = true := by
                    show (if i < fa then _ else if i = fa then _ else _) = _
                    rw [if_neg (by omega), if_neg (by omega), et]
                    exact p_333_0
                  exact ih  (i + 1) (some (fI (lr.getD (0 + i).toNat 0))) (some (fI 1)) h_333 g_333_7 g_333_11 n11 g_333_12 n12 g_333_13 n13 g_333_15 g_333_54 g_333_55 n55 g_333_56 k_333 fr_333 (by omega) (by rw [he, mj_fw_s (by omega), hG, if_pos rfl]) rfl rfl (by omega)
                · have k_333 : cL h_333 := F_333.1.trans ul
                  have fr_333 := hfr_cb F F_333 rfl
                  have g_333_7 := (hfr_g F_333 7 rfl).trans u7
                  have g_333_11 := (hfr_g F_333 11 rfl).trans u11
                  have g_333_12 := (hfr_g F_333 12 rfl).trans u12
                  have g_333_13 := (hfr_g F_333 13 rfl).trans u13
                  have g_333_15 := (hfr_g F_333 15 rfl).trans u15
                  have g_333_54 := (hfr_g F_333 54 rfl).trans u54
                  have g_333_55 := (hfr_g F_333 55 rfl).trans u55
                  have g_333_56 := (hfr_g F_333 56 rfl).trans u56
                  refine ik_Wk 0 (pc_q := 129) (loc_q := [some (.ref 54), some (fI 0), some (.ref 7), some (.ref 15), some (fI ka), some (fI fa), some (fI i), some (fI (lr.getD (0 + i).toNat 0)), x8]) (st_q := [fI 0]) (h_q := h_333) (cl_q := 0) (sl_q := 0) rfl ?_
                  refine ik_Wk 2 (pc_q := 133) (loc_q := [some (.ref 54), some (fI 0), some (.ref 7), some (.ref 15), some (fI ka), some (fI fa), some (fI i), some (fI (lr.getD (0 + i).toNat 0)), some (fI 0)]) (st_q := [fI 0]) (h_q := h_333) (cl_q := 0) (sl_q := 0) rfl ?_
                  refine fw_if_ne rfl rfl (by decide +kernel) (by decide +kernel) (fun hc15 => ?_) (fun hc15 => absurd hc15 (by decide +kernel))
                  refine ik_Wk 1 (pc_q := 138) (loc_q := [some (.ref 54), some (fI 0), some (.ref 7), some (.ref 15), some (fI ka), some (fI fa), some (fI i), some (fI (lr.getD (0 + i).toNat 0)), some (fI 0)]) (st_q := [fI i]) (h_q := h_333) (cl_q := 0) (sl_q := 0) rfl ?_
                  have et : mx_tm ka (i - fa) = 1 := by unfold mx_tm; (repeat' split) <;> omega
                  have hG : (mj_ok W pl ka pa fa lr 0) i = false := by
                    show (if i < fa then _ else if i = fa then _ else _) = _
                    rw [if_neg (by omega), if_neg (by omega), et]
                    exact p_333_0
                  exact ik_Wret rfl rfl ⟨_, _, rfl, rfl, rfl, rfl, ⟨(congrArg (fun z => [fI z]) (by rw [he, mj_fw_s (by omega), hG, if_neg (by decide +kernel)])), fr_333⟩⟩
              · refine ik_Wk 2 (pc_q := 23) (loc_q := [some (fI ka), some (fI (i - fa))]) (st_q := [fI 0]) (h_q := u) (cl_q := 0) (sl_q := 0) rfl ?_
                refine ik_Wret rfl rfl ⟨_, _, rfl, rfl, ?_⟩
                refine ik_Wk 0 (pc_q := 126) (loc_q := [some (.ref 54), some (fI 0), some (.ref 7), some (.ref 15), some (fI ka), some (fI fa), some (fI i), some (fI (lr.getD (0 + i).toNat 0)), x8]) (st_q := [fI 0, fI (lr.getD (0 + i).toNat 0), fI (lr.getD ((0 + i) - 1).toNat 0), .ref 7]) (h_q := u) (cl_q := 0) (sl_q := 0) rfl ?_
                refine fw_call 19 4 0 [.ref 7, fI (lr.getD ((0 + i) - 1).toNat 0), fI (lr.getD (0 + i).toNat 0), fI 0] [] rfl rfl rfl (Nat.le_of_ble_eq_true rfl) rfl rfl (fw_rec ul (fw_ftx rfl wv_n (wl_c rfl (wl_c rfl (wl_c rfl (wl_c rfl (wl_c rfl (wl_c rfl (wl_c rfl (wl_c rfl (wl_c w8 wl_n)))))))))) u7 rfl (by decide +kernel)) (cs_leads (p := lr.getD ((0 + i) - 1).toNat 0) (q := lr.getD (0 + i).toNat 0) (n := 0) (pl := pl) (lo := lo) (s := s) (wg := wg) (wc := wc) (we := we) (by omega) q1 q2 (by omega) (by omega) (by omega) u7 u11 n11 u12 n12 u13 n13 ul) ?_
                rintro _ h_334 (⟨rfl, p_334_0, F_334⟩ | ⟨rfl, p_334_0, F_334⟩)
                · have k_334 : cL h_334 := F_334.1.trans ul
                  have fr_334 := hfr_cb F F_334 rfl
                  have g_334_7 := (hfr_g F_334 7 rfl).trans u7
                  have g_334_11 := (hfr_g F_334 11 rfl).trans u11
                  have g_334_12 := (hfr_g F_334 12 rfl).trans u12
                  have g_334_13 := (hfr_g F_334 13 rfl).trans u13
                  have g_334_15 := (hfr_g F_334 15 rfl).trans u15
                  have g_334_54 := (hfr_g F_334 54 rfl).trans u54
                  have g_334_55 := (hfr_g F_334 55 rfl).trans u55
                  have g_334_56 := (hfr_g F_334 56 rfl).trans u56
                  refine ik_Wk 0 (pc_q := 129) (loc_q := [some (.ref 54), some (fI 0), some (.ref 7), some (.ref 15), some (fI ka), some (fI fa), some (fI i), some (fI (lr.getD (0 + i).toNat 0)), x8]) (st_q := [fI 1]) (h_q := h_334) (cl_q := 0) (sl_q := 0) rfl ?_
                  refine ik_Wk 2 (pc_q := 133) (loc_q := [some (.ref 54), some (fI 0), some (.ref 7), some (.ref 15), some (fI ka), some (fI fa), some (fI i), some (fI (lr.getD (0 + i).toNat 0)), some (fI 1)]) (st_q := [fI 1]) (h_q := h_334) (cl_q := 0) (sl_q := 0) rfl ?_
                  refine fw_if_ne rfl rfl (by decide +kernel) (by decide +kernel) (fun hc16 => absurd hc16 (by decide +kernel)) (fun hc16 => ?_)
                  refine fw_inc (a := i) (loc_q := [some (.ref 54), some (fI 0), some (.ref 7), some (.ref 15), some (fI ka), some (fI fa), some (fI (i + 1)), some (fI (lr.getD (0 + i).toNat 0)), some (fI 1)]) rfl rfl (Nat.le_of_ble_eq_true rfl) rfl ?_
                  refine ik_Wk 1 (pc_q := 21) (loc_q := [some (.ref 54), some (fI 0), some (.ref 7), some (.ref 15), some (fI ka), some (fI fa), some (fI (i + 1)), some (fI (lr.getD (0 + i).toNat 0)), some (fI 1)]) (st_q := []) (h_q := h_334) (cl_q := 0) (sl_q := 0) rfl ?_
                  have et : mx_tm ka (i - fa) = 0 := by unfold mx_tm; (repeat' split) <;> omega
                  have hG : (mj_ok W pl ka pa fa lr 0) i = true := by
                    show (if i < fa then _ else if i = fa then _ else _) = _
                    rw [if_neg (by omega), if_neg (by omega), et]
                    exact p_334_0
                  exact ih  (i + 1) (some (fI (lr.getD (0 + i).toNat 0))) (some (fI 1)) h_334 g_334_7 g_334_11 n11 g_334_12 n12 g_334_13 n13 g_334_15 g_334_54 g_334_55 n55 g_334_56 k_334 fr_334 (by omega) (by rw [he, mj_fw_s (by omega), hG, if_pos rfl]) rfl rfl (by omega)
                · have k_334 : cL h_334 := F_334.1.trans ul
                  have fr_334 := hfr_cb F F_334 rfl
                  have g_334_7 := (hfr_g F_334 7 rfl).trans u7
                  have g_334_11 := (hfr_g F_334 11 rfl).trans u11
                  have g_334_12 := (hfr_g F_334 12 rfl).trans u12
                  have g_334_13 := (hfr_g F_334 13 rfl).trans u13
                  have g_334_15 := (hfr_g F_334 15 rfl).trans u15
                  have g_334_54 := (hfr_g F_334 54 rfl).trans u54
                  have g_334_55 := (hfr_g F_334 55 rfl).trans u55
                  have g_334_56 := (hfr_g F_334 56 rfl).trans u56
                  refine ik_Wk 0 (pc_q := 129) (loc_q := [some (.ref 54), some (fI 0), some (.ref 7), some (.ref 15), some (fI ka), some (fI fa), some (fI i), some (fI (lr.getD (0 + i).toNat 0)), x8]) (st_q := [fI 0]) (h_q := h_334) (cl_q := 0) (sl_q := 0) rfl ?_
                  refine ik_Wk 2 (pc_q := 133) (loc_q := [some (.ref 54), some (fI 0), some (.ref 7), some (.ref 15), some (fI ka), some (fI fa), some (fI i), some (fI (lr.getD (0 + i).toNat 0)), some (fI 0)]) (st_q := [fI 0]) (h_q := h_334) (cl_q := 0) (sl_q := 0) rfl ?_
                  refine fw_if_ne rfl rfl (by decide +kernel) (by decide +kernel) (fun hc17 => ?_) (fun hc17 => absurd hc17 (by decide +kernel))
                  refine ik_Wk 1 (pc_q := 138) (loc_q := [some (.ref 54), some (fI 0), some (.ref 7), some (.ref 15), some (fI ka), some (fI fa), some (fI i), some (fI (lr.getD (0 + i).toNat 0)), some (fI 0)]) (st_q := [fI i]) (h_q := h_334) (cl_q := 0) (sl_q := 0) rfl ?_
                  have et : mx_tm ka (i - fa) = 0 := by unfold mx_tm; (repeat' split) <;> omega
                  have hG : (mj_ok W pl ka pa fa lr 0) i = false := by
                    show (if i < fa then _ else if i = fa then _ else _) = _
                    rw [if_neg (by omega), if_neg (by omega), et]
                    exact p_334_0
                  exact ik_Wret rfl rfl ⟨_, _, rfl, rfl, rfl, rfl, ⟨(congrArg (fun z => [fI z]) (by rw [he, mj_fw_s (by omega), hG, if_neg (by decide +kernel)])), fr_334⟩⟩
            · refine ik_Wk 1 (pc_q := 23) (loc_q := [some (fI ka), some (fI (i - fa))]) (st_q := [fI 1]) (h_q := u) (cl_q := 0) (sl_q := 0) rfl ?_
              refine ik_Wret rfl rfl ⟨_, _, rfl, rfl, ?_⟩
              refine ik_Wk 0 (pc_q := 126) (loc_q := [some (.ref 54), some (fI 0), some (.ref 7), some (.ref 15), some (fI ka), some (fI fa), some (fI i), some (fI (lr.getD (0 + i).toNat 0)), x8]) (st_q := [fI 1, fI (lr.getD (0 + i).toNat 0), fI (lr.getD ((0 + i) - 1).toNat 0), .ref 7]) (h_q := u) (cl_q := 0) (sl_q := 0) rfl ?_
              refine fw_call 19 4 0 [.ref 7, fI (lr.getD ((0 + i) - 1).toNat 0), fI (lr.getD (0 + i).toNat 0), fI 1] [] rfl rfl rfl (Nat.le_of_ble_eq_true rfl) rfl rfl (fw_rec ul (fw_ftx rfl wv_n (wl_c rfl (wl_c rfl (wl_c rfl (wl_c rfl (wl_c rfl (wl_c rfl (wl_c rfl (wl_c rfl (wl_c w8 wl_n)))))))))) u7 rfl (by decide +kernel)) (cs_leads (p := lr.getD ((0 + i) - 1).toNat 0) (q := lr.getD (0 + i).toNat 0) (n := 1) (pl := pl) (lo := lo) (s := s) (wg := wg) (wc := wc) (we := we) (by omega) q1 q2 (by omega) (by omega) (by omega) u7 u11 n11 u12 n12 u13 n13 ul) ?_
              rintro _ h_335 (⟨rfl, p_335_0, F_335⟩ | ⟨rfl, p_335_0, F_335⟩)
              · have k_335 : cL h_335 := F_335.1.trans ul
                have fr_335 := hfr_cb F F_335 rfl
                have g_335_7 := (hfr_g F_335 7 rfl).trans u7
                have g_335_11 := (hfr_g F_335 11 rfl).trans u11
                have g_335_12 := (hfr_g F_335 12 rfl).trans u12
                have g_335_13 := (hfr_g F_335 13 rfl).trans u13
                have g_335_15 := (hfr_g F_335 15 rfl).trans u15
                have g_335_54 := (hfr_g F_335 54 rfl).trans u54
                have g_335_55 := (hfr_g F_335 55 rfl).trans u55
                have g_335_56 := (hfr_g F_335 56 rfl).trans u56
                refine ik_Wk 0 (pc_q := 129) (loc_q := [some (.ref 54), some (fI 0), some (.ref 7), some (.ref 15), some (fI ka), some (fI fa), some (fI i), some (fI (lr.getD (0 + i).toNat 0)), x8]) (st_q := [fI 1]) (h_q := h_335) (cl_q := 0) (sl_q := 0) rfl ?_
                refine ik_Wk 2 (pc_q := 133) (loc_q := [some (.ref 54), some (fI 0), some (.ref 7), some (.ref 15), some (fI ka), some (fI fa), some (fI i), some (fI (lr.getD (0 + i).toNat 0)), some (fI 1)]) (st_q := [fI 1]) (h_q := h_335) (cl_q := 0) (sl_q := 0) rfl ?_
                refine fw_if_ne rfl rfl (by decide +kernel) (by decide +kernel) (fun hc18 => absurd hc18 (by decide +kernel)) (fun hc18 => ?_)
                refine fw_inc (a := i) (loc_q := [some (.ref 54), some (fI 0), some (.ref 7), some (.ref 15), some (fI ka), some (fI fa), some (fI (i + 1)), some (fI (lr.getD (0 + i).toNat 0)), some (fI 1)]) rfl rfl (Nat.le_of_ble_eq_true rfl) rfl ?_
                refine ik_Wk 1 (pc_q := 21) (loc_q := [some (.ref 54), some (fI 0), some (.ref 7), some (.ref 15), some (fI ka), some (fI fa), some (fI (i + 1)), some (fI (lr.getD (0 + i).toNat 0)), some (fI 1)]) (st_q := []) (h_q := h_335) (cl_q := 0) (sl_q := 0) rfl ?_
                have et : mx_tm ka (i - fa) = 1 := by unfold mx_tm; (repeat' split) <;> omega
                have hG : (mj_ok W pl ka pa fa lr 0) i = true := by
                  show (if i < fa then _ else if i = fa then _ else _) = _
                  rw [if_neg (by omega), if_neg (by omega), et]
                  exact p_335_0
                exact ih  (i + 1) (some (fI (lr.getD (0 + i).toNat 0))) (some (fI 1)) h_335 g_335_7 g_335_11 n11 g_335_12 n12 g_335_13 n13 g_335_15 g_335_54 g_335_55 n55 g_335_56 k_335 fr_335 (by omega) (by rw [he, mj_fw_s (by omega), hG, if_pos rfl]) rfl rfl (by omega)
              · have k_335 : cL h_335 := F_335.1.trans ul
                have fr_335 := hfr_cb F F_335 rfl
                have g_335_7 := (hfr_g F_335 7 rfl).trans u7
                have g_335_11 := (hfr_g F_335 11 rfl).trans u11
                have g_335_12 := (hfr_g F_335 12 rfl).trans u12
                have g_335_13 := (hfr_g F_335 13 rfl).trans u13
                have g_335_15 := (hfr_g F_335 15 rfl).trans u15
                have g_335_54 := (hfr_g F_335 54 rfl).trans u54
                have g_335_55 := (hfr_g F_335 55 rfl).trans u55
                have g_335_56 := (hfr_g F_335 56 rfl).trans u56
                refine ik_Wk 0 (pc_q := 129) (loc_q := [some (.ref 54), some (fI 0), some (.ref 7), some (.ref 15), some (fI ka), some (fI fa), some (fI i), some (fI (lr.getD (0 + i).toNat 0)), x8]) (st_q := [fI 0]) (h_q := h_335) (cl_q := 0) (sl_q := 0) rfl ?_
                refine ik_Wk 2 (pc_q := 133) (loc_q := [some (.ref 54), some (fI 0), some (.ref 7), some (.ref 15), some (fI ka), some (fI fa), some (fI i), some (fI (lr.getD (0 + i).toNat 0)), some (fI 0)]) (st_q := [fI 0]) (h_q := h_335) (cl_q := 0) (sl_q := 0) rfl ?_
                refine fw_if_ne rfl rfl (by decide +kernel) (by decide +kernel) (fun hc19 => ?_) (fun hc19 => absurd hc19 (by decide +kernel))
                refine ik_Wk 1 (pc_q := 138) (loc_q := [some (.ref 54), some (fI 0), some (.ref 7), some (.ref 15), some (fI ka), some (fI fa), some (fI i), some (fI (lr.getD (0 + i).toNat 0)), some (fI 0)]) (st_q := [fI i]) (h_q := h_335) (cl_q := 0) (sl_q := 0) rfl ?_
                have et : mx_tm ka (i - fa) = 1 := by unfold mx_tm; (repeat' split) <;> omega
                have hG : (mj_ok W pl ka pa fa lr 0) i = false := by
                  show (if i < fa then _ else if i = fa then _ else _) = _
                  rw [if_neg (by omega), if_neg (by omega), et]
                  exact p_335_0
                exact ik_Wret rfl rfl ⟨_, _, rfl, rfl, rfl, rfl, ⟨(congrArg (fun z => [fI z]) (by rw [he, mj_fw_s (by omega), hG, if_neg (by decide +kernel)])), fr_335⟩⟩
      · refine ik_Wk 1 (pc_q := 55) (loc_q := [some (.ref 54), some (fI 0), some (.ref 7), some (.ref 15), some (fI ka), some (fI fa), some (fI i), some (fI (lr.getD (0 + i).toNat 0)), x8]) (st_q := [fI (lr.getD (0 + i).toNat 0)]) (h_q := u) (cl_q := 0) (sl_q := 0) rfl ?_
        refine fw_bi rfl (by decide +kernel) ?_
        refine fw_ic_ne rfl rfl (by omega) (by omega) (by omega) (by omega) (fun hc20 => ?_) (fun hc20 => ?_)
        · refine ik_Wk 5 (pc_q := 133) (loc_q := [some (.ref 54), some (fI 0), some (.ref 7), some (.ref 15), some (fI ka), some (fI fa), some (fI i), some (fI (lr.getD (0 + i).toNat 0)), some (fI 1)]) (st_q := [fI 1]) (h_q := u) (cl_q := 0) (sl_q := 0) rfl ?_
          refine fw_if_ne rfl rfl (by decide +kernel) (by decide +kernel) (fun hc21 => absurd hc21 (by decide +kernel)) (fun hc21 => ?_)
          refine fw_inc (a := i) (loc_q := [some (.ref 54), some (fI 0), some (.ref 7), some (.ref 15), some (fI ka), some (fI fa), some (fI (i + 1)), some (fI (lr.getD (0 + i).toNat 0)), some (fI 1)]) rfl rfl (Nat.le_of_ble_eq_true rfl) rfl ?_
          refine ik_Wk 1 (pc_q := 21) (loc_q := [some (.ref 54), some (fI 0), some (.ref 7), some (.ref 15), some (fI ka), some (fI fa), some (fI (i + 1)), some (fI (lr.getD (0 + i).toNat 0)), some (fI 1)]) (st_q := []) (h_q := u) (cl_q := 0) (sl_q := 0) rfl ?_
          have hG : (mj_ok W pl ka pa fa lr 0) i = true := by
            show (if i < fa then _ else if i = fa then _ else _) = _
            split
            · exact decide_eq_true (by omega)
            · first | exact decide_eq_true (by omega) | (rw [if_pos (by omega)]; exact decide_eq_true (by omega))
          exact ih  (i + 1) (some (fI (lr.getD (0 + i).toNat 0))) (some (fI 1)) u u7 u11 n11 u12 n12 u13 n13 u15 u54 u55 n55 u56 ul F (by omega) (by rw [he, mj_fw_s (by omega), hG, if_pos rfl]) rfl rfl (by omega)
        · refine ik_Wk 4 (pc_q := 133) (loc_q := [some (.ref 54), some (fI 0), some (.ref 7), some (.ref 15), some (fI ka), some (fI fa), some (fI i), some (fI (lr.getD (0 + i).toNat 0)), some (fI 0)]) (st_q := [fI 0]) (h_q := u) (cl_q := 0) (sl_q := 0) rfl ?_
          refine fw_if_ne rfl rfl (by decide +kernel) (by decide +kernel) (fun hc22 => ?_) (fun hc22 => absurd hc22 (by decide +kernel))
          refine ik_Wk 1 (pc_q := 138) (loc_q := [some (.ref 54), some (fI 0), some (.ref 7), some (.ref 15), some (fI ka), some (fI fa), some (fI i), some (fI (lr.getD (0 + i).toNat 0)), some (fI 0)]) (st_q := [fI i]) (h_q := u) (cl_q := 0) (sl_q := 0) rfl ?_
          have hG : (mj_ok W pl ka pa fa lr 0) i = false := by
            show (if i < fa then _ else if i = fa then _ else _) = _
            split
            · exact decide_eq_false (by omega)
            · first | exact decide_eq_false (by omega) | (rw [if_pos (by omega)]; exact decide_eq_false (by omega))
          exact ik_Wret rfl rfl ⟨_, _, rfl, rfl, rfl, rfl, ⟨(congrArg (fun z => [fI z]) (by rw [he, mj_fw_s (by omega), hG, if_neg (by decide +kernel)])), F⟩⟩

theorem cs_wrong0 {h : List ik_E} {pl : Int} {lo : Int} {s : Nat} {n0 : Int} {n1 : Int} {ka : Int} {pa : Int} {fa : Int} {kb : Int} {pb : Int} {fb : Int} {lr : List Int} {wg : List Int} {wc : List Int} {we : List Int} {W : Int → List (Int × Int)} (q0 : 0 ≤ pl ∧ pl ≤ 12) (q1 : ∀ x : Int, (0 : Int) ≤ x → x < pl - 1 → mx_wy wg wc we x (W x)) (q2 : ∀ x : Int, (0 : Int) ≤ x → x < pl - 1 → mx_ok pl (W x)) (q3 : (0 : Int) ≤ ka ∧ ka ≤ (2 : Int)) (q4 : (0 : Int) ≤ pa ∧ pa ≤ (11 : Int)) (q5 : (0 : Int) ≤ fa ∧ fa ≤ (30 : Int)) (q6 : (0 : Int) ≤ n0 ∧ n0 ≤ (40 : Int)) (q7 : ∀ j : Nat, (j : Int) < n0 → lr.getD (0 + j) 0 = 12 ∨ (0 ≤ lr.getD (0 + j) 0 ∧ lr.getD (0 + j) (0 : Int) < pl)) (h7 : cE h 7 (.inr (0, [fI pl, fI ((s : Nat) : Int), fI lo, .ref 8, .ref 9, .ref 10, .ref 11, .ref 12, .ref 13]))) (h11 : cE h 11 (.inl (.int, fA wg))) (n11 : wg.length = (60 : Nat)) (h12 : cE h 12 (.inl (.int, fA wc))) (n12 : wc.length = (60 : Nat)) (h13 : cE h 13 (.inl (.int, fA we))) (n13 : we.length = (12 : Nat)) (h15 : cE h 15 (.inl (.int, fA [ka, pa, fa, kb, pb, fb]))) (h54 : cE h 54 (.inr (4, [.ref 55, .ref 56]))) (h55 : cE h 55 (.inl (.int, fA lr))) (n55 : lr.length = (80 : Nat)) (h56 : cE h 56 (.inl (.int, fA [n0, n1]))) (hl : h.length = (94 : Nat)) : ik_F 39 [.ref 54, fI 0, .ref 7, .ref 15] h (fun rv h_q => rv = [fI (mj_fw (mj_ok W pl ka pa fa lr 0) n0.toNat 0)] ∧ hfr [] h h_q) := by
  refine ik_Wk 3 (pc_q := 3) (loc_q := [some (.ref 54), some (fI 0), some (.ref 7), some (.ref 15), none, none, none, none, none]) (st_q := [fI 3, fI 0, .ref 15]) (h_q := h) (cl_q := 0) (sl_q := 0) rfl ?_
  refine fw_mul rfl ?_
  refine ik_Wk 1 (pc_q := 5) (loc_q := [some (.ref 54), some (fI 0), some (.ref 7), some (.ref 15), none, none, none, none, none]) (st_q := [fI 0, fI 0, .ref 15]) (h_q := h) (cl_q := 0) (sl_q := 0) rfl ?_
  refine fw_add rfl ?_
  refine fw_ial (z := 0) rfl h15 (by decide +kernel) (Nat.le_of_ble_eq_true rfl) (by decide +kernel) ?_
  refine ik_Wk 0 (pc_q := 7) (loc_q := [some (.ref 54), some (fI 0), some (.ref 7), some (.ref 15), none, none, none, none, none]) (st_q := [fI ka]) (h_q := h) (cl_q := 0) (sl_q := 0) rfl ?_
  refine ik_Wk 4 (pc_q := 12) (loc_q := [some (.ref 54), some (fI 0), some (.ref 7), some (.ref 15), some (fI ka), none, none, none, none]) (st_q := [fI 3, fI 0, .ref 15]) (h_q := h) (cl_q := 0) (sl_q := 0) rfl ?_
  refine fw_mul rfl ?_
  refine ik_Wk 1 (pc_q := 14) (loc_q := [some (.ref 54), some (fI 0), some (.ref 7), some (.ref 15), some (fI ka), none, none, none, none]) (st_q := [fI 2, fI 0, .ref 15]) (h_q := h) (cl_q := 0) (sl_q := 0) rfl ?_
  refine fw_add rfl ?_
  refine fw_ial (z := 2) rfl h15 (by decide +kernel) (Nat.le_of_ble_eq_true rfl) (by decide +kernel) ?_
  refine ik_Wk 0 (pc_q := 16) (loc_q := [some (.ref 54), some (fI 0), some (.ref 7), some (.ref 15), some (fI ka), none, none, none, none]) (st_q := [fI fa]) (h_q := h) (cl_q := 0) (sl_q := 0) rfl ?_
  refine ik_Wk 3 (pc_q := 21) (loc_q := [some (.ref 54), some (fI 0), some (.ref 7), some (.ref 15), some (fI ka), some (fI fa), some (fI 0), none, none]) (st_q := []) (h_q := h) (cl_q := 0) (sl_q := 0) rfl ?_
  exact cs_wrong0L (pl := pl) (lo := lo) (s := s) (n0 := n0) (n1 := n1) (ka := ka) (pa := pa) (fa := fa) (kb := kb) (pb := pb) (fb := fb) (lr := lr) (wg := wg) (wc := wc) (we := we) (W := W) q0 q1 q2 q3 q4 q5 q6 q7  (n0.toNat + 1) 0 none none h h7 h11 n11 h12 n12 h13 n13 h15 h54 h55 n55 h56 hl (hfr_refl [] h) (by omega) (by rw [Int.sub_zero]) rfl rfl (by omega)

theorem cs_wrong1L {h : List ik_E} {pl : Int} {lo : Int} {s : Nat} {n0 : Int} {n1 : Int} {ka : Int} {pa : Int} {fa : Int} {kb : Int} {pb : Int} {fb : Int} {lr : List Int} {wg : List Int} {wc : List Int} {we : List Int} {W : Int → List (Int × Int)} (q0 : 0 ≤ pl ∧ pl ≤ 12) (q1 : ∀ x : Int, (0 : Int) ≤ x → x < pl - 1 → mx_wy wg wc we x (W x)) (q2 : ∀ x : Int, (0 : Int) ≤ x → x < pl - 1 → mx_ok pl (W x)) (q3 : (0 : Int) ≤ kb ∧ kb ≤ (2 : Int)) (q4 : (0 : Int) ≤ pb ∧ pb ≤ (11 : Int)) (q5 : (0 : Int) ≤ fb ∧ fb ≤ (30 : Int)) (q6 : (0 : Int) ≤ n1 ∧ n1 ≤ (40 : Int)) (q7 : ∀ j : Nat, (j : Int) < n1 → lr.getD (40 + j) 0 = 12 ∨ (0 ≤ lr.getD (40 + j) 0 ∧ lr.getD (40 + j) (0 : Int) < pl))  : ∀ (k : Nat) (i : Int) (x7 : Option Value) (x8 : Option Value) (u : List ik_E) (u7 : cE u 7 (.inr (0, [fI pl, fI ((s : Nat) : Int), fI lo, .ref 8, .ref 9, .ref 10, .ref 11, .ref 12, .ref 13]))) (u11 : cE u 11 (.inl (.int, fA wg))) (n11 : wg.length = (60 : Nat)) (u12 : cE u 12 (.inl (.int, fA wc))) (n12 : wc.length = (60 : Nat)) (u13 : cE u 13 (.inl (.int, fA we))) (n13 : we.length = (12 : Nat)) (u15 : cE u 15 (.inl (.int, fA [ka, pa, fa, kb, pb, fb]))) (u54 : cE u 54 (.inr (4, [.ref 55, .ref 56]))) (u55 : cE u 55 (.inl (.int, fA lr))) (n55 : lr.length = (80 : Nat)) (u56 : cE u 56 (.inl (.int, fA [n0, n1]))) (ul : u.length = (94 : Nat)) (F : hfr [] h u) (hi : (0 : Int) ≤ i ∧ i ≤ n1) (he : mj_fw (mj_ok W pl kb pb fb lr 40) n1.toNat 0 = mj_fw (mj_ok W pl kb pb fb lr 40) (n1 - i).toNat i) (w7 : ik_wl 94 x7 = true) (w8 : ik_wl 94 x8 = true) (hk : n1 - i < (k : Int)), ik_G 39 21 [some (.ref 54), some (fI 1), some (.ref 7), some (.ref 15), some (fI kb), some (fI fb), some (fI i), x7, x8] [] u (fun rv h_q => rv = [fI (mj_fw (mj_ok W pl kb pb fb lr 40) n1.toNat 0)] ∧ hfr [] h h_q) := by
  intro k
  induction k with
  | zero => intro i x7 x8 u u7 u11 n11 u12 n12 u13 n13 u15 u54 u55 n55 u56 ul F hi he w7 w8 hk; omega
  | succ k ih =>
    intro i x7 x8 u u7 u11 n11 u12 n12 u13 n13 u15 u54 u55 n55 u56 ul F hi he w7 w8 hk
    refine ik_Wk 2 (pc_q := 24) (loc_q := [some (.ref 54), some (fI 1), some (.ref 7), some (.ref 15), some (fI kb), some (fI fb), some (fI i), x7, x8]) (st_q := [.ref 54, fI i]) (h_q := u) (cl_q := 0) (sl_q := 0) rfl ?_
    refine fw_gf rfl rfl u54 rfl ?_
    refine ik_Wk 1 (pc_q := 28) (loc_q := [some (.ref 54), some (fI 1), some (.ref 7), some (.ref 15), some (fI kb), some (fI fb), some (fI i), x7, x8]) (st_q := [fI 1, .ref 56, fI i]) (h_q := u) (cl_q := 0) (sl_q := 0) rfl ?_
    refine fw_ial (z := 1) rfl u56 (by decide +kernel) (Nat.le_of_ble_eq_true rfl) (by decide +kernel) ?_
    refine ik_Wk 0 (pc_q := 29) (loc_q := [some (.ref 54), some (fI 1), some (.ref 7), some (.ref 15), some (fI kb), some (fI fb), some (fI i), x7, x8]) (st_q := [fI n1, fI i]) (h_q := u) (cl_q := 0) (sl_q := 0) rfl ?_
    refine fw_ic_ge rfl rfl (by omega) (by omega) (by omega) (by omega) (fun hc1 => ?_) (fun hc1 => ?_)
    · refine ik_Wk 1 (pc_q := 146) (loc_q := [some (.ref 54), some (fI 1), some (.ref 7), some (.ref 15), some (fI kb), some (fI fb), some (fI i), x7, x8]) (st_q := [fI (-1)]) (h_q := u) (cl_q := 0) (sl_q := 0) rfl ?_
      rw [show (n1 - i).toNat = 0 by omega] at he
      exact ik_Wret rfl rfl ⟨_, _, rfl, rfl, rfl, rfl, ⟨(congrArg (fun z => [fI z]) he.symm), F⟩⟩
    · refine ik_Wk 1 (pc_q := 33) (loc_q := [some (.ref 54), some (fI 1), some (.ref 7), some (.ref 15), some (fI kb), some (fI fb), some (fI i), x7, x8]) (st_q := [.ref 54]) (h_q := u) (cl_q := 0) (sl_q := 0) rfl ?_
      refine fw_gf rfl rfl u54 rfl ?_
      refine ik_Wk 1 (pc_q := 37) (loc_q := [some (.ref 54), some (fI 1), some (.ref 7), some (.ref 15), some (fI kb), some (fI fb), some (fI i), x7, x8]) (st_q := [fI 1, .ref 55]) (h_q := u) (cl_q := 0) (sl_q := 0) rfl ?_
      refine fw_bi rfl (by decide +kernel) ?_
      refine fw_mul rfl ?_
      refine ik_Wk 1 (pc_q := 42) (loc_q := [some (.ref 54), some (fI 1), some (.ref 7), some (.ref 15), some (fI kb), some (fI fb), some (fI i), x7, x8]) (st_q := [fI i, fI 40, .ref 55]) (h_q := u) (cl_q := 0) (sl_q := 0) rfl ?_
      refine fw_add rfl ?_
      refine fw_ial rfl u55 (by omega) (by omega) (by omega) ?_
      have hl2 := q7 i.toNat (by omega)
      rw [show 40 + i.toNat = (40 + i).toNat by omega] at hl2
      refine ik_Wk 3 (pc_q := 50) (loc_q := [some (.ref 54), some (fI 1), some (.ref 7), some (.ref 15), some (fI kb), some (fI fb), some (fI i), some (fI (lr.getD (40 + i).toNat 0)), x8]) (st_q := [fI fb, fI i]) (h_q := u) (cl_q := 0) (sl_q := 0) rfl ?_
      refine fw_ic_ge rfl rfl (by omega) (by omega) (by omega) (by omega) (fun hc3 => ?_) (fun hc3 => ?_)
      · refine ik_Wk 2 (pc_q := 74) (loc_q := [some (.ref 54), some (fI 1), some (.ref 7), some (.ref 15), some (fI kb), some (fI fb), some (fI i), some (fI (lr.getD (40 + i).toNat 0)), x8]) (st_q := [fI fb, fI i]) (h_q := u) (cl_q := 0) (sl_q := 0) rfl ?_
        refine fw_ic_ne rfl rfl (by omega) (by omega) (by omega) (by omega) (fun hc4 => ?_) (fun hc4 => ?_)
        · refine ik_Wk 4 (pc_q := 82) (loc_q := [some (.ref 54), some (fI 1), some (.ref 7), some (.ref 15), some (fI kb), some (fI fb), some (fI i), some (fI (lr.getD (40 + i).toNat 0)), x8]) (st_q := [fI 3, fI 1, .ref 15, fI (lr.getD (40 + i).toNat 0)]) (h_q := u) (cl_q := 0) (sl_q := 0) rfl ?_
          refine fw_mul rfl ?_
          refine ik_Wk 1 (pc_q := 84) (loc_q := [some (.ref 54), some (fI 1), some (.ref 7), some (.ref 15), some (fI kb), some (fI fb), some (fI i), some (fI (lr.getD (40 + i).toNat 0)), x8]) (st_q := [fI 1, fI 3, .ref 15, fI (lr.getD (40 + i).toNat 0)]) (h_q := u) (cl_q := 0) (sl_q := 0) rfl ?_
          refine fw_add rfl ?_
          refine fw_ial (z := 4) rfl u15 (by decide +kernel) (Nat.le_of_ble_eq_true rfl) (by decide +kernel) ?_
          refine ik_Wk 0 (pc_q := 86) (loc_q := [some (.ref 54), some (fI 1), some (.ref 7), some (.ref 15), some (fI kb), some (fI fb), some (fI i), some (fI (lr.getD (40 + i).toNat 0)), x8]) (st_q := [fI pb, fI (lr.getD (40 + i).toNat 0)]) (h_q := u) (cl_q := 0) (sl_q := 0) rfl ?_
          refine fw_ic_ne rfl rfl (by omega) (by omega) (by omega) (by omega) (fun hc5 => ?_) (fun hc5 => ?_)
          · refine ik_Wk 5 (pc_q := 133) (loc_q := [some (.ref 54), some (fI 1), some (.ref 7), some (.ref 15), some (fI kb), some (fI fb), some (fI i), some (fI (lr.getD (40 + i).toNat 0)), some (fI 1)]) (st_q := [fI 1]) (h_q := u) (cl_q := 0) (sl_q := 0) rfl ?_
            refine fw_if_ne rfl rfl (by decide +kernel) (by decide +kernel) (fun hc6 => absurd hc6 (by decide +kernel)) (fun hc6 => ?_)
            refine fw_inc (a := i) (loc_q := [some (.ref 54), some (fI 1), some (.ref 7), some (.ref 15), some (fI kb), some (fI fb), some (fI (i + 1)), some (fI (lr.getD (40 + i).toNat 0)), some (fI 1)]) rfl rfl (Nat.le_of_ble_eq_true rfl) rfl ?_
            refine ik_Wk 1 (pc_q := 21) (loc_q := [some (.ref 54), some (fI 1), some (.ref 7), some (.ref 15), some (fI kb), some (fI fb), some (fI (i + 1)), some (fI (lr.getD (40 + i).toNat 0)), some (fI 1)]) (st_q := []) (h_q := u) (cl_q := 0) (sl_q := 0) rfl ?_
            have hG : (mj_ok W pl kb pb fb lr 40) i = true := by
              show (if i < fb then _ else if i = fb then _ else _) = _
              split
              · exact decide_eq_true (by omega)
              · first | exact decide_eq_true (by omega) | (rw [if_pos (by omega)]; exact decide_eq_true (by omega))
            exact ih  (i + 1) (some (fI (lr.getD (40 + i).toNat 0))) (some (fI 1)) u u7 u11 n11 u12 n12 u13 n13 u15 u54 u55 n55 u56 ul F (by omega) (by rw [he, mj_fw_s (by omega), hG, if_pos rfl]) rfl rfl (by omega)
          · refine ik_Wk 4 (pc_q := 133) (loc_q := [some (.ref 54), some (fI 1), some (.ref 7), some (.ref 15), some (fI kb), some (fI fb), some (fI i), some (fI (lr.getD (40 + i).toNat 0)), some (fI 0)]) (st_q := [fI 0]) (h_q := u) (cl_q := 0) (sl_q := 0) rfl ?_
            refine fw_if_ne rfl rfl (by decide +kernel) (by decide +kernel) (fun hc7 => ?_) (fun hc7 => absurd hc7 (by decide +kernel))
            refine ik_Wk 1 (pc_q := 138) (loc_q := [some (.ref 54), some (fI 1), some (.ref 7), some (.ref 15), some (fI kb), some (fI fb), some (fI i), some (fI (lr.getD (40 + i).toNat 0)), some (fI 0)]) (st_q := [fI i]) (h_q := u) (cl_q := 0) (sl_q := 0) rfl ?_
            have hG : (mj_ok W pl kb pb fb lr 40) i = false := by
              show (if i < fb then _ else if i = fb then _ else _) = _
              split
              · exact decide_eq_false (by omega)
              · first | exact decide_eq_false (by omega) | (rw [if_pos (by omega)]; exact decide_eq_false (by omega))
            exact ik_Wret rfl rfl ⟨_, _, rfl, rfl, rfl, rfl, ⟨(congrArg (fun z => [fI z]) (by rw [he, mj_fw_s (by omega), hG, if_neg (by decide +kernel)])), F⟩⟩
        · refine ik_Wk 2 (pc_q := 101) (loc_q := [some (.ref 54), some (fI 1), some (.ref 7), some (.ref 15), some (fI kb), some (fI fb), some (fI i), some (fI (lr.getD (40 + i).toNat 0)), x8]) (st_q := [.ref 54, .ref 7]) (h_q := u) (cl_q := 0) (sl_q := 0) rfl ?_
          refine fw_gf rfl rfl u54 rfl ?_
          refine ik_Wk 1 (pc_q := 105) (loc_q := [some (.ref 54), some (fI 1), some (.ref 7), some (.ref 15), some (fI kb), some (fI fb), some (fI i), some (fI (lr.getD (40 + i).toNat 0)), x8]) (st_q := [fI 1, .ref 55, .ref 7]) (h_q := u) (cl_q := 0) (sl_q := 0) rfl ?_
          refine fw_bi rfl (by decide +kernel) ?_
          refine fw_mul rfl ?_
          refine ik_Wk 1 (pc_q := 110) (loc_q := [some (.ref 54), some (fI 1), some (.ref 7), some (.ref 15), some (fI kb), some (fI fb), some (fI i), some (fI (lr.getD (40 + i).toNat 0)), x8]) (st_q := [fI i, fI 40, .ref 55, .ref 7]) (h_q := u) (cl_q := 0) (sl_q := 0) rfl ?_
          refine fw_add rfl ?_
          refine ik_Wk 1 (pc_q := 112) (loc_q := [some (.ref 54), some (fI 1), some (.ref 7), some (.ref 15), some (fI kb), some (fI fb), some (fI i), some (fI (lr.getD (40 + i).toNat 0)), x8]) (st_q := [fI 1, fI (40 + i), .ref 55, .ref 7]) (h_q := u) (cl_q := 0) (sl_q := 0) rfl ?_
          refine fw_sub rfl ?_
          refine fw_ial rfl u55 (by omega) (by omega) (by omega) ?_
          have hl8 := q7 (i - 1).toNat (by omega)
          rw [show 40 + (i - 1).toNat = ((40 + i) - 1).toNat by omega] at hl8
          refine ik_Wk 4 (pc_q := 122) (loc_q := [some (.ref 54), some (fI 1), some (.ref 7), some (.ref 15), some (fI kb), some (fI fb), some (fI i), some (fI (lr.getD (40 + i).toNat 0)), x8]) (st_q := [fI fb, fI i, fI kb, fI (lr.getD (40 + i).toNat 0), fI (lr.getD ((40 + i) - 1).toNat 0), .ref 7]) (h_q := u) (cl_q := 0) (sl_q := 0) rfl ?_
          refine fw_sub rfl ?_
          refine ik_Wc 125 2 4 [fI kb, fI (i - fb)] [fI (lr.getD (40 + i).toNat 0), fI (lr.getD ((40 + i) - 1).toNat 0), .ref 7] rfl rfl rfl (by decide +kernel) rfl rfl (fw_sta ul (fw_ftx rfl (wv_c rfl (wv_c rfl (wv_c rfl wv_n))) (wl_c rfl (wl_c rfl (wl_c rfl (wl_c rfl (wl_c rfl (wl_c rfl (wl_c rfl (wl_c rfl (wl_c w8 wl_n)))))))))) (by decide +kernel)) ?_
          refine ik_Wk 0 (pc_q := 0) (loc_q := [some (fI kb), some (fI (i - fb))]) (st_q := []) (h_q := u) (cl_q := 0) (sl_q := 0) rfl ?_
          refine ik_Wk 2 (pc_q := 2) (loc_q := [some (fI kb), some (fI (i - fb))]) (st_q := [fI 1, fI kb]) (h_q := u) (cl_q := 0) (sl_q := 0) rfl ?_
          refine fw_ic_ne rfl rfl (by omega) (by omega) (by omega) (by omega) (fun hc9 => ?_) (fun hc9 => ?_)
          · refine ik_Wk 1 (pc_q := 6) (loc_q := [some (fI kb), some (fI (i - fb))]) (st_q := [fI 2]) (h_q := u) (cl_q := 0) (sl_q := 0) rfl ?_
            refine ik_Wret rfl rfl ⟨_, _, rfl, rfl, ?_⟩
            refine ik_Wk 0 (pc_q := 126) (loc_q := [some (.ref 54), some (fI 1), some (.ref 7), some (.ref 15), some (fI kb), some (fI fb), some (fI i), some (fI (lr.getD (40 + i).toNat 0)), x8]) (st_q := [fI 2, fI (lr.getD (40 + i).toNat 0), fI (lr.getD ((40 + i) - 1).toNat 0), .ref 7]) (h_q := u) (cl_q := 0) (sl_q := 0) rfl ?_
            refine fw_call 19 4 0 [.ref 7, fI (lr.getD ((40 + i) - 1).toNat 0), fI (lr.getD (40 + i).toNat 0), fI 2] [] rfl rfl rfl (Nat.le_of_ble_eq_true rfl) rfl rfl (fw_rec ul (fw_ftx rfl wv_n (wl_c rfl (wl_c rfl (wl_c rfl (wl_c rfl (wl_c rfl (wl_c rfl (wl_c rfl (wl_c rfl (wl_c w8 wl_n)))))))))) u7 rfl (by decide +kernel)) (cs_leads (p := lr.getD ((40 + i) - 1).toNat 0) (q := lr.getD (40 + i).toNat 0) (n := 2) (pl := pl) (lo := lo) (s := s) (wg := wg) (wc := wc) (we := we) (by omega) q1 q2 (by omega) (by omega) (by omega) u7 u11 n11 u12 n12 u13 n13 ul) ?_
            rintro _ h_336 (⟨rfl, p_336_0, F_336⟩ | ⟨rfl, p_336_0, F_336⟩)
            · have k_336 : cL h_336 := F_336.1.trans ul
              have fr_336 := hfr_cb F F_336 rfl
              have g_336_7 := (hfr_g F_336 7 rfl).trans u7
              have g_336_11 := (hfr_g F_336 11 rfl).trans u11
              have g_336_12 := (hfr_g F_336 12 rfl).trans u12
              have g_336_13 := (hfr_g F_336 13 rfl).trans u13
              have g_336_15 := (hfr_g F_336 15 rfl).trans u15
              have g_336_54 := (hfr_g F_336 54 rfl).trans u54
              have g_336_55 := (hfr_g F_336 55 rfl).trans u55
              have g_336_56 := (hfr_g F_336 56 rfl).trans u56
              refine ik_Wk 0 (pc_q := 129) (loc_q := [some (.ref 54), some (fI 1), some (.ref 7), some (.ref 15), some (fI kb), some (fI fb), some (fI i), some (fI (lr.getD (40 + i).toNat 0)), x8]) (st_q := [fI 1]) (h_q := h_336) (cl_q := 0) (sl_q := 0) rfl ?_
              refine ik_Wk 2 (pc_q := 133) (loc_q := [some (.ref 54), some (fI 1), some (.ref 7), some (.ref 15), some (fI kb), some (fI fb), some (fI i), some (fI (lr.getD (40 + i).toNat 0)), some (fI 1)]) (st_q := [fI 1]) (h_q := h_336) (cl_q := 0) (sl_q := 0) rfl ?_
              refine fw_if_ne rfl rfl (by decide +kernel) (by decide +kernel) (fun hc10 => absurd hc10 (by decide +kernel)) (fun hc10 => ?_)
              refine fw_inc (a := i) (loc_q := [some (.ref 54), some (fI 1), some (.ref 7), some (.ref 15), some (fI kb), some (fI fb), some (fI (i + 1)), some (fI (lr.getD (40 + i).toNat 0)), some (fI 1)]) rfl rfl (Nat.le_of_ble_eq_true rfl) rfl ?_
              refine ik_Wk 1 (pc_q := 21) (loc_q := [some (.ref 54), some (fI 1), some (.ref 7), some (.ref 15), some (fI kb), some (fI fb), some (fI (i + 1)), some (fI (lr.getD (40 + i).toNat 0)), some (fI 1)]) (st_q := []) (h_q := h_336) (cl_q := 0) (sl_q := 0) rfl ?_
              have et : mx_tm kb (i - fb) = 2 := by unfold mx_tm; (repeat' split) <;> omega
              have hG : (mj_ok W pl kb pb fb lr 40) i = true := by
                show (if i < fb then _ else if i = fb then _ else _) = _
                rw [if_neg (by omega), if_neg (by omega), et]
                exact p_336_0
              exact ih  (i + 1) (some (fI (lr.getD (40 + i).toNat 0))) (some (fI 1)) h_336 g_336_7 g_336_11 n11 g_336_12 n12 g_336_13 n13 g_336_15 g_336_54 g_336_55 n55 g_336_56 k_336 fr_336 (by omega) (by rw [he, mj_fw_s (by omega), hG, if_pos rfl]) rfl rfl (by omega)
            · have k_336 : cL h_336 := F_336.1.trans ul
              have fr_336 := hfr_cb F F_336 rfl
              have g_336_7 := (hfr_g F_336 7 rfl).trans u7
              have g_336_11 := (hfr_g F_336 11 rfl).trans u11
              have g_336_12 := (hfr_g F_336 12 rfl).trans u12
              have g_336_13 := (hfr_g F_336 13 rfl).trans u13
              have g_336_15 := (hfr_g F_336 15 rfl).trans u15
              have g_336_54 := (hfr_g F_336 54 rfl).trans u54
              have g_336_55 := (hfr_g F_336 55 rfl).trans u55
              have g_336_56 := (hfr_g F_336 56 rfl).trans u56
              refine ik_Wk 0 (pc_q := 129) (loc_q := [some (.ref 54), some (fI 1), some (.ref 7), some (.ref 15), some (fI kb), some (fI fb), some (fI i), some (fI (lr.getD (40 + i).toNat 0)), x8]) (st_q := [fI 0]) (h_q := h_336) (cl_q := 0) (sl_q := 0) rfl ?_
              refine ik_Wk 2 (pc_q := 133) (loc_q := [some (.ref 54), some (fI 1), some (.ref 7), some (.ref 15), some (fI kb), some (fI fb), some (fI i), some (fI (lr.getD (40 + i).toNat 0)), some (fI 0)]) (st_q := [fI 0]) (h_q := h_336) (cl_q := 0) (sl_q := 0) rfl ?_
              refine fw_if_ne rfl rfl (by decide +kernel) (by decide +kernel) (fun hc11 => ?_) (fun hc11 => absurd hc11 (by decide +kernel))
              refine ik_Wk 1 (pc_q := 138) (loc_q := [some (.ref 54), some (fI 1), some (.ref 7), some (.ref 15), some (fI kb), some (fI fb), some (fI i), some (fI (lr.getD (40 + i).toNat 0)), some (fI 0)]) (st_q := [fI i]) (h_q := h_336) (cl_q := 0) (sl_q := 0) rfl ?_
              have et : mx_tm kb (i - fb) = 2 := by unfold mx_tm; (repeat' split) <;> omega
              have hG : (mj_ok W pl kb pb fb lr 40) i = false := by
                show (if i < fb then _ else if i = fb then _ else _) = _
                rw [if_neg (by omega), if_neg (by omega), et]
                exact p_336_0
              exact ik_Wret rfl rfl ⟨_, _, rfl, rfl, rfl, rfl, ⟨(congrArg (fun z => [fI z]) (by rw [he, mj_fw_s (by omega), hG, if_neg (by decide +kernel)])), fr_336⟩⟩
          · refine ik_Wk 2 (pc_q := 9) (loc_q := [some (fI kb), some (fI (i - fb))]) (st_q := [fI 2, fI kb]) (h_q := u) (cl_q := 0) (sl_q := 0) rfl ?_
            refine fw_ic_ne rfl rfl (by omega) (by omega) (by omega) (by omega) (fun hc12 => ?_) (fun hc12 => ?_)
            · refine ik_Wk 2 (pc_q := 14) (loc_q := [some (fI kb), some (fI (i - fb))]) (st_q := [fI 2, fI (i - fb)]) (h_q := u) (cl_q := 0) (sl_q := 0) rfl ?_
              refine fx_irem rfl (by omega) (by omega) (by omega) (by omega) ?_
              refine fw_if_eq rfl rfl (by omega) (by omega) (fun hc13 => ?_) (fun hc13 => ?_)
              · refine ik_Wk 1 (pc_q := 23) (loc_q := [some (fI kb), some (fI (i - fb))]) (st_q := [fI 1]) (h_q := u) (cl_q := 0) (sl_q := 0) rfl ?_
                refine ik_Wret rfl rfl ⟨_, _, rfl, rfl, ?_⟩
                refine ik_Wk 0 (pc_q := 126) (loc_q := [some (.ref 54), some (fI 1), some (.ref 7), some (.ref 15), some (fI kb), some (fI fb), some (fI i), some (fI (lr.getD (40 + i).toNat 0)), x8]) (st_q := [fI 1, fI (lr.getD (40 + i).toNat 0), fI (lr.getD ((40 + i) - 1).toNat 0), .ref 7]) (h_q := u) (cl_q := 0) (sl_q := 0) rfl ?_
                refine fw_call 19 4 0 [.ref 7, fI (lr.getD ((40 + i) - 1).toNat 0), fI (lr.getD (40 + i).toNat 0), fI 1] [] rfl rfl rfl (Nat.le_of_ble_eq_true rfl) rfl rfl (fw_rec ul (fw_ftx rfl wv_n (wl_c rfl (wl_c rfl (wl_c rfl (wl_c rfl (wl_c rfl (wl_c rfl (wl_c rfl (wl_c rfl (wl_c w8 wl_n)))))))))) u7 rfl (by decide +kernel)) (cs_leads (p := lr.getD ((40 + i) - 1).toNat 0) (q := lr.getD (40 + i).toNat 0) (n := 1) (pl := pl) (lo := lo) (s := s) (wg := wg) (wc := wc) (we := we) (by omega) q1 q2 (by omega) (by omega) (by omega) u7 u11 n11 u12 n12 u13 n13 ul) ?_
                rintro _ h_337 (⟨rfl, p_337_0, F_337⟩ | ⟨rfl, p_337_0, F_337⟩)
                · have k_337 : cL h_337 := F_337.1.trans ul
                  have fr_337 := hfr_cb F F_337 rfl
                  have g_337_7 := (hfr_g F_337 7 rfl).trans u7
                  have g_337_11 := (hfr_g F_337 11 rfl).trans u11
                  have g_337_12 := (hfr_g F_337 12 rfl).trans u12
                  have g_337_13 := (hfr_g F_337 13 rfl).trans u13
                  have g_337_15 := (hfr_g F_337 15 rfl).trans u15
                  have g_337_54 := (hfr_g F_337 54 rfl).trans u54
                  have g_337_55 := (hfr_g F_337 55 rfl).trans u55
                  have g_337_56 := (hfr_g F_337 56 rfl).trans u56
                  refine ik_Wk 0 (pc_q := 129) (loc_q := [some (.ref 54), some (fI 1), some (.ref 7), some (.ref 15), some (fI kb), some (fI fb), some (fI i), some (fI (lr.getD (40 + i).toNat 0)), x8]) (st_q := [fI 1]) (h_q := h_337) (cl_q := 0) (sl_q := 0) rfl ?_
                  refine ik_Wk 2 (pc_q := 133) (loc_q := [some (.ref 54), some (fI 1), some (.ref 7), some (.ref 15), some (fI kb), some (fI fb), some (fI i), some (fI (lr.getD (40 + i).toNat 0)), some (fI 1)]) (st_q := [fI 1]) (h_q := h_337) (cl_q := 0) (sl_q := 0) rfl ?_
                  refine fw_if_ne rfl rfl (by decide +kernel) (by decide +kernel) (fun hc14 => absurd hc14 (by decide +kernel)) (fun hc14 => ?_)
                  refine fw_inc (a := i) (loc_q := [some (.ref 54), some (fI 1), some (.ref 7), some (.ref 15), some (fI kb), some (fI fb), some (fI (i + 1)), some (fI (lr.getD (40 + i).toNat 0)), some (fI 1)]) rfl rfl (Nat.le_of_ble_eq_true rfl) rfl ?_
                  refine ik_Wk 1 (pc_q := 21) (loc_q := [some (.ref 54), some (fI 1), some (.ref 7), some (.ref 15), some (fI kb), some (fI fb), some (fI (i + 1)), some (fI (lr.getD (40 + i).toNat 0)), some (fI 1)]) (st_q := []) (h_q := h_337) (cl_q := 0) (sl_q := 0) rfl ?_
                  have et : mx_tm kb (i - fb) = 1 := by unfold mx_tm; (repeat' split) <;> omega
                  have hG : (mj_ok W pl kb pb fb lr 40) i = true := by
                    show (if i < fb then _ else if i = fb then _ else _) = _
                    rw [if_neg (by omega), if_neg (by omega), et]
                    exact p_337_0
                  exact ih  (i + 1) (some (fI (lr.getD (40 + i).toNat 0))) (some (fI 1)) h_337 g_337_7 g_337_11 n11 g_337_12 n12 g_337_13 n13 g_337_15 g_337_54 g_337_55 n55 g_337_56 k_337 fr_337 (by omega) (by rw [he, mj_fw_s (by omega), hG, if_pos rfl]) rfl rfl (by omega)
                · have k_337 : cL h_337 := F_337.1.trans ul
                  have fr_337 := hfr_cb F F_337 rfl
                  have g_337_7 := (hfr_g F_337 7 rfl).trans u7
                  have g_337_11 := (hfr_g F_337 11 rfl).trans u11
                  have g_337_12 := (hfr_g F_337 12 rfl).trans u12
                  have g_337_13 := (hfr_g F_337 13 rfl).trans u13
                  have g_337_15 := (hfr_g F_337 15 rfl).trans u15
                  have g_337_54 := (hfr_g F_337 54 rfl).trans u54
                  have g_337_55 := (hfr_g F_337 55 rfl).trans u55
                  have g_337_56 := (hfr_g F_337 56 rfl).trans u56
                  refine ik_Wk 0 (pc_q := 129) (loc_q := [some (.ref 54), some (fI 1), some (.ref 7), some (.ref 15), some (fI kb), some (fI fb), some (fI i), some (fI (lr.getD (40 + i).toNat 0)), x8]) (st_q := [fI 0]) (h_q := h_337) (cl_q := 0) (sl_q := 0) rfl ?_
                  refine ik_Wk 2 (pc_q := 133) (loc_q := [some (.ref 54), some (fI 1), some (.ref 7), some (.ref 15), some (fI kb), some (fI fb), some (fI i), some (fI (lr.getD (40 + i).toNat 0)), some (fI 0)]) (st_q := [fI 0]) (h_q := h_337) (cl_q := 0) (sl_q := 0) rfl ?_
                  refine fw_if_ne rfl rfl (by decide +kernel) (by decide +kernel) (fun hc15 => ?_) (fun hc15 => absurd hc15 (by decide +kernel))
                  refine ik_Wk 1 (pc_q := 138) (loc_q := [some (.ref 54), some (fI 1), some (.ref 7), some (.ref 15), some (fI kb), some (fI fb), some (fI i), some (fI (lr.getD (40 + i).toNat 0)), some (fI 0)]) (st_q := [fI i]) (h_q := h_337) (cl_q := 0) (sl_q := 0) rfl ?_
                  have et : mx_tm kb (i - fb) = 1 := by unfold mx_tm; (repeat' split) <;> omega
                  have hG : (mj_ok W pl kb pb fb lr 40) i = false := by
                    show (if i < fb then _ else if i = fb then _ else _) = _
                    rw [if_neg (by omega), if_neg (by omega), et]
                    exact p_337_0
                  exact ik_Wret rfl rfl ⟨_, _, rfl, rfl, rfl, rfl, ⟨(congrArg (fun z => [fI z]) (by rw [he, mj_fw_s (by omega), hG, if_neg (by decide +kernel)])), fr_337⟩⟩
              · refine ik_Wk 2 (pc_q := 23) (loc_q := [some (fI kb), some (fI (i - fb))]) (st_q := [fI 0]) (h_q := u) (cl_q := 0) (sl_q := 0) rfl ?_
                refine ik_Wret rfl rfl ⟨_, _, rfl, rfl, ?_⟩
                refine ik_Wk 0 (pc_q := 126) (loc_q := [some (.ref 54), some (fI 1), some (.ref 7), some (.ref 15), some (fI kb), some (fI fb), some (fI i), some (fI (lr.getD (40 + i).toNat 0)), x8]) (st_q := [fI 0, fI (lr.getD (40 + i).toNat 0), fI (lr.getD ((40 + i) - 1).toNat 0), .ref 7]) (h_q := u) (cl_q := 0) (sl_q := 0) rfl ?_
                refine fw_call 19 4 0 [.ref 7, fI (lr.getD ((40 + i) - 1).toNat 0), fI (lr.getD (40 + i).toNat 0), fI 0] [] rfl rfl rfl (Nat.le_of_ble_eq_true rfl) rfl rfl (fw_rec ul (fw_ftx rfl wv_n (wl_c rfl (wl_c rfl (wl_c rfl (wl_c rfl (wl_c rfl (wl_c rfl (wl_c rfl (wl_c rfl (wl_c w8 wl_n)))))))))) u7 rfl (by decide +kernel)) (cs_leads (p := lr.getD ((40 + i) - 1).toNat 0) (q := lr.getD (40 + i).toNat 0) (n := 0) (pl := pl) (lo := lo) (s := s) (wg := wg) (wc := wc) (we := we) (by omega) q1 q2 (by omega) (by omega) (by omega) u7 u11 n11 u12 n12 u13 n13 ul) ?_
                rintro _ h_338 (⟨rfl, p_338_0, F_338⟩ | ⟨rfl, p_338_0, F_338⟩)
                · have k_338 : cL h_338 := F_338.1.trans ul
                  have fr_338 := hfr_cb F F_338 rfl
                  have g_338_7 := (hfr_g F_338 7 rfl).trans u7
                  have g_338_11 := (hfr_g F_338 11 rfl).trans u11
                  have g_338_12 := (hfr_g F_338 12 rfl).trans u12
                  have g_338_13 := (hfr_g F_338 13 rfl).trans u13
                  have g_338_15 := (hfr_g F_338 15 rfl).trans u15
                  have g_338_54 := (hfr_g F_338 54 rfl).trans u54
                  have g_338_55 := (hfr_g F_338 55 rfl).trans u55
                  have g_338_56 := (hfr_g F_338 56 rfl).trans u56
                  refine ik_Wk 0 (pc_q := 129) (loc_q := [some (.ref 54), some (fI 1), some (.ref 7), some (.ref 15), some (fI kb), some (fI fb), some (fI i), some (fI (lr.getD (40 + i).toNat 0)), x8]) (st_q := [fI 1]) (h_q := h_338) (cl_q := 0) (sl_q := 0) rfl ?_
                  refine ik_Wk 2 (pc_q := 133) (loc_q := [some (.ref 54), some (fI 1), some (.ref 7), some (.ref 15), some (fI kb), some (fI fb), some (fI i), some (fI (lr.getD (40 + i).toNat 0)), some (fI 1)]) (st_q := [fI 1]) (h_q := h_338) (cl_q := 0) (sl_q := 0) rfl ?_
                  refine fw_if_ne rfl rfl (by decide +kernel) (by decide +kernel) (fun hc16 => absurd hc16 (by decide +kernel)) (fun hc16 => ?_)
                  refine fw_inc (a := i) (loc_q := [some (.ref 54), some (fI 1), some (.ref 7), some (.ref 15), some (fI kb), some (fI fb), some (fI (i + 1)), some (fI (lr.getD (40 + i).toNat 0)), some (fI 1)]) rfl rfl (Nat.le_of_ble_eq_true rfl) rfl ?_
                  refine ik_Wk 1 (pc_q := 21) (loc_q := [some (.ref 54), some (fI 1), some (.ref 7), some (.ref 15), some (fI kb), some (fI fb), some (fI (i + 1)), some (fI (lr.getD (40 + i).toNat 0)), some (fI 1)]) (st_q := []) (h_q := h_338) (cl_q := 0) (sl_q := 0) rfl ?_
                  have et : mx_tm kb (i - fb) = 0 := by unfold mx_tm; (repeat' split) <;> omega
                  have hG : (mj_ok W pl kb pb fb lr 40) i = true := by
                    show (if i < fb then _ else if i = fb then _ else _) = _
                    rw [if_neg (by omega), if_neg (by omega), et]
                    exact p_338_0
                  exact ih  (i + 1) (some (fI (lr.getD (40 + i).toNat 0))) (some (fI 1)) h_338 g_338_7 g_338_11 n11 g_338_12 n12 g_338_13 n13 g_338_15 g_338_54 g_338_55 n55 g_338_56 k_338 fr_338 (by omega) (by rw [he, mj_fw_s (by omega), hG, if_pos rfl]) rfl rfl (by omega)
                · have k_338 : cL h_338 := F_338.1.trans ul
                  have fr_338 := hfr_cb F F_338 rfl
                  have g_338_7 := (hfr_g F_338 7 rfl).trans u7
                  have g_338_11 := (hfr_g F_338 11 rfl).trans u11
                  have g_338_12 := (hfr_g F_338 12 rfl).trans u12
                  have g_338_13 := (hfr_g F_338 13 rfl).trans u13
                  have g_338_15 := (hfr_g F_338 15 rfl).trans u15
                  have g_338_54 := (hfr_g F_338 54 rfl).trans u54
                  have g_338_55 := (hfr_g F_338 55 rfl).trans u55
                  have g_338_56 := (hfr_g F_338 56 rfl).trans u56
                  refine ik_Wk 0 (pc_q := 129) (loc_q := [some (.ref 54), some (fI 1), some (.ref 7), some (.ref 15), some (fI kb), some (fI fb), some (fI i), some (fI (lr.getD (40 + i).toNat 0)), x8]) (st_q := [fI 0]) (h_q := h_338) (cl_q := 0) (sl_q := 0) rfl ?_
                  refine ik_Wk 2 (pc_q := 133) (loc_q := [some (.ref 54), some (fI 1), some (.ref 7), some (.ref 15), some (fI kb), some (fI fb), some (fI i), some (fI (lr.getD (40 + i).toNat 0)), some (fI 0)]) (st_q := [fI 0]) (h_q := h_338) (cl_q := 0) (sl_q := 0) rfl ?_
                  refine fw_if_ne rfl rfl (by decide +kernel) (by decide +kernel) (fun hc17 => ?_) (fun hc17 => absurd hc17 (by decide +kernel))
                  refine ik_Wk 1 (pc_q := 138) (loc_q := [some (.ref 54), some (fI 1), some (.ref 7), some (.ref 15), some (fI kb), some (fI fb), some (fI i), some (fI (lr.getD (40 + i).toNat 0)), some (fI 0)]) (st_q := [fI i]) (h_q := h_338) (cl_q := 0) (sl_q := 0) rfl ?_
                  have et : mx_tm kb (i - fb) = 0 := by unfold mx_tm; (repeat' split) <;> omega
                  have hG : (mj_ok W pl kb pb fb lr 40) i = false := by
                    show (if i < fb then _ else if i = fb then _ else _) = _
                    rw [if_neg (by omega), if_neg (by omega), et]
                    exact p_338_0
                  exact ik_Wret rfl rfl ⟨_, _, rfl, rfl, rfl, rfl, ⟨(congrArg (fun z => [fI z]) (by rw [he, mj_fw_s (by omega), hG, if_neg (by decide +kernel)])), fr_338⟩⟩
            · refine ik_Wk 1 (pc_q := 23) (loc_q := [some (fI kb), some (fI (i - fb))]) (st_q := [fI 1]) (h_q := u) (cl_q := 0) (sl_q := 0) rfl ?_
              refine ik_Wret rfl rfl ⟨_, _, rfl, rfl, ?_⟩
              refine ik_Wk 0 (pc_q := 126) (loc_q := [some (.ref 54), some (fI 1), some (.ref 7), some (.ref 15), some (fI kb), some (fI fb), some (fI i), some (fI (lr.getD (40 + i).toNat 0)), x8]) (st_q := [fI 1, fI (lr.getD (40 + i).toNat 0), fI (lr.getD ((40 + i) - 1).toNat 0), .ref 7]) (h_q := u) (cl_q := 0) (sl_q := 0) rfl ?_
              refine fw_call 19 4 0 [.ref 7, fI (lr.getD ((40 + i) - 1).toNat 0), fI (lr.getD (40 + i).toNat 0), fI 1] [] rfl rfl rfl (Nat.le_of_ble_eq_true rfl) rfl rfl (fw_rec ul (fw_ftx rfl wv_n (wl_c rfl (wl_c rfl (wl_c rfl (wl_c rfl (wl_c rfl (wl_c rfl (wl_c rfl (wl_c rfl (wl_c w8 wl_n)))))))))) u7 rfl (by decide +kernel)) (cs_leads (p := lr.getD ((40 + i) - 1).toNat 0) (q := lr.getD (40 + i).toNat 0) (n := 1) (pl := pl) (lo := lo) (s := s) (wg := wg) (wc := wc) (we := we) (by omega) q1 q2 (by omega) (by omega) (by omega) u7 u11 n11 u12 n12 u13 n13 ul) ?_
              rintro _ h_339 (⟨rfl, p_339_0, F_339⟩ | ⟨rfl, p_339_0, F_339⟩)
              · have k_339 : cL h_339 := F_339.1.trans ul
                have fr_339 := hfr_cb F F_339 rfl
                have g_339_7 := (hfr_g F_339 7 rfl).trans u7
                have g_339_11 := (hfr_g F_339 11 rfl).trans u11
                have g_339_12 := (hfr_g F_339 12 rfl).trans u12
                have g_339_13 := (hfr_g F_339 13 rfl).trans u13
                have g_339_15 := (hfr_g F_339 15 rfl).trans u15
                have g_339_54 := (hfr_g F_339 54 rfl).trans u54
                have g_339_55 := (hfr_g F_339 55 rfl).trans u55
                have g_339_56 := (hfr_g F_339 56 rfl).trans u56
                refine ik_Wk 0 (pc_q := 129) (loc_q := [some (.ref 54), some (fI 1), some (.ref 7), some (.ref 15), some (fI kb), some (fI fb), some (fI i), some (fI (lr.getD (40 + i).toNat 0)), x8]) (st_q := [fI 1]) (h_q := h_339) (cl_q := 0) (sl_q := 0) rfl ?_
                refine ik_Wk 2 (pc_q := 133) (loc_q := [some (.ref 54), some (fI 1), some (.ref 7), some (.ref 15), some (fI kb), some (fI fb), some (fI i), some (fI (lr.getD (40 + i).toNat 0)), some (fI 1)]) (st_q := [fI 1]) (h_q := h_339) (cl_q := 0) (sl_q := 0) rfl ?_
                refine fw_if_ne rfl rfl (by decide +kernel) (by decide +kernel) (fun hc18 => absurd hc18 (by decide +kernel)) (fun hc18 => ?_)
                refine fw_inc (a := i) (loc_q := [some (.ref 54), some (fI 1), some (.ref 7), some (.ref 15), some (fI kb), some (fI fb), some (fI (i + 1)), some (fI (lr.getD (40 + i).toNat 0)), some (fI 1)]) rfl rfl (Nat.le_of_ble_eq_true rfl) rfl ?_
                refine ik_Wk 1 (pc_q := 21) (loc_q := [some (.ref 54), some (fI 1), some (.ref 7), some (.ref 15), some (fI kb), some (fI fb), some (fI (i + 1)), some (fI (lr.getD (40 + i).toNat 0)), some (fI 1)]) (st_q := []) (h_q := h_339) (cl_q := 0) (sl_q := 0) rfl ?_
                have et : mx_tm kb (i - fb) = 1 := by unfold mx_tm; (repeat' split) <;> omega
                have hG : (mj_ok W pl kb pb fb lr 40) i = true := by
                  show (if i < fb then _ else if i = fb then _ else _) = _
                  rw [if_neg (by omega), if_neg (by omega), et]
                  exact p_339_0
                exact ih  (i + 1) (some (fI (lr.getD (40 + i).toNat 0))) (some (fI 1)) h_339 g_339_7 g_339_11 n11 g_339_12 n12 g_339_13 n13 g_339_15 g_339_54 g_339_55 n55 g_339_56 k_339 fr_339 (by omega) (by rw [he, mj_fw_s (by omega), hG, if_pos rfl]) rfl rfl (by omega)
              · have k_339 : cL h_339 := F_339.1.trans ul
                have fr_339 := hfr_cb F F_339 rfl
                have g_339_7 := (hfr_g F_339 7 rfl).trans u7
                have g_339_11 := (hfr_g F_339 11 rfl).trans u11
                have g_339_12 := (hfr_g F_339 12 rfl).trans u12
                have g_339_13 := (hfr_g F_339 13 rfl).trans u13
                have g_339_15 := (hfr_g F_339 15 rfl).trans u15
                have g_339_54 := (hfr_g F_339 54 rfl).trans u54
                have g_339_55 := (hfr_g F_339 55 rfl).trans u55
                have g_339_56 := (hfr_g F_339 56 rfl).trans u56
                refine ik_Wk 0 (pc_q := 129) (loc_q := [some (.ref 54), some (fI 1), some (.ref 7), some (.ref 15), some (fI kb), some (fI fb), some (fI i), some (fI (lr.getD (40 + i).toNat 0)), x8]) (st_q := [fI 0]) (h_q := h_339) (cl_q := 0) (sl_q := 0) rfl ?_
                refine ik_Wk 2 (pc_q := 133) (loc_q := [some (.ref 54), some (fI 1), some (.ref 7), some (.ref 15), some (fI kb), some (fI fb), some (fI i), some (fI (lr.getD (40 + i).toNat 0)), some (fI 0)]) (st_q := [fI 0]) (h_q := h_339) (cl_q := 0) (sl_q := 0) rfl ?_
                refine fw_if_ne rfl rfl (by decide +kernel) (by decide +kernel) (fun hc19 => ?_) (fun hc19 => absurd hc19 (by decide +kernel))
                refine ik_Wk 1 (pc_q := 138) (loc_q := [some (.ref 54), some (fI 1), some (.ref 7), some (.ref 15), some (fI kb), some (fI fb), some (fI i), some (fI (lr.getD (40 + i).toNat 0)), some (fI 0)]) (st_q := [fI i]) (h_q := h_339) (cl_q := 0) (sl_q := 0) rfl ?_
                have et : mx_tm kb (i - fb) = 1 := by unfold mx_tm; (repeat' split) <;> omega
                have hG : (mj_ok W pl kb pb fb lr 40) i = false := by
                  show (if i < fb then _ else if i = fb then _ else _) = _
                  rw [if_neg (by omega), if_neg (by omega), et]
                  exact p_339_0
                exact ik_Wret rfl rfl ⟨_, _, rfl, rfl, rfl, rfl, ⟨(congrArg (fun z => [fI z]) (by rw [he, mj_fw_s (by omega), hG, if_neg (by decide +kernel)])), fr_339⟩⟩
      · refine ik_Wk 1 (pc_q := 55) (loc_q := [some (.ref 54), some (fI 1), some (.ref 7), some (.ref 15), some (fI kb), some (fI fb), some (fI i), some (fI (lr.getD (40 + i).toNat 0)), x8]) (st_q := [fI (lr.getD (40 + i).toNat 0)]) (h_q := u) (cl_q := 0) (sl_q := 0) rfl ?_
        refine fw_bi rfl (by decide +kernel) ?_
        refine fw_ic_ne rfl rfl (by omega) (by omega) (by omega) (by omega) (fun hc20 => ?_) (fun hc20 => ?_)
        · refine ik_Wk 5 (pc_q := 133) (loc_q := [some (.ref 54), some (fI 1), some (.ref 7), some (.ref 15), some (fI kb), some (fI fb), some (fI i), some (fI (lr.getD (40 + i).toNat 0)), some (fI 1)]) (st_q := [fI 1]) (h_q := u) (cl_q := 0) (sl_q := 0) rfl ?_
          refine fw_if_ne rfl rfl (by decide +kernel) (by decide +kernel) (fun hc21 => absurd hc21 (by decide +kernel)) (fun hc21 => ?_)
          refine fw_inc (a := i) (loc_q := [some (.ref 54), some (fI 1), some (.ref 7), some (.ref 15), some (fI kb), some (fI fb), some (fI (i + 1)), some (fI (lr.getD (40 + i).toNat 0)), some (fI 1)]) rfl rfl (Nat.le_of_ble_eq_true rfl) rfl ?_
          refine ik_Wk 1 (pc_q := 21) (loc_q := [some (.ref 54), some (fI 1), some (.ref 7), some (.ref 15), some (fI kb), some (fI fb), some (fI (i + 1)), some (fI (lr.getD (40 + i).toNat 0)), some (fI 1)]) (st_q := []) (h_q := u) (cl_q := 0) (sl_q := 0) rfl ?_
          have hG : (mj_ok W pl kb pb fb lr 40) i = true := by
            show (if i < fb then _ else if i = fb then _ else _) = _
            split
            · exact decide_eq_true (by omega)
            · first | exact decide_eq_true (by omega) | (rw [if_pos (by omega)]; exact decide_eq_true (by omega))
          exact ih  (i + 1) (some (fI (lr.getD (40 + i).toNat 0))) (some (fI 1)) u u7 u11 n11 u12 n12 u13 n13 u15 u54 u55 n55 u56 ul F (by omega) (by rw [he, mj_fw_s (by omega), hG, if_pos rfl]) rfl rfl (by omega)
        · refine ik_Wk 4 (pc_q := 133) (loc_q := [some (.ref 54), some (fI 1), some (.ref 7), some (.ref 15), some (fI kb), some (fI fb), some (fI i), some (fI (lr.getD (40 + i).toNat 0)), some (fI 0)]) (st_q := [fI 0]) (h_q := u) (cl_q := 0) (sl_q := 0) rfl ?_
          refine fw_if_ne rfl rfl (by decide +kernel) (by decide +kernel) (fun hc22 => ?_) (fun hc22 => absurd hc22 (by decide +kernel))
          refine ik_Wk 1 (pc_q := 138) (loc_q := [some (.ref 54), some (fI 1), some (.ref 7), some (.ref 15), some (fI kb), some (fI fb), some (fI i), some (fI (lr.getD (40 + i).toNat 0)), some (fI 0)]) (st_q := [fI i]) (h_q := u) (cl_q := 0) (sl_q := 0) rfl ?_
          have hG : (mj_ok W pl kb pb fb lr 40) i = false := by
            show (if i < fb then _ else if i = fb then _ else _) = _
            split
            · exact decide_eq_false (by omega)
            · first | exact decide_eq_false (by omega) | (rw [if_pos (by omega)]; exact decide_eq_false (by omega))
          exact ik_Wret rfl rfl ⟨_, _, rfl, rfl, rfl, rfl, ⟨(congrArg (fun z => [fI z]) (by rw [he, mj_fw_s (by omega), hG, if_neg (by decide +kernel)])), F⟩⟩

theorem cs_wrong1 {h : List ik_E} {pl : Int} {lo : Int} {s : Nat} {n0 : Int} {n1 : Int} {ka : Int} {pa : Int} {fa : Int} {kb : Int} {pb : Int} {fb : Int} {lr : List Int} {wg : List Int} {wc : List Int} {we : List Int} {W : Int → List (Int × Int)} (q0 : 0 ≤ pl ∧ pl ≤ 12) (q1 : ∀ x : Int, (0 : Int) ≤ x → x < pl - 1 → mx_wy wg wc we x (W x)) (q2 : ∀ x : Int, (0 : Int) ≤ x → x < pl - 1 → mx_ok pl (W x)) (q3 : (0 : Int) ≤ kb ∧ kb ≤ (2 : Int)) (q4 : (0 : Int) ≤ pb ∧ pb ≤ (11 : Int)) (q5 : (0 : Int) ≤ fb ∧ fb ≤ (30 : Int)) (q6 : (0 : Int) ≤ n1 ∧ n1 ≤ (40 : Int)) (q7 : ∀ j : Nat, (j : Int) < n1 → lr.getD (40 + j) 0 = 12 ∨ (0 ≤ lr.getD (40 + j) 0 ∧ lr.getD (40 + j) (0 : Int) < pl)) (h7 : cE h 7 (.inr (0, [fI pl, fI ((s : Nat) : Int), fI lo, .ref 8, .ref 9, .ref 10, .ref 11, .ref 12, .ref 13]))) (h11 : cE h 11 (.inl (.int, fA wg))) (n11 : wg.length = (60 : Nat)) (h12 : cE h 12 (.inl (.int, fA wc))) (n12 : wc.length = (60 : Nat)) (h13 : cE h 13 (.inl (.int, fA we))) (n13 : we.length = (12 : Nat)) (h15 : cE h 15 (.inl (.int, fA [ka, pa, fa, kb, pb, fb]))) (h54 : cE h 54 (.inr (4, [.ref 55, .ref 56]))) (h55 : cE h 55 (.inl (.int, fA lr))) (n55 : lr.length = (80 : Nat)) (h56 : cE h 56 (.inl (.int, fA [n0, n1]))) (hl : h.length = (94 : Nat)) : ik_F 39 [.ref 54, fI 1, .ref 7, .ref 15] h (fun rv h_q => rv = [fI (mj_fw (mj_ok W pl kb pb fb lr 40) n1.toNat 0)] ∧ hfr [] h h_q) := by
  refine ik_Wk 3 (pc_q := 3) (loc_q := [some (.ref 54), some (fI 1), some (.ref 7), some (.ref 15), none, none, none, none, none]) (st_q := [fI 3, fI 1, .ref 15]) (h_q := h) (cl_q := 0) (sl_q := 0) rfl ?_
  refine fw_mul rfl ?_
  refine ik_Wk 1 (pc_q := 5) (loc_q := [some (.ref 54), some (fI 1), some (.ref 7), some (.ref 15), none, none, none, none, none]) (st_q := [fI 0, fI 3, .ref 15]) (h_q := h) (cl_q := 0) (sl_q := 0) rfl ?_
  refine fw_add rfl ?_
  refine fw_ial (z := 3) rfl h15 (by decide +kernel) (Nat.le_of_ble_eq_true rfl) (by decide +kernel) ?_
  refine ik_Wk 0 (pc_q := 7) (loc_q := [some (.ref 54), some (fI 1), some (.ref 7), some (.ref 15), none, none, none, none, none]) (st_q := [fI kb]) (h_q := h) (cl_q := 0) (sl_q := 0) rfl ?_
  refine ik_Wk 4 (pc_q := 12) (loc_q := [some (.ref 54), some (fI 1), some (.ref 7), some (.ref 15), some (fI kb), none, none, none, none]) (st_q := [fI 3, fI 1, .ref 15]) (h_q := h) (cl_q := 0) (sl_q := 0) rfl ?_
  refine fw_mul rfl ?_
  refine ik_Wk 1 (pc_q := 14) (loc_q := [some (.ref 54), some (fI 1), some (.ref 7), some (.ref 15), some (fI kb), none, none, none, none]) (st_q := [fI 2, fI 3, .ref 15]) (h_q := h) (cl_q := 0) (sl_q := 0) rfl ?_
  refine fw_add rfl ?_
  refine fw_ial (z := 5) rfl h15 (by decide +kernel) (Nat.le_of_ble_eq_true rfl) (by decide +kernel) ?_
  refine ik_Wk 0 (pc_q := 16) (loc_q := [some (.ref 54), some (fI 1), some (.ref 7), some (.ref 15), some (fI kb), none, none, none, none]) (st_q := [fI fb]) (h_q := h) (cl_q := 0) (sl_q := 0) rfl ?_
  refine ik_Wk 3 (pc_q := 21) (loc_q := [some (.ref 54), some (fI 1), some (.ref 7), some (.ref 15), some (fI kb), some (fI fb), some (fI 0), none, none]) (st_q := []) (h_q := h) (cl_q := 0) (sl_q := 0) rfl ?_
  exact cs_wrong1L (pl := pl) (lo := lo) (s := s) (n0 := n0) (n1 := n1) (ka := ka) (pa := pa) (fa := fa) (kb := kb) (pb := pb) (fb := fb) (lr := lr) (wg := wg) (wc := wc) (we := we) (W := W) q0 q1 q2 q3 q4 q5 q6 q7  (n1.toNat + 1) 0 none none h h7 h11 n11 h12 n12 h13 n13 h15 h54 h55 n55 h56 hl (hfr_refl [] h) (by omega) (by rw [Int.sub_zero]) rfl rfl (by omega)

end

/-! 38zq.rjudge -/
noncomputable section
/-! the reference: goes of sets, logs judged (written by wip/fx/u17.py) -/
theorem mj_tb_lt {B : Nat} {pl q : Int} (h : B < 2 ^ pl.toNat) (hb : B.testBit q.toNat = true) (h0 : 0 ≤ q) : q < pl := by
  rcases Int.lt_or_le q pl with w | w
  · exact w
  · have := Nat.testBit_lt_two_pow (Nat.lt_of_lt_of_le h (Nat.pow_le_pow_right (by decide +kernel) (show pl.toNat ≤ q.toNat by omega)))
    rw [this] at hb
    cases hb
theorem mj_ok_pl {W : Int → List (Int × Int)} {pl kd pc fr o i : Int} {lr : List Int} (h : mj_ok W pl kd pc fr lr o i = true) (hf : fr ≤ i) (hc : 0 ≤ pc ∧ pc ≤ 11) (he : lr.getD (o + i).toNat 0 = 12 ∨ (0 ≤ lr.getD (o + i).toNat 0 ∧ lr.getD (o + i).toNat 0 < pl)) : 0 ≤ lr.getD (o + i).toNat 0 ∧ lr.getD (o + i).toNat 0 < pl := by
  unfold mj_ok at h
  rw [if_neg (by omega)] at h
  by_cases q : i = fr
  · rw [if_pos q] at h; have := of_decide_eq_true h; omega
  · rw [if_neg q] at h; exact (of_decide_eq_true h).2.1
theorem mj_or_idem (x b : Nat) : x ||| b ||| b = x ||| b := by rw [Nat.or_assoc, Nat.or_self]
theorem cr_onFromI {h : List ik_E} {pl : Int} {f : Nat → Int} {s : Nat} {B : Nat} {cn : List Int} {go : List Int} {ch : List Int} {gt : List Int} {gd : List Int} (q0 : 1 ≤ pl ∧ pl ≤ 12) (q1 : s < 4096) (q2 : ∀ x : Int, (0 : Int) ≤ x → x < pl - 1 → 0 ≤ cn.getD x.toNat 0 ∧ cn.getD x.toNat 0 ≤ 4) (q3 : ∀ x : Int, (0 : Int) ≤ x → x < pl - 1 → 1 ≤ cn.getD x.toNat 0 ∧ ∀ j : Int, 4 * x ≤ j → j < 4 * x + cn.getD x.toNat 0 → 0 ≤ ch.getD j.toNat 0 ∧ ch.getD j.toNat 0 ≤ 100) (q4 : ∀ x : Int, (0 : Int) ≤ x → x < pl - 1 → mx_ok pl (mx_w cn go ch s x)) (q5 : B < 4096) (p : Int) (hp : (0 : Int) ≤ p ∧ p < pl - 1) (o0 : Nat) (g1 : List Int) (d1 : List Int) (hat : mx_at 0 (mx_w cn go ch s p) g1 d1 (mx_w cn go ch s p).length) {R : List Value → List ik_E → Prop} (K : ∀ (w : List ik_E) (on : Nat) (i2 : Int) (w66 : cE w 66 (.inr (10, (fI pl :: .ref 67 :: .ref 68 :: .ref 69 :: fI ((s : Nat) : Int) :: .ref 70 :: .ref 71 :: fI (f 7) :: fI (f 8) :: .ref 72 :: fI (f 10) :: fI (f 11) :: fI (f 12) :: fJ (f 13) :: fI (f 14) :: fI (f 15) :: fI (f 16) :: fI (f 17) :: .ref 73 :: .ref 74 :: .ref 75 :: .ref 76 :: .ref 77 :: .ref 78 :: fI ((mx_w cn go ch s p).length : Int) :: .ref 79 :: .ref 80 :: .ref 81 :: .ref 82 :: .ref 83 :: .ref 84 :: .ref 85 :: fJ (f 32) :: fJ (f 33) :: .ref 86 :: .ref 87 :: fI (f 36) :: .ref 88 :: .ref 89 :: .ref 90 :: .ref 91 :: .ref 92 :: .ref 93 :: [])))) (w67 : cE w 67 (.inl (.int, fA cn))) (nw_67 : cn.length = (12 : Nat)) (w68 : cE w 68 (.inl (.int, fA go))) (nw_68 : go.length = (48 : Nat)) (w69 : cE w 69 (.inl (.int, fA ch))) (nw_69 : ch.length = (48 : Nat)) (w77 : cE w 77 (.inl (.int, fA g1))) (nw_77 : g1.length = (5 : Nat)) (w78 : cE w 78 (.inl (.int, fA d1))) (nw_78 : d1.length = (5 : Nat)) (wl : w.length = (94 : Nat)) (F : hfr [66, 77, 78] h w) (ho : on = o0 ||| mj_gs (mx_w cn go ch s p)), ik_G 205 80 [some (.ref 66), some (fI ((B : Nat) : Int)), some (fI ((on : Nat) : Int)), some (fI p), some (fI i2)] [] w R) : ∀ (k : Nat) (j : Nat) (on : Nat) (i : Int) (u : List ik_E) (u66 : cE u 66 (.inr (10, (fI pl :: .ref 67 :: .ref 68 :: .ref 69 :: fI ((s : Nat) : Int) :: .ref 70 :: .ref 71 :: fI (f 7) :: fI (f 8) :: .ref 72 :: fI (f 10) :: fI (f 11) :: fI (f 12) :: fJ (f 13) :: fI (f 14) :: fI (f 15) :: fI (f 16) :: fI (f 17) :: .ref 73 :: .ref 74 :: .ref 75 :: .ref 76 :: .ref 77 :: .ref 78 :: fI ((mx_w cn go ch s p).length : Int) :: .ref 79 :: .ref 80 :: .ref 81 :: .ref 82 :: .ref 83 :: .ref 84 :: .ref 85 :: fJ (f 32) :: fJ (f 33) :: .ref 86 :: .ref 87 :: fI (f 36) :: .ref 88 :: .ref 89 :: .ref 90 :: .ref 91 :: .ref 92 :: .ref 93 :: [])))) (u67 : cE u 67 (.inl (.int, fA cn))) (n67 : cn.length = (12 : Nat)) (u68 : cE u 68 (.inl (.int, fA go))) (n68 : go.length = (48 : Nat)) (u69 : cE u 69 (.inl (.int, fA ch))) (n69 : ch.length = (48 : Nat)) (u77 : cE u 77 (.inl (.int, fA g1))) (n77 : g1.length = (5 : Nat)) (u78 : cE u 78 (.inl (.int, fA d1))) (n78 : d1.length = (5 : Nat)) (ul : u.length = (94 : Nat)) (F : hfr [66, 77, 78] h u) (hj : j ≤ (mx_w cn go ch s p).length) (hi : i = (j : Int)) (ho : on = o0 ||| mj_gj (mx_w cn go ch s p) j) (hk : ((mx_w cn go ch s p).length : Int) - (j : Int) < (k : Int)), ik_G 205 53 [some (.ref 66), some (fI ((B : Nat) : Int)), some (fI ((on : Nat) : Int)), some (fI p), some (fI i)] [] u R := by
  intro k
  induction k with
  | zero => intro j on i u u66 u67 n67 u68 n68 u69 n69 u77 n77 u78 n78 ul F hj hi ho hk; omega
  | succ k ih =>
    intro j on i u u66 u67 n67 u68 n68 u69 n69 u77 n77 u78 n78 ul F hj hi ho hk
    obtain ⟨o1, o2, o3⟩ := q4 p hp.1 hp.2
    refine ik_Wk 2 (pc_q := 56) (loc_q := [some (.ref 66), some (fI ((B : Nat) : Int)), some (fI ((on : Nat) : Int)), some (fI p), some (fI i)]) (st_q := [.ref 66, fI i]) (h_q := u) (cl_q := 0) (sl_q := 0) rfl ?_
    refine fw_gf rfl rfl u66 rfl ?_
    refine fw_ic_ge rfl rfl (by omega) (by omega) (by omega) (by omega) (fun hc1 => ?_) (fun hc1 => ?_)
    · have ejl : j = (mx_w cn go ch s p).length := by omega
      rw [ejl] at ho
      exact K u on i u66 u67 n67 u68 n68 u69 n69 u77 n77 u78 n78 ul F ho
    · refine ik_Wk 3 (pc_q := 65) (loc_q := [some (.ref 66), some (fI ((B : Nat) : Int)), some (fI ((on : Nat) : Int)), some (fI p), some (fI i)]) (st_q := [.ref 66, fI 1, fI ((on : Nat) : Int)]) (h_q := u) (cl_q := 0) (sl_q := 0) rfl ?_
      refine fw_gf rfl rfl u66 rfl ?_
      refine ik_Wk 1 (pc_q := 70) (loc_q := [some (.ref 66), some (fI ((B : Nat) : Int)), some (fI ((on : Nat) : Int)), some (fI p), some (fI i)]) (st_q := [fI i, .ref 77, fI 1, fI ((on : Nat) : Int)]) (h_q := u) (cl_q := 0) (sl_q := 0) rfl ?_
      refine fw_ial rfl u77 (by omega) (by omega) (by omega) ?_
      have ej : i.toNat = 0 + j := by omega
      have hw := hat j (by omega)
      rw [← ej] at hw
      have hq := o3 j (by omega)
      refine fx_shl rfl (by omega) (by omega) ?_
      refine fx_or (m := on) (n := 1 <<< (g1.getD i.toNat 0).toNat) rfl ?_
      refine ik_Wk 1 (pc_q := 74) (loc_q := [some (.ref 66), some (fI ((B : Nat) : Int)), some (fI ((on ||| (1 <<< (g1.getD i.toNat 0).toNat) : Nat) : Int)), some (fI p), some (fI i)]) (st_q := []) (h_q := u) (cl_q := 0) (sl_q := 0) rfl ?_
      refine fw_inc (a := i) (loc_q := [some (.ref 66), some (fI ((B : Nat) : Int)), some (fI ((on ||| (1 <<< (g1.getD i.toNat 0).toNat) : Nat) : Int)), some (fI p), some (fI (i + 1))]) rfl rfl (Nat.le_of_ble_eq_true rfl) rfl ?_
      refine ik_Wk 1 (pc_q := 53) (loc_q := [some (.ref 66), some (fI ((B : Nat) : Int)), some (fI ((on ||| (1 <<< (g1.getD i.toNat 0).toNat) : Nat) : Int)), some (fI p), some (fI (i + 1))]) (st_q := []) (h_q := u) (cl_q := 0) (sl_q := 0) rfl ?_
      exact ih (j + 1) (on ||| (1 <<< (g1.getD i.toNat 0).toNat)) (i + 1) u u66 u67 n67 u68 n68 u69 n69 u77 n77 u78 n78 ul F (by omega) (by omega) (by rw [ho, hw.1, Nat.or_assoc]; rfl) (by omega)

theorem cr_onFromL {h : List ik_E} {pl : Int} {f : Nat → Int} {s : Nat} {B : Nat} {cn : List Int} {go : List Int} {ch : List Int} {gt : List Int} {gd : List Int} (q0 : 1 ≤ pl ∧ pl ≤ 12) (q1 : s < 4096) (q2 : ∀ x : Int, (0 : Int) ≤ x → x < pl - 1 → 0 ≤ cn.getD x.toNat 0 ∧ cn.getD x.toNat 0 ≤ 4) (q3 : ∀ x : Int, (0 : Int) ≤ x → x < pl - 1 → 1 ≤ cn.getD x.toNat 0 ∧ ∀ j : Int, 4 * x ≤ j → j < 4 * x + cn.getD x.toNat 0 → 0 ≤ ch.getD j.toNat 0 ∧ ch.getD j.toNat 0 ≤ 100) (q4 : ∀ x : Int, (0 : Int) ≤ x → x < pl - 1 → mx_ok pl (mx_w cn go ch s x)) (q5 : B < 4096)  : ∀ (k : Nat) (p : Int) (on : Nat) (w1 : Int) (g1 : List Int) (d1 : List Int) (x4 : Option Value) (u : List ik_E) (u66 : cE u 66 (.inr (10, (fI pl :: .ref 67 :: .ref 68 :: .ref 69 :: fI ((s : Nat) : Int) :: .ref 70 :: .ref 71 :: fI (f 7) :: fI (f 8) :: .ref 72 :: fI (f 10) :: fI (f 11) :: fI (f 12) :: fJ (f 13) :: fI (f 14) :: fI (f 15) :: fI (f 16) :: fI (f 17) :: .ref 73 :: .ref 74 :: .ref 75 :: .ref 76 :: .ref 77 :: .ref 78 :: fI w1 :: .ref 79 :: .ref 80 :: .ref 81 :: .ref 82 :: .ref 83 :: .ref 84 :: .ref 85 :: fJ (f 32) :: fJ (f 33) :: .ref 86 :: .ref 87 :: fI (f 36) :: .ref 88 :: .ref 89 :: .ref 90 :: .ref 91 :: .ref 92 :: .ref 93 :: [])))) (u67 : cE u 67 (.inl (.int, fA cn))) (n67 : cn.length = (12 : Nat)) (u68 : cE u 68 (.inl (.int, fA go))) (n68 : go.length = (48 : Nat)) (u69 : cE u 69 (.inl (.int, fA ch))) (n69 : ch.length = (48 : Nat)) (u77 : cE u 77 (.inl (.int, fA g1))) (n77 : g1.length = (5 : Nat)) (u78 : cE u 78 (.inl (.int, fA d1))) (n78 : d1.length = (5 : Nat)) (ul : u.length = (94 : Nat)) (F : hfr [66, 77, 78] h u) (hp : (0 : Int) ≤ p ∧ p ≤ pl) (ho : (p ≤ pl - 1 ∧ on = mj_of (fun x => mx_w cn go ch s x) B p.toNat) ∨ (p = pl ∧ on = mj_on (fun x => mx_w cn go ch s x) (pl - 1) B)) (w4 : ik_wl 94 x4 = true) (hk : pl - p < (k : Int)), ik_G 205 4 [some (.ref 66), some (fI ((B : Nat) : Int)), some (fI ((on : Nat) : Int)), some (fI p), x4] [] u (fun rv h_q => ∃ (w' : Int) (gt' : List Int) (gd' : List Int), rv = [fI ((mj_on (fun x => mx_w cn go ch s x) (pl - 1) B : Nat) : Int)] ∧ cE h_q 66 (.inr (10, (fI pl :: .ref 67 :: .ref 68 :: .ref 69 :: fI ((s : Nat) : Int) :: .ref 70 :: .ref 71 :: fI (f 7) :: fI (f 8) :: .ref 72 :: fI (f 10) :: fI (f 11) :: fI (f 12) :: fJ (f 13) :: fI (f 14) :: fI (f 15) :: fI (f 16) :: fI (f 17) :: .ref 73 :: .ref 74 :: .ref 75 :: .ref 76 :: .ref 77 :: .ref 78 :: fI w' :: .ref 79 :: .ref 80 :: .ref 81 :: .ref 82 :: .ref 83 :: .ref 84 :: .ref 85 :: fJ (f 32) :: fJ (f 33) :: .ref 86 :: .ref 87 :: fI (f 36) :: .ref 88 :: .ref 89 :: .ref 90 :: .ref 91 :: .ref 92 :: .ref 93 :: []))) ∧ cE h_q 77 (.inl (.int, fA gt')) ∧ gt'.length = (5 : Nat) ∧ cE h_q 78 (.inl (.int, fA gd')) ∧ gd'.length = (5 : Nat) ∧ hfr [66, 77, 78] h h_q) := by
  intro k
  induction k with
  | zero => intro p on w1 g1 d1 x4 u u66 u67 n67 u68 n68 u69 n69 u77 n77 u78 n78 ul F hp ho w4 hk; omega
  | succ k ih =>
    intro p on w1 g1 d1 x4 u u66 u67 n67 u68 n68 u69 n69 u77 n77 u78 n78 ul F hp ho w4 hk
    refine ik_Wk 2 (pc_q := 6) (loc_q := [some (.ref 66), some (fI ((B : Nat) : Int)), some (fI ((on : Nat) : Int)), some (fI p), x4]) (st_q := [.ref 66, fI p]) (h_q := u) (cl_q := 0) (sl_q := 0) rfl ?_
    refine fw_gf rfl rfl u66 rfl ?_
    refine fw_ic_ge rfl rfl (by omega) (by omega) (by omega) (by omega) (fun hc1 => ?_) (fun hc1 => ?_)
    · refine ik_Wk 1 (pc_q := 87) (loc_q := [some (.ref 66), some (fI ((B : Nat) : Int)), some (fI ((on : Nat) : Int)), some (fI p), x4]) (st_q := [fI ((on : Nat) : Int)]) (h_q := u) (cl_q := 0) (sl_q := 0) rfl ?_
      have hoz : on = mj_on (fun x => mx_w cn go ch s x) (pl - 1) B := by
        rcases ho with z | z
        · omega
        · exact z.2
      exact ik_Wret rfl rfl ⟨_, _, rfl, rfl, rfl, rfl, ⟨w1, g1, d1, (congrArg (fun z => [fI ((z : Nat) : Int)]) hoz), u66, u77, n77, u78, n78, F⟩⟩
    · refine ik_Wk 2 (pc_q := 14) (loc_q := [some (.ref 66), some (fI ((B : Nat) : Int)), some (fI ((on : Nat) : Int)), some (fI p), x4]) (st_q := [fI p, fI ((B : Nat) : Int)]) (h_q := u) (cl_q := 0) (sl_q := 0) rfl ?_
      refine ik_Wc 128 2 3 [fI ((B : Nat) : Int), fI p] [] rfl rfl rfl (by decide +kernel) rfl rfl (fw_sta ul (fw_ftx rfl wv_n (wl_c rfl (wl_c rfl (wl_c rfl (wl_c rfl (wl_c w4 wl_n)))))) (by decide +kernel)) ?_
      refine ik_Wk 0 (pc_q := 0) (loc_q := [some (fI ((B : Nat) : Int)), some (fI p)]) (st_q := []) (h_q := u) (cl_q := 0) (sl_q := 0) rfl ?_
      refine ik_Wk 2 (pc_q := 2) (loc_q := [some (fI ((B : Nat) : Int)), some (fI p)]) (st_q := [fI p, fI ((B : Nat) : Int)]) (h_q := u) (cl_q := 0) (sl_q := 0) rfl ?_
      refine fx_shr (n := B) rfl (by omega) (by omega) (by omega) ?_
      refine ik_Wk 1 (pc_q := 4) (loc_q := [some (fI ((B : Nat) : Int)), some (fI p)]) (st_q := [fI 1, fI ((B >>> p.toNat : Nat) : Int)]) (h_q := u) (cl_q := 0) (sl_q := 0) rfl ?_
      refine fx_bit (n := B) (k := p.toNat) rfl (fun hb2 => ?_) (fun hb2 => ?_)
      · refine ik_Wk 0 (pc_q := 5) (loc_q := [some (fI ((B : Nat) : Int)), some (fI p)]) (st_q := [fI 1]) (h_q := u) (cl_q := 0) (sl_q := 0) rfl ?_
        refine ik_Wk 1 (pc_q := 6) (loc_q := [some (fI ((B : Nat) : Int)), some (fI p)]) (st_q := [fI 1, fI 1]) (h_q := u) (cl_q := 0) (sl_q := 0) rfl ?_
        refine fw_ic_ne rfl rfl (by decide +kernel) (by decide +kernel) (by decide +kernel) (by decide +kernel) (fun hc3 => ?_) (fun hc3 => absurd hc3 (by decide +kernel))
        refine ik_Wk 2 (pc_q := 14) (loc_q := [some (fI ((B : Nat) : Int)), some (fI p)]) (st_q := [fI 1]) (h_q := u) (cl_q := 0) (sl_q := 0) rfl ?_
        refine ik_Wret rfl rfl ⟨_, _, rfl, rfl, ?_⟩
        refine ik_Wk 0 (pc_q := 17) (loc_q := [some (.ref 66), some (fI ((B : Nat) : Int)), some (fI ((on : Nat) : Int)), some (fI p), x4]) (st_q := [fI 1]) (h_q := u) (cl_q := 0) (sl_q := 0) rfl ?_
        refine fw_if_eq rfl rfl (by decide +kernel) (by decide +kernel) (fun hc4 => absurd hc4 (by decide +kernel)) (fun hc4 => ?_)
        refine ik_Wk 2 (pc_q := 22) (loc_q := [some (.ref 66), some (fI ((B : Nat) : Int)), some (fI ((on : Nat) : Int)), some (fI p), x4]) (st_q := [.ref 66, fI p]) (h_q := u) (cl_q := 0) (sl_q := 0) rfl ?_
        refine ik_Wc 130 1 0 [.ref 66] [fI p] rfl rfl rfl (by decide +kernel) rfl rfl (fw_rec ul (fw_ftx rfl (wv_c rfl wv_n) (wl_c rfl (wl_c rfl (wl_c rfl (wl_c rfl (wl_c w4 wl_n)))))) u66 rfl (by decide +kernel)) ?_
        refine ik_Wk 0 (pc_q := 0) (loc_q := [some (.ref 66)]) (st_q := []) (h_q := u) (cl_q := 0) (sl_q := 0) rfl ?_
        refine ik_Wk 1 (pc_q := 1) (loc_q := [some (.ref 66)]) (st_q := [.ref 66]) (h_q := u) (cl_q := 0) (sl_q := 0) rfl ?_
        refine fw_gf rfl rfl u66 rfl ?_
        refine ik_Wk 1 (pc_q := 5) (loc_q := [some (.ref 66)]) (st_q := [fI 1, fI pl]) (h_q := u) (cl_q := 0) (sl_q := 0) rfl ?_
        refine fw_sub rfl ?_
        refine ik_Wret rfl rfl ⟨_, _, rfl, rfl, ?_⟩
        refine ik_Wk 0 (pc_q := 25) (loc_q := [some (.ref 66), some (fI ((B : Nat) : Int)), some (fI ((on : Nat) : Int)), some (fI p), x4]) (st_q := [fI (pl - 1), fI p]) (h_q := u) (cl_q := 0) (sl_q := 0) rfl ?_
        refine fw_ic_ne rfl rfl (by omega) (by omega) (by omega) (by omega) (fun hc5 => ?_) (fun hc5 => ?_)
        · refine ik_Wk 3 (pc_q := 31) (loc_q := [some (.ref 66), some (fI ((B : Nat) : Int)), some (fI ((on : Nat) : Int)), some (fI p), x4]) (st_q := [fI p, fI 1, fI ((on : Nat) : Int)]) (h_q := u) (cl_q := 0) (sl_q := 0) rfl ?_
          refine fx_shl rfl (by omega) (by omega) ?_
          refine fx_or (m := on) (n := 1 <<< p.toNat) rfl ?_
          refine ik_Wk 2 (pc_q := 80) (loc_q := [some (.ref 66), some (fI ((B : Nat) : Int)), some (fI ((on ||| (1 <<< p.toNat) : Nat) : Int)), some (fI p), x4]) (st_q := []) (h_q := u) (cl_q := 0) (sl_q := 0) rfl ?_
          refine fw_inc (a := p) (loc_q := [some (.ref 66), some (fI ((B : Nat) : Int)), some (fI ((on ||| (1 <<< p.toNat) : Nat) : Int)), some (fI (p + 1)), x4]) rfl rfl (Nat.le_of_ble_eq_true rfl) rfl ?_
          refine ik_Wk 1 (pc_q := 4) (loc_q := [some (.ref 66), some (fI ((B : Nat) : Int)), some (fI ((on ||| (1 <<< p.toNat) : Nat) : Int)), some (fI (p + 1)), x4]) (st_q := []) (h_q := u) (cl_q := 0) (sl_q := 0) rfl ?_
          have ho1 : on = mj_of (fun x => mx_w cn go ch s x) B p.toNat := by
            rcases ho with z | z
            · exact z.2
            · omega
          exact ih  (p + 1) (on ||| (1 <<< p.toNat)) w1 g1 d1 x4 u u66 u67 n67 u68 n68 u69 n69 u77 n77 u78 n78 ul F (by omega) (Or.inr ⟨by omega, by unfold mj_on; rw [mj_and_bit, show (pl - 1).toNat = p.toNat by omega, if_pos hb2, ho1]⟩) w4 (by omega)
        · refine ik_Wk 2 (pc_q := 39) (loc_q := [some (.ref 66), some (fI ((B : Nat) : Int)), some (fI ((on : Nat) : Int)), some (fI p), x4]) (st_q := [fI p, fI ((B : Nat) : Int)]) (h_q := u) (cl_q := 0) (sl_q := 0) rfl ?_
          refine ik_Wc 128 2 3 [fI ((B : Nat) : Int), fI p] [] rfl rfl rfl (by decide +kernel) rfl rfl (fw_sta ul (fw_ftx rfl wv_n (wl_c rfl (wl_c rfl (wl_c rfl (wl_c rfl (wl_c w4 wl_n)))))) (by decide +kernel)) ?_
          refine ik_Wk 0 (pc_q := 0) (loc_q := [some (fI ((B : Nat) : Int)), some (fI p)]) (st_q := []) (h_q := u) (cl_q := 0) (sl_q := 0) rfl ?_
          refine ik_Wk 2 (pc_q := 2) (loc_q := [some (fI ((B : Nat) : Int)), some (fI p)]) (st_q := [fI p, fI ((B : Nat) : Int)]) (h_q := u) (cl_q := 0) (sl_q := 0) rfl ?_
          refine fx_shr (n := B) rfl (by omega) (by omega) (by omega) ?_
          refine ik_Wk 1 (pc_q := 4) (loc_q := [some (fI ((B : Nat) : Int)), some (fI p)]) (st_q := [fI 1, fI ((B >>> p.toNat : Nat) : Int)]) (h_q := u) (cl_q := 0) (sl_q := 0) rfl ?_
          refine fx_bit (n := B) (k := p.toNat) rfl (fun hb6 => ?_) (fun hb6 => absurd (hb2.symm.trans hb6) (by decide +kernel))
          refine ik_Wk 0 (pc_q := 5) (loc_q := [some (fI ((B : Nat) : Int)), some (fI p)]) (st_q := [fI 1]) (h_q := u) (cl_q := 0) (sl_q := 0) rfl ?_
          refine ik_Wk 1 (pc_q := 6) (loc_q := [some (fI ((B : Nat) : Int)), some (fI p)]) (st_q := [fI 1, fI 1]) (h_q := u) (cl_q := 0) (sl_q := 0) rfl ?_
          refine fw_ic_ne rfl rfl (by decide +kernel) (by decide +kernel) (by decide +kernel) (by decide +kernel) (fun hc7 => ?_) (fun hc7 => absurd hc7 (by decide +kernel))
          refine ik_Wk 2 (pc_q := 14) (loc_q := [some (fI ((B : Nat) : Int)), some (fI p)]) (st_q := [fI 1]) (h_q := u) (cl_q := 0) (sl_q := 0) rfl ?_
          refine ik_Wret rfl rfl ⟨_, _, rfl, rfl, ?_⟩
          refine ik_Wk 0 (pc_q := 42) (loc_q := [some (.ref 66), some (fI ((B : Nat) : Int)), some (fI ((on : Nat) : Int)), some (fI p), x4]) (st_q := [fI 1]) (h_q := u) (cl_q := 0) (sl_q := 0) rfl ?_
          refine fw_if_eq rfl rfl (by decide +kernel) (by decide +kernel) (fun hc8 => absurd hc8 (by decide +kernel)) (fun hc8 => ?_)
          refine ik_Wk 2 (pc_q := 47) (loc_q := [some (.ref 66), some (fI ((B : Nat) : Int)), some (fI ((on : Nat) : Int)), some (fI p), x4]) (st_q := [fI p, .ref 66]) (h_q := u) (cl_q := 0) (sl_q := 0) rfl ?_
          refine fw_call 152 2 0 [.ref 66, fI p] [] rfl rfl rfl (Nat.le_of_ble_eq_true rfl) rfl rfl (fw_rec ul (fw_ftx rfl wv_n (wl_c rfl (wl_c rfl (wl_c rfl (wl_c rfl (wl_c w4 wl_n)))))) u66 rfl (by decide +kernel)) (cr_list (p := p) (f := fun j => ((pl :: 0 :: 0 :: 0 :: 0 :: 0 :: 0 :: f 7 :: f 8 :: 0 :: f 10 :: f 11 :: f 12 :: f 13 :: f 14 :: f 15 :: f 16 :: f 17 :: 0 :: 0 :: 0 :: 0 :: 0 :: 0 :: w1 :: 0 :: 0 :: 0 :: 0 :: 0 :: 0 :: 0 :: f 32 :: f 33 :: 0 :: 0 :: f 36 :: 0 :: 0 :: 0 :: 0 :: 0 :: 0 :: []) : List Int).getD j 0) (s := s) (cn := cn) (go := go) (ch := ch) (gt := g1) (gd := d1) (by omega) (by omega) (by omega) (q2 p (by omega) (by omega)) (q3 p (by omega) (by omega)).2 (q3 p (by omega) (by omega)).1 u66 u67 n67 u68 n68 u69 n69 u77 n77 u78 n78 ul) ?_
          rintro _ h_340 ⟨gt'_340, gd'_340, rfl, e_340_66, e_340_77, m_340_77, e_340_78, m_340_78, p_340_0, F_340⟩
          have k_340 : cL h_340 := F_340.1.trans ul
          have fr_340 := hfr_cb F F_340 rfl
          have g_340_67 := (hfr_g F_340 67 rfl).trans u67
          have g_340_68 := (hfr_g F_340 68 rfl).trans u68
          have g_340_69 := (hfr_g F_340 69 rfl).trans u69
          have g_340_66 : cE h_340 66 (.inr (10, (fI pl :: .ref 67 :: .ref 68 :: .ref 69 :: fI ((s : Nat) : Int) :: .ref 70 :: .ref 71 :: fI (f 7) :: fI (f 8) :: .ref 72 :: fI (f 10) :: fI (f 11) :: fI (f 12) :: fJ (f 13) :: fI (f 14) :: fI (f 15) :: fI (f 16) :: fI (f 17) :: .ref 73 :: .ref 74 :: .ref 75 :: .ref 76 :: .ref 77 :: .ref 78 :: fI ((mx_w cn go ch s p).length : Int) :: .ref 79 :: .ref 80 :: .ref 81 :: .ref 82 :: .ref 83 :: .ref 84 :: .ref 85 :: fJ (f 32) :: fJ (f 33) :: .ref 86 :: .ref 87 :: fI (f 36) :: .ref 88 :: .ref 89 :: .ref 90 :: .ref 91 :: .ref 92 :: .ref 93 :: []))) := e_340_66
          have g_340_77 : cE h_340 77 (.inl (.int, fA gt'_340)) := e_340_77
          have g_340_78 : cE h_340 78 (.inl (.int, fA gd'_340)) := e_340_78
          refine ik_Wk 0 (pc_q := 50) (loc_q := [some (.ref 66), some (fI ((B : Nat) : Int)), some (fI ((on : Nat) : Int)), some (fI p), x4]) (st_q := []) (h_q := h_340) (cl_q := 0) (sl_q := 0) rfl ?_
          refine ik_Wk 2 (pc_q := 53) (loc_q := [some (.ref 66), some (fI ((B : Nat) : Int)), some (fI ((on : Nat) : Int)), some (fI p), some (fI 0)]) (st_q := []) (h_q := h_340) (cl_q := 0) (sl_q := 0) rfl ?_
          refine cr_onFromI (pl := pl) (f := f) (s := s) (B := B) (cn := cn) (go := go) (ch := ch) (gt := gt) (gd := gd) q0 q1 q2 q3 q4 q5 p (by omega) on gt'_340 gd'_340 p_340_0 (R := (fun rv h_q => ∃ (w' : Int) (gt' : List Int) (gd' : List Int), rv = [fI ((mj_on (fun x => mx_w cn go ch s x) (pl - 1) B : Nat) : Int)] ∧ cE h_q 66 (.inr (10, (fI pl :: .ref 67 :: .ref 68 :: .ref 69 :: fI ((s : Nat) : Int) :: .ref 70 :: .ref 71 :: fI (f 7) :: fI (f 8) :: .ref 72 :: fI (f 10) :: fI (f 11) :: fI (f 12) :: fJ (f 13) :: fI (f 14) :: fI (f 15) :: fI (f 16) :: fI (f 17) :: .ref 73 :: .ref 74 :: .ref 75 :: .ref 76 :: .ref 77 :: .ref 78 :: fI w' :: .ref 79 :: .ref 80 :: .ref 81 :: .ref 82 :: .ref 83 :: .ref 84 :: .ref 85 :: fJ (f 32) :: fJ (f 33) :: .ref 86 :: .ref 87 :: fI (f 36) :: .ref 88 :: .ref 89 :: .ref 90 :: .ref 91 :: .ref 92 :: .ref 93 :: []))) ∧ cE h_q 77 (.inl (.int, fA gt')) ∧ gt'.length = 5 ∧ cE h_q 78 (.inl (.int, fA gd')) ∧ gd'.length = 5 ∧ hfr [66, 77, 78] h h_q)) (fun h_341 on_341 i2_341 g_341_66 g_341_67 m_341_67 g_341_68 m_341_68 g_341_69 m_341_69 g_341_77 m_341_77 g_341_78 m_341_78 k_341 fr_341 ho_341 => ?_) ((mx_w cn go ch s p).length + 1) 0 on 0 h_340 g_340_66 g_340_67 n67 g_340_68 n68 g_340_69 n69 g_340_77 m_340_77 g_340_78 m_340_78 k_340 fr_340 (by omega) rfl (Nat.or_zero _).symm (by omega)
          refine fw_inc (a := p) (loc_q := [some (.ref 66), some (fI ((B : Nat) : Int)), some (fI ((on_341 : Nat) : Int)), some (fI (p + 1)), some (fI i2_341)]) rfl rfl (Nat.le_of_ble_eq_true rfl) rfl ?_
          refine ik_Wk 1 (pc_q := 4) (loc_q := [some (.ref 66), some (fI ((B : Nat) : Int)), some (fI ((on_341 : Nat) : Int)), some (fI (p + 1)), some (fI i2_341)]) (st_q := []) (h_q := h_341) (cl_q := 0) (sl_q := 0) rfl ?_
          have ho1 : on = mj_of (fun x => mx_w cn go ch s x) B p.toNat := by
            rcases ho with z | z
            · exact z.2
            · omega
          exact ih  (p + 1) on_341 ((mx_w cn go ch s p).length : Int) gt'_340 gd'_340 (some (fI i2_341)) h_341 g_341_66 g_341_67 m_341_67 g_341_68 m_341_68 g_341_69 m_341_69 g_341_77 m_341_77 g_341_78 m_341_78 k_341 fr_341 (by omega) (Or.inl ⟨by omega, by rw [mj_of_s (by omega), if_pos hb2, ho_341, ho1]⟩) rfl (by omega)
      · refine ik_Wk 0 (pc_q := 5) (loc_q := [some (fI ((B : Nat) : Int)), some (fI p)]) (st_q := [fI 0]) (h_q := u) (cl_q := 0) (sl_q := 0) rfl ?_
        refine ik_Wk 1 (pc_q := 6) (loc_q := [some (fI ((B : Nat) : Int)), some (fI p)]) (st_q := [fI 1, fI 0]) (h_q := u) (cl_q := 0) (sl_q := 0) rfl ?_
        refine fw_ic_ne rfl rfl (by decide +kernel) (by decide +kernel) (by decide +kernel) (by decide +kernel) (fun hc9 => absurd hc9 (by decide +kernel)) (fun hc9 => ?_)
        refine ik_Wk 1 (pc_q := 14) (loc_q := [some (fI ((B : Nat) : Int)), some (fI p)]) (st_q := [fI 0]) (h_q := u) (cl_q := 0) (sl_q := 0) rfl ?_
        refine ik_Wret rfl rfl ⟨_, _, rfl, rfl, ?_⟩
        refine ik_Wk 0 (pc_q := 17) (loc_q := [some (.ref 66), some (fI ((B : Nat) : Int)), some (fI ((on : Nat) : Int)), some (fI p), x4]) (st_q := [fI 0]) (h_q := u) (cl_q := 0) (sl_q := 0) rfl ?_
        refine fw_if_eq rfl rfl (by decide +kernel) (by decide +kernel) (fun hc10 => ?_) (fun hc10 => absurd hc10 (by decide +kernel))
        refine ik_Wk 2 (pc_q := 39) (loc_q := [some (.ref 66), some (fI ((B : Nat) : Int)), some (fI ((on : Nat) : Int)), some (fI p), x4]) (st_q := [fI p, fI ((B : Nat) : Int)]) (h_q := u) (cl_q := 0) (sl_q := 0) rfl ?_
        refine ik_Wc 128 2 3 [fI ((B : Nat) : Int), fI p] [] rfl rfl rfl (by decide +kernel) rfl rfl (fw_sta ul (fw_ftx rfl wv_n (wl_c rfl (wl_c rfl (wl_c rfl (wl_c rfl (wl_c w4 wl_n)))))) (by decide +kernel)) ?_
        refine ik_Wk 0 (pc_q := 0) (loc_q := [some (fI ((B : Nat) : Int)), some (fI p)]) (st_q := []) (h_q := u) (cl_q := 0) (sl_q := 0) rfl ?_
        refine ik_Wk 2 (pc_q := 2) (loc_q := [some (fI ((B : Nat) : Int)), some (fI p)]) (st_q := [fI p, fI ((B : Nat) : Int)]) (h_q := u) (cl_q := 0) (sl_q := 0) rfl ?_
        refine fx_shr (n := B) rfl (by omega) (by omega) (by omega) ?_
        refine ik_Wk 1 (pc_q := 4) (loc_q := [some (fI ((B : Nat) : Int)), some (fI p)]) (st_q := [fI 1, fI ((B >>> p.toNat : Nat) : Int)]) (h_q := u) (cl_q := 0) (sl_q := 0) rfl ?_
        refine fx_bit (n := B) (k := p.toNat) rfl (fun hb11 => absurd (hb2.symm.trans hb11) (by decide +kernel)) (fun hb11 => ?_)
        refine ik_Wk 0 (pc_q := 5) (loc_q := [some (fI ((B : Nat) : Int)), some (fI p)]) (st_q := [fI 0]) (h_q := u) (cl_q := 0) (sl_q := 0) rfl ?_
        refine ik_Wk 1 (pc_q := 6) (loc_q := [some (fI ((B : Nat) : Int)), some (fI p)]) (st_q := [fI 1, fI 0]) (h_q := u) (cl_q := 0) (sl_q := 0) rfl ?_
        refine fw_ic_ne rfl rfl (by decide +kernel) (by decide +kernel) (by decide +kernel) (by decide +kernel) (fun hc12 => absurd hc12 (by decide +kernel)) (fun hc12 => ?_)
        refine ik_Wk 1 (pc_q := 14) (loc_q := [some (fI ((B : Nat) : Int)), some (fI p)]) (st_q := [fI 0]) (h_q := u) (cl_q := 0) (sl_q := 0) rfl ?_
        refine ik_Wret rfl rfl ⟨_, _, rfl, rfl, ?_⟩
        refine ik_Wk 0 (pc_q := 42) (loc_q := [some (.ref 66), some (fI ((B : Nat) : Int)), some (fI ((on : Nat) : Int)), some (fI p), x4]) (st_q := [fI 0]) (h_q := u) (cl_q := 0) (sl_q := 0) rfl ?_
        refine fw_if_eq rfl rfl (by decide +kernel) (by decide +kernel) (fun hc13 => ?_) (fun hc13 => absurd hc13 (by decide +kernel))
        refine fw_inc (a := p) (loc_q := [some (.ref 66), some (fI ((B : Nat) : Int)), some (fI ((on : Nat) : Int)), some (fI (p + 1)), x4]) rfl rfl (Nat.le_of_ble_eq_true rfl) rfl ?_
        refine ik_Wk 1 (pc_q := 4) (loc_q := [some (.ref 66), some (fI ((B : Nat) : Int)), some (fI ((on : Nat) : Int)), some (fI (p + 1)), x4]) (st_q := []) (h_q := u) (cl_q := 0) (sl_q := 0) rfl ?_
        have ho1 : on = mj_of (fun x => mx_w cn go ch s x) B p.toNat := by
          rcases ho with z | z
          · exact z.2
          · omega
        have ho2 : (p + 1 ≤ pl - 1 ∧ on = mj_of (fun x => mx_w cn go ch s x) B (p + 1).toNat) ∨ (p + 1 = pl ∧ on = mj_on (fun x => mx_w cn go ch s x) (pl - 1) B) := by
          by_cases z : p = pl - 1
          · exact Or.inr ⟨by omega, by unfold mj_on; rw [mj_and_bit, show (pl - 1).toNat = p.toNat by omega, if_neg (by rw [hb2]; decide), ho1, Nat.or_zero]⟩
          · exact Or.inl ⟨by omega, by rw [mj_of_s (by omega), if_neg (by rw [hb2]; decide)]; exact ho1⟩
        exact ih  (p + 1) on w1 g1 d1 x4 u u66 u67 n67 u68 n68 u69 n69 u77 n77 u78 n78 ul F (by omega) ho2 w4 (by omega)

theorem cr_onFrom {h : List ik_E} {pl : Int} {f : Nat → Int} {s : Nat} {B : Nat} {cn : List Int} {go : List Int} {ch : List Int} {gt : List Int} {gd : List Int} (q0 : 1 ≤ pl ∧ pl ≤ 12) (q1 : s < 4096) (q2 : ∀ x : Int, (0 : Int) ≤ x → x < pl - 1 → 0 ≤ cn.getD x.toNat 0 ∧ cn.getD x.toNat 0 ≤ 4) (q3 : ∀ x : Int, (0 : Int) ≤ x → x < pl - 1 → 1 ≤ cn.getD x.toNat 0 ∧ ∀ j : Int, 4 * x ≤ j → j < 4 * x + cn.getD x.toNat 0 → 0 ≤ ch.getD j.toNat 0 ∧ ch.getD j.toNat 0 ≤ 100) (q4 : ∀ x : Int, (0 : Int) ≤ x → x < pl - 1 → mx_ok pl (mx_w cn go ch s x)) (q5 : B < 4096) (h66 : cE h 66 (.inr (10, (fI pl :: .ref 67 :: .ref 68 :: .ref 69 :: fI ((s : Nat) : Int) :: .ref 70 :: .ref 71 :: fI (f 7) :: fI (f 8) :: .ref 72 :: fI (f 10) :: fI (f 11) :: fI (f 12) :: fJ (f 13) :: fI (f 14) :: fI (f 15) :: fI (f 16) :: fI (f 17) :: .ref 73 :: .ref 74 :: .ref 75 :: .ref 76 :: .ref 77 :: .ref 78 :: fI (f 24) :: .ref 79 :: .ref 80 :: .ref 81 :: .ref 82 :: .ref 83 :: .ref 84 :: .ref 85 :: fJ (f 32) :: fJ (f 33) :: .ref 86 :: .ref 87 :: fI (f 36) :: .ref 88 :: .ref 89 :: .ref 90 :: .ref 91 :: .ref 92 :: .ref 93 :: [])))) (h67 : cE h 67 (.inl (.int, fA cn))) (n67 : cn.length = (12 : Nat)) (h68 : cE h 68 (.inl (.int, fA go))) (n68 : go.length = (48 : Nat)) (h69 : cE h 69 (.inl (.int, fA ch))) (n69 : ch.length = (48 : Nat)) (h77 : cE h 77 (.inl (.int, fA gt))) (n77 : gt.length = (5 : Nat)) (h78 : cE h 78 (.inl (.int, fA gd))) (n78 : gd.length = (5 : Nat)) (hl : h.length = (94 : Nat)) : ik_F 205 [.ref 66, fI ((B : Nat) : Int)] h (fun rv h_q => ∃ (w' : Int) (gt' : List Int) (gd' : List Int), rv = [fI ((mj_on (fun x => mx_w cn go ch s x) (pl - 1) B : Nat) : Int)] ∧ cE h_q 66 (.inr (10, (fI pl :: .ref 67 :: .ref 68 :: .ref 69 :: fI ((s : Nat) : Int) :: .ref 70 :: .ref 71 :: fI (f 7) :: fI (f 8) :: .ref 72 :: fI (f 10) :: fI (f 11) :: fI (f 12) :: fJ (f 13) :: fI (f 14) :: fI (f 15) :: fI (f 16) :: fI (f 17) :: .ref 73 :: .ref 74 :: .ref 75 :: .ref 76 :: .ref 77 :: .ref 78 :: fI w' :: .ref 79 :: .ref 80 :: .ref 81 :: .ref 82 :: .ref 83 :: .ref 84 :: .ref 85 :: fJ (f 32) :: fJ (f 33) :: .ref 86 :: .ref 87 :: fI (f 36) :: .ref 88 :: .ref 89 :: .ref 90 :: .ref 91 :: .ref 92 :: .ref 93 :: []))) ∧ cE h_q 77 (.inl (.int, fA gt')) ∧ gt'.length = (5 : Nat) ∧ cE h_q 78 (.inl (.int, fA gd')) ∧ gd'.length = (5 : Nat) ∧ hfr [66, 77, 78] h h_q) := by
  refine ik_Wk 4 (pc_q := 4) (loc_q := [some (.ref 66), some (fI ((B : Nat) : Int)), some (fI 0), some (fI 0), none]) (st_q := []) (h_q := h) (cl_q := 0) (sl_q := 0) rfl ?_
  exact cr_onFromL (pl := pl) (f := f) (s := s) (B := B) (cn := cn) (go := go) (ch := ch) (gt := gt) (gd := gd) q0 q1 q2 q3 q4 q5  (pl.toNat + 1) 0 0 (f 24) gt gd none h h66 h67 n67 h68 n68 h69 n69 h77 n77 h78 n78 hl (hfr_refl [66, 77, 78] h) (by omega) (Or.inl ⟨by omega, rfl⟩) rfl (by omega)

theorem cr_mayBe0 {h : List ik_E} {pl : Int} {f : Nat → Int} {s : Nat} {cn : List Int} {go : List Int} {ch : List Int} {gt : List Int} {gd : List Int} {ka : Int} {pa : Int} {fa : Int} {kb : Int} {pb : Int} {fb : Int} {lr : List Int} {i : Int} (q0 : 0 ≤ pl ∧ pl ≤ 12) (q1 : s < 4096) (q2 : ∀ x : Int, (0 : Int) ≤ x → x < pl - 1 → 0 ≤ cn.getD x.toNat 0 ∧ cn.getD x.toNat 0 ≤ 4) (q3 : ∀ x : Int, (0 : Int) ≤ x → x < pl - 1 → 1 ≤ cn.getD x.toNat 0 ∧ ∀ j : Int, 4 * x ≤ j → j < 4 * x + cn.getD x.toNat 0 → 0 ≤ ch.getD j.toNat 0 ∧ ch.getD j.toNat 0 ≤ 100) (q4 : ∀ x : Int, (0 : Int) ≤ x → x < pl - 1 → mx_ok pl (mx_w cn go ch s x)) (q5 : (0 : Int) ≤ ka ∧ ka ≤ (2 : Int)) (q6 : (0 : Int) ≤ pa ∧ pa ≤ (11 : Int)) (q7 : (0 : Int) ≤ fa ∧ fa ≤ (30 : Int)) (q8 : (0 : Int) ≤ i ∧ i < (40 : Int)) (q9 : lr.getD (0 + i).toNat 0 = 12 ∨ (0 ≤ lr.getD (0 + i).toNat 0 ∧ lr.getD (0 + i).toNat (0 : Int) < pl)) (q10 : fa < i → 0 ≤ lr.getD (0 + i - 1).toNat 0 ∧ lr.getD (0 + i - 1).toNat (0 : Int) < pl) (h66 : cE h 66 (.inr (10, (fI pl :: .ref 67 :: .ref 68 :: .ref 69 :: fI ((s : Nat) : Int) :: .ref 70 :: .ref 71 :: fI (f 7) :: fI (f 8) :: .ref 72 :: fI (f 10) :: fI (f 11) :: fI (f 12) :: fJ (f 13) :: fI (f 14) :: fI (f 15) :: fI (f 16) :: fI (f 17) :: .ref 73 :: .ref 74 :: .ref 75 :: .ref 76 :: .ref 77 :: .ref 78 :: fI (f 24) :: .ref 79 :: .ref 80 :: .ref 81 :: .ref 82 :: .ref 83 :: .ref 84 :: .ref 85 :: fJ (f 32) :: fJ (f 33) :: .ref 86 :: .ref 87 :: fI (f 36) :: .ref 88 :: .ref 89 :: .ref 90 :: .ref 91 :: .ref 92 :: .ref 93 :: [])))) (h67 : cE h 67 (.inl (.int, fA cn))) (n67 : cn.length = (12 : Nat)) (h68 : cE h 68 (.inl (.int, fA go))) (n68 : go.length = (48 : Nat)) (h69 : cE h 69 (.inl (.int, fA ch))) (n69 : ch.length = (48 : Nat)) (h77 : cE h 77 (.inl (.int, fA gt))) (n77 : gt.length = (5 : Nat)) (h78 : cE h 78 (.inl (.int, fA gd))) (n78 : gd.length = (5 : Nat)) (h70 : cE h 70 (.inl (.int, fA [ka, pa, fa, kb, pb, fb]))) (h91 : cE h 91 (.inl (.int, fA lr))) (n91 : lr.length = (80 : Nat)) (hl : h.length = (94 : Nat)) : ik_F 206 [.ref 66, fI 0, fI i] h (fun rv h_q => (∃ (w' : Int) (gt' : List Int) (gd' : List Int), rv = [fI 1] ∧ cE h_q 66 (.inr (10, (fI pl :: .ref 67 :: .ref 68 :: .ref 69 :: fI ((s : Nat) : Int) :: .ref 70 :: .ref 71 :: fI (f 7) :: fI (f 8) :: .ref 72 :: fI (f 10) :: fI (f 11) :: fI (f 12) :: fJ (f 13) :: fI (f 14) :: fI (f 15) :: fI (f 16) :: fI (f 17) :: .ref 73 :: .ref 74 :: .ref 75 :: .ref 76 :: .ref 77 :: .ref 78 :: fI w' :: .ref 79 :: .ref 80 :: .ref 81 :: .ref 82 :: .ref 83 :: .ref 84 :: .ref 85 :: fJ (f 32) :: fJ (f 33) :: .ref 86 :: .ref 87 :: fI (f 36) :: .ref 88 :: .ref 89 :: .ref 90 :: .ref 91 :: .ref 92 :: .ref 93 :: []))) ∧ cE h_q 77 (.inl (.int, fA gt')) ∧ gt'.length = (5 : Nat) ∧ cE h_q 78 (.inl (.int, fA gd')) ∧ gd'.length = (5 : Nat) ∧ ((mj_ok (fun x => mx_w cn go ch s x) pl ka pa fa lr 0) i = true) ∧ hfr [66, 77, 78] h h_q) ∨ (∃ (w' : Int) (gt' : List Int) (gd' : List Int), rv = [fI 0] ∧ cE h_q 66 (.inr (10, (fI pl :: .ref 67 :: .ref 68 :: .ref 69 :: fI ((s : Nat) : Int) :: .ref 70 :: .ref 71 :: fI (f 7) :: fI (f 8) :: .ref 72 :: fI (f 10) :: fI (f 11) :: fI (f 12) :: fJ (f 13) :: fI (f 14) :: fI (f 15) :: fI (f 16) :: fI (f 17) :: .ref 73 :: .ref 74 :: .ref 75 :: .ref 76 :: .ref 77 :: .ref 78 :: fI w' :: .ref 79 :: .ref 80 :: .ref 81 :: .ref 82 :: .ref 83 :: .ref 84 :: .ref 85 :: fJ (f 32) :: fJ (f 33) :: .ref 86 :: .ref 87 :: fI (f 36) :: .ref 88 :: .ref 89 :: .ref 90 :: .ref 91 :: .ref 92 :: .ref 93 :: []))) ∧ cE h_q 77 (.inl (.int, fA gt')) ∧ gt'.length = (5 : Nat) ∧ cE h_q 78 (.inl (.int, fA gd')) ∧ gd'.length = (5 : Nat) ∧ ((mj_ok (fun x => mx_w cn go ch s x) pl ka pa fa lr 0) i = false) ∧ hfr [66, 77, 78] h h_q)) := by
  refine ik_Wk 1 (pc_q := 1) (loc_q := [some (.ref 66), some (fI 0), some (fI i), none, none, none, none]) (st_q := [.ref 66]) (h_q := h) (cl_q := 0) (sl_q := 0) rfl ?_
  refine fw_gf rfl rfl h66 rfl ?_
  refine ik_Wk 2 (pc_q := 6) (loc_q := [some (.ref 66), some (fI 0), some (fI i), none, none, none, none]) (st_q := [fI 0, fI 3, .ref 70]) (h_q := h) (cl_q := 0) (sl_q := 0) rfl ?_
  refine fw_mul rfl ?_
  refine ik_Wk 1 (pc_q := 8) (loc_q := [some (.ref 66), some (fI 0), some (fI i), none, none, none, none]) (st_q := [fI 2, fI 0, .ref 70]) (h_q := h) (cl_q := 0) (sl_q := 0) rfl ?_
  refine fw_add rfl ?_
  refine fw_ial (z := 2) rfl h70 (by decide +kernel) (Nat.le_of_ble_eq_true rfl) (by decide +kernel) ?_
  refine ik_Wk 0 (pc_q := 10) (loc_q := [some (.ref 66), some (fI 0), some (fI i), none, none, none, none]) (st_q := [fI fa]) (h_q := h) (cl_q := 0) (sl_q := 0) rfl ?_
  refine ik_Wk 2 (pc_q := 12) (loc_q := [some (.ref 66), some (fI 0), some (fI i), some (fI fa), none, none, none]) (st_q := [.ref 66]) (h_q := h) (cl_q := 0) (sl_q := 0) rfl ?_
  refine fw_gf rfl rfl h66 rfl ?_
  refine fw_bi rfl (by decide +kernel) ?_
  refine ik_Wk 1 (pc_q := 18) (loc_q := [some (.ref 66), some (fI 0), some (fI i), some (fI fa), none, none, none]) (st_q := [fI 0, fI 40, .ref 91]) (h_q := h) (cl_q := 0) (sl_q := 0) rfl ?_
  refine fw_mul rfl ?_
  refine ik_Wk 1 (pc_q := 20) (loc_q := [some (.ref 66), some (fI 0), some (fI i), some (fI fa), none, none, none]) (st_q := [fI i, fI 0, .ref 91]) (h_q := h) (cl_q := 0) (sl_q := 0) rfl ?_
  refine fw_add rfl ?_
  refine fw_ial rfl h91 (by omega) (by omega) (by omega) ?_
  refine ik_Wk 3 (pc_q := 26) (loc_q := [some (.ref 66), some (fI 0), some (fI i), some (fI fa), some (fI (lr.getD (0 + i).toNat 0)), none, none]) (st_q := [fI fa, fI i]) (h_q := h) (cl_q := 0) (sl_q := 0) rfl ?_
  refine fw_ic_gt rfl rfl (by omega) (by omega) (by omega) (by omega) (fun hc1 => ?_) (fun hc1 => ?_)
  · refine ik_Wk 2 (pc_q := 62) (loc_q := [some (.ref 66), some (fI 0), some (fI i), some (fI fa), some (fI (lr.getD (0 + i).toNat 0)), none, none]) (st_q := [.ref 66, fI 1]) (h_q := h) (cl_q := 0) (sl_q := 0) rfl ?_
    refine fw_gf rfl rfl h66 rfl ?_
    refine fw_bi rfl (by decide +kernel) ?_
    refine ik_Wk 1 (pc_q := 68) (loc_q := [some (.ref 66), some (fI 0), some (fI i), some (fI fa), some (fI (lr.getD (0 + i).toNat 0)), none, none]) (st_q := [fI 0, fI 40, .ref 91, fI 1]) (h_q := h) (cl_q := 0) (sl_q := 0) rfl ?_
    refine fw_mul rfl ?_
    refine ik_Wk 1 (pc_q := 70) (loc_q := [some (.ref 66), some (fI 0), some (fI i), some (fI fa), some (fI (lr.getD (0 + i).toNat 0)), none, none]) (st_q := [fI i, fI 0, .ref 91, fI 1]) (h_q := h) (cl_q := 0) (sl_q := 0) rfl ?_
    refine fw_add rfl ?_
    refine ik_Wk 1 (pc_q := 72) (loc_q := [some (.ref 66), some (fI 0), some (fI i), some (fI fa), some (fI (lr.getD (0 + i).toNat 0)), none, none]) (st_q := [fI 1, fI (0 + i), .ref 91, fI 1]) (h_q := h) (cl_q := 0) (sl_q := 0) rfl ?_
    refine fw_sub rfl ?_
    refine fw_ial rfl h91 (by omega) (by omega) (by omega) ?_
    refine fx_shl rfl (by omega) (by omega) ?_
    refine ik_Wk 2 (pc_q := 78) (loc_q := [some (.ref 66), some (fI 0), some (fI i), some (fI fa), some (fI (lr.getD (0 + i).toNat 0)), some (fI ((1 <<< (lr.getD ((0 + i) - 1).toNat 0).toNat : Nat) : Int)), none]) (st_q := [.ref 66]) (h_q := h) (cl_q := 0) (sl_q := 0) rfl ?_
    refine fw_gf rfl rfl h66 rfl ?_
    refine ik_Wk 2 (pc_q := 83) (loc_q := [some (.ref 66), some (fI 0), some (fI i), some (fI fa), some (fI (lr.getD (0 + i).toNat 0)), some (fI ((1 <<< (lr.getD ((0 + i) - 1).toNat 0).toNat : Nat) : Int)), none]) (st_q := [fI 0, fI 3, .ref 70]) (h_q := h) (cl_q := 0) (sl_q := 0) rfl ?_
    refine fw_mul rfl ?_
    refine fw_ial (z := 0) rfl h70 (by decide +kernel) (Nat.le_of_ble_eq_true rfl) (by decide +kernel) ?_
    refine ik_Wk 0 (pc_q := 85) (loc_q := [some (.ref 66), some (fI 0), some (fI i), some (fI fa), some (fI (lr.getD (0 + i).toNat 0)), some (fI ((1 <<< (lr.getD ((0 + i) - 1).toNat 0).toNat : Nat) : Int)), none]) (st_q := [fI ka]) (h_q := h) (cl_q := 0) (sl_q := 0) rfl ?_
    refine ik_Wk 3 (pc_q := 90) (loc_q := [some (.ref 66), some (fI 0), some (fI i), some (fI fa), some (fI (lr.getD (0 + i).toNat 0)), some (fI ((1 <<< (lr.getD ((0 + i) - 1).toNat 0).toNat : Nat) : Int)), some (fI ka)]) (st_q := [fI 2, fI ka]) (h_q := h) (cl_q := 0) (sl_q := 0) rfl ?_
    have hB0 : 1 <<< (lr.getD (0 + i - 1).toNat 0).toNat < 4096 := mj_12 (pl := pl) (mj_shl_lt (by omega)) (by omega)
    refine fw_ic_ne rfl rfl (by omega) (by omega) (by omega) (by omega) (fun hc2 => ?_) (fun hc2 => ?_)
    · refine ik_Wk 2 (pc_q := 95) (loc_q := [some (.ref 66), some (fI 0), some (fI i), some (fI fa), some (fI (lr.getD (0 + i).toNat 0)), some (fI ((1 <<< (lr.getD ((0 + i) - 1).toNat 0).toNat : Nat) : Int)), some (fI ka)]) (st_q := [fI fa, fI i]) (h_q := h) (cl_q := 0) (sl_q := 0) rfl ?_
      refine fw_sub rfl ?_
      refine ik_Wk 1 (pc_q := 97) (loc_q := [some (.ref 66), some (fI 0), some (fI i), some (fI fa), some (fI (lr.getD (0 + i).toNat 0)), some (fI ((1 <<< (lr.getD ((0 + i) - 1).toNat 0).toNat : Nat) : Int)), some (fI ka)]) (st_q := [fI 2, fI (i - fa)]) (h_q := h) (cl_q := 0) (sl_q := 0) rfl ?_
      refine fx_irem rfl (by omega) (by omega) (by omega) (by omega) ?_
      refine fw_if_ne rfl rfl (by omega) (by omega) (fun hc3 => ?_) (fun hc3 => ?_)
      · refine ik_Wk 2 (pc_q := 104) (loc_q := [some (.ref 66), some (fI 0), some (fI i), some (fI fa), some (fI (lr.getD (0 + i).toNat 0)), some (fI ((1 <<< (lr.getD ((0 + i) - 1).toNat 0).toNat : Nat) : Int)), some (fI ka)]) (st_q := [fI ((1 <<< (lr.getD ((0 + i) - 1).toNat 0).toNat : Nat) : Int), .ref 66]) (h_q := h) (cl_q := 0) (sl_q := 0) rfl ?_
        refine fw_call 205 2 0 [.ref 66, fI ((1 <<< (lr.getD ((0 + i) - 1).toNat 0).toNat : Nat) : Int)] [] rfl rfl rfl (Nat.le_of_ble_eq_true rfl) rfl rfl (fw_rec hl rfl h66 rfl (Nat.le_of_ble_eq_true rfl)) (cr_onFrom (pl := pl) (f := fun j => ((0 :: 0 :: 0 :: 0 :: 0 :: 0 :: 0 :: f 7 :: f 8 :: 0 :: f 10 :: f 11 :: f 12 :: f 13 :: f 14 :: f 15 :: f 16 :: f 17 :: 0 :: 0 :: 0 :: 0 :: 0 :: 0 :: f 24 :: 0 :: 0 :: 0 :: 0 :: 0 :: 0 :: 0 :: f 32 :: f 33 :: 0 :: 0 :: f 36 :: 0 :: 0 :: 0 :: 0 :: 0 :: 0 :: []) : List Int).getD j 0) (s := s) (B := 1 <<< (lr.getD ((0 + i) - 1).toNat 0).toNat) (cn := cn) (go := go) (ch := ch) (gt := gt) (gd := gd) (by omega) (by omega) q2 q3 q4 hB0 h66 h67 n67 h68 n68 h69 n69 h77 n77 h78 n78 hl) ?_
        rintro _ h_342 ⟨w'_342, gt'_342, gd'_342, rfl, e_342_66, e_342_77, m_342_77, e_342_78, m_342_78, F_342⟩
        have k_342 : cL h_342 := F_342.1.trans hl
        have fr_342 := hfr_cb (hfr_refl [66, 77, 78] h) F_342 rfl
        have g_342_67 := (hfr_g F_342 67 rfl).trans h67
        have g_342_68 := (hfr_g F_342 68 rfl).trans h68
        have g_342_69 := (hfr_g F_342 69 rfl).trans h69
        have g_342_70 := (hfr_g F_342 70 rfl).trans h70
        have g_342_91 := (hfr_g F_342 91 rfl).trans h91
        have g_342_66 : cE h_342 66 (.inr (10, (fI pl :: .ref 67 :: .ref 68 :: .ref 69 :: fI ((s : Nat) : Int) :: .ref 70 :: .ref 71 :: fI (f 7) :: fI (f 8) :: .ref 72 :: fI (f 10) :: fI (f 11) :: fI (f 12) :: fJ (f 13) :: fI (f 14) :: fI (f 15) :: fI (f 16) :: fI (f 17) :: .ref 73 :: .ref 74 :: .ref 75 :: .ref 76 :: .ref 77 :: .ref 78 :: fI w'_342 :: .ref 79 :: .ref 80 :: .ref 81 :: .ref 82 :: .ref 83 :: .ref 84 :: .ref 85 :: fJ (f 32) :: fJ (f 33) :: .ref 86 :: .ref 87 :: fI (f 36) :: .ref 88 :: .ref 89 :: .ref 90 :: .ref 91 :: .ref 92 :: .ref 93 :: []))) := e_342_66
        have g_342_77 : cE h_342 77 (.inl (.int, fA gt'_342)) := e_342_77
        have g_342_78 : cE h_342 78 (.inl (.int, fA gd'_342)) := e_342_78
        refine ik_Wk 0 (pc_q := 107) (loc_q := [some (.ref 66), some (fI 0), some (fI i), some (fI fa), some (fI (lr.getD (0 + i).toNat 0)), some (fI ((1 <<< (lr.getD ((0 + i) - 1).toNat 0).toNat : Nat) : Int)), some (fI ka)]) (st_q := [fI ((mj_on (fun x => mx_w cn go ch s x) (pl - 1) (1 <<< (lr.getD ((0 + i) - 1).toNat 0).toNat) : Nat) : Int)]) (h_q := h_342) (cl_q := 0) (sl_q := 0) rfl ?_
        have hB1 := mj_12 (mj_on_lt (W := (fun x => mx_w cn go ch s x)) (pl := pl) q4 (by omega) (1 <<< (lr.getD ((0 + i) - 1).toNat 0).toNat)) (by omega)
        refine ik_Wk 4 (pc_q := 117) (loc_q := [some (.ref 66), some (fI 0), some (fI i), some (fI fa), some (fI (lr.getD (0 + i).toNat 0)), some (fI ((mj_on (fun x => mx_w cn go ch s x) (pl - 1) (1 <<< (lr.getD ((0 + i) - 1).toNat 0).toNat) : Nat) : Int)), some (fI ka)]) (st_q := [fI 1, fI ka]) (h_q := h_342) (cl_q := 0) (sl_q := 0) rfl ?_
        refine fw_ic_ne rfl rfl (by omega) (by omega) (by omega) (by omega) (fun hc4 => ?_) (fun hc4 => ?_)
        · refine ik_Wk 2 (pc_q := 123) (loc_q := [some (.ref 66), some (fI 0), some (fI i), some (fI fa), some (fI (lr.getD (0 + i).toNat 0)), some (fI ((mj_on (fun x => mx_w cn go ch s x) (pl - 1) (1 <<< (lr.getD ((0 + i) - 1).toNat 0).toNat) : Nat) : Int)), some (fI ka)]) (st_q := [fI ((mj_on (fun x => mx_w cn go ch s x) (pl - 1) (1 <<< (lr.getD ((0 + i) - 1).toNat 0).toNat) : Nat) : Int), .ref 66]) (h_q := h_342) (cl_q := 0) (sl_q := 0) rfl ?_
          refine fw_call 205 2 0 [.ref 66, fI ((mj_on (fun x => mx_w cn go ch s x) (pl - 1) (1 <<< (lr.getD ((0 + i) - 1).toNat 0).toNat) : Nat) : Int)] [] rfl rfl rfl (Nat.le_of_ble_eq_true rfl) rfl rfl (fw_rec k_342 rfl g_342_66 rfl (Nat.le_of_ble_eq_true rfl)) (cr_onFrom (pl := pl) (f := fun j => ((0 :: 0 :: 0 :: 0 :: 0 :: 0 :: 0 :: ((f 7)) :: ((f 8)) :: 0 :: ((f 10)) :: ((f 11)) :: ((f 12)) :: ((f 13)) :: ((f 14)) :: ((f 15)) :: ((f 16)) :: ((f 17)) :: 0 :: 0 :: 0 :: 0 :: 0 :: 0 :: w'_342 :: 0 :: 0 :: 0 :: 0 :: 0 :: 0 :: 0 :: ((f 32)) :: ((f 33)) :: 0 :: 0 :: ((f 36)) :: 0 :: 0 :: 0 :: 0 :: 0 :: 0 :: []) : List Int).getD j 0) (s := s) (B := mj_on (fun x => mx_w cn go ch s x) (pl - 1) (1 <<< (lr.getD ((0 + i) - 1).toNat 0).toNat)) (cn := cn) (go := go) (ch := ch) (gt := gt'_342) (gd := gd'_342) (by omega) (by omega) q2 q3 q4 hB1 g_342_66 g_342_67 n67 g_342_68 n68 g_342_69 n69 g_342_77 m_342_77 g_342_78 m_342_78 k_342) ?_
          rintro _ h_343 ⟨w'_343, gt'_343, gd'_343, rfl, e_343_66, e_343_77, m_343_77, e_343_78, m_343_78, F_343⟩
          have k_343 : cL h_343 := F_343.1.trans k_342
          have fr_343 := hfr_cb fr_342 F_343 rfl
          have g_343_67 := (hfr_g F_343 67 rfl).trans g_342_67
          have g_343_68 := (hfr_g F_343 68 rfl).trans g_342_68
          have g_343_69 := (hfr_g F_343 69 rfl).trans g_342_69
          have g_343_70 := (hfr_g F_343 70 rfl).trans g_342_70
          have g_343_91 := (hfr_g F_343 91 rfl).trans g_342_91
          have g_343_66 : cE h_343 66 (.inr (10, (fI pl :: .ref 67 :: .ref 68 :: .ref 69 :: fI ((s : Nat) : Int) :: .ref 70 :: .ref 71 :: fI (f 7) :: fI (f 8) :: .ref 72 :: fI (f 10) :: fI (f 11) :: fI (f 12) :: fJ (f 13) :: fI (f 14) :: fI (f 15) :: fI (f 16) :: fI (f 17) :: .ref 73 :: .ref 74 :: .ref 75 :: .ref 76 :: .ref 77 :: .ref 78 :: fI w'_343 :: .ref 79 :: .ref 80 :: .ref 81 :: .ref 82 :: .ref 83 :: .ref 84 :: .ref 85 :: fJ (f 32) :: fJ (f 33) :: .ref 86 :: .ref 87 :: fI (f 36) :: .ref 88 :: .ref 89 :: .ref 90 :: .ref 91 :: .ref 92 :: .ref 93 :: []))) := e_343_66
          have g_343_77 : cE h_343 77 (.inl (.int, fA gt'_343)) := e_343_77
          have g_343_78 : cE h_343 78 (.inl (.int, fA gd'_343)) := e_343_78
          refine ik_Wk 0 (pc_q := 126) (loc_q := [some (.ref 66), some (fI 0), some (fI i), some (fI fa), some (fI (lr.getD (0 + i).toNat 0)), some (fI ((mj_on (fun x => mx_w cn go ch s x) (pl - 1) (1 <<< (lr.getD ((0 + i) - 1).toNat 0).toNat) : Nat) : Int)), some (fI ka)]) (st_q := [fI ((mj_on (fun x => mx_w cn go ch s x) (pl - 1) (mj_on (fun x => mx_w cn go ch s x) (pl - 1) (1 <<< (lr.getD ((0 + i) - 1).toNat 0).toNat)) : Nat) : Int)]) (h_q := h_343) (cl_q := 0) (sl_q := 0) rfl ?_
          have hB2 := mj_12 (mj_on_lt (W := (fun x => mx_w cn go ch s x)) (pl := pl) q4 (by omega) (mj_on (fun x => mx_w cn go ch s x) (pl - 1) (1 <<< (lr.getD ((0 + i) - 1).toNat 0).toNat))) (by omega)
          refine ik_Wk 4 (pc_q := 137) (loc_q := [some (.ref 66), some (fI 0), some (fI i), some (fI fa), some (fI (lr.getD (0 + i).toNat 0)), some (fI ((mj_on (fun x => mx_w cn go ch s x) (pl - 1) (mj_on (fun x => mx_w cn go ch s x) (pl - 1) (1 <<< (lr.getD ((0 + i) - 1).toNat 0).toNat)) : Nat) : Int)), some (fI ka)]) (st_q := [fI (lr.getD (0 + i).toNat 0), fI ((mj_on (fun x => mx_w cn go ch s x) (pl - 1) (mj_on (fun x => mx_w cn go ch s x) (pl - 1) (1 <<< (lr.getD ((0 + i) - 1).toNat 0).toNat)) : Nat) : Int)]) (h_q := h_343) (cl_q := 0) (sl_q := 0) rfl ?_
          refine ik_Wc 128 2 3 [fI ((mj_on (fun x => mx_w cn go ch s x) (pl - 1) (mj_on (fun x => mx_w cn go ch s x) (pl - 1) (1 <<< (lr.getD ((0 + i) - 1).toNat 0).toNat)) : Nat) : Int), fI (lr.getD (0 + i).toNat 0)] [] rfl rfl rfl (by decide +kernel) rfl rfl (fw_sta k_343 rfl (by decide +kernel)) ?_
          refine ik_Wk 0 (pc_q := 0) (loc_q := [some (fI ((mj_on (fun x => mx_w cn go ch s x) (pl - 1) (mj_on (fun x => mx_w cn go ch s x) (pl - 1) (1 <<< (lr.getD ((0 + i) - 1).toNat 0).toNat)) : Nat) : Int)), some (fI (lr.getD (0 + i).toNat 0))]) (st_q := []) (h_q := h_343) (cl_q := 0) (sl_q := 0) rfl ?_
          refine ik_Wk 2 (pc_q := 2) (loc_q := [some (fI ((mj_on (fun x => mx_w cn go ch s x) (pl - 1) (mj_on (fun x => mx_w cn go ch s x) (pl - 1) (1 <<< (lr.getD ((0 + i) - 1).toNat 0).toNat)) : Nat) : Int)), some (fI (lr.getD (0 + i).toNat 0))]) (st_q := [fI (lr.getD (0 + i).toNat 0), fI ((mj_on (fun x => mx_w cn go ch s x) (pl - 1) (mj_on (fun x => mx_w cn go ch s x) (pl - 1) (1 <<< (lr.getD ((0 + i) - 1).toNat 0).toNat)) : Nat) : Int)]) (h_q := h_343) (cl_q := 0) (sl_q := 0) rfl ?_
          refine fx_shr (n := mj_on (fun x => mx_w cn go ch s x) (pl - 1) (mj_on (fun x => mx_w cn go ch s x) (pl - 1) (1 <<< (lr.getD ((0 + i) - 1).toNat 0).toNat))) rfl (by omega) (by omega) (by omega) ?_
          refine ik_Wk 1 (pc_q := 4) (loc_q := [some (fI ((mj_on (fun x => mx_w cn go ch s x) (pl - 1) (mj_on (fun x => mx_w cn go ch s x) (pl - 1) (1 <<< (lr.getD ((0 + i) - 1).toNat 0).toNat)) : Nat) : Int)), some (fI (lr.getD (0 + i).toNat 0))]) (st_q := [fI 1, fI (((mj_on (fun x => mx_w cn go ch s x) (pl - 1) (mj_on (fun x => mx_w cn go ch s x) (pl - 1) (1 <<< (lr.getD ((0 + i) - 1).toNat 0).toNat))) >>> (lr.getD (0 + i).toNat 0).toNat : Nat) : Int)]) (h_q := h_343) (cl_q := 0) (sl_q := 0) rfl ?_
          refine fx_bit (n := (mj_on (fun x => mx_w cn go ch s x) (pl - 1) (mj_on (fun x => mx_w cn go ch s x) (pl - 1) (1 <<< (lr.getD ((0 + i) - 1).toNat 0).toNat)))) (k := (lr.getD (0 + i).toNat 0).toNat) rfl (fun hb5 => ?_) (fun hb5 => ?_)
          · refine ik_Wk 0 (pc_q := 5) (loc_q := [some (fI ((mj_on (fun x => mx_w cn go ch s x) (pl - 1) (mj_on (fun x => mx_w cn go ch s x) (pl - 1) (1 <<< (lr.getD ((0 + i) - 1).toNat 0).toNat)) : Nat) : Int)), some (fI (lr.getD (0 + i).toNat 0))]) (st_q := [fI 1]) (h_q := h_343) (cl_q := 0) (sl_q := 0) rfl ?_
            refine ik_Wk 1 (pc_q := 6) (loc_q := [some (fI ((mj_on (fun x => mx_w cn go ch s x) (pl - 1) (mj_on (fun x => mx_w cn go ch s x) (pl - 1) (1 <<< (lr.getD ((0 + i) - 1).toNat 0).toNat)) : Nat) : Int)), some (fI (lr.getD (0 + i).toNat 0))]) (st_q := [fI 1, fI 1]) (h_q := h_343) (cl_q := 0) (sl_q := 0) rfl ?_
            refine fw_ic_ne rfl rfl (by decide +kernel) (by decide +kernel) (by decide +kernel) (by decide +kernel) (fun hc6 => ?_) (fun hc6 => absurd hc6 (by decide +kernel))
            refine ik_Wk 2 (pc_q := 14) (loc_q := [some (fI ((mj_on (fun x => mx_w cn go ch s x) (pl - 1) (mj_on (fun x => mx_w cn go ch s x) (pl - 1) (1 <<< (lr.getD ((0 + i) - 1).toNat 0).toNat)) : Nat) : Int)), some (fI (lr.getD (0 + i).toNat 0))]) (st_q := [fI 1]) (h_q := h_343) (cl_q := 0) (sl_q := 0) rfl ?_
            refine ik_Wret rfl rfl ⟨_, _, rfl, rfl, ?_⟩
            refine ik_Wk 0 (pc_q := 140) (loc_q := [some (.ref 66), some (fI 0), some (fI i), some (fI fa), some (fI (lr.getD (0 + i).toNat 0)), some (fI ((mj_on (fun x => mx_w cn go ch s x) (pl - 1) (mj_on (fun x => mx_w cn go ch s x) (pl - 1) (1 <<< (lr.getD ((0 + i) - 1).toNat 0).toNat)) : Nat) : Int)), some (fI ka)]) (st_q := [fI 1]) (h_q := h_343) (cl_q := 0) (sl_q := 0) rfl ?_
            have et : mx_tm ka (i - fa) = 2 := by unfold mx_tm; (repeat' split) <;> omega
            have hlt : mj_oi (fun x => mx_w cn go ch s x) (pl - 1) 2 (1 <<< (lr.getD (0 + i - 1).toNat 0).toNat) < 2 ^ pl.toNat := mj_oi_lt q4 (by omega) _ _ (mj_shl_lt (by omega))
            have hG : (mj_ok (fun x => mx_w cn go ch s x) pl ka pa fa lr 0) i = true := by
              show (if i < fa then _ else if i = fa then _ else _) = _
              rw [if_neg (by omega), if_neg (by omega), et]
              exact decide_eq_true ⟨by omega, ⟨by omega, mj_tb_lt hlt hb5 (by omega)⟩, hb5⟩
            exact ik_Wret rfl rfl ⟨_, _, rfl, rfl, rfl, rfl, Or.inl ⟨w'_343, gt'_343, gd'_343, rfl, g_343_66, g_343_77, m_343_77, g_343_78, m_343_78, hG, fr_343⟩⟩
          · refine ik_Wk 0 (pc_q := 5) (loc_q := [some (fI ((mj_on (fun x => mx_w cn go ch s x) (pl - 1) (mj_on (fun x => mx_w cn go ch s x) (pl - 1) (1 <<< (lr.getD ((0 + i) - 1).toNat 0).toNat)) : Nat) : Int)), some (fI (lr.getD (0 + i).toNat 0))]) (st_q := [fI 0]) (h_q := h_343) (cl_q := 0) (sl_q := 0) rfl ?_
            refine ik_Wk 1 (pc_q := 6) (loc_q := [some (fI ((mj_on (fun x => mx_w cn go ch s x) (pl - 1) (mj_on (fun x => mx_w cn go ch s x) (pl - 1) (1 <<< (lr.getD ((0 + i) - 1).toNat 0).toNat)) : Nat) : Int)), some (fI (lr.getD (0 + i).toNat 0))]) (st_q := [fI 1, fI 0]) (h_q := h_343) (cl_q := 0) (sl_q := 0) rfl ?_
            refine fw_ic_ne rfl rfl (by decide +kernel) (by decide +kernel) (by decide +kernel) (by decide +kernel) (fun hc7 => absurd hc7 (by decide +kernel)) (fun hc7 => ?_)
            refine ik_Wk 1 (pc_q := 14) (loc_q := [some (fI ((mj_on (fun x => mx_w cn go ch s x) (pl - 1) (mj_on (fun x => mx_w cn go ch s x) (pl - 1) (1 <<< (lr.getD ((0 + i) - 1).toNat 0).toNat)) : Nat) : Int)), some (fI (lr.getD (0 + i).toNat 0))]) (st_q := [fI 0]) (h_q := h_343) (cl_q := 0) (sl_q := 0) rfl ?_
            refine ik_Wret rfl rfl ⟨_, _, rfl, rfl, ?_⟩
            refine ik_Wk 0 (pc_q := 140) (loc_q := [some (.ref 66), some (fI 0), some (fI i), some (fI fa), some (fI (lr.getD (0 + i).toNat 0)), some (fI ((mj_on (fun x => mx_w cn go ch s x) (pl - 1) (mj_on (fun x => mx_w cn go ch s x) (pl - 1) (1 <<< (lr.getD ((0 + i) - 1).toNat 0).toNat)) : Nat) : Int)), some (fI ka)]) (st_q := [fI 0]) (h_q := h_343) (cl_q := 0) (sl_q := 0) rfl ?_
            have et : mx_tm ka (i - fa) = 2 := by unfold mx_tm; (repeat' split) <;> omega
            have hlt : mj_oi (fun x => mx_w cn go ch s x) (pl - 1) 2 (1 <<< (lr.getD (0 + i - 1).toNat 0).toNat) < 2 ^ pl.toNat := mj_oi_lt q4 (by omega) _ _ (mj_shl_lt (by omega))
            have hG : (mj_ok (fun x => mx_w cn go ch s x) pl ka pa fa lr 0) i = false := by
              show (if i < fa then _ else if i = fa then _ else _) = _
              rw [if_neg (by omega), if_neg (by omega), et]
              exact decide_eq_false (fun w => absurd (w.2.2.symm.trans hb5) (by decide +kernel))
            exact ik_Wret rfl rfl ⟨_, _, rfl, rfl, rfl, rfl, Or.inr ⟨w'_343, gt'_343, gd'_343, rfl, g_343_66, g_343_77, m_343_77, g_343_78, m_343_78, hG, fr_343⟩⟩
        · refine ik_Wk 4 (pc_q := 137) (loc_q := [some (.ref 66), some (fI 0), some (fI i), some (fI fa), some (fI (lr.getD (0 + i).toNat 0)), some (fI ((mj_on (fun x => mx_w cn go ch s x) (pl - 1) (1 <<< (lr.getD ((0 + i) - 1).toNat 0).toNat) : Nat) : Int)), some (fI ka)]) (st_q := [fI (lr.getD (0 + i).toNat 0), fI ((mj_on (fun x => mx_w cn go ch s x) (pl - 1) (1 <<< (lr.getD ((0 + i) - 1).toNat 0).toNat) : Nat) : Int)]) (h_q := h_342) (cl_q := 0) (sl_q := 0) rfl ?_
          refine ik_Wc 128 2 3 [fI ((mj_on (fun x => mx_w cn go ch s x) (pl - 1) (1 <<< (lr.getD ((0 + i) - 1).toNat 0).toNat) : Nat) : Int), fI (lr.getD (0 + i).toNat 0)] [] rfl rfl rfl (by decide +kernel) rfl rfl (fw_sta k_342 rfl (by decide +kernel)) ?_
          refine ik_Wk 0 (pc_q := 0) (loc_q := [some (fI ((mj_on (fun x => mx_w cn go ch s x) (pl - 1) (1 <<< (lr.getD ((0 + i) - 1).toNat 0).toNat) : Nat) : Int)), some (fI (lr.getD (0 + i).toNat 0))]) (st_q := []) (h_q := h_342) (cl_q := 0) (sl_q := 0) rfl ?_
          refine ik_Wk 2 (pc_q := 2) (loc_q := [some (fI ((mj_on (fun x => mx_w cn go ch s x) (pl - 1) (1 <<< (lr.getD ((0 + i) - 1).toNat 0).toNat) : Nat) : Int)), some (fI (lr.getD (0 + i).toNat 0))]) (st_q := [fI (lr.getD (0 + i).toNat 0), fI ((mj_on (fun x => mx_w cn go ch s x) (pl - 1) (1 <<< (lr.getD ((0 + i) - 1).toNat 0).toNat) : Nat) : Int)]) (h_q := h_342) (cl_q := 0) (sl_q := 0) rfl ?_
          refine fx_shr (n := mj_on (fun x => mx_w cn go ch s x) (pl - 1) (1 <<< (lr.getD ((0 + i) - 1).toNat 0).toNat)) rfl (by omega) (by omega) (by omega) ?_
          refine ik_Wk 1 (pc_q := 4) (loc_q := [some (fI ((mj_on (fun x => mx_w cn go ch s x) (pl - 1) (1 <<< (lr.getD ((0 + i) - 1).toNat 0).toNat) : Nat) : Int)), some (fI (lr.getD (0 + i).toNat 0))]) (st_q := [fI 1, fI (((mj_on (fun x => mx_w cn go ch s x) (pl - 1) (1 <<< (lr.getD ((0 + i) - 1).toNat 0).toNat)) >>> (lr.getD (0 + i).toNat 0).toNat : Nat) : Int)]) (h_q := h_342) (cl_q := 0) (sl_q := 0) rfl ?_
          refine fx_bit (n := (mj_on (fun x => mx_w cn go ch s x) (pl - 1) (1 <<< (lr.getD ((0 + i) - 1).toNat 0).toNat))) (k := (lr.getD (0 + i).toNat 0).toNat) rfl (fun hb8 => ?_) (fun hb8 => ?_)
          · refine ik_Wk 0 (pc_q := 5) (loc_q := [some (fI ((mj_on (fun x => mx_w cn go ch s x) (pl - 1) (1 <<< (lr.getD ((0 + i) - 1).toNat 0).toNat) : Nat) : Int)), some (fI (lr.getD (0 + i).toNat 0))]) (st_q := [fI 1]) (h_q := h_342) (cl_q := 0) (sl_q := 0) rfl ?_
            refine ik_Wk 1 (pc_q := 6) (loc_q := [some (fI ((mj_on (fun x => mx_w cn go ch s x) (pl - 1) (1 <<< (lr.getD ((0 + i) - 1).toNat 0).toNat) : Nat) : Int)), some (fI (lr.getD (0 + i).toNat 0))]) (st_q := [fI 1, fI 1]) (h_q := h_342) (cl_q := 0) (sl_q := 0) rfl ?_
            refine fw_ic_ne rfl rfl (by decide +kernel) (by decide +kernel) (by decide +kernel) (by decide +kernel) (fun hc9 => ?_) (fun hc9 => absurd hc9 (by decide +kernel))
            refine ik_Wk 2 (pc_q := 14) (loc_q := [some (fI ((mj_on (fun x => mx_w cn go ch s x) (pl - 1) (1 <<< (lr.getD ((0 + i) - 1).toNat 0).toNat) : Nat) : Int)), some (fI (lr.getD (0 + i).toNat 0))]) (st_q := [fI 1]) (h_q := h_342) (cl_q := 0) (sl_q := 0) rfl ?_
            refine ik_Wret rfl rfl ⟨_, _, rfl, rfl, ?_⟩
            refine ik_Wk 0 (pc_q := 140) (loc_q := [some (.ref 66), some (fI 0), some (fI i), some (fI fa), some (fI (lr.getD (0 + i).toNat 0)), some (fI ((mj_on (fun x => mx_w cn go ch s x) (pl - 1) (1 <<< (lr.getD ((0 + i) - 1).toNat 0).toNat) : Nat) : Int)), some (fI ka)]) (st_q := [fI 1]) (h_q := h_342) (cl_q := 0) (sl_q := 0) rfl ?_
            have et : mx_tm ka (i - fa) = 1 := by unfold mx_tm; (repeat' split) <;> omega
            have hlt : mj_oi (fun x => mx_w cn go ch s x) (pl - 1) 1 (1 <<< (lr.getD (0 + i - 1).toNat 0).toNat) < 2 ^ pl.toNat := mj_oi_lt q4 (by omega) _ _ (mj_shl_lt (by omega))
            have hG : (mj_ok (fun x => mx_w cn go ch s x) pl ka pa fa lr 0) i = true := by
              show (if i < fa then _ else if i = fa then _ else _) = _
              rw [if_neg (by omega), if_neg (by omega), et]
              exact decide_eq_true ⟨by omega, ⟨by omega, mj_tb_lt hlt hb8 (by omega)⟩, hb8⟩
            exact ik_Wret rfl rfl ⟨_, _, rfl, rfl, rfl, rfl, Or.inl ⟨w'_342, gt'_342, gd'_342, rfl, g_342_66, g_342_77, m_342_77, g_342_78, m_342_78, hG, fr_342⟩⟩
          · refine ik_Wk 0 (pc_q := 5) (loc_q := [some (fI ((mj_on (fun x => mx_w cn go ch s x) (pl - 1) (1 <<< (lr.getD ((0 + i) - 1).toNat 0).toNat) : Nat) : Int)), some (fI (lr.getD (0 + i).toNat 0))]) (st_q := [fI 0]) (h_q := h_342) (cl_q := 0) (sl_q := 0) rfl ?_
            refine ik_Wk 1 (pc_q := 6) (loc_q := [some (fI ((mj_on (fun x => mx_w cn go ch s x) (pl - 1) (1 <<< (lr.getD ((0 + i) - 1).toNat 0).toNat) : Nat) : Int)), some (fI (lr.getD (0 + i).toNat 0))]) (st_q := [fI 1, fI 0]) (h_q := h_342) (cl_q := 0) (sl_q := 0) rfl ?_
            refine fw_ic_ne rfl rfl (by decide +kernel) (by decide +kernel) (by decide +kernel) (by decide +kernel) (fun hc10 => absurd hc10 (by decide +kernel)) (fun hc10 => ?_)
            refine ik_Wk 1 (pc_q := 14) (loc_q := [some (fI ((mj_on (fun x => mx_w cn go ch s x) (pl - 1) (1 <<< (lr.getD ((0 + i) - 1).toNat 0).toNat) : Nat) : Int)), some (fI (lr.getD (0 + i).toNat 0))]) (st_q := [fI 0]) (h_q := h_342) (cl_q := 0) (sl_q := 0) rfl ?_
            refine ik_Wret rfl rfl ⟨_, _, rfl, rfl, ?_⟩
            refine ik_Wk 0 (pc_q := 140) (loc_q := [some (.ref 66), some (fI 0), some (fI i), some (fI fa), some (fI (lr.getD (0 + i).toNat 0)), some (fI ((mj_on (fun x => mx_w cn go ch s x) (pl - 1) (1 <<< (lr.getD ((0 + i) - 1).toNat 0).toNat) : Nat) : Int)), some (fI ka)]) (st_q := [fI 0]) (h_q := h_342) (cl_q := 0) (sl_q := 0) rfl ?_
            have et : mx_tm ka (i - fa) = 1 := by unfold mx_tm; (repeat' split) <;> omega
            have hlt : mj_oi (fun x => mx_w cn go ch s x) (pl - 1) 1 (1 <<< (lr.getD (0 + i - 1).toNat 0).toNat) < 2 ^ pl.toNat := mj_oi_lt q4 (by omega) _ _ (mj_shl_lt (by omega))
            have hG : (mj_ok (fun x => mx_w cn go ch s x) pl ka pa fa lr 0) i = false := by
              show (if i < fa then _ else if i = fa then _ else _) = _
              rw [if_neg (by omega), if_neg (by omega), et]
              exact decide_eq_false (fun w => absurd (w.2.2.symm.trans hb8) (by decide +kernel))
            exact ik_Wret rfl rfl ⟨_, _, rfl, rfl, rfl, rfl, Or.inr ⟨w'_342, gt'_342, gd'_342, rfl, g_342_66, g_342_77, m_342_77, g_342_78, m_342_78, hG, fr_342⟩⟩
      · refine ik_Wk 4 (pc_q := 117) (loc_q := [some (.ref 66), some (fI 0), some (fI i), some (fI fa), some (fI (lr.getD (0 + i).toNat 0)), some (fI ((1 <<< (lr.getD ((0 + i) - 1).toNat 0).toNat : Nat) : Int)), some (fI ka)]) (st_q := [fI 1, fI ka]) (h_q := h) (cl_q := 0) (sl_q := 0) rfl ?_
        refine fw_ic_ne rfl rfl (by omega) (by omega) (by omega) (by omega) (fun hc11 => ?_) (fun hc11 => ?_)
        · refine ik_Wk 2 (pc_q := 123) (loc_q := [some (.ref 66), some (fI 0), some (fI i), some (fI fa), some (fI (lr.getD (0 + i).toNat 0)), some (fI ((1 <<< (lr.getD ((0 + i) - 1).toNat 0).toNat : Nat) : Int)), some (fI ka)]) (st_q := [fI ((1 <<< (lr.getD ((0 + i) - 1).toNat 0).toNat : Nat) : Int), .ref 66]) (h_q := h) (cl_q := 0) (sl_q := 0) rfl ?_
          refine fw_call 205 2 0 [.ref 66, fI ((1 <<< (lr.getD ((0 + i) - 1).toNat 0).toNat : Nat) : Int)] [] rfl rfl rfl (Nat.le_of_ble_eq_true rfl) rfl rfl (fw_rec hl rfl h66 rfl (Nat.le_of_ble_eq_true rfl)) (cr_onFrom (pl := pl) (f := fun j => ((0 :: 0 :: 0 :: 0 :: 0 :: 0 :: 0 :: f 7 :: f 8 :: 0 :: f 10 :: f 11 :: f 12 :: f 13 :: f 14 :: f 15 :: f 16 :: f 17 :: 0 :: 0 :: 0 :: 0 :: 0 :: 0 :: f 24 :: 0 :: 0 :: 0 :: 0 :: 0 :: 0 :: 0 :: f 32 :: f 33 :: 0 :: 0 :: f 36 :: 0 :: 0 :: 0 :: 0 :: 0 :: 0 :: []) : List Int).getD j 0) (s := s) (B := 1 <<< (lr.getD ((0 + i) - 1).toNat 0).toNat) (cn := cn) (go := go) (ch := ch) (gt := gt) (gd := gd) (by omega) (by omega) q2 q3 q4 hB0 h66 h67 n67 h68 n68 h69 n69 h77 n77 h78 n78 hl) ?_
          rintro _ h_344 ⟨w'_344, gt'_344, gd'_344, rfl, e_344_66, e_344_77, m_344_77, e_344_78, m_344_78, F_344⟩
          have k_344 : cL h_344 := F_344.1.trans hl
          have fr_344 := hfr_cb (hfr_refl [66, 77, 78] h) F_344 rfl
          have g_344_67 := (hfr_g F_344 67 rfl).trans h67
          have g_344_68 := (hfr_g F_344 68 rfl).trans h68
          have g_344_69 := (hfr_g F_344 69 rfl).trans h69
          have g_344_70 := (hfr_g F_344 70 rfl).trans h70
          have g_344_91 := (hfr_g F_344 91 rfl).trans h91
          have g_344_66 : cE h_344 66 (.inr (10, (fI pl :: .ref 67 :: .ref 68 :: .ref 69 :: fI ((s : Nat) : Int) :: .ref 70 :: .ref 71 :: fI (f 7) :: fI (f 8) :: .ref 72 :: fI (f 10) :: fI (f 11) :: fI (f 12) :: fJ (f 13) :: fI (f 14) :: fI (f 15) :: fI (f 16) :: fI (f 17) :: .ref 73 :: .ref 74 :: .ref 75 :: .ref 76 :: .ref 77 :: .ref 78 :: fI w'_344 :: .ref 79 :: .ref 80 :: .ref 81 :: .ref 82 :: .ref 83 :: .ref 84 :: .ref 85 :: fJ (f 32) :: fJ (f 33) :: .ref 86 :: .ref 87 :: fI (f 36) :: .ref 88 :: .ref 89 :: .ref 90 :: .ref 91 :: .ref 92 :: .ref 93 :: []))) := e_344_66
          have g_344_77 : cE h_344 77 (.inl (.int, fA gt'_344)) := e_344_77
          have g_344_78 : cE h_344 78 (.inl (.int, fA gd'_344)) := e_344_78
          refine ik_Wk 0 (pc_q := 126) (loc_q := [some (.ref 66), some (fI 0), some (fI i), some (fI fa), some (fI (lr.getD (0 + i).toNat 0)), some (fI ((1 <<< (lr.getD ((0 + i) - 1).toNat 0).toNat : Nat) : Int)), some (fI ka)]) (st_q := [fI ((mj_on (fun x => mx_w cn go ch s x) (pl - 1) (1 <<< (lr.getD ((0 + i) - 1).toNat 0).toNat) : Nat) : Int)]) (h_q := h_344) (cl_q := 0) (sl_q := 0) rfl ?_
          have hB1 := mj_12 (mj_on_lt (W := (fun x => mx_w cn go ch s x)) (pl := pl) q4 (by omega) (1 <<< (lr.getD ((0 + i) - 1).toNat 0).toNat)) (by omega)
          refine ik_Wk 4 (pc_q := 137) (loc_q := [some (.ref 66), some (fI 0), some (fI i), some (fI fa), some (fI (lr.getD (0 + i).toNat 0)), some (fI ((mj_on (fun x => mx_w cn go ch s x) (pl - 1) (1 <<< (lr.getD ((0 + i) - 1).toNat 0).toNat) : Nat) : Int)), some (fI ka)]) (st_q := [fI (lr.getD (0 + i).toNat 0), fI ((mj_on (fun x => mx_w cn go ch s x) (pl - 1) (1 <<< (lr.getD ((0 + i) - 1).toNat 0).toNat) : Nat) : Int)]) (h_q := h_344) (cl_q := 0) (sl_q := 0) rfl ?_
          refine ik_Wc 128 2 3 [fI ((mj_on (fun x => mx_w cn go ch s x) (pl - 1) (1 <<< (lr.getD ((0 + i) - 1).toNat 0).toNat) : Nat) : Int), fI (lr.getD (0 + i).toNat 0)] [] rfl rfl rfl (by decide +kernel) rfl rfl (fw_sta k_344 rfl (by decide +kernel)) ?_
          refine ik_Wk 0 (pc_q := 0) (loc_q := [some (fI ((mj_on (fun x => mx_w cn go ch s x) (pl - 1) (1 <<< (lr.getD ((0 + i) - 1).toNat 0).toNat) : Nat) : Int)), some (fI (lr.getD (0 + i).toNat 0))]) (st_q := []) (h_q := h_344) (cl_q := 0) (sl_q := 0) rfl ?_
          refine ik_Wk 2 (pc_q := 2) (loc_q := [some (fI ((mj_on (fun x => mx_w cn go ch s x) (pl - 1) (1 <<< (lr.getD ((0 + i) - 1).toNat 0).toNat) : Nat) : Int)), some (fI (lr.getD (0 + i).toNat 0))]) (st_q := [fI (lr.getD (0 + i).toNat 0), fI ((mj_on (fun x => mx_w cn go ch s x) (pl - 1) (1 <<< (lr.getD ((0 + i) - 1).toNat 0).toNat) : Nat) : Int)]) (h_q := h_344) (cl_q := 0) (sl_q := 0) rfl ?_
          refine fx_shr (n := mj_on (fun x => mx_w cn go ch s x) (pl - 1) (1 <<< (lr.getD ((0 + i) - 1).toNat 0).toNat)) rfl (by omega) (by omega) (by omega) ?_
          refine ik_Wk 1 (pc_q := 4) (loc_q := [some (fI ((mj_on (fun x => mx_w cn go ch s x) (pl - 1) (1 <<< (lr.getD ((0 + i) - 1).toNat 0).toNat) : Nat) : Int)), some (fI (lr.getD (0 + i).toNat 0))]) (st_q := [fI 1, fI (((mj_on (fun x => mx_w cn go ch s x) (pl - 1) (1 <<< (lr.getD ((0 + i) - 1).toNat 0).toNat)) >>> (lr.getD (0 + i).toNat 0).toNat : Nat) : Int)]) (h_q := h_344) (cl_q := 0) (sl_q := 0) rfl ?_
          refine fx_bit (n := (mj_on (fun x => mx_w cn go ch s x) (pl - 1) (1 <<< (lr.getD ((0 + i) - 1).toNat 0).toNat))) (k := (lr.getD (0 + i).toNat 0).toNat) rfl (fun hb12 => ?_) (fun hb12 => ?_)
          · refine ik_Wk 0 (pc_q := 5) (loc_q := [some (fI ((mj_on (fun x => mx_w cn go ch s x) (pl - 1) (1 <<< (lr.getD ((0 + i) - 1).toNat 0).toNat) : Nat) : Int)), some (fI (lr.getD (0 + i).toNat 0))]) (st_q := [fI 1]) (h_q := h_344) (cl_q := 0) (sl_q := 0) rfl ?_
            refine ik_Wk 1 (pc_q := 6) (loc_q := [some (fI ((mj_on (fun x => mx_w cn go ch s x) (pl - 1) (1 <<< (lr.getD ((0 + i) - 1).toNat 0).toNat) : Nat) : Int)), some (fI (lr.getD (0 + i).toNat 0))]) (st_q := [fI 1, fI 1]) (h_q := h_344) (cl_q := 0) (sl_q := 0) rfl ?_
            refine fw_ic_ne rfl rfl (by decide +kernel) (by decide +kernel) (by decide +kernel) (by decide +kernel) (fun hc13 => ?_) (fun hc13 => absurd hc13 (by decide +kernel))
            refine ik_Wk 2 (pc_q := 14) (loc_q := [some (fI ((mj_on (fun x => mx_w cn go ch s x) (pl - 1) (1 <<< (lr.getD ((0 + i) - 1).toNat 0).toNat) : Nat) : Int)), some (fI (lr.getD (0 + i).toNat 0))]) (st_q := [fI 1]) (h_q := h_344) (cl_q := 0) (sl_q := 0) rfl ?_
            refine ik_Wret rfl rfl ⟨_, _, rfl, rfl, ?_⟩
            refine ik_Wk 0 (pc_q := 140) (loc_q := [some (.ref 66), some (fI 0), some (fI i), some (fI fa), some (fI (lr.getD (0 + i).toNat 0)), some (fI ((mj_on (fun x => mx_w cn go ch s x) (pl - 1) (1 <<< (lr.getD ((0 + i) - 1).toNat 0).toNat) : Nat) : Int)), some (fI ka)]) (st_q := [fI 1]) (h_q := h_344) (cl_q := 0) (sl_q := 0) rfl ?_
            have et : mx_tm ka (i - fa) = 1 := by unfold mx_tm; (repeat' split) <;> omega
            have hlt : mj_oi (fun x => mx_w cn go ch s x) (pl - 1) 1 (1 <<< (lr.getD (0 + i - 1).toNat 0).toNat) < 2 ^ pl.toNat := mj_oi_lt q4 (by omega) _ _ (mj_shl_lt (by omega))
            have hG : (mj_ok (fun x => mx_w cn go ch s x) pl ka pa fa lr 0) i = true := by
              show (if i < fa then _ else if i = fa then _ else _) = _
              rw [if_neg (by omega), if_neg (by omega), et]
              exact decide_eq_true ⟨by omega, ⟨by omega, mj_tb_lt hlt hb12 (by omega)⟩, hb12⟩
            exact ik_Wret rfl rfl ⟨_, _, rfl, rfl, rfl, rfl, Or.inl ⟨w'_344, gt'_344, gd'_344, rfl, g_344_66, g_344_77, m_344_77, g_344_78, m_344_78, hG, fr_344⟩⟩
          · refine ik_Wk 0 (pc_q := 5) (loc_q := [some (fI ((mj_on (fun x => mx_w cn go ch s x) (pl - 1) (1 <<< (lr.getD ((0 + i) - 1).toNat 0).toNat) : Nat) : Int)), some (fI (lr.getD (0 + i).toNat 0))]) (st_q := [fI 0]) (h_q := h_344) (cl_q := 0) (sl_q := 0) rfl ?_
            refine ik_Wk 1 (pc_q := 6) (loc_q := [some (fI ((mj_on (fun x => mx_w cn go ch s x) (pl - 1) (1 <<< (lr.getD ((0 + i) - 1).toNat 0).toNat) : Nat) : Int)), some (fI (lr.getD (0 + i).toNat 0))]) (st_q := [fI 1, fI 0]) (h_q := h_344) (cl_q := 0) (sl_q := 0) rfl ?_
            refine fw_ic_ne rfl rfl (by decide +kernel) (by decide +kernel) (by decide +kernel) (by decide +kernel) (fun hc14 => absurd hc14 (by decide +kernel)) (fun hc14 => ?_)
            refine ik_Wk 1 (pc_q := 14) (loc_q := [some (fI ((mj_on (fun x => mx_w cn go ch s x) (pl - 1) (1 <<< (lr.getD ((0 + i) - 1).toNat 0).toNat) : Nat) : Int)), some (fI (lr.getD (0 + i).toNat 0))]) (st_q := [fI 0]) (h_q := h_344) (cl_q := 0) (sl_q := 0) rfl ?_
            refine ik_Wret rfl rfl ⟨_, _, rfl, rfl, ?_⟩
            refine ik_Wk 0 (pc_q := 140) (loc_q := [some (.ref 66), some (fI 0), some (fI i), some (fI fa), some (fI (lr.getD (0 + i).toNat 0)), some (fI ((mj_on (fun x => mx_w cn go ch s x) (pl - 1) (1 <<< (lr.getD ((0 + i) - 1).toNat 0).toNat) : Nat) : Int)), some (fI ka)]) (st_q := [fI 0]) (h_q := h_344) (cl_q := 0) (sl_q := 0) rfl ?_
            have et : mx_tm ka (i - fa) = 1 := by unfold mx_tm; (repeat' split) <;> omega
            have hlt : mj_oi (fun x => mx_w cn go ch s x) (pl - 1) 1 (1 <<< (lr.getD (0 + i - 1).toNat 0).toNat) < 2 ^ pl.toNat := mj_oi_lt q4 (by omega) _ _ (mj_shl_lt (by omega))
            have hG : (mj_ok (fun x => mx_w cn go ch s x) pl ka pa fa lr 0) i = false := by
              show (if i < fa then _ else if i = fa then _ else _) = _
              rw [if_neg (by omega), if_neg (by omega), et]
              exact decide_eq_false (fun w => absurd (w.2.2.symm.trans hb12) (by decide +kernel))
            exact ik_Wret rfl rfl ⟨_, _, rfl, rfl, rfl, rfl, Or.inr ⟨w'_344, gt'_344, gd'_344, rfl, g_344_66, g_344_77, m_344_77, g_344_78, m_344_78, hG, fr_344⟩⟩
        · refine ik_Wk 4 (pc_q := 137) (loc_q := [some (.ref 66), some (fI 0), some (fI i), some (fI fa), some (fI (lr.getD (0 + i).toNat 0)), some (fI ((1 <<< (lr.getD ((0 + i) - 1).toNat 0).toNat : Nat) : Int)), some (fI ka)]) (st_q := [fI (lr.getD (0 + i).toNat 0), fI ((1 <<< (lr.getD ((0 + i) - 1).toNat 0).toNat : Nat) : Int)]) (h_q := h) (cl_q := 0) (sl_q := 0) rfl ?_
          refine ik_Wc 128 2 3 [fI ((1 <<< (lr.getD ((0 + i) - 1).toNat 0).toNat : Nat) : Int), fI (lr.getD (0 + i).toNat 0)] [] rfl rfl rfl (by decide +kernel) rfl rfl (fw_sta hl rfl (by decide +kernel)) ?_
          refine ik_Wk 0 (pc_q := 0) (loc_q := [some (fI ((1 <<< (lr.getD ((0 + i) - 1).toNat 0).toNat : Nat) : Int)), some (fI (lr.getD (0 + i).toNat 0))]) (st_q := []) (h_q := h) (cl_q := 0) (sl_q := 0) rfl ?_
          refine ik_Wk 2 (pc_q := 2) (loc_q := [some (fI ((1 <<< (lr.getD ((0 + i) - 1).toNat 0).toNat : Nat) : Int)), some (fI (lr.getD (0 + i).toNat 0))]) (st_q := [fI (lr.getD (0 + i).toNat 0), fI ((1 <<< (lr.getD ((0 + i) - 1).toNat 0).toNat : Nat) : Int)]) (h_q := h) (cl_q := 0) (sl_q := 0) rfl ?_
          refine fx_shr (n := 1 <<< (lr.getD ((0 + i) - 1).toNat 0).toNat) rfl (by omega) (by omega) (by omega) ?_
          refine ik_Wk 1 (pc_q := 4) (loc_q := [some (fI ((1 <<< (lr.getD ((0 + i) - 1).toNat 0).toNat : Nat) : Int)), some (fI (lr.getD (0 + i).toNat 0))]) (st_q := [fI 1, fI (((1 <<< (lr.getD ((0 + i) - 1).toNat 0).toNat) >>> (lr.getD (0 + i).toNat 0).toNat : Nat) : Int)]) (h_q := h) (cl_q := 0) (sl_q := 0) rfl ?_
          refine fx_bit (n := (1 <<< (lr.getD ((0 + i) - 1).toNat 0).toNat)) (k := (lr.getD (0 + i).toNat 0).toNat) rfl (fun hb15 => ?_) (fun hb15 => ?_)
          · refine ik_Wk 0 (pc_q := 5) (loc_q := [some (fI ((1 <<< (lr.getD ((0 + i) - 1).toNat 0).toNat : Nat) : Int)), some (fI (lr.getD (0 + i).toNat 0))]) (st_q := [fI 1]) (h_q := h) (cl_q := 0) (sl_q := 0) rfl ?_
            refine ik_Wk 1 (pc_q := 6) (loc_q := [some (fI ((1 <<< (lr.getD ((0 + i) - 1).toNat 0).toNat : Nat) : Int)), some (fI (lr.getD (0 + i).toNat 0))]) (st_q := [fI 1, fI 1]) (h_q := h) (cl_q := 0) (sl_q := 0) rfl ?_
            refine fw_ic_ne rfl rfl (by decide +kernel) (by decide +kernel) (by decide +kernel) (by decide +kernel) (fun hc16 => ?_) (fun hc16 => absurd hc16 (by decide +kernel))
            refine ik_Wk 2 (pc_q := 14) (loc_q := [some (fI ((1 <<< (lr.getD ((0 + i) - 1).toNat 0).toNat : Nat) : Int)), some (fI (lr.getD (0 + i).toNat 0))]) (st_q := [fI 1]) (h_q := h) (cl_q := 0) (sl_q := 0) rfl ?_
            refine ik_Wret rfl rfl ⟨_, _, rfl, rfl, ?_⟩
            refine ik_Wk 0 (pc_q := 140) (loc_q := [some (.ref 66), some (fI 0), some (fI i), some (fI fa), some (fI (lr.getD (0 + i).toNat 0)), some (fI ((1 <<< (lr.getD ((0 + i) - 1).toNat 0).toNat : Nat) : Int)), some (fI ka)]) (st_q := [fI 1]) (h_q := h) (cl_q := 0) (sl_q := 0) rfl ?_
            have et : mx_tm ka (i - fa) = 0 := by unfold mx_tm; (repeat' split) <;> omega
            have hlt : mj_oi (fun x => mx_w cn go ch s x) (pl - 1) 0 (1 <<< (lr.getD (0 + i - 1).toNat 0).toNat) < 2 ^ pl.toNat := mj_oi_lt q4 (by omega) _ _ (mj_shl_lt (by omega))
            have hG : (mj_ok (fun x => mx_w cn go ch s x) pl ka pa fa lr 0) i = true := by
              show (if i < fa then _ else if i = fa then _ else _) = _
              rw [if_neg (by omega), if_neg (by omega), et]
              exact decide_eq_true ⟨by omega, ⟨by omega, mj_tb_lt hlt hb15 (by omega)⟩, hb15⟩
            exact ik_Wret rfl rfl ⟨_, _, rfl, rfl, rfl, rfl, Or.inl ⟨(f 24), gt, gd, rfl, h66, h77, n77, h78, n78, hG, (hfr_refl [66, 77, 78] h)⟩⟩
          · refine ik_Wk 0 (pc_q := 5) (loc_q := [some (fI ((1 <<< (lr.getD ((0 + i) - 1).toNat 0).toNat : Nat) : Int)), some (fI (lr.getD (0 + i).toNat 0))]) (st_q := [fI 0]) (h_q := h) (cl_q := 0) (sl_q := 0) rfl ?_
            refine ik_Wk 1 (pc_q := 6) (loc_q := [some (fI ((1 <<< (lr.getD ((0 + i) - 1).toNat 0).toNat : Nat) : Int)), some (fI (lr.getD (0 + i).toNat 0))]) (st_q := [fI 1, fI 0]) (h_q := h) (cl_q := 0) (sl_q := 0) rfl ?_
            refine fw_ic_ne rfl rfl (by decide +kernel) (by decide +kernel) (by decide +kernel) (by decide +kernel) (fun hc17 => absurd hc17 (by decide +kernel)) (fun hc17 => ?_)
            refine ik_Wk 1 (pc_q := 14) (loc_q := [some (fI ((1 <<< (lr.getD ((0 + i) - 1).toNat 0).toNat : Nat) : Int)), some (fI (lr.getD (0 + i).toNat 0))]) (st_q := [fI 0]) (h_q := h) (cl_q := 0) (sl_q := 0) rfl ?_
            refine ik_Wret rfl rfl ⟨_, _, rfl, rfl, ?_⟩
            refine ik_Wk 0 (pc_q := 140) (loc_q := [some (.ref 66), some (fI 0), some (fI i), some (fI fa), some (fI (lr.getD (0 + i).toNat 0)), some (fI ((1 <<< (lr.getD ((0 + i) - 1).toNat 0).toNat : Nat) : Int)), some (fI ka)]) (st_q := [fI 0]) (h_q := h) (cl_q := 0) (sl_q := 0) rfl ?_
            have et : mx_tm ka (i - fa) = 0 := by unfold mx_tm; (repeat' split) <;> omega
            have hlt : mj_oi (fun x => mx_w cn go ch s x) (pl - 1) 0 (1 <<< (lr.getD (0 + i - 1).toNat 0).toNat) < 2 ^ pl.toNat := mj_oi_lt q4 (by omega) _ _ (mj_shl_lt (by omega))
            have hG : (mj_ok (fun x => mx_w cn go ch s x) pl ka pa fa lr 0) i = false := by
              show (if i < fa then _ else if i = fa then _ else _) = _
              rw [if_neg (by omega), if_neg (by omega), et]
              exact decide_eq_false (fun w => absurd (w.2.2.symm.trans hb15) (by decide +kernel))
            exact ik_Wret rfl rfl ⟨_, _, rfl, rfl, rfl, rfl, Or.inr ⟨(f 24), gt, gd, rfl, h66, h77, n77, h78, n78, hG, (hfr_refl [66, 77, 78] h)⟩⟩
    · refine ik_Wk 2 (pc_q := 104) (loc_q := [some (.ref 66), some (fI 0), some (fI i), some (fI fa), some (fI (lr.getD (0 + i).toNat 0)), some (fI ((1 <<< (lr.getD ((0 + i) - 1).toNat 0).toNat : Nat) : Int)), some (fI ka)]) (st_q := [fI ((1 <<< (lr.getD ((0 + i) - 1).toNat 0).toNat : Nat) : Int), .ref 66]) (h_q := h) (cl_q := 0) (sl_q := 0) rfl ?_
      refine fw_call 205 2 0 [.ref 66, fI ((1 <<< (lr.getD ((0 + i) - 1).toNat 0).toNat : Nat) : Int)] [] rfl rfl rfl (Nat.le_of_ble_eq_true rfl) rfl rfl (fw_rec hl rfl h66 rfl (Nat.le_of_ble_eq_true rfl)) (cr_onFrom (pl := pl) (f := fun j => ((0 :: 0 :: 0 :: 0 :: 0 :: 0 :: 0 :: f 7 :: f 8 :: 0 :: f 10 :: f 11 :: f 12 :: f 13 :: f 14 :: f 15 :: f 16 :: f 17 :: 0 :: 0 :: 0 :: 0 :: 0 :: 0 :: f 24 :: 0 :: 0 :: 0 :: 0 :: 0 :: 0 :: 0 :: f 32 :: f 33 :: 0 :: 0 :: f 36 :: 0 :: 0 :: 0 :: 0 :: 0 :: 0 :: []) : List Int).getD j 0) (s := s) (B := 1 <<< (lr.getD ((0 + i) - 1).toNat 0).toNat) (cn := cn) (go := go) (ch := ch) (gt := gt) (gd := gd) (by omega) (by omega) q2 q3 q4 hB0 h66 h67 n67 h68 n68 h69 n69 h77 n77 h78 n78 hl) ?_
      rintro _ h_345 ⟨w'_345, gt'_345, gd'_345, rfl, e_345_66, e_345_77, m_345_77, e_345_78, m_345_78, F_345⟩
      have k_345 : cL h_345 := F_345.1.trans hl
      have fr_345 := hfr_cb (hfr_refl [66, 77, 78] h) F_345 rfl
      have g_345_67 := (hfr_g F_345 67 rfl).trans h67
      have g_345_68 := (hfr_g F_345 68 rfl).trans h68
      have g_345_69 := (hfr_g F_345 69 rfl).trans h69
      have g_345_70 := (hfr_g F_345 70 rfl).trans h70
      have g_345_91 := (hfr_g F_345 91 rfl).trans h91
      have g_345_66 : cE h_345 66 (.inr (10, (fI pl :: .ref 67 :: .ref 68 :: .ref 69 :: fI ((s : Nat) : Int) :: .ref 70 :: .ref 71 :: fI (f 7) :: fI (f 8) :: .ref 72 :: fI (f 10) :: fI (f 11) :: fI (f 12) :: fJ (f 13) :: fI (f 14) :: fI (f 15) :: fI (f 16) :: fI (f 17) :: .ref 73 :: .ref 74 :: .ref 75 :: .ref 76 :: .ref 77 :: .ref 78 :: fI w'_345 :: .ref 79 :: .ref 80 :: .ref 81 :: .ref 82 :: .ref 83 :: .ref 84 :: .ref 85 :: fJ (f 32) :: fJ (f 33) :: .ref 86 :: .ref 87 :: fI (f 36) :: .ref 88 :: .ref 89 :: .ref 90 :: .ref 91 :: .ref 92 :: .ref 93 :: []))) := e_345_66
      have g_345_77 : cE h_345 77 (.inl (.int, fA gt'_345)) := e_345_77
      have g_345_78 : cE h_345 78 (.inl (.int, fA gd'_345)) := e_345_78
      refine ik_Wk 0 (pc_q := 107) (loc_q := [some (.ref 66), some (fI 0), some (fI i), some (fI fa), some (fI (lr.getD (0 + i).toNat 0)), some (fI ((1 <<< (lr.getD ((0 + i) - 1).toNat 0).toNat : Nat) : Int)), some (fI ka)]) (st_q := [fI ((mj_on (fun x => mx_w cn go ch s x) (pl - 1) (1 <<< (lr.getD ((0 + i) - 1).toNat 0).toNat) : Nat) : Int)]) (h_q := h_345) (cl_q := 0) (sl_q := 0) rfl ?_
      have hB1 := mj_12 (mj_on_lt (W := (fun x => mx_w cn go ch s x)) (pl := pl) q4 (by omega) (1 <<< (lr.getD ((0 + i) - 1).toNat 0).toNat)) (by omega)
      refine ik_Wk 4 (pc_q := 117) (loc_q := [some (.ref 66), some (fI 0), some (fI i), some (fI fa), some (fI (lr.getD (0 + i).toNat 0)), some (fI ((mj_on (fun x => mx_w cn go ch s x) (pl - 1) (1 <<< (lr.getD ((0 + i) - 1).toNat 0).toNat) : Nat) : Int)), some (fI ka)]) (st_q := [fI 1, fI ka]) (h_q := h_345) (cl_q := 0) (sl_q := 0) rfl ?_
      refine fw_ic_ne rfl rfl (by omega) (by omega) (by omega) (by omega) (fun hc18 => ?_) (fun hc18 => ?_)
      · refine ik_Wk 2 (pc_q := 123) (loc_q := [some (.ref 66), some (fI 0), some (fI i), some (fI fa), some (fI (lr.getD (0 + i).toNat 0)), some (fI ((mj_on (fun x => mx_w cn go ch s x) (pl - 1) (1 <<< (lr.getD ((0 + i) - 1).toNat 0).toNat) : Nat) : Int)), some (fI ka)]) (st_q := [fI ((mj_on (fun x => mx_w cn go ch s x) (pl - 1) (1 <<< (lr.getD ((0 + i) - 1).toNat 0).toNat) : Nat) : Int), .ref 66]) (h_q := h_345) (cl_q := 0) (sl_q := 0) rfl ?_
        refine fw_call 205 2 0 [.ref 66, fI ((mj_on (fun x => mx_w cn go ch s x) (pl - 1) (1 <<< (lr.getD ((0 + i) - 1).toNat 0).toNat) : Nat) : Int)] [] rfl rfl rfl (Nat.le_of_ble_eq_true rfl) rfl rfl (fw_rec k_345 rfl g_345_66 rfl (Nat.le_of_ble_eq_true rfl)) (cr_onFrom (pl := pl) (f := fun j => ((0 :: 0 :: 0 :: 0 :: 0 :: 0 :: 0 :: ((f 7)) :: ((f 8)) :: 0 :: ((f 10)) :: ((f 11)) :: ((f 12)) :: ((f 13)) :: ((f 14)) :: ((f 15)) :: ((f 16)) :: ((f 17)) :: 0 :: 0 :: 0 :: 0 :: 0 :: 0 :: w'_345 :: 0 :: 0 :: 0 :: 0 :: 0 :: 0 :: 0 :: ((f 32)) :: ((f 33)) :: 0 :: 0 :: ((f 36)) :: 0 :: 0 :: 0 :: 0 :: 0 :: 0 :: []) : List Int).getD j 0) (s := s) (B := mj_on (fun x => mx_w cn go ch s x) (pl - 1) (1 <<< (lr.getD ((0 + i) - 1).toNat 0).toNat)) (cn := cn) (go := go) (ch := ch) (gt := gt'_345) (gd := gd'_345) (by omega) (by omega) q2 q3 q4 hB1 g_345_66 g_345_67 n67 g_345_68 n68 g_345_69 n69 g_345_77 m_345_77 g_345_78 m_345_78 k_345) ?_
        rintro _ h_346 ⟨w'_346, gt'_346, gd'_346, rfl, e_346_66, e_346_77, m_346_77, e_346_78, m_346_78, F_346⟩
        have k_346 : cL h_346 := F_346.1.trans k_345
        have fr_346 := hfr_cb fr_345 F_346 rfl
        have g_346_67 := (hfr_g F_346 67 rfl).trans g_345_67
        have g_346_68 := (hfr_g F_346 68 rfl).trans g_345_68
        have g_346_69 := (hfr_g F_346 69 rfl).trans g_345_69
        have g_346_70 := (hfr_g F_346 70 rfl).trans g_345_70
        have g_346_91 := (hfr_g F_346 91 rfl).trans g_345_91
        have g_346_66 : cE h_346 66 (.inr (10, (fI pl :: .ref 67 :: .ref 68 :: .ref 69 :: fI ((s : Nat) : Int) :: .ref 70 :: .ref 71 :: fI (f 7) :: fI (f 8) :: .ref 72 :: fI (f 10) :: fI (f 11) :: fI (f 12) :: fJ (f 13) :: fI (f 14) :: fI (f 15) :: fI (f 16) :: fI (f 17) :: .ref 73 :: .ref 74 :: .ref 75 :: .ref 76 :: .ref 77 :: .ref 78 :: fI w'_346 :: .ref 79 :: .ref 80 :: .ref 81 :: .ref 82 :: .ref 83 :: .ref 84 :: .ref 85 :: fJ (f 32) :: fJ (f 33) :: .ref 86 :: .ref 87 :: fI (f 36) :: .ref 88 :: .ref 89 :: .ref 90 :: .ref 91 :: .ref 92 :: .ref 93 :: []))) := e_346_66
        have g_346_77 : cE h_346 77 (.inl (.int, fA gt'_346)) := e_346_77
        have g_346_78 : cE h_346 78 (.inl (.int, fA gd'_346)) := e_346_78
        refine ik_Wk 0 (pc_q := 126) (loc_q := [some (.ref 66), some (fI 0), some (fI i), some (fI fa), some (fI (lr.getD (0 + i).toNat 0)), some (fI ((mj_on (fun x => mx_w cn go ch s x) (pl - 1) (1 <<< (lr.getD ((0 + i) - 1).toNat 0).toNat) : Nat) : Int)), some (fI ka)]) (st_q := [fI ((mj_on (fun x => mx_w cn go ch s x) (pl - 1) (mj_on (fun x => mx_w cn go ch s x) (pl - 1) (1 <<< (lr.getD ((0 + i) - 1).toNat 0).toNat)) : Nat) : Int)]) (h_q := h_346) (cl_q := 0) (sl_q := 0) rfl ?_
        have hB2 := mj_12 (mj_on_lt (W := (fun x => mx_w cn go ch s x)) (pl := pl) q4 (by omega) (mj_on (fun x => mx_w cn go ch s x) (pl - 1) (1 <<< (lr.getD ((0 + i) - 1).toNat 0).toNat))) (by omega)
        refine ik_Wk 4 (pc_q := 137) (loc_q := [some (.ref 66), some (fI 0), some (fI i), some (fI fa), some (fI (lr.getD (0 + i).toNat 0)), some (fI ((mj_on (fun x => mx_w cn go ch s x) (pl - 1) (mj_on (fun x => mx_w cn go ch s x) (pl - 1) (1 <<< (lr.getD ((0 + i) - 1).toNat 0).toNat)) : Nat) : Int)), some (fI ka)]) (st_q := [fI (lr.getD (0 + i).toNat 0), fI ((mj_on (fun x => mx_w cn go ch s x) (pl - 1) (mj_on (fun x => mx_w cn go ch s x) (pl - 1) (1 <<< (lr.getD ((0 + i) - 1).toNat 0).toNat)) : Nat) : Int)]) (h_q := h_346) (cl_q := 0) (sl_q := 0) rfl ?_
        refine ik_Wc 128 2 3 [fI ((mj_on (fun x => mx_w cn go ch s x) (pl - 1) (mj_on (fun x => mx_w cn go ch s x) (pl - 1) (1 <<< (lr.getD ((0 + i) - 1).toNat 0).toNat)) : Nat) : Int), fI (lr.getD (0 + i).toNat 0)] [] rfl rfl rfl (by decide +kernel) rfl rfl (fw_sta k_346 rfl (by decide +kernel)) ?_
        refine ik_Wk 0 (pc_q := 0) (loc_q := [some (fI ((mj_on (fun x => mx_w cn go ch s x) (pl - 1) (mj_on (fun x => mx_w cn go ch s x) (pl - 1) (1 <<< (lr.getD ((0 + i) - 1).toNat 0).toNat)) : Nat) : Int)), some (fI (lr.getD (0 + i).toNat 0))]) (st_q := []) (h_q := h_346) (cl_q := 0) (sl_q := 0) rfl ?_
        refine ik_Wk 2 (pc_q := 2) (loc_q := [some (fI ((mj_on (fun x => mx_w cn go ch s x) (pl - 1) (mj_on (fun x => mx_w cn go ch s x) (pl - 1) (1 <<< (lr.getD ((0 + i) - 1).toNat 0).toNat)) : Nat) : Int)), some (fI (lr.getD (0 + i).toNat 0))]) (st_q := [fI (lr.getD (0 + i).toNat 0), fI ((mj_on (fun x => mx_w cn go ch s x) (pl - 1) (mj_on (fun x => mx_w cn go ch s x) (pl - 1) (1 <<< (lr.getD ((0 + i) - 1).toNat 0).toNat)) : Nat) : Int)]) (h_q := h_346) (cl_q := 0) (sl_q := 0) rfl ?_
        refine fx_shr (n := mj_on (fun x => mx_w cn go ch s x) (pl - 1) (mj_on (fun x => mx_w cn go ch s x) (pl - 1) (1 <<< (lr.getD ((0 + i) - 1).toNat 0).toNat))) rfl (by omega) (by omega) (by omega) ?_
        refine ik_Wk 1 (pc_q := 4) (loc_q := [some (fI ((mj_on (fun x => mx_w cn go ch s x) (pl - 1) (mj_on (fun x => mx_w cn go ch s x) (pl - 1) (1 <<< (lr.getD ((0 + i) - 1).toNat 0).toNat)) : Nat) : Int)), some (fI (lr.getD (0 + i).toNat 0))]) (st_q := [fI 1, fI (((mj_on (fun x => mx_w cn go ch s x) (pl - 1) (mj_on (fun x => mx_w cn go ch s x) (pl - 1) (1 <<< (lr.getD ((0 + i) - 1).toNat 0).toNat))) >>> (lr.getD (0 + i).toNat 0).toNat : Nat) : Int)]) (h_q := h_346) (cl_q := 0) (sl_q := 0) rfl ?_
        refine fx_bit (n := (mj_on (fun x => mx_w cn go ch s x) (pl - 1) (mj_on (fun x => mx_w cn go ch s x) (pl - 1) (1 <<< (lr.getD ((0 + i) - 1).toNat 0).toNat)))) (k := (lr.getD (0 + i).toNat 0).toNat) rfl (fun hb19 => ?_) (fun hb19 => ?_)
        · refine ik_Wk 0 (pc_q := 5) (loc_q := [some (fI ((mj_on (fun x => mx_w cn go ch s x) (pl - 1) (mj_on (fun x => mx_w cn go ch s x) (pl - 1) (1 <<< (lr.getD ((0 + i) - 1).toNat 0).toNat)) : Nat) : Int)), some (fI (lr.getD (0 + i).toNat 0))]) (st_q := [fI 1]) (h_q := h_346) (cl_q := 0) (sl_q := 0) rfl ?_
          refine ik_Wk 1 (pc_q := 6) (loc_q := [some (fI ((mj_on (fun x => mx_w cn go ch s x) (pl - 1) (mj_on (fun x => mx_w cn go ch s x) (pl - 1) (1 <<< (lr.getD ((0 + i) - 1).toNat 0).toNat)) : Nat) : Int)), some (fI (lr.getD (0 + i).toNat 0))]) (st_q := [fI 1, fI 1]) (h_q := h_346) (cl_q := 0) (sl_q := 0) rfl ?_
          refine fw_ic_ne rfl rfl (by decide +kernel) (by decide +kernel) (by decide +kernel) (by decide +kernel) (fun hc20 => ?_) (fun hc20 => absurd hc20 (by decide +kernel))
          refine ik_Wk 2 (pc_q := 14) (loc_q := [some (fI ((mj_on (fun x => mx_w cn go ch s x) (pl - 1) (mj_on (fun x => mx_w cn go ch s x) (pl - 1) (1 <<< (lr.getD ((0 + i) - 1).toNat 0).toNat)) : Nat) : Int)), some (fI (lr.getD (0 + i).toNat 0))]) (st_q := [fI 1]) (h_q := h_346) (cl_q := 0) (sl_q := 0) rfl ?_
          refine ik_Wret rfl rfl ⟨_, _, rfl, rfl, ?_⟩
          refine ik_Wk 0 (pc_q := 140) (loc_q := [some (.ref 66), some (fI 0), some (fI i), some (fI fa), some (fI (lr.getD (0 + i).toNat 0)), some (fI ((mj_on (fun x => mx_w cn go ch s x) (pl - 1) (mj_on (fun x => mx_w cn go ch s x) (pl - 1) (1 <<< (lr.getD ((0 + i) - 1).toNat 0).toNat)) : Nat) : Int)), some (fI ka)]) (st_q := [fI 1]) (h_q := h_346) (cl_q := 0) (sl_q := 0) rfl ?_
          have et : mx_tm ka (i - fa) = 2 := by unfold mx_tm; (repeat' split) <;> omega
          have hlt : mj_oi (fun x => mx_w cn go ch s x) (pl - 1) 2 (1 <<< (lr.getD (0 + i - 1).toNat 0).toNat) < 2 ^ pl.toNat := mj_oi_lt q4 (by omega) _ _ (mj_shl_lt (by omega))
          have hG : (mj_ok (fun x => mx_w cn go ch s x) pl ka pa fa lr 0) i = true := by
            show (if i < fa then _ else if i = fa then _ else _) = _
            rw [if_neg (by omega), if_neg (by omega), et]
            exact decide_eq_true ⟨by omega, ⟨by omega, mj_tb_lt hlt hb19 (by omega)⟩, hb19⟩
          exact ik_Wret rfl rfl ⟨_, _, rfl, rfl, rfl, rfl, Or.inl ⟨w'_346, gt'_346, gd'_346, rfl, g_346_66, g_346_77, m_346_77, g_346_78, m_346_78, hG, fr_346⟩⟩
        · refine ik_Wk 0 (pc_q := 5) (loc_q := [some (fI ((mj_on (fun x => mx_w cn go ch s x) (pl - 1) (mj_on (fun x => mx_w cn go ch s x) (pl - 1) (1 <<< (lr.getD ((0 + i) - 1).toNat 0).toNat)) : Nat) : Int)), some (fI (lr.getD (0 + i).toNat 0))]) (st_q := [fI 0]) (h_q := h_346) (cl_q := 0) (sl_q := 0) rfl ?_
          refine ik_Wk 1 (pc_q := 6) (loc_q := [some (fI ((mj_on (fun x => mx_w cn go ch s x) (pl - 1) (mj_on (fun x => mx_w cn go ch s x) (pl - 1) (1 <<< (lr.getD ((0 + i) - 1).toNat 0).toNat)) : Nat) : Int)), some (fI (lr.getD (0 + i).toNat 0))]) (st_q := [fI 1, fI 0]) (h_q := h_346) (cl_q := 0) (sl_q := 0) rfl ?_
          refine fw_ic_ne rfl rfl (by decide +kernel) (by decide +kernel) (by decide +kernel) (by decide +kernel) (fun hc21 => absurd hc21 (by decide +kernel)) (fun hc21 => ?_)
          refine ik_Wk 1 (pc_q := 14) (loc_q := [some (fI ((mj_on (fun x => mx_w cn go ch s x) (pl - 1) (mj_on (fun x => mx_w cn go ch s x) (pl - 1) (1 <<< (lr.getD ((0 + i) - 1).toNat 0).toNat)) : Nat) : Int)), some (fI (lr.getD (0 + i).toNat 0))]) (st_q := [fI 0]) (h_q := h_346) (cl_q := 0) (sl_q := 0) rfl ?_
          refine ik_Wret rfl rfl ⟨_, _, rfl, rfl, ?_⟩
          refine ik_Wk 0 (pc_q := 140) (loc_q := [some (.ref 66), some (fI 0), some (fI i), some (fI fa), some (fI (lr.getD (0 + i).toNat 0)), some (fI ((mj_on (fun x => mx_w cn go ch s x) (pl - 1) (mj_on (fun x => mx_w cn go ch s x) (pl - 1) (1 <<< (lr.getD ((0 + i) - 1).toNat 0).toNat)) : Nat) : Int)), some (fI ka)]) (st_q := [fI 0]) (h_q := h_346) (cl_q := 0) (sl_q := 0) rfl ?_
          have et : mx_tm ka (i - fa) = 2 := by unfold mx_tm; (repeat' split) <;> omega
          have hlt : mj_oi (fun x => mx_w cn go ch s x) (pl - 1) 2 (1 <<< (lr.getD (0 + i - 1).toNat 0).toNat) < 2 ^ pl.toNat := mj_oi_lt q4 (by omega) _ _ (mj_shl_lt (by omega))
          have hG : (mj_ok (fun x => mx_w cn go ch s x) pl ka pa fa lr 0) i = false := by
            show (if i < fa then _ else if i = fa then _ else _) = _
            rw [if_neg (by omega), if_neg (by omega), et]
            exact decide_eq_false (fun w => absurd (w.2.2.symm.trans hb19) (by decide +kernel))
          exact ik_Wret rfl rfl ⟨_, _, rfl, rfl, rfl, rfl, Or.inr ⟨w'_346, gt'_346, gd'_346, rfl, g_346_66, g_346_77, m_346_77, g_346_78, m_346_78, hG, fr_346⟩⟩
      · refine ik_Wk 4 (pc_q := 137) (loc_q := [some (.ref 66), some (fI 0), some (fI i), some (fI fa), some (fI (lr.getD (0 + i).toNat 0)), some (fI ((mj_on (fun x => mx_w cn go ch s x) (pl - 1) (1 <<< (lr.getD ((0 + i) - 1).toNat 0).toNat) : Nat) : Int)), some (fI ka)]) (st_q := [fI (lr.getD (0 + i).toNat 0), fI ((mj_on (fun x => mx_w cn go ch s x) (pl - 1) (1 <<< (lr.getD ((0 + i) - 1).toNat 0).toNat) : Nat) : Int)]) (h_q := h_345) (cl_q := 0) (sl_q := 0) rfl ?_
        refine ik_Wc 128 2 3 [fI ((mj_on (fun x => mx_w cn go ch s x) (pl - 1) (1 <<< (lr.getD ((0 + i) - 1).toNat 0).toNat) : Nat) : Int), fI (lr.getD (0 + i).toNat 0)] [] rfl rfl rfl (by decide +kernel) rfl rfl (fw_sta k_345 rfl (by decide +kernel)) ?_
        refine ik_Wk 0 (pc_q := 0) (loc_q := [some (fI ((mj_on (fun x => mx_w cn go ch s x) (pl - 1) (1 <<< (lr.getD ((0 + i) - 1).toNat 0).toNat) : Nat) : Int)), some (fI (lr.getD (0 + i).toNat 0))]) (st_q := []) (h_q := h_345) (cl_q := 0) (sl_q := 0) rfl ?_
        refine ik_Wk 2 (pc_q := 2) (loc_q := [some (fI ((mj_on (fun x => mx_w cn go ch s x) (pl - 1) (1 <<< (lr.getD ((0 + i) - 1).toNat 0).toNat) : Nat) : Int)), some (fI (lr.getD (0 + i).toNat 0))]) (st_q := [fI (lr.getD (0 + i).toNat 0), fI ((mj_on (fun x => mx_w cn go ch s x) (pl - 1) (1 <<< (lr.getD ((0 + i) - 1).toNat 0).toNat) : Nat) : Int)]) (h_q := h_345) (cl_q := 0) (sl_q := 0) rfl ?_
        refine fx_shr (n := mj_on (fun x => mx_w cn go ch s x) (pl - 1) (1 <<< (lr.getD ((0 + i) - 1).toNat 0).toNat)) rfl (by omega) (by omega) (by omega) ?_
        refine ik_Wk 1 (pc_q := 4) (loc_q := [some (fI ((mj_on (fun x => mx_w cn go ch s x) (pl - 1) (1 <<< (lr.getD ((0 + i) - 1).toNat 0).toNat) : Nat) : Int)), some (fI (lr.getD (0 + i).toNat 0))]) (st_q := [fI 1, fI (((mj_on (fun x => mx_w cn go ch s x) (pl - 1) (1 <<< (lr.getD ((0 + i) - 1).toNat 0).toNat)) >>> (lr.getD (0 + i).toNat 0).toNat : Nat) : Int)]) (h_q := h_345) (cl_q := 0) (sl_q := 0) rfl ?_
        refine fx_bit (n := (mj_on (fun x => mx_w cn go ch s x) (pl - 1) (1 <<< (lr.getD ((0 + i) - 1).toNat 0).toNat))) (k := (lr.getD (0 + i).toNat 0).toNat) rfl (fun hb22 => ?_) (fun hb22 => ?_)
        · refine ik_Wk 0 (pc_q := 5) (loc_q := [some (fI ((mj_on (fun x => mx_w cn go ch s x) (pl - 1) (1 <<< (lr.getD ((0 + i) - 1).toNat 0).toNat) : Nat) : Int)), some (fI (lr.getD (0 + i).toNat 0))]) (st_q := [fI 1]) (h_q := h_345) (cl_q := 0) (sl_q := 0) rfl ?_
          refine ik_Wk 1 (pc_q := 6) (loc_q := [some (fI ((mj_on (fun x => mx_w cn go ch s x) (pl - 1) (1 <<< (lr.getD ((0 + i) - 1).toNat 0).toNat) : Nat) : Int)), some (fI (lr.getD (0 + i).toNat 0))]) (st_q := [fI 1, fI 1]) (h_q := h_345) (cl_q := 0) (sl_q := 0) rfl ?_
          refine fw_ic_ne rfl rfl (by decide +kernel) (by decide +kernel) (by decide +kernel) (by decide +kernel) (fun hc23 => ?_) (fun hc23 => absurd hc23 (by decide +kernel))
          refine ik_Wk 2 (pc_q := 14) (loc_q := [some (fI ((mj_on (fun x => mx_w cn go ch s x) (pl - 1) (1 <<< (lr.getD ((0 + i) - 1).toNat 0).toNat) : Nat) : Int)), some (fI (lr.getD (0 + i).toNat 0))]) (st_q := [fI 1]) (h_q := h_345) (cl_q := 0) (sl_q := 0) rfl ?_
          refine ik_Wret rfl rfl ⟨_, _, rfl, rfl, ?_⟩
          refine ik_Wk 0 (pc_q := 140) (loc_q := [some (.ref 66), some (fI 0), some (fI i), some (fI fa), some (fI (lr.getD (0 + i).toNat 0)), some (fI ((mj_on (fun x => mx_w cn go ch s x) (pl - 1) (1 <<< (lr.getD ((0 + i) - 1).toNat 0).toNat) : Nat) : Int)), some (fI ka)]) (st_q := [fI 1]) (h_q := h_345) (cl_q := 0) (sl_q := 0) rfl ?_
          have et : mx_tm ka (i - fa) = 1 := by unfold mx_tm; (repeat' split) <;> omega
          have hlt : mj_oi (fun x => mx_w cn go ch s x) (pl - 1) 1 (1 <<< (lr.getD (0 + i - 1).toNat 0).toNat) < 2 ^ pl.toNat := mj_oi_lt q4 (by omega) _ _ (mj_shl_lt (by omega))
          have hG : (mj_ok (fun x => mx_w cn go ch s x) pl ka pa fa lr 0) i = true := by
            show (if i < fa then _ else if i = fa then _ else _) = _
            rw [if_neg (by omega), if_neg (by omega), et]
            exact decide_eq_true ⟨by omega, ⟨by omega, mj_tb_lt hlt hb22 (by omega)⟩, hb22⟩
          exact ik_Wret rfl rfl ⟨_, _, rfl, rfl, rfl, rfl, Or.inl ⟨w'_345, gt'_345, gd'_345, rfl, g_345_66, g_345_77, m_345_77, g_345_78, m_345_78, hG, fr_345⟩⟩
        · refine ik_Wk 0 (pc_q := 5) (loc_q := [some (fI ((mj_on (fun x => mx_w cn go ch s x) (pl - 1) (1 <<< (lr.getD ((0 + i) - 1).toNat 0).toNat) : Nat) : Int)), some (fI (lr.getD (0 + i).toNat 0))]) (st_q := [fI 0]) (h_q := h_345) (cl_q := 0) (sl_q := 0) rfl ?_
          refine ik_Wk 1 (pc_q := 6) (loc_q := [some (fI ((mj_on (fun x => mx_w cn go ch s x) (pl - 1) (1 <<< (lr.getD ((0 + i) - 1).toNat 0).toNat) : Nat) : Int)), some (fI (lr.getD (0 + i).toNat 0))]) (st_q := [fI 1, fI 0]) (h_q := h_345) (cl_q := 0) (sl_q := 0) rfl ?_
          refine fw_ic_ne rfl rfl (by decide +kernel) (by decide +kernel) (by decide +kernel) (by decide +kernel) (fun hc24 => absurd hc24 (by decide +kernel)) (fun hc24 => ?_)
          refine ik_Wk 1 (pc_q := 14) (loc_q := [some (fI ((mj_on (fun x => mx_w cn go ch s x) (pl - 1) (1 <<< (lr.getD ((0 + i) - 1).toNat 0).toNat) : Nat) : Int)), some (fI (lr.getD (0 + i).toNat 0))]) (st_q := [fI 0]) (h_q := h_345) (cl_q := 0) (sl_q := 0) rfl ?_
          refine ik_Wret rfl rfl ⟨_, _, rfl, rfl, ?_⟩
          refine ik_Wk 0 (pc_q := 140) (loc_q := [some (.ref 66), some (fI 0), some (fI i), some (fI fa), some (fI (lr.getD (0 + i).toNat 0)), some (fI ((mj_on (fun x => mx_w cn go ch s x) (pl - 1) (1 <<< (lr.getD ((0 + i) - 1).toNat 0).toNat) : Nat) : Int)), some (fI ka)]) (st_q := [fI 0]) (h_q := h_345) (cl_q := 0) (sl_q := 0) rfl ?_
          have et : mx_tm ka (i - fa) = 1 := by unfold mx_tm; (repeat' split) <;> omega
          have hlt : mj_oi (fun x => mx_w cn go ch s x) (pl - 1) 1 (1 <<< (lr.getD (0 + i - 1).toNat 0).toNat) < 2 ^ pl.toNat := mj_oi_lt q4 (by omega) _ _ (mj_shl_lt (by omega))
          have hG : (mj_ok (fun x => mx_w cn go ch s x) pl ka pa fa lr 0) i = false := by
            show (if i < fa then _ else if i = fa then _ else _) = _
            rw [if_neg (by omega), if_neg (by omega), et]
            exact decide_eq_false (fun w => absurd (w.2.2.symm.trans hb22) (by decide +kernel))
          exact ik_Wret rfl rfl ⟨_, _, rfl, rfl, rfl, rfl, Or.inr ⟨w'_345, gt'_345, gd'_345, rfl, g_345_66, g_345_77, m_345_77, g_345_78, m_345_78, hG, fr_345⟩⟩
  · refine ik_Wk 3 (pc_q := 33) (loc_q := [some (.ref 66), some (fI 0), some (fI i), some (fI fa), some (fI (lr.getD (0 + i).toNat 0)), none, none]) (st_q := [fI fa, fI i, fI (lr.getD (0 + i).toNat 0)]) (h_q := h) (cl_q := 0) (sl_q := 0) rfl ?_
    refine fw_ic_ge rfl rfl (by omega) (by omega) (by omega) (by omega) (fun hc25 => ?_) (fun hc25 => ?_)
    · refine ik_Wk 1 (pc_q := 42) (loc_q := [some (.ref 66), some (fI 0), some (fI i), some (fI fa), some (fI (lr.getD (0 + i).toNat 0)), none, none]) (st_q := [.ref 66, fI (lr.getD (0 + i).toNat 0)]) (h_q := h) (cl_q := 0) (sl_q := 0) rfl ?_
      refine fw_gf rfl rfl h66 rfl ?_
      refine ik_Wk 2 (pc_q := 47) (loc_q := [some (.ref 66), some (fI 0), some (fI i), some (fI fa), some (fI (lr.getD (0 + i).toNat 0)), none, none]) (st_q := [fI 0, fI 3, .ref 70, fI (lr.getD (0 + i).toNat 0)]) (h_q := h) (cl_q := 0) (sl_q := 0) rfl ?_
      refine fw_mul rfl ?_
      refine ik_Wk 1 (pc_q := 49) (loc_q := [some (.ref 66), some (fI 0), some (fI i), some (fI fa), some (fI (lr.getD (0 + i).toNat 0)), none, none]) (st_q := [fI 1, fI 0, .ref 70, fI (lr.getD (0 + i).toNat 0)]) (h_q := h) (cl_q := 0) (sl_q := 0) rfl ?_
      refine fw_add rfl ?_
      refine fw_ial (z := 1) rfl h70 (by decide +kernel) (Nat.le_of_ble_eq_true rfl) (by decide +kernel) ?_
      refine ik_Wk 0 (pc_q := 51) (loc_q := [some (.ref 66), some (fI 0), some (fI i), some (fI fa), some (fI (lr.getD (0 + i).toNat 0)), none, none]) (st_q := [fI pa, fI (lr.getD (0 + i).toNat 0)]) (h_q := h) (cl_q := 0) (sl_q := 0) rfl ?_
      refine fw_ic_ne rfl rfl (by omega) (by omega) (by omega) (by omega) (fun hc26 => ?_) (fun hc26 => ?_)
      · refine ik_Wk 2 (pc_q := 59) (loc_q := [some (.ref 66), some (fI 0), some (fI i), some (fI fa), some (fI (lr.getD (0 + i).toNat 0)), none, none]) (st_q := [fI 1]) (h_q := h) (cl_q := 0) (sl_q := 0) rfl ?_
        have hG : (mj_ok (fun x => mx_w cn go ch s x) pl ka pa fa lr 0) i = true := by
          show (if i < fa then _ else if i = fa then _ else _) = _
          split
          · exact decide_eq_true (by omega)
          · first | exact decide_eq_true (by omega) | (rw [if_pos (by omega)]; exact decide_eq_true (by omega))
        exact ik_Wret rfl rfl ⟨_, _, rfl, rfl, rfl, rfl, Or.inl ⟨(f 24), gt, gd, rfl, h66, h77, n77, h78, n78, hG, (hfr_refl [66, 77, 78] h)⟩⟩
      · refine ik_Wk 1 (pc_q := 59) (loc_q := [some (.ref 66), some (fI 0), some (fI i), some (fI fa), some (fI (lr.getD (0 + i).toNat 0)), none, none]) (st_q := [fI 0]) (h_q := h) (cl_q := 0) (sl_q := 0) rfl ?_
        have hG : (mj_ok (fun x => mx_w cn go ch s x) pl ka pa fa lr 0) i = false := by
          show (if i < fa then _ else if i = fa then _ else _) = _
          split
          · exact decide_eq_false (by omega)
          · first | exact decide_eq_false (by omega) | (rw [if_pos (by omega)]; exact decide_eq_false (by omega))
        exact ik_Wret rfl rfl ⟨_, _, rfl, rfl, rfl, rfl, Or.inr ⟨(f 24), gt, gd, rfl, h66, h77, n77, h78, n78, hG, (hfr_refl [66, 77, 78] h)⟩⟩
    · refine fw_bi rfl (by decide +kernel) ?_
      refine ik_Wk 1 (pc_q := 51) (loc_q := [some (.ref 66), some (fI 0), some (fI i), some (fI fa), some (fI (lr.getD (0 + i).toNat 0)), none, none]) (st_q := [fI 12, fI (lr.getD (0 + i).toNat 0)]) (h_q := h) (cl_q := 0) (sl_q := 0) rfl ?_
      refine fw_ic_ne rfl rfl (by omega) (by omega) (by omega) (by omega) (fun hc27 => ?_) (fun hc27 => ?_)
      · refine ik_Wk 2 (pc_q := 59) (loc_q := [some (.ref 66), some (fI 0), some (fI i), some (fI fa), some (fI (lr.getD (0 + i).toNat 0)), none, none]) (st_q := [fI 1]) (h_q := h) (cl_q := 0) (sl_q := 0) rfl ?_
        have hG : (mj_ok (fun x => mx_w cn go ch s x) pl ka pa fa lr 0) i = true := by
          show (if i < fa then _ else if i = fa then _ else _) = _
          split
          · exact decide_eq_true (by omega)
          · first | exact decide_eq_true (by omega) | (rw [if_pos (by omega)]; exact decide_eq_true (by omega))
        exact ik_Wret rfl rfl ⟨_, _, rfl, rfl, rfl, rfl, Or.inl ⟨(f 24), gt, gd, rfl, h66, h77, n77, h78, n78, hG, (hfr_refl [66, 77, 78] h)⟩⟩
      · refine ik_Wk 1 (pc_q := 59) (loc_q := [some (.ref 66), some (fI 0), some (fI i), some (fI fa), some (fI (lr.getD (0 + i).toNat 0)), none, none]) (st_q := [fI 0]) (h_q := h) (cl_q := 0) (sl_q := 0) rfl ?_
        have hG : (mj_ok (fun x => mx_w cn go ch s x) pl ka pa fa lr 0) i = false := by
          show (if i < fa then _ else if i = fa then _ else _) = _
          split
          · exact decide_eq_false (by omega)
          · first | exact decide_eq_false (by omega) | (rw [if_pos (by omega)]; exact decide_eq_false (by omega))
        exact ik_Wret rfl rfl ⟨_, _, rfl, rfl, rfl, rfl, Or.inr ⟨(f 24), gt, gd, rfl, h66, h77, n77, h78, n78, hG, (hfr_refl [66, 77, 78] h)⟩⟩

theorem rp_judge0L {h : List ik_E} {pl : Int} {f : Nat → Int} {s : Nat} {cn : List Int} {go : List Int} {ch : List Int} {gt : List Int} {gd : List Int} {ka : Int} {pa : Int} {fa : Int} {kb : Int} {pb : Int} {fb : Int} {lr : List Int} {n0 : Int} {n1 : Int} (q0 : 0 ≤ pl ∧ pl ≤ 12) (q1 : s < 4096) (q2 : ∀ x : Int, (0 : Int) ≤ x → x < pl - 1 → 0 ≤ cn.getD x.toNat 0 ∧ cn.getD x.toNat 0 ≤ 4) (q3 : ∀ x : Int, (0 : Int) ≤ x → x < pl - 1 → 1 ≤ cn.getD x.toNat 0 ∧ ∀ j : Int, 4 * x ≤ j → j < 4 * x + cn.getD x.toNat 0 → 0 ≤ ch.getD j.toNat 0 ∧ ch.getD j.toNat 0 ≤ 100) (q4 : ∀ x : Int, (0 : Int) ≤ x → x < pl - 1 → mx_ok pl (mx_w cn go ch s x)) (q5 : (0 : Int) ≤ ka ∧ ka ≤ (2 : Int)) (q6 : (0 : Int) ≤ pa ∧ pa ≤ (11 : Int)) (q7 : (0 : Int) ≤ fa ∧ fa ≤ (30 : Int)) (q8 : (0 : Int) ≤ n0 ∧ n0 ≤ (40 : Int)) (q9 : ∀ j : Nat, (j : Int) < n0 → lr.getD (0 + j) 0 = 12 ∨ (0 ≤ lr.getD (0 + j) 0 ∧ lr.getD (0 + j) (0 : Int) < pl))  : ∀ (k : Nat) (i : Int) (w1 : Int) (g1 : List Int) (d1 : List Int) (u : List ik_E) (u66 : cE u 66 (.inr (10, (fI pl :: .ref 67 :: .ref 68 :: .ref 69 :: fI ((s : Nat) : Int) :: .ref 70 :: .ref 71 :: fI (f 7) :: fI (f 8) :: .ref 72 :: fI (f 10) :: fI (f 11) :: fI (f 12) :: fJ (f 13) :: fI (f 14) :: fI (f 15) :: fI (f 16) :: fI (f 17) :: .ref 73 :: .ref 74 :: .ref 75 :: .ref 76 :: .ref 77 :: .ref 78 :: fI w1 :: .ref 79 :: .ref 80 :: .ref 81 :: .ref 82 :: .ref 83 :: .ref 84 :: .ref 85 :: fJ (f 32) :: fJ (f 33) :: .ref 86 :: .ref 87 :: fI (f 36) :: .ref 88 :: .ref 89 :: .ref 90 :: .ref 91 :: .ref 92 :: .ref 93 :: [])))) (u67 : cE u 67 (.inl (.int, fA cn))) (n67 : cn.length = (12 : Nat)) (u68 : cE u 68 (.inl (.int, fA go))) (n68 : go.length = (48 : Nat)) (u69 : cE u 69 (.inl (.int, fA ch))) (n69 : ch.length = (48 : Nat)) (u77 : cE u 77 (.inl (.int, fA g1))) (n77 : g1.length = (5 : Nat)) (u78 : cE u 78 (.inl (.int, fA d1))) (n78 : d1.length = (5 : Nat)) (u70 : cE u 70 (.inl (.int, fA [ka, pa, fa, kb, pb, fb]))) (u91 : cE u 91 (.inl (.int, fA lr))) (n91 : lr.length = (80 : Nat)) (u90 : cE u 90 (.inl (.int, fA [n0, n1]))) (ul : u.length = (94 : Nat)) (F : hfr [66, 77, 78] h u) (hi : (0 : Int) ≤ i ∧ i ≤ n0) (hpv : fa < i → 0 ≤ lr.getD (0 + i - 1).toNat 0 ∧ lr.getD (0 + i - 1).toNat (0 : Int) < pl) (he : mj_fw (mj_ok (fun x => mx_w cn go ch s x) pl ka pa fa lr 0) n0.toNat 0 = mj_fw (mj_ok (fun x => mx_w cn go ch s x) pl ka pa fa lr 0) (n0 - i).toNat i) (hk : n0 - i < (k : Int)), ik_G 207 12 [some (.ref 66), some (fI 0), some (fI i)] [] u (fun rv h_q => ∃ (w' : Int) (gt' : List Int) (gd' : List Int), rv = [fI (mj_fw (mj_ok (fun x => mx_w cn go ch s x) pl ka pa fa lr 0) n0.toNat 0)] ∧ cE h_q 66 (.inr (10, (fI pl :: .ref 67 :: .ref 68 :: .ref 69 :: fI ((s : Nat) : Int) :: .ref 70 :: .ref 71 :: fI (f 7) :: fI (f 8) :: .ref 72 :: fI (f 10) :: fI (f 11) :: fI (f 12) :: fJ (f 13) :: fI (f 14) :: fI (f 15) :: fI (f 16) :: fI (f 17) :: .ref 73 :: .ref 74 :: .ref 75 :: .ref 76 :: .ref 77 :: .ref 78 :: fI w' :: .ref 79 :: .ref 80 :: .ref 81 :: .ref 82 :: .ref 83 :: .ref 84 :: .ref 85 :: fJ (f 32) :: fJ (f 33) :: .ref 86 :: .ref 87 :: fI (f 36) :: .ref 88 :: .ref 89 :: .ref 90 :: .ref 91 :: .ref 92 :: .ref 93 :: []))) ∧ cE h_q 77 (.inl (.int, fA gt')) ∧ gt'.length = (5 : Nat) ∧ cE h_q 78 (.inl (.int, fA gd')) ∧ gd'.length = (5 : Nat) ∧ hfr [66, 77, 78] h h_q) := by
  intro k
  induction k with
  | zero => intro i w1 g1 d1 u u66 u67 n67 u68 n68 u69 n69 u77 n77 u78 n78 u70 u91 n91 u90 ul F hi hpv he hk; omega
  | succ k ih =>
    intro i w1 g1 d1 u u66 u67 n67 u68 n68 u69 n69 u77 n77 u78 n78 u70 u91 n91 u90 ul F hi hpv he hk
    refine ik_Wk 2 (pc_q := 14) (loc_q := [some (.ref 66), some (fI 0), some (fI i)]) (st_q := [.ref 66, fI i]) (h_q := u) (cl_q := 0) (sl_q := 0) rfl ?_
    refine fw_gf rfl rfl u66 rfl ?_
    refine ik_Wk 1 (pc_q := 18) (loc_q := [some (.ref 66), some (fI 0), some (fI i)]) (st_q := [fI 0, .ref 90, fI i]) (h_q := u) (cl_q := 0) (sl_q := 0) rfl ?_
    refine fw_ial (z := 0) rfl u90 (by decide +kernel) (Nat.le_of_ble_eq_true rfl) (by decide +kernel) ?_
    refine ik_Wk 0 (pc_q := 19) (loc_q := [some (.ref 66), some (fI 0), some (fI i)]) (st_q := [fI n0, fI i]) (h_q := u) (cl_q := 0) (sl_q := 0) rfl ?_
    refine fw_ic_ge rfl rfl (by omega) (by omega) (by omega) (by omega) (fun hc1 => ?_) (fun hc1 => ?_)
    · refine ik_Wk 1 (pc_q := 40) (loc_q := [some (.ref 66), some (fI 0), some (fI i)]) (st_q := [fI (-1)]) (h_q := u) (cl_q := 0) (sl_q := 0) rfl ?_
      rw [show (n0 - i).toNat = 0 by omega] at he
      exact ik_Wret rfl rfl ⟨_, _, rfl, rfl, rfl, rfl, ⟨w1, g1, d1, (congrArg (fun z => [fI z]) he.symm), u66, u77, n77, u78, n78, F⟩⟩
    · refine ik_Wk 3 (pc_q := 25) (loc_q := [some (.ref 66), some (fI 0), some (fI i)]) (st_q := [fI i, fI 0, .ref 66]) (h_q := u) (cl_q := 0) (sl_q := 0) rfl ?_
      have hent : lr.getD (0 + i).toNat 0 = 12 ∨ (0 ≤ lr.getD (0 + i).toNat 0 ∧ lr.getD (0 + i).toNat 0 < pl) := by
        have z := q9 i.toNat (by omega)
        rw [show 0 + i.toNat = (0 + i).toNat by omega] at z
        exact z
      refine fw_call 206 3 0 [.ref 66, fI 0, fI i] [] rfl rfl rfl (Nat.le_of_ble_eq_true rfl) rfl rfl (fw_rec ul rfl u66 rfl (Nat.le_of_ble_eq_true rfl)) (cr_mayBe0 (pl := pl) (f := fun j => ((0 :: 0 :: 0 :: 0 :: 0 :: 0 :: 0 :: f 7 :: f 8 :: 0 :: f 10 :: f 11 :: f 12 :: f 13 :: f 14 :: f 15 :: f 16 :: f 17 :: 0 :: 0 :: 0 :: 0 :: 0 :: 0 :: w1 :: 0 :: 0 :: 0 :: 0 :: 0 :: 0 :: 0 :: f 32 :: f 33 :: 0 :: 0 :: f 36 :: 0 :: 0 :: 0 :: 0 :: 0 :: 0 :: []) : List Int).getD j 0) (s := s) (cn := cn) (go := go) (ch := ch) (gt := g1) (gd := d1) (ka := ka) (pa := pa) (fa := fa) (kb := kb) (pb := pb) (fb := fb) (lr := lr) (i := i) (by omega) (by omega) q2 q3 q4 (by omega) (by omega) (by omega) (by omega) hent hpv u66 u67 n67 u68 n68 u69 n69 u77 n77 u78 n78 u70 u91 n91 ul) ?_
      rintro _ h_347 (⟨w'_347, gt'_347, gd'_347, rfl, e_347_66, e_347_77, m_347_77, e_347_78, m_347_78, p_347_0, F_347⟩ | ⟨w'_347, gt'_347, gd'_347, rfl, e_347_66, e_347_77, m_347_77, e_347_78, m_347_78, p_347_0, F_347⟩)
      · have k_347 : cL h_347 := F_347.1.trans ul
        have fr_347 := hfr_cb F F_347 rfl
        have g_347_67 := (hfr_g F_347 67 rfl).trans u67
        have g_347_68 := (hfr_g F_347 68 rfl).trans u68
        have g_347_69 := (hfr_g F_347 69 rfl).trans u69
        have g_347_70 := (hfr_g F_347 70 rfl).trans u70
        have g_347_91 := (hfr_g F_347 91 rfl).trans u91
        have g_347_90 := (hfr_g F_347 90 rfl).trans u90
        have g_347_66 : cE h_347 66 (.inr (10, (fI pl :: .ref 67 :: .ref 68 :: .ref 69 :: fI ((s : Nat) : Int) :: .ref 70 :: .ref 71 :: fI (f 7) :: fI (f 8) :: .ref 72 :: fI (f 10) :: fI (f 11) :: fI (f 12) :: fJ (f 13) :: fI (f 14) :: fI (f 15) :: fI (f 16) :: fI (f 17) :: .ref 73 :: .ref 74 :: .ref 75 :: .ref 76 :: .ref 77 :: .ref 78 :: fI w'_347 :: .ref 79 :: .ref 80 :: .ref 81 :: .ref 82 :: .ref 83 :: .ref 84 :: .ref 85 :: fJ (f 32) :: fJ (f 33) :: .ref 86 :: .ref 87 :: fI (f 36) :: .ref 88 :: .ref 89 :: .ref 90 :: .ref 91 :: .ref 92 :: .ref 93 :: []))) := e_347_66
        have g_347_77 : cE h_347 77 (.inl (.int, fA gt'_347)) := e_347_77
        have g_347_78 : cE h_347 78 (.inl (.int, fA gd'_347)) := e_347_78
        refine ik_Wk 0 (pc_q := 28) (loc_q := [some (.ref 66), some (fI 0), some (fI i)]) (st_q := [fI 1]) (h_q := h_347) (cl_q := 0) (sl_q := 0) rfl ?_
        refine fw_if_ne rfl rfl (by decide +kernel) (by decide +kernel) (fun hc2 => absurd hc2 (by decide +kernel)) (fun hc2 => ?_)
        refine fw_inc (a := i) (loc_q := [some (.ref 66), some (fI 0), some (fI (i + 1))]) rfl rfl (Nat.le_of_ble_eq_true rfl) rfl ?_
        refine ik_Wk 1 (pc_q := 12) (loc_q := [some (.ref 66), some (fI 0), some (fI (i + 1))]) (st_q := []) (h_q := h_347) (cl_q := 0) (sl_q := 0) rfl ?_
        exact ih  (i + 1) w'_347 gt'_347 gd'_347 h_347 g_347_66 g_347_67 n67 g_347_68 n68 g_347_69 n69 g_347_77 m_347_77 g_347_78 m_347_78 g_347_70 g_347_91 n91 g_347_90 k_347 fr_347 (by omega) (fun z => by rw [show 0 + (i + 1) - 1 = 0 + i by omega]; exact mj_ok_pl p_347_0 (by omega) q6 hent) (by rw [he, mj_fw_s (by omega), p_347_0, if_pos rfl]) (by omega)
      · have k_347 : cL h_347 := F_347.1.trans ul
        have fr_347 := hfr_cb F F_347 rfl
        have g_347_67 := (hfr_g F_347 67 rfl).trans u67
        have g_347_68 := (hfr_g F_347 68 rfl).trans u68
        have g_347_69 := (hfr_g F_347 69 rfl).trans u69
        have g_347_70 := (hfr_g F_347 70 rfl).trans u70
        have g_347_91 := (hfr_g F_347 91 rfl).trans u91
        have g_347_90 := (hfr_g F_347 90 rfl).trans u90
        have g_347_66 : cE h_347 66 (.inr (10, (fI pl :: .ref 67 :: .ref 68 :: .ref 69 :: fI ((s : Nat) : Int) :: .ref 70 :: .ref 71 :: fI (f 7) :: fI (f 8) :: .ref 72 :: fI (f 10) :: fI (f 11) :: fI (f 12) :: fJ (f 13) :: fI (f 14) :: fI (f 15) :: fI (f 16) :: fI (f 17) :: .ref 73 :: .ref 74 :: .ref 75 :: .ref 76 :: .ref 77 :: .ref 78 :: fI w'_347 :: .ref 79 :: .ref 80 :: .ref 81 :: .ref 82 :: .ref 83 :: .ref 84 :: .ref 85 :: fJ (f 32) :: fJ (f 33) :: .ref 86 :: .ref 87 :: fI (f 36) :: .ref 88 :: .ref 89 :: .ref 90 :: .ref 91 :: .ref 92 :: .ref 93 :: []))) := e_347_66
        have g_347_77 : cE h_347 77 (.inl (.int, fA gt'_347)) := e_347_77
        have g_347_78 : cE h_347 78 (.inl (.int, fA gd'_347)) := e_347_78
        refine ik_Wk 0 (pc_q := 28) (loc_q := [some (.ref 66), some (fI 0), some (fI i)]) (st_q := [fI 0]) (h_q := h_347) (cl_q := 0) (sl_q := 0) rfl ?_
        refine fw_if_ne rfl rfl (by decide +kernel) (by decide +kernel) (fun hc3 => ?_) (fun hc3 => absurd hc3 (by decide +kernel))
        refine ik_Wk 1 (pc_q := 32) (loc_q := [some (.ref 66), some (fI 0), some (fI i)]) (st_q := [fI i]) (h_q := h_347) (cl_q := 0) (sl_q := 0) rfl ?_
        exact ik_Wret rfl rfl ⟨_, _, rfl, rfl, rfl, rfl, ⟨w'_347, gt'_347, gd'_347, (congrArg (fun z => [fI z]) (by rw [he, mj_fw_s (by omega), p_347_0, if_neg (by decide +kernel)])), g_347_66, g_347_77, m_347_77, g_347_78, m_347_78, fr_347⟩⟩

theorem rp_judge0 {h : List ik_E} {pl : Int} {f : Nat → Int} {s : Nat} {cn : List Int} {go : List Int} {ch : List Int} {gt : List Int} {gd : List Int} {ka : Int} {pa : Int} {fa : Int} {kb : Int} {pb : Int} {fb : Int} {lr : List Int} {n0 : Int} {n1 : Int} (q0 : 0 ≤ pl ∧ pl ≤ 12) (q1 : s < 4096) (q2 : ∀ x : Int, (0 : Int) ≤ x → x < pl - 1 → 0 ≤ cn.getD x.toNat 0 ∧ cn.getD x.toNat 0 ≤ 4) (q3 : ∀ x : Int, (0 : Int) ≤ x → x < pl - 1 → 1 ≤ cn.getD x.toNat 0 ∧ ∀ j : Int, 4 * x ≤ j → j < 4 * x + cn.getD x.toNat 0 → 0 ≤ ch.getD j.toNat 0 ∧ ch.getD j.toNat 0 ≤ 100) (q4 : ∀ x : Int, (0 : Int) ≤ x → x < pl - 1 → mx_ok pl (mx_w cn go ch s x)) (q5 : (0 : Int) ≤ ka ∧ ka ≤ (2 : Int)) (q6 : (0 : Int) ≤ pa ∧ pa ≤ (11 : Int)) (q7 : (0 : Int) ≤ fa ∧ fa ≤ (30 : Int)) (q8 : (0 : Int) ≤ n0 ∧ n0 ≤ (40 : Int)) (q9 : ∀ j : Nat, (j : Int) < n0 → lr.getD (0 + j) 0 = 12 ∨ (0 ≤ lr.getD (0 + j) 0 ∧ lr.getD (0 + j) (0 : Int) < pl)) (h66 : cE h 66 (.inr (10, (fI pl :: .ref 67 :: .ref 68 :: .ref 69 :: fI ((s : Nat) : Int) :: .ref 70 :: .ref 71 :: fI (f 7) :: fI (f 8) :: .ref 72 :: fI (f 10) :: fI (f 11) :: fI (f 12) :: fJ (f 13) :: fI (f 14) :: fI (f 15) :: fI (f 16) :: fI (f 17) :: .ref 73 :: .ref 74 :: .ref 75 :: .ref 76 :: .ref 77 :: .ref 78 :: fI (f 24) :: .ref 79 :: .ref 80 :: .ref 81 :: .ref 82 :: .ref 83 :: .ref 84 :: .ref 85 :: fJ (f 32) :: fJ (f 33) :: .ref 86 :: .ref 87 :: fI (f 36) :: .ref 88 :: .ref 89 :: .ref 90 :: .ref 91 :: .ref 92 :: .ref 93 :: [])))) (h67 : cE h 67 (.inl (.int, fA cn))) (n67 : cn.length = (12 : Nat)) (h68 : cE h 68 (.inl (.int, fA go))) (n68 : go.length = (48 : Nat)) (h69 : cE h 69 (.inl (.int, fA ch))) (n69 : ch.length = (48 : Nat)) (h77 : cE h 77 (.inl (.int, fA gt))) (n77 : gt.length = (5 : Nat)) (h78 : cE h 78 (.inl (.int, fA gd))) (n78 : gd.length = (5 : Nat)) (h70 : cE h 70 (.inl (.int, fA [ka, pa, fa, kb, pb, fb]))) (h91 : cE h 91 (.inl (.int, fA lr))) (n91 : lr.length = (80 : Nat)) (h90 : cE h 90 (.inl (.int, fA [n0, n1]))) (hl : h.length = (94 : Nat)) : ik_F 207 [.ref 66, fI 0] h (fun rv h_q => ∃ (w' : Int) (gt' : List Int) (gd' : List Int), rv = [fI (mj_fw (mj_ok (fun x => mx_w cn go ch s x) pl ka pa fa lr 0) n0.toNat 0)] ∧ cE h_q 66 (.inr (10, (fI pl :: .ref 67 :: .ref 68 :: .ref 69 :: fI ((s : Nat) : Int) :: .ref 70 :: .ref 71 :: fI (f 7) :: fI (f 8) :: .ref 72 :: fI (f 10) :: fI (f 11) :: fI (f 12) :: fJ (f 13) :: fI (f 14) :: fI (f 15) :: fI (f 16) :: fI (f 17) :: .ref 73 :: .ref 74 :: .ref 75 :: .ref 76 :: .ref 77 :: .ref 78 :: fI w' :: .ref 79 :: .ref 80 :: .ref 81 :: .ref 82 :: .ref 83 :: .ref 84 :: .ref 85 :: fJ (f 32) :: fJ (f 33) :: .ref 86 :: .ref 87 :: fI (f 36) :: .ref 88 :: .ref 89 :: .ref 90 :: .ref 91 :: .ref 92 :: .ref 93 :: []))) ∧ cE h_q 77 (.inl (.int, fA gt')) ∧ gt'.length = (5 : Nat) ∧ cE h_q 78 (.inl (.int, fA gd')) ∧ gd'.length = (5 : Nat) ∧ hfr [66, 77, 78] h h_q) := by
  refine ik_Wk 1 (pc_q := 1) (loc_q := [some (.ref 66), some (fI 0), none]) (st_q := [fI 0]) (h_q := h) (cl_q := 0) (sl_q := 0) rfl ?_
  refine ik_Wc 132 1 3 [fI 0] [] rfl rfl rfl (by decide +kernel) rfl rfl (fw_sta hl rfl (by decide +kernel)) ?_
  refine ik_Wk 0 (pc_q := 0) (loc_q := [some (fI 0)]) (st_q := []) (h_q := h) (cl_q := 0) (sl_q := 0) rfl ?_
  refine ik_Wk 1 (pc_q := 1) (loc_q := [some (fI 0)]) (st_q := [fI 0]) (h_q := h) (cl_q := 0) (sl_q := 0) rfl ?_
  refine fw_i2l rfl (by omega) (by omega) ?_
  refine fw_lc (z := 0) rfl (by decide +kernel) ?_
  refine fw_lc (z := 1) rfl (by decide +kernel) ?_
  refine fw_call 127 3 3 [fJ 0, fJ 0, fJ 1] [] rfl rfl rfl (Nat.le_of_ble_eq_true rfl) rfl rfl (fw_sta hl rfl (by decide +kernel)) (cr_in (v := 0) (a := 0) (b := 1) (by omega) (by omega) (by omega)  hl) ?_
  rintro _ h_348 (⟨rfl, p_348_0, F_348⟩ | ⟨rfl, p_348_0, F_348⟩)
  · have k_348 : cL h_348 := F_348.1.trans hl
    have fr_348 := hfr_cb (hfr_refl [66, 77, 78] h) F_348 rfl
    have g_348_66 := (hfr_g F_348 66 rfl).trans h66
    have g_348_67 := (hfr_g F_348 67 rfl).trans h67
    have g_348_68 := (hfr_g F_348 68 rfl).trans h68
    have g_348_69 := (hfr_g F_348 69 rfl).trans h69
    have g_348_77 := (hfr_g F_348 77 rfl).trans h77
    have g_348_78 := (hfr_g F_348 78 rfl).trans h78
    have g_348_70 := (hfr_g F_348 70 rfl).trans h70
    have g_348_91 := (hfr_g F_348 91 rfl).trans h91
    have g_348_90 := (hfr_g F_348 90 rfl).trans h90
    refine ik_Wk 0 (pc_q := 7) (loc_q := [some (fI 0)]) (st_q := [fI 1]) (h_q := h_348) (cl_q := 0) (sl_q := 0) rfl ?_
    refine ik_Wret rfl rfl ⟨_, _, rfl, rfl, ?_⟩
    refine ik_Wk 0 (pc_q := 4) (loc_q := [some (.ref 66), some (fI 0), none]) (st_q := [fI 1]) (h_q := h_348) (cl_q := 0) (sl_q := 0) rfl ?_
    refine fw_if_ne rfl rfl (by decide +kernel) (by decide +kernel) (fun hc1 => absurd hc1 (by decide +kernel)) (fun hc1 => ?_)
    refine ik_Wk 2 (pc_q := 12) (loc_q := [some (.ref 66), some (fI 0), some (fI 0)]) (st_q := []) (h_q := h_348) (cl_q := 0) (sl_q := 0) rfl ?_
    exact rp_judge0L (pl := pl) (f := f) (s := s) (cn := cn) (go := go) (ch := ch) (gt := gt) (gd := gd) (ka := ka) (pa := pa) (fa := fa) (kb := kb) (pb := pb) (fb := fb) (lr := lr) (n0 := n0) (n1 := n1) q0 q1 q2 q3 q4 q5 q6 q7 q8 q9  (n0.toNat + 1) 0 (f 24) gt gd h_348 g_348_66 g_348_67 n67 g_348_68 n68 g_348_69 n69 g_348_77 n77 g_348_78 n78 g_348_70 g_348_91 n91 g_348_90 k_348 fr_348 (by omega) (by omega) (by rw [Int.sub_zero]) (by omega)
  · have k_348 : cL h_348 := F_348.1.trans hl
    have fr_348 := hfr_cb (hfr_refl [66, 77, 78] h) F_348 rfl
    have g_348_66 := (hfr_g F_348 66 rfl).trans h66
    have g_348_67 := (hfr_g F_348 67 rfl).trans h67
    have g_348_68 := (hfr_g F_348 68 rfl).trans h68
    have g_348_69 := (hfr_g F_348 69 rfl).trans h69
    have g_348_77 := (hfr_g F_348 77 rfl).trans h77
    have g_348_78 := (hfr_g F_348 78 rfl).trans h78
    have g_348_70 := (hfr_g F_348 70 rfl).trans h70
    have g_348_91 := (hfr_g F_348 91 rfl).trans h91
    have g_348_90 := (hfr_g F_348 90 rfl).trans h90
    refine ik_Wk 0 (pc_q := 7) (loc_q := [some (fI 0)]) (st_q := [fI 0]) (h_q := h_348) (cl_q := 0) (sl_q := 0) rfl ?_
    refine ik_Wret rfl rfl ⟨_, _, rfl, rfl, ?_⟩
    refine ik_Wk 0 (pc_q := 4) (loc_q := [some (.ref 66), some (fI 0), none]) (st_q := [fI 0]) (h_q := h_348) (cl_q := 0) (sl_q := 0) rfl ?_
    refine fw_if_ne rfl rfl (by decide +kernel) (by decide +kernel) (fun hc2 => ?_) (fun hc2 => absurd hc2 (by decide +kernel))
    refine fw_ld (-1000000001) rfl rfl (by decide +kernel) ?_
    omega

theorem cr_mayBe1 {h : List ik_E} {pl : Int} {f : Nat → Int} {s : Nat} {cn : List Int} {go : List Int} {ch : List Int} {gt : List Int} {gd : List Int} {ka : Int} {pa : Int} {fa : Int} {kb : Int} {pb : Int} {fb : Int} {lr : List Int} {i : Int} (q0 : 0 ≤ pl ∧ pl ≤ 12) (q1 : s < 4096) (q2 : ∀ x : Int, (0 : Int) ≤ x → x < pl - 1 → 0 ≤ cn.getD x.toNat 0 ∧ cn.getD x.toNat 0 ≤ 4) (q3 : ∀ x : Int, (0 : Int) ≤ x → x < pl - 1 → 1 ≤ cn.getD x.toNat 0 ∧ ∀ j : Int, 4 * x ≤ j → j < 4 * x + cn.getD x.toNat 0 → 0 ≤ ch.getD j.toNat 0 ∧ ch.getD j.toNat 0 ≤ 100) (q4 : ∀ x : Int, (0 : Int) ≤ x → x < pl - 1 → mx_ok pl (mx_w cn go ch s x)) (q5 : (0 : Int) ≤ kb ∧ kb ≤ (2 : Int)) (q6 : (0 : Int) ≤ pb ∧ pb ≤ (11 : Int)) (q7 : (0 : Int) ≤ fb ∧ fb ≤ (30 : Int)) (q8 : (0 : Int) ≤ i ∧ i < (40 : Int)) (q9 : lr.getD (40 + i).toNat 0 = 12 ∨ (0 ≤ lr.getD (40 + i).toNat 0 ∧ lr.getD (40 + i).toNat (0 : Int) < pl)) (q10 : fb < i → 0 ≤ lr.getD (40 + i - 1).toNat 0 ∧ lr.getD (40 + i - 1).toNat (0 : Int) < pl) (h66 : cE h 66 (.inr (10, (fI pl :: .ref 67 :: .ref 68 :: .ref 69 :: fI ((s : Nat) : Int) :: .ref 70 :: .ref 71 :: fI (f 7) :: fI (f 8) :: .ref 72 :: fI (f 10) :: fI (f 11) :: fI (f 12) :: fJ (f 13) :: fI (f 14) :: fI (f 15) :: fI (f 16) :: fI (f 17) :: .ref 73 :: .ref 74 :: .ref 75 :: .ref 76 :: .ref 77 :: .ref 78 :: fI (f 24) :: .ref 79 :: .ref 80 :: .ref 81 :: .ref 82 :: .ref 83 :: .ref 84 :: .ref 85 :: fJ (f 32) :: fJ (f 33) :: .ref 86 :: .ref 87 :: fI (f 36) :: .ref 88 :: .ref 89 :: .ref 90 :: .ref 91 :: .ref 92 :: .ref 93 :: [])))) (h67 : cE h 67 (.inl (.int, fA cn))) (n67 : cn.length = (12 : Nat)) (h68 : cE h 68 (.inl (.int, fA go))) (n68 : go.length = (48 : Nat)) (h69 : cE h 69 (.inl (.int, fA ch))) (n69 : ch.length = (48 : Nat)) (h77 : cE h 77 (.inl (.int, fA gt))) (n77 : gt.length = (5 : Nat)) (h78 : cE h 78 (.inl (.int, fA gd))) (n78 : gd.length = (5 : Nat)) (h70 : cE h 70 (.inl (.int, fA [ka, pa, fa, kb, pb, fb]))) (h91 : cE h 91 (.inl (.int, fA lr))) (n91 : lr.length = (80 : Nat)) (hl : h.length = (94 : Nat)) : ik_F 206 [.ref 66, fI 1, fI i] h (fun rv h_q => (∃ (w' : Int) (gt' : List Int) (gd' : List Int), rv = [fI 1] ∧ cE h_q 66 (.inr (10, (fI pl :: .ref 67 :: .ref 68 :: .ref 69 :: fI ((s : Nat) : Int) :: .ref 70 :: .ref 71 :: fI (f 7) :: fI (f 8) :: .ref 72 :: fI (f 10) :: fI (f 11) :: fI (f 12) :: fJ (f 13) :: fI (f 14) :: fI (f 15) :: fI (f 16) :: fI (f 17) :: .ref 73 :: .ref 74 :: .ref 75 :: .ref 76 :: .ref 77 :: .ref 78 :: fI w' :: .ref 79 :: .ref 80 :: .ref 81 :: .ref 82 :: .ref 83 :: .ref 84 :: .ref 85 :: fJ (f 32) :: fJ (f 33) :: .ref 86 :: .ref 87 :: fI (f 36) :: .ref 88 :: .ref 89 :: .ref 90 :: .ref 91 :: .ref 92 :: .ref 93 :: []))) ∧ cE h_q 77 (.inl (.int, fA gt')) ∧ gt'.length = (5 : Nat) ∧ cE h_q 78 (.inl (.int, fA gd')) ∧ gd'.length = (5 : Nat) ∧ ((mj_ok (fun x => mx_w cn go ch s x) pl kb pb fb lr 40) i = true) ∧ hfr [66, 77, 78] h h_q) ∨ (∃ (w' : Int) (gt' : List Int) (gd' : List Int), rv = [fI 0] ∧ cE h_q 66 (.inr (10, (fI pl :: .ref 67 :: .ref 68 :: .ref 69 :: fI ((s : Nat) : Int) :: .ref 70 :: .ref 71 :: fI (f 7) :: fI (f 8) :: .ref 72 :: fI (f 10) :: fI (f 11) :: fI (f 12) :: fJ (f 13) :: fI (f 14) :: fI (f 15) :: fI (f 16) :: fI (f 17) :: .ref 73 :: .ref 74 :: .ref 75 :: .ref 76 :: .ref 77 :: .ref 78 :: fI w' :: .ref 79 :: .ref 80 :: .ref 81 :: .ref 82 :: .ref 83 :: .ref 84 :: .ref 85 :: fJ (f 32) :: fJ (f 33) :: .ref 86 :: .ref 87 :: fI (f 36) :: .ref 88 :: .ref 89 :: .ref 90 :: .ref 91 :: .ref 92 :: .ref 93 :: []))) ∧ cE h_q 77 (.inl (.int, fA gt')) ∧ gt'.length = (5 : Nat) ∧ cE h_q 78 (.inl (.int, fA gd')) ∧ gd'.length = (5 : Nat) ∧ ((mj_ok (fun x => mx_w cn go ch s x) pl kb pb fb lr 40) i = false) ∧ hfr [66, 77, 78] h h_q)) := by
  refine ik_Wk 1 (pc_q := 1) (loc_q := [some (.ref 66), some (fI 1), some (fI i), none, none, none, none]) (st_q := [.ref 66]) (h_q := h) (cl_q := 0) (sl_q := 0) rfl ?_
  refine fw_gf rfl rfl h66 rfl ?_
  refine ik_Wk 2 (pc_q := 6) (loc_q := [some (.ref 66), some (fI 1), some (fI i), none, none, none, none]) (st_q := [fI 1, fI 3, .ref 70]) (h_q := h) (cl_q := 0) (sl_q := 0) rfl ?_
  refine fw_mul rfl ?_
  refine ik_Wk 1 (pc_q := 8) (loc_q := [some (.ref 66), some (fI 1), some (fI i), none, none, none, none]) (st_q := [fI 2, fI 3, .ref 70]) (h_q := h) (cl_q := 0) (sl_q := 0) rfl ?_
  refine fw_add rfl ?_
  refine fw_ial (z := 5) rfl h70 (by decide +kernel) (Nat.le_of_ble_eq_true rfl) (by decide +kernel) ?_
  refine ik_Wk 0 (pc_q := 10) (loc_q := [some (.ref 66), some (fI 1), some (fI i), none, none, none, none]) (st_q := [fI fb]) (h_q := h) (cl_q := 0) (sl_q := 0) rfl ?_
  refine ik_Wk 2 (pc_q := 12) (loc_q := [some (.ref 66), some (fI 1), some (fI i), some (fI fb), none, none, none]) (st_q := [.ref 66]) (h_q := h) (cl_q := 0) (sl_q := 0) rfl ?_
  refine fw_gf rfl rfl h66 rfl ?_
  refine fw_bi rfl (by decide +kernel) ?_
  refine ik_Wk 1 (pc_q := 18) (loc_q := [some (.ref 66), some (fI 1), some (fI i), some (fI fb), none, none, none]) (st_q := [fI 1, fI 40, .ref 91]) (h_q := h) (cl_q := 0) (sl_q := 0) rfl ?_
  refine fw_mul rfl ?_
  refine ik_Wk 1 (pc_q := 20) (loc_q := [some (.ref 66), some (fI 1), some (fI i), some (fI fb), none, none, none]) (st_q := [fI i, fI 40, .ref 91]) (h_q := h) (cl_q := 0) (sl_q := 0) rfl ?_
  refine fw_add rfl ?_
  refine fw_ial rfl h91 (by omega) (by omega) (by omega) ?_
  refine ik_Wk 3 (pc_q := 26) (loc_q := [some (.ref 66), some (fI 1), some (fI i), some (fI fb), some (fI (lr.getD (40 + i).toNat 0)), none, none]) (st_q := [fI fb, fI i]) (h_q := h) (cl_q := 0) (sl_q := 0) rfl ?_
  refine fw_ic_gt rfl rfl (by omega) (by omega) (by omega) (by omega) (fun hc1 => ?_) (fun hc1 => ?_)
  · refine ik_Wk 2 (pc_q := 62) (loc_q := [some (.ref 66), some (fI 1), some (fI i), some (fI fb), some (fI (lr.getD (40 + i).toNat 0)), none, none]) (st_q := [.ref 66, fI 1]) (h_q := h) (cl_q := 0) (sl_q := 0) rfl ?_
    refine fw_gf rfl rfl h66 rfl ?_
    refine fw_bi rfl (by decide +kernel) ?_
    refine ik_Wk 1 (pc_q := 68) (loc_q := [some (.ref 66), some (fI 1), some (fI i), some (fI fb), some (fI (lr.getD (40 + i).toNat 0)), none, none]) (st_q := [fI 1, fI 40, .ref 91, fI 1]) (h_q := h) (cl_q := 0) (sl_q := 0) rfl ?_
    refine fw_mul rfl ?_
    refine ik_Wk 1 (pc_q := 70) (loc_q := [some (.ref 66), some (fI 1), some (fI i), some (fI fb), some (fI (lr.getD (40 + i).toNat 0)), none, none]) (st_q := [fI i, fI 40, .ref 91, fI 1]) (h_q := h) (cl_q := 0) (sl_q := 0) rfl ?_
    refine fw_add rfl ?_
    refine ik_Wk 1 (pc_q := 72) (loc_q := [some (.ref 66), some (fI 1), some (fI i), some (fI fb), some (fI (lr.getD (40 + i).toNat 0)), none, none]) (st_q := [fI 1, fI (40 + i), .ref 91, fI 1]) (h_q := h) (cl_q := 0) (sl_q := 0) rfl ?_
    refine fw_sub rfl ?_
    refine fw_ial rfl h91 (by omega) (by omega) (by omega) ?_
    refine fx_shl rfl (by omega) (by omega) ?_
    refine ik_Wk 2 (pc_q := 78) (loc_q := [some (.ref 66), some (fI 1), some (fI i), some (fI fb), some (fI (lr.getD (40 + i).toNat 0)), some (fI ((1 <<< (lr.getD ((40 + i) - 1).toNat 0).toNat : Nat) : Int)), none]) (st_q := [.ref 66]) (h_q := h) (cl_q := 0) (sl_q := 0) rfl ?_
    refine fw_gf rfl rfl h66 rfl ?_
    refine ik_Wk 2 (pc_q := 83) (loc_q := [some (.ref 66), some (fI 1), some (fI i), some (fI fb), some (fI (lr.getD (40 + i).toNat 0)), some (fI ((1 <<< (lr.getD ((40 + i) - 1).toNat 0).toNat : Nat) : Int)), none]) (st_q := [fI 1, fI 3, .ref 70]) (h_q := h) (cl_q := 0) (sl_q := 0) rfl ?_
    refine fw_mul rfl ?_
    refine fw_ial (z := 3) rfl h70 (by decide +kernel) (Nat.le_of_ble_eq_true rfl) (by decide +kernel) ?_
    refine ik_Wk 0 (pc_q := 85) (loc_q := [some (.ref 66), some (fI 1), some (fI i), some (fI fb), some (fI (lr.getD (40 + i).toNat 0)), some (fI ((1 <<< (lr.getD ((40 + i) - 1).toNat 0).toNat : Nat) : Int)), none]) (st_q := [fI kb]) (h_q := h) (cl_q := 0) (sl_q := 0) rfl ?_
    refine ik_Wk 3 (pc_q := 90) (loc_q := [some (.ref 66), some (fI 1), some (fI i), some (fI fb), some (fI (lr.getD (40 + i).toNat 0)), some (fI ((1 <<< (lr.getD ((40 + i) - 1).toNat 0).toNat : Nat) : Int)), some (fI kb)]) (st_q := [fI 2, fI kb]) (h_q := h) (cl_q := 0) (sl_q := 0) rfl ?_
    have hB0 : 1 <<< (lr.getD (40 + i - 1).toNat 0).toNat < 4096 := mj_12 (pl := pl) (mj_shl_lt (by omega)) (by omega)
    refine fw_ic_ne rfl rfl (by omega) (by omega) (by omega) (by omega) (fun hc2 => ?_) (fun hc2 => ?_)
    · refine ik_Wk 2 (pc_q := 95) (loc_q := [some (.ref 66), some (fI 1), some (fI i), some (fI fb), some (fI (lr.getD (40 + i).toNat 0)), some (fI ((1 <<< (lr.getD ((40 + i) - 1).toNat 0).toNat : Nat) : Int)), some (fI kb)]) (st_q := [fI fb, fI i]) (h_q := h) (cl_q := 0) (sl_q := 0) rfl ?_
      refine fw_sub rfl ?_
      refine ik_Wk 1 (pc_q := 97) (loc_q := [some (.ref 66), some (fI 1), some (fI i), some (fI fb), some (fI (lr.getD (40 + i).toNat 0)), some (fI ((1 <<< (lr.getD ((40 + i) - 1).toNat 0).toNat : Nat) : Int)), some (fI kb)]) (st_q := [fI 2, fI (i - fb)]) (h_q := h) (cl_q := 0) (sl_q := 0) rfl ?_
      refine fx_irem rfl (by omega) (by omega) (by omega) (by omega) ?_
      refine fw_if_ne rfl rfl (by omega) (by omega) (fun hc3 => ?_) (fun hc3 => ?_)
      · refine ik_Wk 2 (pc_q := 104) (loc_q := [some (.ref 66), some (fI 1), some (fI i), some (fI fb), some (fI (lr.getD (40 + i).toNat 0)), some (fI ((1 <<< (lr.getD ((40 + i) - 1).toNat 0).toNat : Nat) : Int)), some (fI kb)]) (st_q := [fI ((1 <<< (lr.getD ((40 + i) - 1).toNat 0).toNat : Nat) : Int), .ref 66]) (h_q := h) (cl_q := 0) (sl_q := 0) rfl ?_
        refine fw_call 205 2 0 [.ref 66, fI ((1 <<< (lr.getD ((40 + i) - 1).toNat 0).toNat : Nat) : Int)] [] rfl rfl rfl (Nat.le_of_ble_eq_true rfl) rfl rfl (fw_rec hl rfl h66 rfl (Nat.le_of_ble_eq_true rfl)) (cr_onFrom (pl := pl) (f := fun j => ((0 :: 0 :: 0 :: 0 :: 0 :: 0 :: 0 :: f 7 :: f 8 :: 0 :: f 10 :: f 11 :: f 12 :: f 13 :: f 14 :: f 15 :: f 16 :: f 17 :: 0 :: 0 :: 0 :: 0 :: 0 :: 0 :: f 24 :: 0 :: 0 :: 0 :: 0 :: 0 :: 0 :: 0 :: f 32 :: f 33 :: 0 :: 0 :: f 36 :: 0 :: 0 :: 0 :: 0 :: 0 :: 0 :: []) : List Int).getD j 0) (s := s) (B := 1 <<< (lr.getD ((40 + i) - 1).toNat 0).toNat) (cn := cn) (go := go) (ch := ch) (gt := gt) (gd := gd) (by omega) (by omega) q2 q3 q4 hB0 h66 h67 n67 h68 n68 h69 n69 h77 n77 h78 n78 hl) ?_
        rintro _ h_349 ⟨w'_349, gt'_349, gd'_349, rfl, e_349_66, e_349_77, m_349_77, e_349_78, m_349_78, F_349⟩
        have k_349 : cL h_349 := F_349.1.trans hl
        have fr_349 := hfr_cb (hfr_refl [66, 77, 78] h) F_349 rfl
        have g_349_67 := (hfr_g F_349 67 rfl).trans h67
        have g_349_68 := (hfr_g F_349 68 rfl).trans h68
        have g_349_69 := (hfr_g F_349 69 rfl).trans h69
        have g_349_70 := (hfr_g F_349 70 rfl).trans h70
        have g_349_91 := (hfr_g F_349 91 rfl).trans h91
        have g_349_66 : cE h_349 66 (.inr (10, (fI pl :: .ref 67 :: .ref 68 :: .ref 69 :: fI ((s : Nat) : Int) :: .ref 70 :: .ref 71 :: fI (f 7) :: fI (f 8) :: .ref 72 :: fI (f 10) :: fI (f 11) :: fI (f 12) :: fJ (f 13) :: fI (f 14) :: fI (f 15) :: fI (f 16) :: fI (f 17) :: .ref 73 :: .ref 74 :: .ref 75 :: .ref 76 :: .ref 77 :: .ref 78 :: fI w'_349 :: .ref 79 :: .ref 80 :: .ref 81 :: .ref 82 :: .ref 83 :: .ref 84 :: .ref 85 :: fJ (f 32) :: fJ (f 33) :: .ref 86 :: .ref 87 :: fI (f 36) :: .ref 88 :: .ref 89 :: .ref 90 :: .ref 91 :: .ref 92 :: .ref 93 :: []))) := e_349_66
        have g_349_77 : cE h_349 77 (.inl (.int, fA gt'_349)) := e_349_77
        have g_349_78 : cE h_349 78 (.inl (.int, fA gd'_349)) := e_349_78
        refine ik_Wk 0 (pc_q := 107) (loc_q := [some (.ref 66), some (fI 1), some (fI i), some (fI fb), some (fI (lr.getD (40 + i).toNat 0)), some (fI ((1 <<< (lr.getD ((40 + i) - 1).toNat 0).toNat : Nat) : Int)), some (fI kb)]) (st_q := [fI ((mj_on (fun x => mx_w cn go ch s x) (pl - 1) (1 <<< (lr.getD ((40 + i) - 1).toNat 0).toNat) : Nat) : Int)]) (h_q := h_349) (cl_q := 0) (sl_q := 0) rfl ?_
        have hB1 := mj_12 (mj_on_lt (W := (fun x => mx_w cn go ch s x)) (pl := pl) q4 (by omega) (1 <<< (lr.getD ((40 + i) - 1).toNat 0).toNat)) (by omega)
        refine ik_Wk 4 (pc_q := 117) (loc_q := [some (.ref 66), some (fI 1), some (fI i), some (fI fb), some (fI (lr.getD (40 + i).toNat 0)), some (fI ((mj_on (fun x => mx_w cn go ch s x) (pl - 1) (1 <<< (lr.getD ((40 + i) - 1).toNat 0).toNat) : Nat) : Int)), some (fI kb)]) (st_q := [fI 1, fI kb]) (h_q := h_349) (cl_q := 0) (sl_q := 0) rfl ?_
        refine fw_ic_ne rfl rfl (by omega) (by omega) (by omega) (by omega) (fun hc4 => ?_) (fun hc4 => ?_)
        · refine ik_Wk 2 (pc_q := 123) (loc_q := [some (.ref 66), some (fI 1), some (fI i), some (fI fb), some (fI (lr.getD (40 + i).toNat 0)), some (fI ((mj_on (fun x => mx_w cn go ch s x) (pl - 1) (1 <<< (lr.getD ((40 + i) - 1).toNat 0).toNat) : Nat) : Int)), some (fI kb)]) (st_q := [fI ((mj_on (fun x => mx_w cn go ch s x) (pl - 1) (1 <<< (lr.getD ((40 + i) - 1).toNat 0).toNat) : Nat) : Int), .ref 66]) (h_q := h_349) (cl_q := 0) (sl_q := 0) rfl ?_
          refine fw_call 205 2 0 [.ref 66, fI ((mj_on (fun x => mx_w cn go ch s x) (pl - 1) (1 <<< (lr.getD ((40 + i) - 1).toNat 0).toNat) : Nat) : Int)] [] rfl rfl rfl (Nat.le_of_ble_eq_true rfl) rfl rfl (fw_rec k_349 rfl g_349_66 rfl (Nat.le_of_ble_eq_true rfl)) (cr_onFrom (pl := pl) (f := fun j => ((0 :: 0 :: 0 :: 0 :: 0 :: 0 :: 0 :: ((f 7)) :: ((f 8)) :: 0 :: ((f 10)) :: ((f 11)) :: ((f 12)) :: ((f 13)) :: ((f 14)) :: ((f 15)) :: ((f 16)) :: ((f 17)) :: 0 :: 0 :: 0 :: 0 :: 0 :: 0 :: w'_349 :: 0 :: 0 :: 0 :: 0 :: 0 :: 0 :: 0 :: ((f 32)) :: ((f 33)) :: 0 :: 0 :: ((f 36)) :: 0 :: 0 :: 0 :: 0 :: 0 :: 0 :: []) : List Int).getD j 0) (s := s) (B := mj_on (fun x => mx_w cn go ch s x) (pl - 1) (1 <<< (lr.getD ((40 + i) - 1).toNat 0).toNat)) (cn := cn) (go := go) (ch := ch) (gt := gt'_349) (gd := gd'_349) (by omega) (by omega) q2 q3 q4 hB1 g_349_66 g_349_67 n67 g_349_68 n68 g_349_69 n69 g_349_77 m_349_77 g_349_78 m_349_78 k_349) ?_
          rintro _ h_350 ⟨w'_350, gt'_350, gd'_350, rfl, e_350_66, e_350_77, m_350_77, e_350_78, m_350_78, F_350⟩
          have k_350 : cL h_350 := F_350.1.trans k_349
          have fr_350 := hfr_cb fr_349 F_350 rfl
          have g_350_67 := (hfr_g F_350 67 rfl).trans g_349_67
          have g_350_68 := (hfr_g F_350 68 rfl).trans g_349_68
          have g_350_69 := (hfr_g F_350 69 rfl).trans g_349_69
          have g_350_70 := (hfr_g F_350 70 rfl).trans g_349_70
          have g_350_91 := (hfr_g F_350 91 rfl).trans g_349_91
          have g_350_66 : cE h_350 66 (.inr (10, (fI pl :: .ref 67 :: .ref 68 :: .ref 69 :: fI ((s : Nat) : Int) :: .ref 70 :: .ref 71 :: fI (f 7) :: fI (f 8) :: .ref 72 :: fI (f 10) :: fI (f 11) :: fI (f 12) :: fJ (f 13) :: fI (f 14) :: fI (f 15) :: fI (f 16) :: fI (f 17) :: .ref 73 :: .ref 74 :: .ref 75 :: .ref 76 :: .ref 77 :: .ref 78 :: fI w'_350 :: .ref 79 :: .ref 80 :: .ref 81 :: .ref 82 :: .ref 83 :: .ref 84 :: .ref 85 :: fJ (f 32) :: fJ (f 33) :: .ref 86 :: .ref 87 :: fI (f 36) :: .ref 88 :: .ref 89 :: .ref 90 :: .ref 91 :: .ref 92 :: .ref 93 :: []))) := e_350_66
          have g_350_77 : cE h_350 77 (.inl (.int, fA gt'_350)) := e_350_77
          have g_350_78 : cE h_350 78 (.inl (.int, fA gd'_350)) := e_350_78
          refine ik_Wk 0 (pc_q := 126) (loc_q := [some (.ref 66), some (fI 1), some (fI i), some (fI fb), some (fI (lr.getD (40 + i).toNat 0)), some (fI ((mj_on (fun x => mx_w cn go ch s x) (pl - 1) (1 <<< (lr.getD ((40 + i) - 1).toNat 0).toNat) : Nat) : Int)), some (fI kb)]) (st_q := [fI ((mj_on (fun x => mx_w cn go ch s x) (pl - 1) (mj_on (fun x => mx_w cn go ch s x) (pl - 1) (1 <<< (lr.getD ((40 + i) - 1).toNat 0).toNat)) : Nat) : Int)]) (h_q := h_350) (cl_q := 0) (sl_q := 0) rfl ?_
          have hB2 := mj_12 (mj_on_lt (W := (fun x => mx_w cn go ch s x)) (pl := pl) q4 (by omega) (mj_on (fun x => mx_w cn go ch s x) (pl - 1) (1 <<< (lr.getD ((40 + i) - 1).toNat 0).toNat))) (by omega)
          refine ik_Wk 4 (pc_q := 137) (loc_q := [some (.ref 66), some (fI 1), some (fI i), some (fI fb), some (fI (lr.getD (40 + i).toNat 0)), some (fI ((mj_on (fun x => mx_w cn go ch s x) (pl - 1) (mj_on (fun x => mx_w cn go ch s x) (pl - 1) (1 <<< (lr.getD ((40 + i) - 1).toNat 0).toNat)) : Nat) : Int)), some (fI kb)]) (st_q := [fI (lr.getD (40 + i).toNat 0), fI ((mj_on (fun x => mx_w cn go ch s x) (pl - 1) (mj_on (fun x => mx_w cn go ch s x) (pl - 1) (1 <<< (lr.getD ((40 + i) - 1).toNat 0).toNat)) : Nat) : Int)]) (h_q := h_350) (cl_q := 0) (sl_q := 0) rfl ?_
          refine ik_Wc 128 2 3 [fI ((mj_on (fun x => mx_w cn go ch s x) (pl - 1) (mj_on (fun x => mx_w cn go ch s x) (pl - 1) (1 <<< (lr.getD ((40 + i) - 1).toNat 0).toNat)) : Nat) : Int), fI (lr.getD (40 + i).toNat 0)] [] rfl rfl rfl (by decide +kernel) rfl rfl (fw_sta k_350 rfl (by decide +kernel)) ?_
          refine ik_Wk 0 (pc_q := 0) (loc_q := [some (fI ((mj_on (fun x => mx_w cn go ch s x) (pl - 1) (mj_on (fun x => mx_w cn go ch s x) (pl - 1) (1 <<< (lr.getD ((40 + i) - 1).toNat 0).toNat)) : Nat) : Int)), some (fI (lr.getD (40 + i).toNat 0))]) (st_q := []) (h_q := h_350) (cl_q := 0) (sl_q := 0) rfl ?_
          refine ik_Wk 2 (pc_q := 2) (loc_q := [some (fI ((mj_on (fun x => mx_w cn go ch s x) (pl - 1) (mj_on (fun x => mx_w cn go ch s x) (pl - 1) (1 <<< (lr.getD ((40 + i) - 1).toNat 0).toNat)) : Nat) : Int)), some (fI (lr.getD (40 + i).toNat 0))]) (st_q := [fI (lr.getD (40 + i).toNat 0), fI ((mj_on (fun x => mx_w cn go ch s x) (pl - 1) (mj_on (fun x => mx_w cn go ch s x) (pl - 1) (1 <<< (lr.getD ((40 + i) - 1).toNat 0).toNat)) : Nat) : Int)]) (h_q := h_350) (cl_q := 0) (sl_q := 0) rfl ?_
          refine fx_shr (n := mj_on (fun x => mx_w cn go ch s x) (pl - 1) (mj_on (fun x => mx_w cn go ch s x) (pl - 1) (1 <<< (lr.getD ((40 + i) - 1).toNat 0).toNat))) rfl (by omega) (by omega) (by omega) ?_
          refine ik_Wk 1 (pc_q := 4) (loc_q := [some (fI ((mj_on (fun x => mx_w cn go ch s x) (pl - 1) (mj_on (fun x => mx_w cn go ch s x) (pl - 1) (1 <<< (lr.getD ((40 + i) - 1).toNat 0).toNat)) : Nat) : Int)), some (fI (lr.getD (40 + i).toNat 0))]) (st_q := [fI 1, fI (((mj_on (fun x => mx_w cn go ch s x) (pl - 1) (mj_on (fun x => mx_w cn go ch s x) (pl - 1) (1 <<< (lr.getD ((40 + i) - 1).toNat 0).toNat))) >>> (lr.getD (40 + i).toNat 0).toNat : Nat) : Int)]) (h_q := h_350) (cl_q := 0) (sl_q := 0) rfl ?_
          refine fx_bit (n := (mj_on (fun x => mx_w cn go ch s x) (pl - 1) (mj_on (fun x => mx_w cn go ch s x) (pl - 1) (1 <<< (lr.getD ((40 + i) - 1).toNat 0).toNat)))) (k := (lr.getD (40 + i).toNat 0).toNat) rfl (fun hb5 => ?_) (fun hb5 => ?_)
          · refine ik_Wk 0 (pc_q := 5) (loc_q := [some (fI ((mj_on (fun x => mx_w cn go ch s x) (pl - 1) (mj_on (fun x => mx_w cn go ch s x) (pl - 1) (1 <<< (lr.getD ((40 + i) - 1).toNat 0).toNat)) : Nat) : Int)), some (fI (lr.getD (40 + i).toNat 0))]) (st_q := [fI 1]) (h_q := h_350) (cl_q := 0) (sl_q := 0) rfl ?_
            refine ik_Wk 1 (pc_q := 6) (loc_q := [some (fI ((mj_on (fun x => mx_w cn go ch s x) (pl - 1) (mj_on (fun x => mx_w cn go ch s x) (pl - 1) (1 <<< (lr.getD ((40 + i) - 1).toNat 0).toNat)) : Nat) : Int)), some (fI (lr.getD (40 + i).toNat 0))]) (st_q := [fI 1, fI 1]) (h_q := h_350) (cl_q := 0) (sl_q := 0) rfl ?_
            refine fw_ic_ne rfl rfl (by decide +kernel) (by decide +kernel) (by decide +kernel) (by decide +kernel) (fun hc6 => ?_) (fun hc6 => absurd hc6 (by decide +kernel))
            refine ik_Wk 2 (pc_q := 14) (loc_q := [some (fI ((mj_on (fun x => mx_w cn go ch s x) (pl - 1) (mj_on (fun x => mx_w cn go ch s x) (pl - 1) (1 <<< (lr.getD ((40 + i) - 1).toNat 0).toNat)) : Nat) : Int)), some (fI (lr.getD (40 + i).toNat 0))]) (st_q := [fI 1]) (h_q := h_350) (cl_q := 0) (sl_q := 0) rfl ?_
            refine ik_Wret rfl rfl ⟨_, _, rfl, rfl, ?_⟩
            refine ik_Wk 0 (pc_q := 140) (loc_q := [some (.ref 66), some (fI 1), some (fI i), some (fI fb), some (fI (lr.getD (40 + i).toNat 0)), some (fI ((mj_on (fun x => mx_w cn go ch s x) (pl - 1) (mj_on (fun x => mx_w cn go ch s x) (pl - 1) (1 <<< (lr.getD ((40 + i) - 1).toNat 0).toNat)) : Nat) : Int)), some (fI kb)]) (st_q := [fI 1]) (h_q := h_350) (cl_q := 0) (sl_q := 0) rfl ?_
            have et : mx_tm kb (i - fb) = 2 := by unfold mx_tm; (repeat' split) <;> omega
            have hlt : mj_oi (fun x => mx_w cn go ch s x) (pl - 1) 2 (1 <<< (lr.getD (40 + i - 1).toNat 0).toNat) < 2 ^ pl.toNat := mj_oi_lt q4 (by omega) _ _ (mj_shl_lt (by omega))
            have hG : (mj_ok (fun x => mx_w cn go ch s x) pl kb pb fb lr 40) i = true := by
              show (if i < fb then _ else if i = fb then _ else _) = _
              rw [if_neg (by omega), if_neg (by omega), et]
              exact decide_eq_true ⟨by omega, ⟨by omega, mj_tb_lt hlt hb5 (by omega)⟩, hb5⟩
            exact ik_Wret rfl rfl ⟨_, _, rfl, rfl, rfl, rfl, Or.inl ⟨w'_350, gt'_350, gd'_350, rfl, g_350_66, g_350_77, m_350_77, g_350_78, m_350_78, hG, fr_350⟩⟩
          · refine ik_Wk 0 (pc_q := 5) (loc_q := [some (fI ((mj_on (fun x => mx_w cn go ch s x) (pl - 1) (mj_on (fun x => mx_w cn go ch s x) (pl - 1) (1 <<< (lr.getD ((40 + i) - 1).toNat 0).toNat)) : Nat) : Int)), some (fI (lr.getD (40 + i).toNat 0))]) (st_q := [fI 0]) (h_q := h_350) (cl_q := 0) (sl_q := 0) rfl ?_
            refine ik_Wk 1 (pc_q := 6) (loc_q := [some (fI ((mj_on (fun x => mx_w cn go ch s x) (pl - 1) (mj_on (fun x => mx_w cn go ch s x) (pl - 1) (1 <<< (lr.getD ((40 + i) - 1).toNat 0).toNat)) : Nat) : Int)), some (fI (lr.getD (40 + i).toNat 0))]) (st_q := [fI 1, fI 0]) (h_q := h_350) (cl_q := 0) (sl_q := 0) rfl ?_
            refine fw_ic_ne rfl rfl (by decide +kernel) (by decide +kernel) (by decide +kernel) (by decide +kernel) (fun hc7 => absurd hc7 (by decide +kernel)) (fun hc7 => ?_)
            refine ik_Wk 1 (pc_q := 14) (loc_q := [some (fI ((mj_on (fun x => mx_w cn go ch s x) (pl - 1) (mj_on (fun x => mx_w cn go ch s x) (pl - 1) (1 <<< (lr.getD ((40 + i) - 1).toNat 0).toNat)) : Nat) : Int)), some (fI (lr.getD (40 + i).toNat 0))]) (st_q := [fI 0]) (h_q := h_350) (cl_q := 0) (sl_q := 0) rfl ?_
            refine ik_Wret rfl rfl ⟨_, _, rfl, rfl, ?_⟩
            refine ik_Wk 0 (pc_q := 140) (loc_q := [some (.ref 66), some (fI 1), some (fI i), some (fI fb), some (fI (lr.getD (40 + i).toNat 0)), some (fI ((mj_on (fun x => mx_w cn go ch s x) (pl - 1) (mj_on (fun x => mx_w cn go ch s x) (pl - 1) (1 <<< (lr.getD ((40 + i) - 1).toNat 0).toNat)) : Nat) : Int)), some (fI kb)]) (st_q := [fI 0]) (h_q := h_350) (cl_q := 0) (sl_q := 0) rfl ?_
            have et : mx_tm kb (i - fb) = 2 := by unfold mx_tm; (repeat' split) <;> omega
            have hlt : mj_oi (fun x => mx_w cn go ch s x) (pl - 1) 2 (1 <<< (lr.getD (40 + i - 1).toNat 0).toNat) < 2 ^ pl.toNat := mj_oi_lt q4 (by omega) _ _ (mj_shl_lt (by omega))
            have hG : (mj_ok (fun x => mx_w cn go ch s x) pl kb pb fb lr 40) i = false := by
              show (if i < fb then _ else if i = fb then _ else _) = _
              rw [if_neg (by omega), if_neg (by omega), et]
              exact decide_eq_false (fun w => absurd (w.2.2.symm.trans hb5) (by decide +kernel))
            exact ik_Wret rfl rfl ⟨_, _, rfl, rfl, rfl, rfl, Or.inr ⟨w'_350, gt'_350, gd'_350, rfl, g_350_66, g_350_77, m_350_77, g_350_78, m_350_78, hG, fr_350⟩⟩
        · refine ik_Wk 4 (pc_q := 137) (loc_q := [some (.ref 66), some (fI 1), some (fI i), some (fI fb), some (fI (lr.getD (40 + i).toNat 0)), some (fI ((mj_on (fun x => mx_w cn go ch s x) (pl - 1) (1 <<< (lr.getD ((40 + i) - 1).toNat 0).toNat) : Nat) : Int)), some (fI kb)]) (st_q := [fI (lr.getD (40 + i).toNat 0), fI ((mj_on (fun x => mx_w cn go ch s x) (pl - 1) (1 <<< (lr.getD ((40 + i) - 1).toNat 0).toNat) : Nat) : Int)]) (h_q := h_349) (cl_q := 0) (sl_q := 0) rfl ?_
          refine ik_Wc 128 2 3 [fI ((mj_on (fun x => mx_w cn go ch s x) (pl - 1) (1 <<< (lr.getD ((40 + i) - 1).toNat 0).toNat) : Nat) : Int), fI (lr.getD (40 + i).toNat 0)] [] rfl rfl rfl (by decide +kernel) rfl rfl (fw_sta k_349 rfl (by decide +kernel)) ?_
          refine ik_Wk 0 (pc_q := 0) (loc_q := [some (fI ((mj_on (fun x => mx_w cn go ch s x) (pl - 1) (1 <<< (lr.getD ((40 + i) - 1).toNat 0).toNat) : Nat) : Int)), some (fI (lr.getD (40 + i).toNat 0))]) (st_q := []) (h_q := h_349) (cl_q := 0) (sl_q := 0) rfl ?_
          refine ik_Wk 2 (pc_q := 2) (loc_q := [some (fI ((mj_on (fun x => mx_w cn go ch s x) (pl - 1) (1 <<< (lr.getD ((40 + i) - 1).toNat 0).toNat) : Nat) : Int)), some (fI (lr.getD (40 + i).toNat 0))]) (st_q := [fI (lr.getD (40 + i).toNat 0), fI ((mj_on (fun x => mx_w cn go ch s x) (pl - 1) (1 <<< (lr.getD ((40 + i) - 1).toNat 0).toNat) : Nat) : Int)]) (h_q := h_349) (cl_q := 0) (sl_q := 0) rfl ?_
          refine fx_shr (n := mj_on (fun x => mx_w cn go ch s x) (pl - 1) (1 <<< (lr.getD ((40 + i) - 1).toNat 0).toNat)) rfl (by omega) (by omega) (by omega) ?_
          refine ik_Wk 1 (pc_q := 4) (loc_q := [some (fI ((mj_on (fun x => mx_w cn go ch s x) (pl - 1) (1 <<< (lr.getD ((40 + i) - 1).toNat 0).toNat) : Nat) : Int)), some (fI (lr.getD (40 + i).toNat 0))]) (st_q := [fI 1, fI (((mj_on (fun x => mx_w cn go ch s x) (pl - 1) (1 <<< (lr.getD ((40 + i) - 1).toNat 0).toNat)) >>> (lr.getD (40 + i).toNat 0).toNat : Nat) : Int)]) (h_q := h_349) (cl_q := 0) (sl_q := 0) rfl ?_
          refine fx_bit (n := (mj_on (fun x => mx_w cn go ch s x) (pl - 1) (1 <<< (lr.getD ((40 + i) - 1).toNat 0).toNat))) (k := (lr.getD (40 + i).toNat 0).toNat) rfl (fun hb8 => ?_) (fun hb8 => ?_)
          · refine ik_Wk 0 (pc_q := 5) (loc_q := [some (fI ((mj_on (fun x => mx_w cn go ch s x) (pl - 1) (1 <<< (lr.getD ((40 + i) - 1).toNat 0).toNat) : Nat) : Int)), some (fI (lr.getD (40 + i).toNat 0))]) (st_q := [fI 1]) (h_q := h_349) (cl_q := 0) (sl_q := 0) rfl ?_
            refine ik_Wk 1 (pc_q := 6) (loc_q := [some (fI ((mj_on (fun x => mx_w cn go ch s x) (pl - 1) (1 <<< (lr.getD ((40 + i) - 1).toNat 0).toNat) : Nat) : Int)), some (fI (lr.getD (40 + i).toNat 0))]) (st_q := [fI 1, fI 1]) (h_q := h_349) (cl_q := 0) (sl_q := 0) rfl ?_
            refine fw_ic_ne rfl rfl (by decide +kernel) (by decide +kernel) (by decide +kernel) (by decide +kernel) (fun hc9 => ?_) (fun hc9 => absurd hc9 (by decide +kernel))
            refine ik_Wk 2 (pc_q := 14) (loc_q := [some (fI ((mj_on (fun x => mx_w cn go ch s x) (pl - 1) (1 <<< (lr.getD ((40 + i) - 1).toNat 0).toNat) : Nat) : Int)), some (fI (lr.getD (40 + i).toNat 0))]) (st_q := [fI 1]) (h_q := h_349) (cl_q := 0) (sl_q := 0) rfl ?_
            refine ik_Wret rfl rfl ⟨_, _, rfl, rfl, ?_⟩
            refine ik_Wk 0 (pc_q := 140) (loc_q := [some (.ref 66), some (fI 1), some (fI i), some (fI fb), some (fI (lr.getD (40 + i).toNat 0)), some (fI ((mj_on (fun x => mx_w cn go ch s x) (pl - 1) (1 <<< (lr.getD ((40 + i) - 1).toNat 0).toNat) : Nat) : Int)), some (fI kb)]) (st_q := [fI 1]) (h_q := h_349) (cl_q := 0) (sl_q := 0) rfl ?_
            have et : mx_tm kb (i - fb) = 1 := by unfold mx_tm; (repeat' split) <;> omega
            have hlt : mj_oi (fun x => mx_w cn go ch s x) (pl - 1) 1 (1 <<< (lr.getD (40 + i - 1).toNat 0).toNat) < 2 ^ pl.toNat := mj_oi_lt q4 (by omega) _ _ (mj_shl_lt (by omega))
            have hG : (mj_ok (fun x => mx_w cn go ch s x) pl kb pb fb lr 40) i = true := by
              show (if i < fb then _ else if i = fb then _ else _) = _
              rw [if_neg (by omega), if_neg (by omega), et]
              exact decide_eq_true ⟨by omega, ⟨by omega, mj_tb_lt hlt hb8 (by omega)⟩, hb8⟩
            exact ik_Wret rfl rfl ⟨_, _, rfl, rfl, rfl, rfl, Or.inl ⟨w'_349, gt'_349, gd'_349, rfl, g_349_66, g_349_77, m_349_77, g_349_78, m_349_78, hG, fr_349⟩⟩
          · refine ik_Wk 0 (pc_q := 5) (loc_q := [some (fI ((mj_on (fun x => mx_w cn go ch s x) (pl - 1) (1 <<< (lr.getD ((40 + i) - 1).toNat 0).toNat) : Nat) : Int)), some (fI (lr.getD (40 + i).toNat 0))]) (st_q := [fI 0]) (h_q := h_349) (cl_q := 0) (sl_q := 0) rfl ?_
            refine ik_Wk 1 (pc_q := 6) (loc_q := [some (fI ((mj_on (fun x => mx_w cn go ch s x) (pl - 1) (1 <<< (lr.getD ((40 + i) - 1).toNat 0).toNat) : Nat) : Int)), some (fI (lr.getD (40 + i).toNat 0))]) (st_q := [fI 1, fI 0]) (h_q := h_349) (cl_q := 0) (sl_q := 0) rfl ?_
            refine fw_ic_ne rfl rfl (by decide +kernel) (by decide +kernel) (by decide +kernel) (by decide +kernel) (fun hc10 => absurd hc10 (by decide +kernel)) (fun hc10 => ?_)
            refine ik_Wk 1 (pc_q := 14) (loc_q := [some (fI ((mj_on (fun x => mx_w cn go ch s x) (pl - 1) (1 <<< (lr.getD ((40 + i) - 1).toNat 0).toNat) : Nat) : Int)), some (fI (lr.getD (40 + i).toNat 0))]) (st_q := [fI 0]) (h_q := h_349) (cl_q := 0) (sl_q := 0) rfl ?_
            refine ik_Wret rfl rfl ⟨_, _, rfl, rfl, ?_⟩
            refine ik_Wk 0 (pc_q := 140) (loc_q := [some (.ref 66), some (fI 1), some (fI i), some (fI fb), some (fI (lr.getD (40 + i).toNat 0)), some (fI ((mj_on (fun x => mx_w cn go ch s x) (pl - 1) (1 <<< (lr.getD ((40 + i) - 1).toNat 0).toNat) : Nat) : Int)), some (fI kb)]) (st_q := [fI 0]) (h_q := h_349) (cl_q := 0) (sl_q := 0) rfl ?_
            have et : mx_tm kb (i - fb) = 1 := by unfold mx_tm; (repeat' split) <;> omega
            have hlt : mj_oi (fun x => mx_w cn go ch s x) (pl - 1) 1 (1 <<< (lr.getD (40 + i - 1).toNat 0).toNat) < 2 ^ pl.toNat := mj_oi_lt q4 (by omega) _ _ (mj_shl_lt (by omega))
            have hG : (mj_ok (fun x => mx_w cn go ch s x) pl kb pb fb lr 40) i = false := by
              show (if i < fb then _ else if i = fb then _ else _) = _
              rw [if_neg (by omega), if_neg (by omega), et]
              exact decide_eq_false (fun w => absurd (w.2.2.symm.trans hb8) (by decide +kernel))
            exact ik_Wret rfl rfl ⟨_, _, rfl, rfl, rfl, rfl, Or.inr ⟨w'_349, gt'_349, gd'_349, rfl, g_349_66, g_349_77, m_349_77, g_349_78, m_349_78, hG, fr_349⟩⟩
      · refine ik_Wk 4 (pc_q := 117) (loc_q := [some (.ref 66), some (fI 1), some (fI i), some (fI fb), some (fI (lr.getD (40 + i).toNat 0)), some (fI ((1 <<< (lr.getD ((40 + i) - 1).toNat 0).toNat : Nat) : Int)), some (fI kb)]) (st_q := [fI 1, fI kb]) (h_q := h) (cl_q := 0) (sl_q := 0) rfl ?_
        refine fw_ic_ne rfl rfl (by omega) (by omega) (by omega) (by omega) (fun hc11 => ?_) (fun hc11 => ?_)
        · refine ik_Wk 2 (pc_q := 123) (loc_q := [some (.ref 66), some (fI 1), some (fI i), some (fI fb), some (fI (lr.getD (40 + i).toNat 0)), some (fI ((1 <<< (lr.getD ((40 + i) - 1).toNat 0).toNat : Nat) : Int)), some (fI kb)]) (st_q := [fI ((1 <<< (lr.getD ((40 + i) - 1).toNat 0).toNat : Nat) : Int), .ref 66]) (h_q := h) (cl_q := 0) (sl_q := 0) rfl ?_
          refine fw_call 205 2 0 [.ref 66, fI ((1 <<< (lr.getD ((40 + i) - 1).toNat 0).toNat : Nat) : Int)] [] rfl rfl rfl (Nat.le_of_ble_eq_true rfl) rfl rfl (fw_rec hl rfl h66 rfl (Nat.le_of_ble_eq_true rfl)) (cr_onFrom (pl := pl) (f := fun j => ((0 :: 0 :: 0 :: 0 :: 0 :: 0 :: 0 :: f 7 :: f 8 :: 0 :: f 10 :: f 11 :: f 12 :: f 13 :: f 14 :: f 15 :: f 16 :: f 17 :: 0 :: 0 :: 0 :: 0 :: 0 :: 0 :: f 24 :: 0 :: 0 :: 0 :: 0 :: 0 :: 0 :: 0 :: f 32 :: f 33 :: 0 :: 0 :: f 36 :: 0 :: 0 :: 0 :: 0 :: 0 :: 0 :: []) : List Int).getD j 0) (s := s) (B := 1 <<< (lr.getD ((40 + i) - 1).toNat 0).toNat) (cn := cn) (go := go) (ch := ch) (gt := gt) (gd := gd) (by omega) (by omega) q2 q3 q4 hB0 h66 h67 n67 h68 n68 h69 n69 h77 n77 h78 n78 hl) ?_
          rintro _ h_351 ⟨w'_351, gt'_351, gd'_351, rfl, e_351_66, e_351_77, m_351_77, e_351_78, m_351_78, F_351⟩
          have k_351 : cL h_351 := F_351.1.trans hl
          have fr_351 := hfr_cb (hfr_refl [66, 77, 78] h) F_351 rfl
          have g_351_67 := (hfr_g F_351 67 rfl).trans h67
          have g_351_68 := (hfr_g F_351 68 rfl).trans h68
          have g_351_69 := (hfr_g F_351 69 rfl).trans h69
          have g_351_70 := (hfr_g F_351 70 rfl).trans h70
          have g_351_91 := (hfr_g F_351 91 rfl).trans h91
          have g_351_66 : cE h_351 66 (.inr (10, (fI pl :: .ref 67 :: .ref 68 :: .ref 69 :: fI ((s : Nat) : Int) :: .ref 70 :: .ref 71 :: fI (f 7) :: fI (f 8) :: .ref 72 :: fI (f 10) :: fI (f 11) :: fI (f 12) :: fJ (f 13) :: fI (f 14) :: fI (f 15) :: fI (f 16) :: fI (f 17) :: .ref 73 :: .ref 74 :: .ref 75 :: .ref 76 :: .ref 77 :: .ref 78 :: fI w'_351 :: .ref 79 :: .ref 80 :: .ref 81 :: .ref 82 :: .ref 83 :: .ref 84 :: .ref 85 :: fJ (f 32) :: fJ (f 33) :: .ref 86 :: .ref 87 :: fI (f 36) :: .ref 88 :: .ref 89 :: .ref 90 :: .ref 91 :: .ref 92 :: .ref 93 :: []))) := e_351_66
          have g_351_77 : cE h_351 77 (.inl (.int, fA gt'_351)) := e_351_77
          have g_351_78 : cE h_351 78 (.inl (.int, fA gd'_351)) := e_351_78
          refine ik_Wk 0 (pc_q := 126) (loc_q := [some (.ref 66), some (fI 1), some (fI i), some (fI fb), some (fI (lr.getD (40 + i).toNat 0)), some (fI ((1 <<< (lr.getD ((40 + i) - 1).toNat 0).toNat : Nat) : Int)), some (fI kb)]) (st_q := [fI ((mj_on (fun x => mx_w cn go ch s x) (pl - 1) (1 <<< (lr.getD ((40 + i) - 1).toNat 0).toNat) : Nat) : Int)]) (h_q := h_351) (cl_q := 0) (sl_q := 0) rfl ?_
          have hB1 := mj_12 (mj_on_lt (W := (fun x => mx_w cn go ch s x)) (pl := pl) q4 (by omega) (1 <<< (lr.getD ((40 + i) - 1).toNat 0).toNat)) (by omega)
          refine ik_Wk 4 (pc_q := 137) (loc_q := [some (.ref 66), some (fI 1), some (fI i), some (fI fb), some (fI (lr.getD (40 + i).toNat 0)), some (fI ((mj_on (fun x => mx_w cn go ch s x) (pl - 1) (1 <<< (lr.getD ((40 + i) - 1).toNat 0).toNat) : Nat) : Int)), some (fI kb)]) (st_q := [fI (lr.getD (40 + i).toNat 0), fI ((mj_on (fun x => mx_w cn go ch s x) (pl - 1) (1 <<< (lr.getD ((40 + i) - 1).toNat 0).toNat) : Nat) : Int)]) (h_q := h_351) (cl_q := 0) (sl_q := 0) rfl ?_
          refine ik_Wc 128 2 3 [fI ((mj_on (fun x => mx_w cn go ch s x) (pl - 1) (1 <<< (lr.getD ((40 + i) - 1).toNat 0).toNat) : Nat) : Int), fI (lr.getD (40 + i).toNat 0)] [] rfl rfl rfl (by decide +kernel) rfl rfl (fw_sta k_351 rfl (by decide +kernel)) ?_
          refine ik_Wk 0 (pc_q := 0) (loc_q := [some (fI ((mj_on (fun x => mx_w cn go ch s x) (pl - 1) (1 <<< (lr.getD ((40 + i) - 1).toNat 0).toNat) : Nat) : Int)), some (fI (lr.getD (40 + i).toNat 0))]) (st_q := []) (h_q := h_351) (cl_q := 0) (sl_q := 0) rfl ?_
          refine ik_Wk 2 (pc_q := 2) (loc_q := [some (fI ((mj_on (fun x => mx_w cn go ch s x) (pl - 1) (1 <<< (lr.getD ((40 + i) - 1).toNat 0).toNat) : Nat) : Int)), some (fI (lr.getD (40 + i).toNat 0))]) (st_q := [fI (lr.getD (40 + i).toNat 0), fI ((mj_on (fun x => mx_w cn go ch s x) (pl - 1) (1 <<< (lr.getD ((40 + i) - 1).toNat 0).toNat) : Nat) : Int)]) (h_q := h_351) (cl_q := 0) (sl_q := 0) rfl ?_
          refine fx_shr (n := mj_on (fun x => mx_w cn go ch s x) (pl - 1) (1 <<< (lr.getD ((40 + i) - 1).toNat 0).toNat)) rfl (by omega) (by omega) (by omega) ?_
          refine ik_Wk 1 (pc_q := 4) (loc_q := [some (fI ((mj_on (fun x => mx_w cn go ch s x) (pl - 1) (1 <<< (lr.getD ((40 + i) - 1).toNat 0).toNat) : Nat) : Int)), some (fI (lr.getD (40 + i).toNat 0))]) (st_q := [fI 1, fI (((mj_on (fun x => mx_w cn go ch s x) (pl - 1) (1 <<< (lr.getD ((40 + i) - 1).toNat 0).toNat)) >>> (lr.getD (40 + i).toNat 0).toNat : Nat) : Int)]) (h_q := h_351) (cl_q := 0) (sl_q := 0) rfl ?_
          refine fx_bit (n := (mj_on (fun x => mx_w cn go ch s x) (pl - 1) (1 <<< (lr.getD ((40 + i) - 1).toNat 0).toNat))) (k := (lr.getD (40 + i).toNat 0).toNat) rfl (fun hb12 => ?_) (fun hb12 => ?_)
          · refine ik_Wk 0 (pc_q := 5) (loc_q := [some (fI ((mj_on (fun x => mx_w cn go ch s x) (pl - 1) (1 <<< (lr.getD ((40 + i) - 1).toNat 0).toNat) : Nat) : Int)), some (fI (lr.getD (40 + i).toNat 0))]) (st_q := [fI 1]) (h_q := h_351) (cl_q := 0) (sl_q := 0) rfl ?_
            refine ik_Wk 1 (pc_q := 6) (loc_q := [some (fI ((mj_on (fun x => mx_w cn go ch s x) (pl - 1) (1 <<< (lr.getD ((40 + i) - 1).toNat 0).toNat) : Nat) : Int)), some (fI (lr.getD (40 + i).toNat 0))]) (st_q := [fI 1, fI 1]) (h_q := h_351) (cl_q := 0) (sl_q := 0) rfl ?_
            refine fw_ic_ne rfl rfl (by decide +kernel) (by decide +kernel) (by decide +kernel) (by decide +kernel) (fun hc13 => ?_) (fun hc13 => absurd hc13 (by decide +kernel))
            refine ik_Wk 2 (pc_q := 14) (loc_q := [some (fI ((mj_on (fun x => mx_w cn go ch s x) (pl - 1) (1 <<< (lr.getD ((40 + i) - 1).toNat 0).toNat) : Nat) : Int)), some (fI (lr.getD (40 + i).toNat 0))]) (st_q := [fI 1]) (h_q := h_351) (cl_q := 0) (sl_q := 0) rfl ?_
            refine ik_Wret rfl rfl ⟨_, _, rfl, rfl, ?_⟩
            refine ik_Wk 0 (pc_q := 140) (loc_q := [some (.ref 66), some (fI 1), some (fI i), some (fI fb), some (fI (lr.getD (40 + i).toNat 0)), some (fI ((mj_on (fun x => mx_w cn go ch s x) (pl - 1) (1 <<< (lr.getD ((40 + i) - 1).toNat 0).toNat) : Nat) : Int)), some (fI kb)]) (st_q := [fI 1]) (h_q := h_351) (cl_q := 0) (sl_q := 0) rfl ?_
            have et : mx_tm kb (i - fb) = 1 := by unfold mx_tm; (repeat' split) <;> omega
            have hlt : mj_oi (fun x => mx_w cn go ch s x) (pl - 1) 1 (1 <<< (lr.getD (40 + i - 1).toNat 0).toNat) < 2 ^ pl.toNat := mj_oi_lt q4 (by omega) _ _ (mj_shl_lt (by omega))
            have hG : (mj_ok (fun x => mx_w cn go ch s x) pl kb pb fb lr 40) i = true := by
              show (if i < fb then _ else if i = fb then _ else _) = _
              rw [if_neg (by omega), if_neg (by omega), et]
              exact decide_eq_true ⟨by omega, ⟨by omega, mj_tb_lt hlt hb12 (by omega)⟩, hb12⟩
            exact ik_Wret rfl rfl ⟨_, _, rfl, rfl, rfl, rfl, Or.inl ⟨w'_351, gt'_351, gd'_351, rfl, g_351_66, g_351_77, m_351_77, g_351_78, m_351_78, hG, fr_351⟩⟩
          · refine ik_Wk 0 (pc_q := 5) (loc_q := [some (fI ((mj_on (fun x => mx_w cn go ch s x) (pl - 1) (1 <<< (lr.getD ((40 + i) - 1).toNat 0).toNat) : Nat) : Int)), some (fI (lr.getD (40 + i).toNat 0))]) (st_q := [fI 0]) (h_q := h_351) (cl_q := 0) (sl_q := 0) rfl ?_
            refine ik_Wk 1 (pc_q := 6) (loc_q := [some (fI ((mj_on (fun x => mx_w cn go ch s x) (pl - 1) (1 <<< (lr.getD ((40 + i) - 1).toNat 0).toNat) : Nat) : Int)), some (fI (lr.getD (40 + i).toNat 0))]) (st_q := [fI 1, fI 0]) (h_q := h_351) (cl_q := 0) (sl_q := 0) rfl ?_
            refine fw_ic_ne rfl rfl (by decide +kernel) (by decide +kernel) (by decide +kernel) (by decide +kernel) (fun hc14 => absurd hc14 (by decide +kernel)) (fun hc14 => ?_)
            refine ik_Wk 1 (pc_q := 14) (loc_q := [some (fI ((mj_on (fun x => mx_w cn go ch s x) (pl - 1) (1 <<< (lr.getD ((40 + i) - 1).toNat 0).toNat) : Nat) : Int)), some (fI (lr.getD (40 + i).toNat 0))]) (st_q := [fI 0]) (h_q := h_351) (cl_q := 0) (sl_q := 0) rfl ?_
            refine ik_Wret rfl rfl ⟨_, _, rfl, rfl, ?_⟩
            refine ik_Wk 0 (pc_q := 140) (loc_q := [some (.ref 66), some (fI 1), some (fI i), some (fI fb), some (fI (lr.getD (40 + i).toNat 0)), some (fI ((mj_on (fun x => mx_w cn go ch s x) (pl - 1) (1 <<< (lr.getD ((40 + i) - 1).toNat 0).toNat) : Nat) : Int)), some (fI kb)]) (st_q := [fI 0]) (h_q := h_351) (cl_q := 0) (sl_q := 0) rfl ?_
            have et : mx_tm kb (i - fb) = 1 := by unfold mx_tm; (repeat' split) <;> omega
            have hlt : mj_oi (fun x => mx_w cn go ch s x) (pl - 1) 1 (1 <<< (lr.getD (40 + i - 1).toNat 0).toNat) < 2 ^ pl.toNat := mj_oi_lt q4 (by omega) _ _ (mj_shl_lt (by omega))
            have hG : (mj_ok (fun x => mx_w cn go ch s x) pl kb pb fb lr 40) i = false := by
              show (if i < fb then _ else if i = fb then _ else _) = _
              rw [if_neg (by omega), if_neg (by omega), et]
              exact decide_eq_false (fun w => absurd (w.2.2.symm.trans hb12) (by decide +kernel))
            exact ik_Wret rfl rfl ⟨_, _, rfl, rfl, rfl, rfl, Or.inr ⟨w'_351, gt'_351, gd'_351, rfl, g_351_66, g_351_77, m_351_77, g_351_78, m_351_78, hG, fr_351⟩⟩
        · refine ik_Wk 4 (pc_q := 137) (loc_q := [some (.ref 66), some (fI 1), some (fI i), some (fI fb), some (fI (lr.getD (40 + i).toNat 0)), some (fI ((1 <<< (lr.getD ((40 + i) - 1).toNat 0).toNat : Nat) : Int)), some (fI kb)]) (st_q := [fI (lr.getD (40 + i).toNat 0), fI ((1 <<< (lr.getD ((40 + i) - 1).toNat 0).toNat : Nat) : Int)]) (h_q := h) (cl_q := 0) (sl_q := 0) rfl ?_
          refine ik_Wc 128 2 3 [fI ((1 <<< (lr.getD ((40 + i) - 1).toNat 0).toNat : Nat) : Int), fI (lr.getD (40 + i).toNat 0)] [] rfl rfl rfl (by decide +kernel) rfl rfl (fw_sta hl rfl (by decide +kernel)) ?_
          refine ik_Wk 0 (pc_q := 0) (loc_q := [some (fI ((1 <<< (lr.getD ((40 + i) - 1).toNat 0).toNat : Nat) : Int)), some (fI (lr.getD (40 + i).toNat 0))]) (st_q := []) (h_q := h) (cl_q := 0) (sl_q := 0) rfl ?_
          refine ik_Wk 2 (pc_q := 2) (loc_q := [some (fI ((1 <<< (lr.getD ((40 + i) - 1).toNat 0).toNat : Nat) : Int)), some (fI (lr.getD (40 + i).toNat 0))]) (st_q := [fI (lr.getD (40 + i).toNat 0), fI ((1 <<< (lr.getD ((40 + i) - 1).toNat 0).toNat : Nat) : Int)]) (h_q := h) (cl_q := 0) (sl_q := 0) rfl ?_
          refine fx_shr (n := 1 <<< (lr.getD ((40 + i) - 1).toNat 0).toNat) rfl (by omega) (by omega) (by omega) ?_
          refine ik_Wk 1 (pc_q := 4) (loc_q := [some (fI ((1 <<< (lr.getD ((40 + i) - 1).toNat 0).toNat : Nat) : Int)), some (fI (lr.getD (40 + i).toNat 0))]) (st_q := [fI 1, fI (((1 <<< (lr.getD ((40 + i) - 1).toNat 0).toNat) >>> (lr.getD (40 + i).toNat 0).toNat : Nat) : Int)]) (h_q := h) (cl_q := 0) (sl_q := 0) rfl ?_
          refine fx_bit (n := (1 <<< (lr.getD ((40 + i) - 1).toNat 0).toNat)) (k := (lr.getD (40 + i).toNat 0).toNat) rfl (fun hb15 => ?_) (fun hb15 => ?_)
          · refine ik_Wk 0 (pc_q := 5) (loc_q := [some (fI ((1 <<< (lr.getD ((40 + i) - 1).toNat 0).toNat : Nat) : Int)), some (fI (lr.getD (40 + i).toNat 0))]) (st_q := [fI 1]) (h_q := h) (cl_q := 0) (sl_q := 0) rfl ?_
            refine ik_Wk 1 (pc_q := 6) (loc_q := [some (fI ((1 <<< (lr.getD ((40 + i) - 1).toNat 0).toNat : Nat) : Int)), some (fI (lr.getD (40 + i).toNat 0))]) (st_q := [fI 1, fI 1]) (h_q := h) (cl_q := 0) (sl_q := 0) rfl ?_
            refine fw_ic_ne rfl rfl (by decide +kernel) (by decide +kernel) (by decide +kernel) (by decide +kernel) (fun hc16 => ?_) (fun hc16 => absurd hc16 (by decide +kernel))
            refine ik_Wk 2 (pc_q := 14) (loc_q := [some (fI ((1 <<< (lr.getD ((40 + i) - 1).toNat 0).toNat : Nat) : Int)), some (fI (lr.getD (40 + i).toNat 0))]) (st_q := [fI 1]) (h_q := h) (cl_q := 0) (sl_q := 0) rfl ?_
            refine ik_Wret rfl rfl ⟨_, _, rfl, rfl, ?_⟩
            refine ik_Wk 0 (pc_q := 140) (loc_q := [some (.ref 66), some (fI 1), some (fI i), some (fI fb), some (fI (lr.getD (40 + i).toNat 0)), some (fI ((1 <<< (lr.getD ((40 + i) - 1).toNat 0).toNat : Nat) : Int)), some (fI kb)]) (st_q := [fI 1]) (h_q := h) (cl_q := 0) (sl_q := 0) rfl ?_
            have et : mx_tm kb (i - fb) = 0 := by unfold mx_tm; (repeat' split) <;> omega
            have hlt : mj_oi (fun x => mx_w cn go ch s x) (pl - 1) 0 (1 <<< (lr.getD (40 + i - 1).toNat 0).toNat) < 2 ^ pl.toNat := mj_oi_lt q4 (by omega) _ _ (mj_shl_lt (by omega))
            have hG : (mj_ok (fun x => mx_w cn go ch s x) pl kb pb fb lr 40) i = true := by
              show (if i < fb then _ else if i = fb then _ else _) = _
              rw [if_neg (by omega), if_neg (by omega), et]
              exact decide_eq_true ⟨by omega, ⟨by omega, mj_tb_lt hlt hb15 (by omega)⟩, hb15⟩
            exact ik_Wret rfl rfl ⟨_, _, rfl, rfl, rfl, rfl, Or.inl ⟨(f 24), gt, gd, rfl, h66, h77, n77, h78, n78, hG, (hfr_refl [66, 77, 78] h)⟩⟩
          · refine ik_Wk 0 (pc_q := 5) (loc_q := [some (fI ((1 <<< (lr.getD ((40 + i) - 1).toNat 0).toNat : Nat) : Int)), some (fI (lr.getD (40 + i).toNat 0))]) (st_q := [fI 0]) (h_q := h) (cl_q := 0) (sl_q := 0) rfl ?_
            refine ik_Wk 1 (pc_q := 6) (loc_q := [some (fI ((1 <<< (lr.getD ((40 + i) - 1).toNat 0).toNat : Nat) : Int)), some (fI (lr.getD (40 + i).toNat 0))]) (st_q := [fI 1, fI 0]) (h_q := h) (cl_q := 0) (sl_q := 0) rfl ?_
            refine fw_ic_ne rfl rfl (by decide +kernel) (by decide +kernel) (by decide +kernel) (by decide +kernel) (fun hc17 => absurd hc17 (by decide +kernel)) (fun hc17 => ?_)
            refine ik_Wk 1 (pc_q := 14) (loc_q := [some (fI ((1 <<< (lr.getD ((40 + i) - 1).toNat 0).toNat : Nat) : Int)), some (fI (lr.getD (40 + i).toNat 0))]) (st_q := [fI 0]) (h_q := h) (cl_q := 0) (sl_q := 0) rfl ?_
            refine ik_Wret rfl rfl ⟨_, _, rfl, rfl, ?_⟩
            refine ik_Wk 0 (pc_q := 140) (loc_q := [some (.ref 66), some (fI 1), some (fI i), some (fI fb), some (fI (lr.getD (40 + i).toNat 0)), some (fI ((1 <<< (lr.getD ((40 + i) - 1).toNat 0).toNat : Nat) : Int)), some (fI kb)]) (st_q := [fI 0]) (h_q := h) (cl_q := 0) (sl_q := 0) rfl ?_
            have et : mx_tm kb (i - fb) = 0 := by unfold mx_tm; (repeat' split) <;> omega
            have hlt : mj_oi (fun x => mx_w cn go ch s x) (pl - 1) 0 (1 <<< (lr.getD (40 + i - 1).toNat 0).toNat) < 2 ^ pl.toNat := mj_oi_lt q4 (by omega) _ _ (mj_shl_lt (by omega))
            have hG : (mj_ok (fun x => mx_w cn go ch s x) pl kb pb fb lr 40) i = false := by
              show (if i < fb then _ else if i = fb then _ else _) = _
              rw [if_neg (by omega), if_neg (by omega), et]
              exact decide_eq_false (fun w => absurd (w.2.2.symm.trans hb15) (by decide +kernel))
            exact ik_Wret rfl rfl ⟨_, _, rfl, rfl, rfl, rfl, Or.inr ⟨(f 24), gt, gd, rfl, h66, h77, n77, h78, n78, hG, (hfr_refl [66, 77, 78] h)⟩⟩
    · refine ik_Wk 2 (pc_q := 104) (loc_q := [some (.ref 66), some (fI 1), some (fI i), some (fI fb), some (fI (lr.getD (40 + i).toNat 0)), some (fI ((1 <<< (lr.getD ((40 + i) - 1).toNat 0).toNat : Nat) : Int)), some (fI kb)]) (st_q := [fI ((1 <<< (lr.getD ((40 + i) - 1).toNat 0).toNat : Nat) : Int), .ref 66]) (h_q := h) (cl_q := 0) (sl_q := 0) rfl ?_
      refine fw_call 205 2 0 [.ref 66, fI ((1 <<< (lr.getD ((40 + i) - 1).toNat 0).toNat : Nat) : Int)] [] rfl rfl rfl (Nat.le_of_ble_eq_true rfl) rfl rfl (fw_rec hl rfl h66 rfl (Nat.le_of_ble_eq_true rfl)) (cr_onFrom (pl := pl) (f := fun j => ((0 :: 0 :: 0 :: 0 :: 0 :: 0 :: 0 :: f 7 :: f 8 :: 0 :: f 10 :: f 11 :: f 12 :: f 13 :: f 14 :: f 15 :: f 16 :: f 17 :: 0 :: 0 :: 0 :: 0 :: 0 :: 0 :: f 24 :: 0 :: 0 :: 0 :: 0 :: 0 :: 0 :: 0 :: f 32 :: f 33 :: 0 :: 0 :: f 36 :: 0 :: 0 :: 0 :: 0 :: 0 :: 0 :: []) : List Int).getD j 0) (s := s) (B := 1 <<< (lr.getD ((40 + i) - 1).toNat 0).toNat) (cn := cn) (go := go) (ch := ch) (gt := gt) (gd := gd) (by omega) (by omega) q2 q3 q4 hB0 h66 h67 n67 h68 n68 h69 n69 h77 n77 h78 n78 hl) ?_
      rintro _ h_352 ⟨w'_352, gt'_352, gd'_352, rfl, e_352_66, e_352_77, m_352_77, e_352_78, m_352_78, F_352⟩
      have k_352 : cL h_352 := F_352.1.trans hl
      have fr_352 := hfr_cb (hfr_refl [66, 77, 78] h) F_352 rfl
      have g_352_67 := (hfr_g F_352 67 rfl).trans h67
      have g_352_68 := (hfr_g F_352 68 rfl).trans h68
      have g_352_69 := (hfr_g F_352 69 rfl).trans h69
      have g_352_70 := (hfr_g F_352 70 rfl).trans h70
      have g_352_91 := (hfr_g F_352 91 rfl).trans h91
      have g_352_66 : cE h_352 66 (.inr (10, (fI pl :: .ref 67 :: .ref 68 :: .ref 69 :: fI ((s : Nat) : Int) :: .ref 70 :: .ref 71 :: fI (f 7) :: fI (f 8) :: .ref 72 :: fI (f 10) :: fI (f 11) :: fI (f 12) :: fJ (f 13) :: fI (f 14) :: fI (f 15) :: fI (f 16) :: fI (f 17) :: .ref 73 :: .ref 74 :: .ref 75 :: .ref 76 :: .ref 77 :: .ref 78 :: fI w'_352 :: .ref 79 :: .ref 80 :: .ref 81 :: .ref 82 :: .ref 83 :: .ref 84 :: .ref 85 :: fJ (f 32) :: fJ (f 33) :: .ref 86 :: .ref 87 :: fI (f 36) :: .ref 88 :: .ref 89 :: .ref 90 :: .ref 91 :: .ref 92 :: .ref 93 :: []))) := e_352_66
      have g_352_77 : cE h_352 77 (.inl (.int, fA gt'_352)) := e_352_77
      have g_352_78 : cE h_352 78 (.inl (.int, fA gd'_352)) := e_352_78
      refine ik_Wk 0 (pc_q := 107) (loc_q := [some (.ref 66), some (fI 1), some (fI i), some (fI fb), some (fI (lr.getD (40 + i).toNat 0)), some (fI ((1 <<< (lr.getD ((40 + i) - 1).toNat 0).toNat : Nat) : Int)), some (fI kb)]) (st_q := [fI ((mj_on (fun x => mx_w cn go ch s x) (pl - 1) (1 <<< (lr.getD ((40 + i) - 1).toNat 0).toNat) : Nat) : Int)]) (h_q := h_352) (cl_q := 0) (sl_q := 0) rfl ?_
      have hB1 := mj_12 (mj_on_lt (W := (fun x => mx_w cn go ch s x)) (pl := pl) q4 (by omega) (1 <<< (lr.getD ((40 + i) - 1).toNat 0).toNat)) (by omega)
      refine ik_Wk 4 (pc_q := 117) (loc_q := [some (.ref 66), some (fI 1), some (fI i), some (fI fb), some (fI (lr.getD (40 + i).toNat 0)), some (fI ((mj_on (fun x => mx_w cn go ch s x) (pl - 1) (1 <<< (lr.getD ((40 + i) - 1).toNat 0).toNat) : Nat) : Int)), some (fI kb)]) (st_q := [fI 1, fI kb]) (h_q := h_352) (cl_q := 0) (sl_q := 0) rfl ?_
      refine fw_ic_ne rfl rfl (by omega) (by omega) (by omega) (by omega) (fun hc18 => ?_) (fun hc18 => ?_)
      · refine ik_Wk 2 (pc_q := 123) (loc_q := [some (.ref 66), some (fI 1), some (fI i), some (fI fb), some (fI (lr.getD (40 + i).toNat 0)), some (fI ((mj_on (fun x => mx_w cn go ch s x) (pl - 1) (1 <<< (lr.getD ((40 + i) - 1).toNat 0).toNat) : Nat) : Int)), some (fI kb)]) (st_q := [fI ((mj_on (fun x => mx_w cn go ch s x) (pl - 1) (1 <<< (lr.getD ((40 + i) - 1).toNat 0).toNat) : Nat) : Int), .ref 66]) (h_q := h_352) (cl_q := 0) (sl_q := 0) rfl ?_
        refine fw_call 205 2 0 [.ref 66, fI ((mj_on (fun x => mx_w cn go ch s x) (pl - 1) (1 <<< (lr.getD ((40 + i) - 1).toNat 0).toNat) : Nat) : Int)] [] rfl rfl rfl (Nat.le_of_ble_eq_true rfl) rfl rfl (fw_rec k_352 rfl g_352_66 rfl (Nat.le_of_ble_eq_true rfl)) (cr_onFrom (pl := pl) (f := fun j => ((0 :: 0 :: 0 :: 0 :: 0 :: 0 :: 0 :: ((f 7)) :: ((f 8)) :: 0 :: ((f 10)) :: ((f 11)) :: ((f 12)) :: ((f 13)) :: ((f 14)) :: ((f 15)) :: ((f 16)) :: ((f 17)) :: 0 :: 0 :: 0 :: 0 :: 0 :: 0 :: w'_352 :: 0 :: 0 :: 0 :: 0 :: 0 :: 0 :: 0 :: ((f 32)) :: ((f 33)) :: 0 :: 0 :: ((f 36)) :: 0 :: 0 :: 0 :: 0 :: 0 :: 0 :: []) : List Int).getD j 0) (s := s) (B := mj_on (fun x => mx_w cn go ch s x) (pl - 1) (1 <<< (lr.getD ((40 + i) - 1).toNat 0).toNat)) (cn := cn) (go := go) (ch := ch) (gt := gt'_352) (gd := gd'_352) (by omega) (by omega) q2 q3 q4 hB1 g_352_66 g_352_67 n67 g_352_68 n68 g_352_69 n69 g_352_77 m_352_77 g_352_78 m_352_78 k_352) ?_
        rintro _ h_353 ⟨w'_353, gt'_353, gd'_353, rfl, e_353_66, e_353_77, m_353_77, e_353_78, m_353_78, F_353⟩
        have k_353 : cL h_353 := F_353.1.trans k_352
        have fr_353 := hfr_cb fr_352 F_353 rfl
        have g_353_67 := (hfr_g F_353 67 rfl).trans g_352_67
        have g_353_68 := (hfr_g F_353 68 rfl).trans g_352_68
        have g_353_69 := (hfr_g F_353 69 rfl).trans g_352_69
        have g_353_70 := (hfr_g F_353 70 rfl).trans g_352_70
        have g_353_91 := (hfr_g F_353 91 rfl).trans g_352_91
        have g_353_66 : cE h_353 66 (.inr (10, (fI pl :: .ref 67 :: .ref 68 :: .ref 69 :: fI ((s : Nat) : Int) :: .ref 70 :: .ref 71 :: fI (f 7) :: fI (f 8) :: .ref 72 :: fI (f 10) :: fI (f 11) :: fI (f 12) :: fJ (f 13) :: fI (f 14) :: fI (f 15) :: fI (f 16) :: fI (f 17) :: .ref 73 :: .ref 74 :: .ref 75 :: .ref 76 :: .ref 77 :: .ref 78 :: fI w'_353 :: .ref 79 :: .ref 80 :: .ref 81 :: .ref 82 :: .ref 83 :: .ref 84 :: .ref 85 :: fJ (f 32) :: fJ (f 33) :: .ref 86 :: .ref 87 :: fI (f 36) :: .ref 88 :: .ref 89 :: .ref 90 :: .ref 91 :: .ref 92 :: .ref 93 :: []))) := e_353_66
        have g_353_77 : cE h_353 77 (.inl (.int, fA gt'_353)) := e_353_77
        have g_353_78 : cE h_353 78 (.inl (.int, fA gd'_353)) := e_353_78
        refine ik_Wk 0 (pc_q := 126) (loc_q := [some (.ref 66), some (fI 1), some (fI i), some (fI fb), some (fI (lr.getD (40 + i).toNat 0)), some (fI ((mj_on (fun x => mx_w cn go ch s x) (pl - 1) (1 <<< (lr.getD ((40 + i) - 1).toNat 0).toNat) : Nat) : Int)), some (fI kb)]) (st_q := [fI ((mj_on (fun x => mx_w cn go ch s x) (pl - 1) (mj_on (fun x => mx_w cn go ch s x) (pl - 1) (1 <<< (lr.getD ((40 + i) - 1).toNat 0).toNat)) : Nat) : Int)]) (h_q := h_353) (cl_q := 0) (sl_q := 0) rfl ?_
        have hB2 := mj_12 (mj_on_lt (W := (fun x => mx_w cn go ch s x)) (pl := pl) q4 (by omega) (mj_on (fun x => mx_w cn go ch s x) (pl - 1) (1 <<< (lr.getD ((40 + i) - 1).toNat 0).toNat))) (by omega)
        refine ik_Wk 4 (pc_q := 137) (loc_q := [some (.ref 66), some (fI 1), some (fI i), some (fI fb), some (fI (lr.getD (40 + i).toNat 0)), some (fI ((mj_on (fun x => mx_w cn go ch s x) (pl - 1) (mj_on (fun x => mx_w cn go ch s x) (pl - 1) (1 <<< (lr.getD ((40 + i) - 1).toNat 0).toNat)) : Nat) : Int)), some (fI kb)]) (st_q := [fI (lr.getD (40 + i).toNat 0), fI ((mj_on (fun x => mx_w cn go ch s x) (pl - 1) (mj_on (fun x => mx_w cn go ch s x) (pl - 1) (1 <<< (lr.getD ((40 + i) - 1).toNat 0).toNat)) : Nat) : Int)]) (h_q := h_353) (cl_q := 0) (sl_q := 0) rfl ?_
        refine ik_Wc 128 2 3 [fI ((mj_on (fun x => mx_w cn go ch s x) (pl - 1) (mj_on (fun x => mx_w cn go ch s x) (pl - 1) (1 <<< (lr.getD ((40 + i) - 1).toNat 0).toNat)) : Nat) : Int), fI (lr.getD (40 + i).toNat 0)] [] rfl rfl rfl (by decide +kernel) rfl rfl (fw_sta k_353 rfl (by decide +kernel)) ?_
        refine ik_Wk 0 (pc_q := 0) (loc_q := [some (fI ((mj_on (fun x => mx_w cn go ch s x) (pl - 1) (mj_on (fun x => mx_w cn go ch s x) (pl - 1) (1 <<< (lr.getD ((40 + i) - 1).toNat 0).toNat)) : Nat) : Int)), some (fI (lr.getD (40 + i).toNat 0))]) (st_q := []) (h_q := h_353) (cl_q := 0) (sl_q := 0) rfl ?_
        refine ik_Wk 2 (pc_q := 2) (loc_q := [some (fI ((mj_on (fun x => mx_w cn go ch s x) (pl - 1) (mj_on (fun x => mx_w cn go ch s x) (pl - 1) (1 <<< (lr.getD ((40 + i) - 1).toNat 0).toNat)) : Nat) : Int)), some (fI (lr.getD (40 + i).toNat 0))]) (st_q := [fI (lr.getD (40 + i).toNat 0), fI ((mj_on (fun x => mx_w cn go ch s x) (pl - 1) (mj_on (fun x => mx_w cn go ch s x) (pl - 1) (1 <<< (lr.getD ((40 + i) - 1).toNat 0).toNat)) : Nat) : Int)]) (h_q := h_353) (cl_q := 0) (sl_q := 0) rfl ?_
        refine fx_shr (n := mj_on (fun x => mx_w cn go ch s x) (pl - 1) (mj_on (fun x => mx_w cn go ch s x) (pl - 1) (1 <<< (lr.getD ((40 + i) - 1).toNat 0).toNat))) rfl (by omega) (by omega) (by omega) ?_
        refine ik_Wk 1 (pc_q := 4) (loc_q := [some (fI ((mj_on (fun x => mx_w cn go ch s x) (pl - 1) (mj_on (fun x => mx_w cn go ch s x) (pl - 1) (1 <<< (lr.getD ((40 + i) - 1).toNat 0).toNat)) : Nat) : Int)), some (fI (lr.getD (40 + i).toNat 0))]) (st_q := [fI 1, fI (((mj_on (fun x => mx_w cn go ch s x) (pl - 1) (mj_on (fun x => mx_w cn go ch s x) (pl - 1) (1 <<< (lr.getD ((40 + i) - 1).toNat 0).toNat))) >>> (lr.getD (40 + i).toNat 0).toNat : Nat) : Int)]) (h_q := h_353) (cl_q := 0) (sl_q := 0) rfl ?_
        refine fx_bit (n := (mj_on (fun x => mx_w cn go ch s x) (pl - 1) (mj_on (fun x => mx_w cn go ch s x) (pl - 1) (1 <<< (lr.getD ((40 + i) - 1).toNat 0).toNat)))) (k := (lr.getD (40 + i).toNat 0).toNat) rfl (fun hb19 => ?_) (fun hb19 => ?_)
        · refine ik_Wk 0 (pc_q := 5) (loc_q := [some (fI ((mj_on (fun x => mx_w cn go ch s x) (pl - 1) (mj_on (fun x => mx_w cn go ch s x) (pl - 1) (1 <<< (lr.getD ((40 + i) - 1).toNat 0).toNat)) : Nat) : Int)), some (fI (lr.getD (40 + i).toNat 0))]) (st_q := [fI 1]) (h_q := h_353) (cl_q := 0) (sl_q := 0) rfl ?_
          refine ik_Wk 1 (pc_q := 6) (loc_q := [some (fI ((mj_on (fun x => mx_w cn go ch s x) (pl - 1) (mj_on (fun x => mx_w cn go ch s x) (pl - 1) (1 <<< (lr.getD ((40 + i) - 1).toNat 0).toNat)) : Nat) : Int)), some (fI (lr.getD (40 + i).toNat 0))]) (st_q := [fI 1, fI 1]) (h_q := h_353) (cl_q := 0) (sl_q := 0) rfl ?_
          refine fw_ic_ne rfl rfl (by decide +kernel) (by decide +kernel) (by decide +kernel) (by decide +kernel) (fun hc20 => ?_) (fun hc20 => absurd hc20 (by decide +kernel))
          refine ik_Wk 2 (pc_q := 14) (loc_q := [some (fI ((mj_on (fun x => mx_w cn go ch s x) (pl - 1) (mj_on (fun x => mx_w cn go ch s x) (pl - 1) (1 <<< (lr.getD ((40 + i) - 1).toNat 0).toNat)) : Nat) : Int)), some (fI (lr.getD (40 + i).toNat 0))]) (st_q := [fI 1]) (h_q := h_353) (cl_q := 0) (sl_q := 0) rfl ?_
          refine ik_Wret rfl rfl ⟨_, _, rfl, rfl, ?_⟩
          refine ik_Wk 0 (pc_q := 140) (loc_q := [some (.ref 66), some (fI 1), some (fI i), some (fI fb), some (fI (lr.getD (40 + i).toNat 0)), some (fI ((mj_on (fun x => mx_w cn go ch s x) (pl - 1) (mj_on (fun x => mx_w cn go ch s x) (pl - 1) (1 <<< (lr.getD ((40 + i) - 1).toNat 0).toNat)) : Nat) : Int)), some (fI kb)]) (st_q := [fI 1]) (h_q := h_353) (cl_q := 0) (sl_q := 0) rfl ?_
          have et : mx_tm kb (i - fb) = 2 := by unfold mx_tm; (repeat' split) <;> omega
          have hlt : mj_oi (fun x => mx_w cn go ch s x) (pl - 1) 2 (1 <<< (lr.getD (40 + i - 1).toNat 0).toNat) < 2 ^ pl.toNat := mj_oi_lt q4 (by omega) _ _ (mj_shl_lt (by omega))
          have hG : (mj_ok (fun x => mx_w cn go ch s x) pl kb pb fb lr 40) i = true := by
            show (if i < fb then _ else if i = fb then _ else _) = _
            rw [if_neg (by omega), if_neg (by omega), et]
            exact decide_eq_true ⟨by omega, ⟨by omega, mj_tb_lt hlt hb19 (by omega)⟩, hb19⟩
          exact ik_Wret rfl rfl ⟨_, _, rfl, rfl, rfl, rfl, Or.inl ⟨w'_353, gt'_353, gd'_353, rfl, g_353_66, g_353_77, m_353_77, g_353_78, m_353_78, hG, fr_353⟩⟩
        · refine ik_Wk 0 (pc_q := 5) (loc_q := [some (fI ((mj_on (fun x => mx_w cn go ch s x) (pl - 1) (mj_on (fun x => mx_w cn go ch s x) (pl - 1) (1 <<< (lr.getD ((40 + i) - 1).toNat 0).toNat)) : Nat) : Int)), some (fI (lr.getD (40 + i).toNat 0))]) (st_q := [fI 0]) (h_q := h_353) (cl_q := 0) (sl_q := 0) rfl ?_
          refine ik_Wk 1 (pc_q := 6) (loc_q := [some (fI ((mj_on (fun x => mx_w cn go ch s x) (pl - 1) (mj_on (fun x => mx_w cn go ch s x) (pl - 1) (1 <<< (lr.getD ((40 + i) - 1).toNat 0).toNat)) : Nat) : Int)), some (fI (lr.getD (40 + i).toNat 0))]) (st_q := [fI 1, fI 0]) (h_q := h_353) (cl_q := 0) (sl_q := 0) rfl ?_
          refine fw_ic_ne rfl rfl (by decide +kernel) (by decide +kernel) (by decide +kernel) (by decide +kernel) (fun hc21 => absurd hc21 (by decide +kernel)) (fun hc21 => ?_)
          refine ik_Wk 1 (pc_q := 14) (loc_q := [some (fI ((mj_on (fun x => mx_w cn go ch s x) (pl - 1) (mj_on (fun x => mx_w cn go ch s x) (pl - 1) (1 <<< (lr.getD ((40 + i) - 1).toNat 0).toNat)) : Nat) : Int)), some (fI (lr.getD (40 + i).toNat 0))]) (st_q := [fI 0]) (h_q := h_353) (cl_q := 0) (sl_q := 0) rfl ?_
          refine ik_Wret rfl rfl ⟨_, _, rfl, rfl, ?_⟩
          refine ik_Wk 0 (pc_q := 140) (loc_q := [some (.ref 66), some (fI 1), some (fI i), some (fI fb), some (fI (lr.getD (40 + i).toNat 0)), some (fI ((mj_on (fun x => mx_w cn go ch s x) (pl - 1) (mj_on (fun x => mx_w cn go ch s x) (pl - 1) (1 <<< (lr.getD ((40 + i) - 1).toNat 0).toNat)) : Nat) : Int)), some (fI kb)]) (st_q := [fI 0]) (h_q := h_353) (cl_q := 0) (sl_q := 0) rfl ?_
          have et : mx_tm kb (i - fb) = 2 := by unfold mx_tm; (repeat' split) <;> omega
          have hlt : mj_oi (fun x => mx_w cn go ch s x) (pl - 1) 2 (1 <<< (lr.getD (40 + i - 1).toNat 0).toNat) < 2 ^ pl.toNat := mj_oi_lt q4 (by omega) _ _ (mj_shl_lt (by omega))
          have hG : (mj_ok (fun x => mx_w cn go ch s x) pl kb pb fb lr 40) i = false := by
            show (if i < fb then _ else if i = fb then _ else _) = _
            rw [if_neg (by omega), if_neg (by omega), et]
            exact decide_eq_false (fun w => absurd (w.2.2.symm.trans hb19) (by decide +kernel))
          exact ik_Wret rfl rfl ⟨_, _, rfl, rfl, rfl, rfl, Or.inr ⟨w'_353, gt'_353, gd'_353, rfl, g_353_66, g_353_77, m_353_77, g_353_78, m_353_78, hG, fr_353⟩⟩
      · refine ik_Wk 4 (pc_q := 137) (loc_q := [some (.ref 66), some (fI 1), some (fI i), some (fI fb), some (fI (lr.getD (40 + i).toNat 0)), some (fI ((mj_on (fun x => mx_w cn go ch s x) (pl - 1) (1 <<< (lr.getD ((40 + i) - 1).toNat 0).toNat) : Nat) : Int)), some (fI kb)]) (st_q := [fI (lr.getD (40 + i).toNat 0), fI ((mj_on (fun x => mx_w cn go ch s x) (pl - 1) (1 <<< (lr.getD ((40 + i) - 1).toNat 0).toNat) : Nat) : Int)]) (h_q := h_352) (cl_q := 0) (sl_q := 0) rfl ?_
        refine ik_Wc 128 2 3 [fI ((mj_on (fun x => mx_w cn go ch s x) (pl - 1) (1 <<< (lr.getD ((40 + i) - 1).toNat 0).toNat) : Nat) : Int), fI (lr.getD (40 + i).toNat 0)] [] rfl rfl rfl (by decide +kernel) rfl rfl (fw_sta k_352 rfl (by decide +kernel)) ?_
        refine ik_Wk 0 (pc_q := 0) (loc_q := [some (fI ((mj_on (fun x => mx_w cn go ch s x) (pl - 1) (1 <<< (lr.getD ((40 + i) - 1).toNat 0).toNat) : Nat) : Int)), some (fI (lr.getD (40 + i).toNat 0))]) (st_q := []) (h_q := h_352) (cl_q := 0) (sl_q := 0) rfl ?_
        refine ik_Wk 2 (pc_q := 2) (loc_q := [some (fI ((mj_on (fun x => mx_w cn go ch s x) (pl - 1) (1 <<< (lr.getD ((40 + i) - 1).toNat 0).toNat) : Nat) : Int)), some (fI (lr.getD (40 + i).toNat 0))]) (st_q := [fI (lr.getD (40 + i).toNat 0), fI ((mj_on (fun x => mx_w cn go ch s x) (pl - 1) (1 <<< (lr.getD ((40 + i) - 1).toNat 0).toNat) : Nat) : Int)]) (h_q := h_352) (cl_q := 0) (sl_q := 0) rfl ?_
        refine fx_shr (n := mj_on (fun x => mx_w cn go ch s x) (pl - 1) (1 <<< (lr.getD ((40 + i) - 1).toNat 0).toNat)) rfl (by omega) (by omega) (by omega) ?_
        refine ik_Wk 1 (pc_q := 4) (loc_q := [some (fI ((mj_on (fun x => mx_w cn go ch s x) (pl - 1) (1 <<< (lr.getD ((40 + i) - 1).toNat 0).toNat) : Nat) : Int)), some (fI (lr.getD (40 + i).toNat 0))]) (st_q := [fI 1, fI (((mj_on (fun x => mx_w cn go ch s x) (pl - 1) (1 <<< (lr.getD ((40 + i) - 1).toNat 0).toNat)) >>> (lr.getD (40 + i).toNat 0).toNat : Nat) : Int)]) (h_q := h_352) (cl_q := 0) (sl_q := 0) rfl ?_
        refine fx_bit (n := (mj_on (fun x => mx_w cn go ch s x) (pl - 1) (1 <<< (lr.getD ((40 + i) - 1).toNat 0).toNat))) (k := (lr.getD (40 + i).toNat 0).toNat) rfl (fun hb22 => ?_) (fun hb22 => ?_)
        · refine ik_Wk 0 (pc_q := 5) (loc_q := [some (fI ((mj_on (fun x => mx_w cn go ch s x) (pl - 1) (1 <<< (lr.getD ((40 + i) - 1).toNat 0).toNat) : Nat) : Int)), some (fI (lr.getD (40 + i).toNat 0))]) (st_q := [fI 1]) (h_q := h_352) (cl_q := 0) (sl_q := 0) rfl ?_
          refine ik_Wk 1 (pc_q := 6) (loc_q := [some (fI ((mj_on (fun x => mx_w cn go ch s x) (pl - 1) (1 <<< (lr.getD ((40 + i) - 1).toNat 0).toNat) : Nat) : Int)), some (fI (lr.getD (40 + i).toNat 0))]) (st_q := [fI 1, fI 1]) (h_q := h_352) (cl_q := 0) (sl_q := 0) rfl ?_
          refine fw_ic_ne rfl rfl (by decide +kernel) (by decide +kernel) (by decide +kernel) (by decide +kernel) (fun hc23 => ?_) (fun hc23 => absurd hc23 (by decide +kernel))
          refine ik_Wk 2 (pc_q := 14) (loc_q := [some (fI ((mj_on (fun x => mx_w cn go ch s x) (pl - 1) (1 <<< (lr.getD ((40 + i) - 1).toNat 0).toNat) : Nat) : Int)), some (fI (lr.getD (40 + i).toNat 0))]) (st_q := [fI 1]) (h_q := h_352) (cl_q := 0) (sl_q := 0) rfl ?_
          refine ik_Wret rfl rfl ⟨_, _, rfl, rfl, ?_⟩
          refine ik_Wk 0 (pc_q := 140) (loc_q := [some (.ref 66), some (fI 1), some (fI i), some (fI fb), some (fI (lr.getD (40 + i).toNat 0)), some (fI ((mj_on (fun x => mx_w cn go ch s x) (pl - 1) (1 <<< (lr.getD ((40 + i) - 1).toNat 0).toNat) : Nat) : Int)), some (fI kb)]) (st_q := [fI 1]) (h_q := h_352) (cl_q := 0) (sl_q := 0) rfl ?_
          have et : mx_tm kb (i - fb) = 1 := by unfold mx_tm; (repeat' split) <;> omega
          have hlt : mj_oi (fun x => mx_w cn go ch s x) (pl - 1) 1 (1 <<< (lr.getD (40 + i - 1).toNat 0).toNat) < 2 ^ pl.toNat := mj_oi_lt q4 (by omega) _ _ (mj_shl_lt (by omega))
          have hG : (mj_ok (fun x => mx_w cn go ch s x) pl kb pb fb lr 40) i = true := by
            show (if i < fb then _ else if i = fb then _ else _) = _
            rw [if_neg (by omega), if_neg (by omega), et]
            exact decide_eq_true ⟨by omega, ⟨by omega, mj_tb_lt hlt hb22 (by omega)⟩, hb22⟩
          exact ik_Wret rfl rfl ⟨_, _, rfl, rfl, rfl, rfl, Or.inl ⟨w'_352, gt'_352, gd'_352, rfl, g_352_66, g_352_77, m_352_77, g_352_78, m_352_78, hG, fr_352⟩⟩
        · refine ik_Wk 0 (pc_q := 5) (loc_q := [some (fI ((mj_on (fun x => mx_w cn go ch s x) (pl - 1) (1 <<< (lr.getD ((40 + i) - 1).toNat 0).toNat) : Nat) : Int)), some (fI (lr.getD (40 + i).toNat 0))]) (st_q := [fI 0]) (h_q := h_352) (cl_q := 0) (sl_q := 0) rfl ?_
          refine ik_Wk 1 (pc_q := 6) (loc_q := [some (fI ((mj_on (fun x => mx_w cn go ch s x) (pl - 1) (1 <<< (lr.getD ((40 + i) - 1).toNat 0).toNat) : Nat) : Int)), some (fI (lr.getD (40 + i).toNat 0))]) (st_q := [fI 1, fI 0]) (h_q := h_352) (cl_q := 0) (sl_q := 0) rfl ?_
          refine fw_ic_ne rfl rfl (by decide +kernel) (by decide +kernel) (by decide +kernel) (by decide +kernel) (fun hc24 => absurd hc24 (by decide +kernel)) (fun hc24 => ?_)
          refine ik_Wk 1 (pc_q := 14) (loc_q := [some (fI ((mj_on (fun x => mx_w cn go ch s x) (pl - 1) (1 <<< (lr.getD ((40 + i) - 1).toNat 0).toNat) : Nat) : Int)), some (fI (lr.getD (40 + i).toNat 0))]) (st_q := [fI 0]) (h_q := h_352) (cl_q := 0) (sl_q := 0) rfl ?_
          refine ik_Wret rfl rfl ⟨_, _, rfl, rfl, ?_⟩
          refine ik_Wk 0 (pc_q := 140) (loc_q := [some (.ref 66), some (fI 1), some (fI i), some (fI fb), some (fI (lr.getD (40 + i).toNat 0)), some (fI ((mj_on (fun x => mx_w cn go ch s x) (pl - 1) (1 <<< (lr.getD ((40 + i) - 1).toNat 0).toNat) : Nat) : Int)), some (fI kb)]) (st_q := [fI 0]) (h_q := h_352) (cl_q := 0) (sl_q := 0) rfl ?_
          have et : mx_tm kb (i - fb) = 1 := by unfold mx_tm; (repeat' split) <;> omega
          have hlt : mj_oi (fun x => mx_w cn go ch s x) (pl - 1) 1 (1 <<< (lr.getD (40 + i - 1).toNat 0).toNat) < 2 ^ pl.toNat := mj_oi_lt q4 (by omega) _ _ (mj_shl_lt (by omega))
          have hG : (mj_ok (fun x => mx_w cn go ch s x) pl kb pb fb lr 40) i = false := by
            show (if i < fb then _ else if i = fb then _ else _) = _
            rw [if_neg (by omega), if_neg (by omega), et]
            exact decide_eq_false (fun w => absurd (w.2.2.symm.trans hb22) (by decide +kernel))
          exact ik_Wret rfl rfl ⟨_, _, rfl, rfl, rfl, rfl, Or.inr ⟨w'_352, gt'_352, gd'_352, rfl, g_352_66, g_352_77, m_352_77, g_352_78, m_352_78, hG, fr_352⟩⟩
  · refine ik_Wk 3 (pc_q := 33) (loc_q := [some (.ref 66), some (fI 1), some (fI i), some (fI fb), some (fI (lr.getD (40 + i).toNat 0)), none, none]) (st_q := [fI fb, fI i, fI (lr.getD (40 + i).toNat 0)]) (h_q := h) (cl_q := 0) (sl_q := 0) rfl ?_
    refine fw_ic_ge rfl rfl (by omega) (by omega) (by omega) (by omega) (fun hc25 => ?_) (fun hc25 => ?_)
    · refine ik_Wk 1 (pc_q := 42) (loc_q := [some (.ref 66), some (fI 1), some (fI i), some (fI fb), some (fI (lr.getD (40 + i).toNat 0)), none, none]) (st_q := [.ref 66, fI (lr.getD (40 + i).toNat 0)]) (h_q := h) (cl_q := 0) (sl_q := 0) rfl ?_
      refine fw_gf rfl rfl h66 rfl ?_
      refine ik_Wk 2 (pc_q := 47) (loc_q := [some (.ref 66), some (fI 1), some (fI i), some (fI fb), some (fI (lr.getD (40 + i).toNat 0)), none, none]) (st_q := [fI 1, fI 3, .ref 70, fI (lr.getD (40 + i).toNat 0)]) (h_q := h) (cl_q := 0) (sl_q := 0) rfl ?_
      refine fw_mul rfl ?_
      refine ik_Wk 1 (pc_q := 49) (loc_q := [some (.ref 66), some (fI 1), some (fI i), some (fI fb), some (fI (lr.getD (40 + i).toNat 0)), none, none]) (st_q := [fI 1, fI 3, .ref 70, fI (lr.getD (40 + i).toNat 0)]) (h_q := h) (cl_q := 0) (sl_q := 0) rfl ?_
      refine fw_add rfl ?_
      refine fw_ial (z := 4) rfl h70 (by decide +kernel) (Nat.le_of_ble_eq_true rfl) (by decide +kernel) ?_
      refine ik_Wk 0 (pc_q := 51) (loc_q := [some (.ref 66), some (fI 1), some (fI i), some (fI fb), some (fI (lr.getD (40 + i).toNat 0)), none, none]) (st_q := [fI pb, fI (lr.getD (40 + i).toNat 0)]) (h_q := h) (cl_q := 0) (sl_q := 0) rfl ?_
      refine fw_ic_ne rfl rfl (by omega) (by omega) (by omega) (by omega) (fun hc26 => ?_) (fun hc26 => ?_)
      · refine ik_Wk 2 (pc_q := 59) (loc_q := [some (.ref 66), some (fI 1), some (fI i), some (fI fb), some (fI (lr.getD (40 + i).toNat 0)), none, none]) (st_q := [fI 1]) (h_q := h) (cl_q := 0) (sl_q := 0) rfl ?_
        have hG : (mj_ok (fun x => mx_w cn go ch s x) pl kb pb fb lr 40) i = true := by
          show (if i < fb then _ else if i = fb then _ else _) = _
          split
          · exact decide_eq_true (by omega)
          · first | exact decide_eq_true (by omega) | (rw [if_pos (by omega)]; exact decide_eq_true (by omega))
        exact ik_Wret rfl rfl ⟨_, _, rfl, rfl, rfl, rfl, Or.inl ⟨(f 24), gt, gd, rfl, h66, h77, n77, h78, n78, hG, (hfr_refl [66, 77, 78] h)⟩⟩
      · refine ik_Wk 1 (pc_q := 59) (loc_q := [some (.ref 66), some (fI 1), some (fI i), some (fI fb), some (fI (lr.getD (40 + i).toNat 0)), none, none]) (st_q := [fI 0]) (h_q := h) (cl_q := 0) (sl_q := 0) rfl ?_
        have hG : (mj_ok (fun x => mx_w cn go ch s x) pl kb pb fb lr 40) i = false := by
          show (if i < fb then _ else if i = fb then _ else _) = _
          split
          · exact decide_eq_false (by omega)
          · first | exact decide_eq_false (by omega) | (rw [if_pos (by omega)]; exact decide_eq_false (by omega))
        exact ik_Wret rfl rfl ⟨_, _, rfl, rfl, rfl, rfl, Or.inr ⟨(f 24), gt, gd, rfl, h66, h77, n77, h78, n78, hG, (hfr_refl [66, 77, 78] h)⟩⟩
    · refine fw_bi rfl (by decide +kernel) ?_
      refine ik_Wk 1 (pc_q := 51) (loc_q := [some (.ref 66), some (fI 1), some (fI i), some (fI fb), some (fI (lr.getD (40 + i).toNat 0)), none, none]) (st_q := [fI 12, fI (lr.getD (40 + i).toNat 0)]) (h_q := h) (cl_q := 0) (sl_q := 0) rfl ?_
      refine fw_ic_ne rfl rfl (by omega) (by omega) (by omega) (by omega) (fun hc27 => ?_) (fun hc27 => ?_)
      · refine ik_Wk 2 (pc_q := 59) (loc_q := [some (.ref 66), some (fI 1), some (fI i), some (fI fb), some (fI (lr.getD (40 + i).toNat 0)), none, none]) (st_q := [fI 1]) (h_q := h) (cl_q := 0) (sl_q := 0) rfl ?_
        have hG : (mj_ok (fun x => mx_w cn go ch s x) pl kb pb fb lr 40) i = true := by
          show (if i < fb then _ else if i = fb then _ else _) = _
          split
          · exact decide_eq_true (by omega)
          · first | exact decide_eq_true (by omega) | (rw [if_pos (by omega)]; exact decide_eq_true (by omega))
        exact ik_Wret rfl rfl ⟨_, _, rfl, rfl, rfl, rfl, Or.inl ⟨(f 24), gt, gd, rfl, h66, h77, n77, h78, n78, hG, (hfr_refl [66, 77, 78] h)⟩⟩
      · refine ik_Wk 1 (pc_q := 59) (loc_q := [some (.ref 66), some (fI 1), some (fI i), some (fI fb), some (fI (lr.getD (40 + i).toNat 0)), none, none]) (st_q := [fI 0]) (h_q := h) (cl_q := 0) (sl_q := 0) rfl ?_
        have hG : (mj_ok (fun x => mx_w cn go ch s x) pl kb pb fb lr 40) i = false := by
          show (if i < fb then _ else if i = fb then _ else _) = _
          split
          · exact decide_eq_false (by omega)
          · first | exact decide_eq_false (by omega) | (rw [if_pos (by omega)]; exact decide_eq_false (by omega))
        exact ik_Wret rfl rfl ⟨_, _, rfl, rfl, rfl, rfl, Or.inr ⟨(f 24), gt, gd, rfl, h66, h77, n77, h78, n78, hG, (hfr_refl [66, 77, 78] h)⟩⟩

theorem rp_judge1L {h : List ik_E} {pl : Int} {f : Nat → Int} {s : Nat} {cn : List Int} {go : List Int} {ch : List Int} {gt : List Int} {gd : List Int} {ka : Int} {pa : Int} {fa : Int} {kb : Int} {pb : Int} {fb : Int} {lr : List Int} {n0 : Int} {n1 : Int} (q0 : 0 ≤ pl ∧ pl ≤ 12) (q1 : s < 4096) (q2 : ∀ x : Int, (0 : Int) ≤ x → x < pl - 1 → 0 ≤ cn.getD x.toNat 0 ∧ cn.getD x.toNat 0 ≤ 4) (q3 : ∀ x : Int, (0 : Int) ≤ x → x < pl - 1 → 1 ≤ cn.getD x.toNat 0 ∧ ∀ j : Int, 4 * x ≤ j → j < 4 * x + cn.getD x.toNat 0 → 0 ≤ ch.getD j.toNat 0 ∧ ch.getD j.toNat 0 ≤ 100) (q4 : ∀ x : Int, (0 : Int) ≤ x → x < pl - 1 → mx_ok pl (mx_w cn go ch s x)) (q5 : (0 : Int) ≤ kb ∧ kb ≤ (2 : Int)) (q6 : (0 : Int) ≤ pb ∧ pb ≤ (11 : Int)) (q7 : (0 : Int) ≤ fb ∧ fb ≤ (30 : Int)) (q8 : (0 : Int) ≤ n1 ∧ n1 ≤ (40 : Int)) (q9 : ∀ j : Nat, (j : Int) < n1 → lr.getD (40 + j) 0 = 12 ∨ (0 ≤ lr.getD (40 + j) 0 ∧ lr.getD (40 + j) (0 : Int) < pl))  : ∀ (k : Nat) (i : Int) (w1 : Int) (g1 : List Int) (d1 : List Int) (u : List ik_E) (u66 : cE u 66 (.inr (10, (fI pl :: .ref 67 :: .ref 68 :: .ref 69 :: fI ((s : Nat) : Int) :: .ref 70 :: .ref 71 :: fI (f 7) :: fI (f 8) :: .ref 72 :: fI (f 10) :: fI (f 11) :: fI (f 12) :: fJ (f 13) :: fI (f 14) :: fI (f 15) :: fI (f 16) :: fI (f 17) :: .ref 73 :: .ref 74 :: .ref 75 :: .ref 76 :: .ref 77 :: .ref 78 :: fI w1 :: .ref 79 :: .ref 80 :: .ref 81 :: .ref 82 :: .ref 83 :: .ref 84 :: .ref 85 :: fJ (f 32) :: fJ (f 33) :: .ref 86 :: .ref 87 :: fI (f 36) :: .ref 88 :: .ref 89 :: .ref 90 :: .ref 91 :: .ref 92 :: .ref 93 :: [])))) (u67 : cE u 67 (.inl (.int, fA cn))) (n67 : cn.length = (12 : Nat)) (u68 : cE u 68 (.inl (.int, fA go))) (n68 : go.length = (48 : Nat)) (u69 : cE u 69 (.inl (.int, fA ch))) (n69 : ch.length = (48 : Nat)) (u77 : cE u 77 (.inl (.int, fA g1))) (n77 : g1.length = (5 : Nat)) (u78 : cE u 78 (.inl (.int, fA d1))) (n78 : d1.length = (5 : Nat)) (u70 : cE u 70 (.inl (.int, fA [ka, pa, fa, kb, pb, fb]))) (u91 : cE u 91 (.inl (.int, fA lr))) (n91 : lr.length = (80 : Nat)) (u90 : cE u 90 (.inl (.int, fA [n0, n1]))) (ul : u.length = (94 : Nat)) (F : hfr [66, 77, 78] h u) (hi : (0 : Int) ≤ i ∧ i ≤ n1) (hpv : fb < i → 0 ≤ lr.getD (40 + i - 1).toNat 0 ∧ lr.getD (40 + i - 1).toNat (0 : Int) < pl) (he : mj_fw (mj_ok (fun x => mx_w cn go ch s x) pl kb pb fb lr 40) n1.toNat 0 = mj_fw (mj_ok (fun x => mx_w cn go ch s x) pl kb pb fb lr 40) (n1 - i).toNat i) (hk : n1 - i < (k : Int)), ik_G 207 12 [some (.ref 66), some (fI 1), some (fI i)] [] u (fun rv h_q => ∃ (w' : Int) (gt' : List Int) (gd' : List Int), rv = [fI (mj_fw (mj_ok (fun x => mx_w cn go ch s x) pl kb pb fb lr 40) n1.toNat 0)] ∧ cE h_q 66 (.inr (10, (fI pl :: .ref 67 :: .ref 68 :: .ref 69 :: fI ((s : Nat) : Int) :: .ref 70 :: .ref 71 :: fI (f 7) :: fI (f 8) :: .ref 72 :: fI (f 10) :: fI (f 11) :: fI (f 12) :: fJ (f 13) :: fI (f 14) :: fI (f 15) :: fI (f 16) :: fI (f 17) :: .ref 73 :: .ref 74 :: .ref 75 :: .ref 76 :: .ref 77 :: .ref 78 :: fI w' :: .ref 79 :: .ref 80 :: .ref 81 :: .ref 82 :: .ref 83 :: .ref 84 :: .ref 85 :: fJ (f 32) :: fJ (f 33) :: .ref 86 :: .ref 87 :: fI (f 36) :: .ref 88 :: .ref 89 :: .ref 90 :: .ref 91 :: .ref 92 :: .ref 93 :: []))) ∧ cE h_q 77 (.inl (.int, fA gt')) ∧ gt'.length = (5 : Nat) ∧ cE h_q 78 (.inl (.int, fA gd')) ∧ gd'.length = (5 : Nat) ∧ hfr [66, 77, 78] h h_q) := by
  intro k
  induction k with
  | zero => intro i w1 g1 d1 u u66 u67 n67 u68 n68 u69 n69 u77 n77 u78 n78 u70 u91 n91 u90 ul F hi hpv he hk; omega
  | succ k ih =>
    intro i w1 g1 d1 u u66 u67 n67 u68 n68 u69 n69 u77 n77 u78 n78 u70 u91 n91 u90 ul F hi hpv he hk
    refine ik_Wk 2 (pc_q := 14) (loc_q := [some (.ref 66), some (fI 1), some (fI i)]) (st_q := [.ref 66, fI i]) (h_q := u) (cl_q := 0) (sl_q := 0) rfl ?_
    refine fw_gf rfl rfl u66 rfl ?_
    refine ik_Wk 1 (pc_q := 18) (loc_q := [some (.ref 66), some (fI 1), some (fI i)]) (st_q := [fI 1, .ref 90, fI i]) (h_q := u) (cl_q := 0) (sl_q := 0) rfl ?_
    refine fw_ial (z := 1) rfl u90 (by decide +kernel) (Nat.le_of_ble_eq_true rfl) (by decide +kernel) ?_
    refine ik_Wk 0 (pc_q := 19) (loc_q := [some (.ref 66), some (fI 1), some (fI i)]) (st_q := [fI n1, fI i]) (h_q := u) (cl_q := 0) (sl_q := 0) rfl ?_
    refine fw_ic_ge rfl rfl (by omega) (by omega) (by omega) (by omega) (fun hc1 => ?_) (fun hc1 => ?_)
    · refine ik_Wk 1 (pc_q := 40) (loc_q := [some (.ref 66), some (fI 1), some (fI i)]) (st_q := [fI (-1)]) (h_q := u) (cl_q := 0) (sl_q := 0) rfl ?_
      rw [show (n1 - i).toNat = 0 by omega] at he
      exact ik_Wret rfl rfl ⟨_, _, rfl, rfl, rfl, rfl, ⟨w1, g1, d1, (congrArg (fun z => [fI z]) he.symm), u66, u77, n77, u78, n78, F⟩⟩
    · refine ik_Wk 3 (pc_q := 25) (loc_q := [some (.ref 66), some (fI 1), some (fI i)]) (st_q := [fI i, fI 1, .ref 66]) (h_q := u) (cl_q := 0) (sl_q := 0) rfl ?_
      have hent : lr.getD (40 + i).toNat 0 = 12 ∨ (0 ≤ lr.getD (40 + i).toNat 0 ∧ lr.getD (40 + i).toNat 0 < pl) := by
        have z := q9 i.toNat (by omega)
        rw [show 40 + i.toNat = (40 + i).toNat by omega] at z
        exact z
      refine fw_call 206 3 0 [.ref 66, fI 1, fI i] [] rfl rfl rfl (Nat.le_of_ble_eq_true rfl) rfl rfl (fw_rec ul rfl u66 rfl (Nat.le_of_ble_eq_true rfl)) (cr_mayBe1 (pl := pl) (f := fun j => ((0 :: 0 :: 0 :: 0 :: 0 :: 0 :: 0 :: f 7 :: f 8 :: 0 :: f 10 :: f 11 :: f 12 :: f 13 :: f 14 :: f 15 :: f 16 :: f 17 :: 0 :: 0 :: 0 :: 0 :: 0 :: 0 :: w1 :: 0 :: 0 :: 0 :: 0 :: 0 :: 0 :: 0 :: f 32 :: f 33 :: 0 :: 0 :: f 36 :: 0 :: 0 :: 0 :: 0 :: 0 :: 0 :: []) : List Int).getD j 0) (s := s) (cn := cn) (go := go) (ch := ch) (gt := g1) (gd := d1) (ka := ka) (pa := pa) (fa := fa) (kb := kb) (pb := pb) (fb := fb) (lr := lr) (i := i) (by omega) (by omega) q2 q3 q4 (by omega) (by omega) (by omega) (by omega) hent hpv u66 u67 n67 u68 n68 u69 n69 u77 n77 u78 n78 u70 u91 n91 ul) ?_
      rintro _ h_354 (⟨w'_354, gt'_354, gd'_354, rfl, e_354_66, e_354_77, m_354_77, e_354_78, m_354_78, p_354_0, F_354⟩ | ⟨w'_354, gt'_354, gd'_354, rfl, e_354_66, e_354_77, m_354_77, e_354_78, m_354_78, p_354_0, F_354⟩)
      · have k_354 : cL h_354 := F_354.1.trans ul
        have fr_354 := hfr_cb F F_354 rfl
        have g_354_67 := (hfr_g F_354 67 rfl).trans u67
        have g_354_68 := (hfr_g F_354 68 rfl).trans u68
        have g_354_69 := (hfr_g F_354 69 rfl).trans u69
        have g_354_70 := (hfr_g F_354 70 rfl).trans u70
        have g_354_91 := (hfr_g F_354 91 rfl).trans u91
        have g_354_90 := (hfr_g F_354 90 rfl).trans u90
        have g_354_66 : cE h_354 66 (.inr (10, (fI pl :: .ref 67 :: .ref 68 :: .ref 69 :: fI ((s : Nat) : Int) :: .ref 70 :: .ref 71 :: fI (f 7) :: fI (f 8) :: .ref 72 :: fI (f 10) :: fI (f 11) :: fI (f 12) :: fJ (f 13) :: fI (f 14) :: fI (f 15) :: fI (f 16) :: fI (f 17) :: .ref 73 :: .ref 74 :: .ref 75 :: .ref 76 :: .ref 77 :: .ref 78 :: fI w'_354 :: .ref 79 :: .ref 80 :: .ref 81 :: .ref 82 :: .ref 83 :: .ref 84 :: .ref 85 :: fJ (f 32) :: fJ (f 33) :: .ref 86 :: .ref 87 :: fI (f 36) :: .ref 88 :: .ref 89 :: .ref 90 :: .ref 91 :: .ref 92 :: .ref 93 :: []))) := e_354_66
        have g_354_77 : cE h_354 77 (.inl (.int, fA gt'_354)) := e_354_77
        have g_354_78 : cE h_354 78 (.inl (.int, fA gd'_354)) := e_354_78
        refine ik_Wk 0 (pc_q := 28) (loc_q := [some (.ref 66), some (fI 1), some (fI i)]) (st_q := [fI 1]) (h_q := h_354) (cl_q := 0) (sl_q := 0) rfl ?_
        refine fw_if_ne rfl rfl (by decide +kernel) (by decide +kernel) (fun hc2 => absurd hc2 (by decide +kernel)) (fun hc2 => ?_)
        refine fw_inc (a := i) (loc_q := [some (.ref 66), some (fI 1), some (fI (i + 1))]) rfl rfl (Nat.le_of_ble_eq_true rfl) rfl ?_
        refine ik_Wk 1 (pc_q := 12) (loc_q := [some (.ref 66), some (fI 1), some (fI (i + 1))]) (st_q := []) (h_q := h_354) (cl_q := 0) (sl_q := 0) rfl ?_
        exact ih  (i + 1) w'_354 gt'_354 gd'_354 h_354 g_354_66 g_354_67 n67 g_354_68 n68 g_354_69 n69 g_354_77 m_354_77 g_354_78 m_354_78 g_354_70 g_354_91 n91 g_354_90 k_354 fr_354 (by omega) (fun z => by rw [show 40 + (i + 1) - 1 = 40 + i by omega]; exact mj_ok_pl p_354_0 (by omega) q6 hent) (by rw [he, mj_fw_s (by omega), p_354_0, if_pos rfl]) (by omega)
      · have k_354 : cL h_354 := F_354.1.trans ul
        have fr_354 := hfr_cb F F_354 rfl
        have g_354_67 := (hfr_g F_354 67 rfl).trans u67
        have g_354_68 := (hfr_g F_354 68 rfl).trans u68
        have g_354_69 := (hfr_g F_354 69 rfl).trans u69
        have g_354_70 := (hfr_g F_354 70 rfl).trans u70
        have g_354_91 := (hfr_g F_354 91 rfl).trans u91
        have g_354_90 := (hfr_g F_354 90 rfl).trans u90
        have g_354_66 : cE h_354 66 (.inr (10, (fI pl :: .ref 67 :: .ref 68 :: .ref 69 :: fI ((s : Nat) : Int) :: .ref 70 :: .ref 71 :: fI (f 7) :: fI (f 8) :: .ref 72 :: fI (f 10) :: fI (f 11) :: fI (f 12) :: fJ (f 13) :: fI (f 14) :: fI (f 15) :: fI (f 16) :: fI (f 17) :: .ref 73 :: .ref 74 :: .ref 75 :: .ref 76 :: .ref 77 :: .ref 78 :: fI w'_354 :: .ref 79 :: .ref 80 :: .ref 81 :: .ref 82 :: .ref 83 :: .ref 84 :: .ref 85 :: fJ (f 32) :: fJ (f 33) :: .ref 86 :: .ref 87 :: fI (f 36) :: .ref 88 :: .ref 89 :: .ref 90 :: .ref 91 :: .ref 92 :: .ref 93 :: []))) := e_354_66
        have g_354_77 : cE h_354 77 (.inl (.int, fA gt'_354)) := e_354_77
        have g_354_78 : cE h_354 78 (.inl (.int, fA gd'_354)) := e_354_78
        refine ik_Wk 0 (pc_q := 28) (loc_q := [some (.ref 66), some (fI 1), some (fI i)]) (st_q := [fI 0]) (h_q := h_354) (cl_q := 0) (sl_q := 0) rfl ?_
        refine fw_if_ne rfl rfl (by decide +kernel) (by decide +kernel) (fun hc3 => ?_) (fun hc3 => absurd hc3 (by decide +kernel))
        refine ik_Wk 1 (pc_q := 32) (loc_q := [some (.ref 66), some (fI 1), some (fI i)]) (st_q := [fI i]) (h_q := h_354) (cl_q := 0) (sl_q := 0) rfl ?_
        exact ik_Wret rfl rfl ⟨_, _, rfl, rfl, rfl, rfl, ⟨w'_354, gt'_354, gd'_354, (congrArg (fun z => [fI z]) (by rw [he, mj_fw_s (by omega), p_354_0, if_neg (by decide +kernel)])), g_354_66, g_354_77, m_354_77, g_354_78, m_354_78, fr_354⟩⟩

theorem rp_judge1 {h : List ik_E} {pl : Int} {f : Nat → Int} {s : Nat} {cn : List Int} {go : List Int} {ch : List Int} {gt : List Int} {gd : List Int} {ka : Int} {pa : Int} {fa : Int} {kb : Int} {pb : Int} {fb : Int} {lr : List Int} {n0 : Int} {n1 : Int} (q0 : 0 ≤ pl ∧ pl ≤ 12) (q1 : s < 4096) (q2 : ∀ x : Int, (0 : Int) ≤ x → x < pl - 1 → 0 ≤ cn.getD x.toNat 0 ∧ cn.getD x.toNat 0 ≤ 4) (q3 : ∀ x : Int, (0 : Int) ≤ x → x < pl - 1 → 1 ≤ cn.getD x.toNat 0 ∧ ∀ j : Int, 4 * x ≤ j → j < 4 * x + cn.getD x.toNat 0 → 0 ≤ ch.getD j.toNat 0 ∧ ch.getD j.toNat 0 ≤ 100) (q4 : ∀ x : Int, (0 : Int) ≤ x → x < pl - 1 → mx_ok pl (mx_w cn go ch s x)) (q5 : (0 : Int) ≤ kb ∧ kb ≤ (2 : Int)) (q6 : (0 : Int) ≤ pb ∧ pb ≤ (11 : Int)) (q7 : (0 : Int) ≤ fb ∧ fb ≤ (30 : Int)) (q8 : (0 : Int) ≤ n1 ∧ n1 ≤ (40 : Int)) (q9 : ∀ j : Nat, (j : Int) < n1 → lr.getD (40 + j) 0 = 12 ∨ (0 ≤ lr.getD (40 + j) 0 ∧ lr.getD (40 + j) (0 : Int) < pl)) (h66 : cE h 66 (.inr (10, (fI pl :: .ref 67 :: .ref 68 :: .ref 69 :: fI ((s : Nat) : Int) :: .ref 70 :: .ref 71 :: fI (f 7) :: fI (f 8) :: .ref 72 :: fI (f 10) :: fI (f 11) :: fI (f 12) :: fJ (f 13) :: fI (f 14) :: fI (f 15) :: fI (f 16) :: fI (f 17) :: .ref 73 :: .ref 74 :: .ref 75 :: .ref 76 :: .ref 77 :: .ref 78 :: fI (f 24) :: .ref 79 :: .ref 80 :: .ref 81 :: .ref 82 :: .ref 83 :: .ref 84 :: .ref 85 :: fJ (f 32) :: fJ (f 33) :: .ref 86 :: .ref 87 :: fI (f 36) :: .ref 88 :: .ref 89 :: .ref 90 :: .ref 91 :: .ref 92 :: .ref 93 :: [])))) (h67 : cE h 67 (.inl (.int, fA cn))) (n67 : cn.length = (12 : Nat)) (h68 : cE h 68 (.inl (.int, fA go))) (n68 : go.length = (48 : Nat)) (h69 : cE h 69 (.inl (.int, fA ch))) (n69 : ch.length = (48 : Nat)) (h77 : cE h 77 (.inl (.int, fA gt))) (n77 : gt.length = (5 : Nat)) (h78 : cE h 78 (.inl (.int, fA gd))) (n78 : gd.length = (5 : Nat)) (h70 : cE h 70 (.inl (.int, fA [ka, pa, fa, kb, pb, fb]))) (h91 : cE h 91 (.inl (.int, fA lr))) (n91 : lr.length = (80 : Nat)) (h90 : cE h 90 (.inl (.int, fA [n0, n1]))) (hl : h.length = (94 : Nat)) : ik_F 207 [.ref 66, fI 1] h (fun rv h_q => ∃ (w' : Int) (gt' : List Int) (gd' : List Int), rv = [fI (mj_fw (mj_ok (fun x => mx_w cn go ch s x) pl kb pb fb lr 40) n1.toNat 0)] ∧ cE h_q 66 (.inr (10, (fI pl :: .ref 67 :: .ref 68 :: .ref 69 :: fI ((s : Nat) : Int) :: .ref 70 :: .ref 71 :: fI (f 7) :: fI (f 8) :: .ref 72 :: fI (f 10) :: fI (f 11) :: fI (f 12) :: fJ (f 13) :: fI (f 14) :: fI (f 15) :: fI (f 16) :: fI (f 17) :: .ref 73 :: .ref 74 :: .ref 75 :: .ref 76 :: .ref 77 :: .ref 78 :: fI w' :: .ref 79 :: .ref 80 :: .ref 81 :: .ref 82 :: .ref 83 :: .ref 84 :: .ref 85 :: fJ (f 32) :: fJ (f 33) :: .ref 86 :: .ref 87 :: fI (f 36) :: .ref 88 :: .ref 89 :: .ref 90 :: .ref 91 :: .ref 92 :: .ref 93 :: []))) ∧ cE h_q 77 (.inl (.int, fA gt')) ∧ gt'.length = (5 : Nat) ∧ cE h_q 78 (.inl (.int, fA gd')) ∧ gd'.length = (5 : Nat) ∧ hfr [66, 77, 78] h h_q) := by
  refine ik_Wk 1 (pc_q := 1) (loc_q := [some (.ref 66), some (fI 1), none]) (st_q := [fI 1]) (h_q := h) (cl_q := 0) (sl_q := 0) rfl ?_
  refine ik_Wc 132 1 3 [fI 1] [] rfl rfl rfl (by decide +kernel) rfl rfl (fw_sta hl rfl (by decide +kernel)) ?_
  refine ik_Wk 0 (pc_q := 0) (loc_q := [some (fI 1)]) (st_q := []) (h_q := h) (cl_q := 0) (sl_q := 0) rfl ?_
  refine ik_Wk 1 (pc_q := 1) (loc_q := [some (fI 1)]) (st_q := [fI 1]) (h_q := h) (cl_q := 0) (sl_q := 0) rfl ?_
  refine fw_i2l rfl (by omega) (by omega) ?_
  refine fw_lc (z := 0) rfl (by decide +kernel) ?_
  refine fw_lc (z := 1) rfl (by decide +kernel) ?_
  refine fw_call 127 3 3 [fJ 1, fJ 0, fJ 1] [] rfl rfl rfl (Nat.le_of_ble_eq_true rfl) rfl rfl (fw_sta hl rfl (by decide +kernel)) (cr_in (v := 1) (a := 0) (b := 1) (by omega) (by omega) (by omega)  hl) ?_
  rintro _ h_355 (⟨rfl, p_355_0, F_355⟩ | ⟨rfl, p_355_0, F_355⟩)
  · have k_355 : cL h_355 := F_355.1.trans hl
    have fr_355 := hfr_cb (hfr_refl [66, 77, 78] h) F_355 rfl
    have g_355_66 := (hfr_g F_355 66 rfl).trans h66
    have g_355_67 := (hfr_g F_355 67 rfl).trans h67
    have g_355_68 := (hfr_g F_355 68 rfl).trans h68
    have g_355_69 := (hfr_g F_355 69 rfl).trans h69
    have g_355_77 := (hfr_g F_355 77 rfl).trans h77
    have g_355_78 := (hfr_g F_355 78 rfl).trans h78
    have g_355_70 := (hfr_g F_355 70 rfl).trans h70
    have g_355_91 := (hfr_g F_355 91 rfl).trans h91
    have g_355_90 := (hfr_g F_355 90 rfl).trans h90
    refine ik_Wk 0 (pc_q := 7) (loc_q := [some (fI 1)]) (st_q := [fI 1]) (h_q := h_355) (cl_q := 0) (sl_q := 0) rfl ?_
    refine ik_Wret rfl rfl ⟨_, _, rfl, rfl, ?_⟩
    refine ik_Wk 0 (pc_q := 4) (loc_q := [some (.ref 66), some (fI 1), none]) (st_q := [fI 1]) (h_q := h_355) (cl_q := 0) (sl_q := 0) rfl ?_
    refine fw_if_ne rfl rfl (by decide +kernel) (by decide +kernel) (fun hc1 => absurd hc1 (by decide +kernel)) (fun hc1 => ?_)
    refine ik_Wk 2 (pc_q := 12) (loc_q := [some (.ref 66), some (fI 1), some (fI 0)]) (st_q := []) (h_q := h_355) (cl_q := 0) (sl_q := 0) rfl ?_
    exact rp_judge1L (pl := pl) (f := f) (s := s) (cn := cn) (go := go) (ch := ch) (gt := gt) (gd := gd) (ka := ka) (pa := pa) (fa := fa) (kb := kb) (pb := pb) (fb := fb) (lr := lr) (n0 := n0) (n1 := n1) q0 q1 q2 q3 q4 q5 q6 q7 q8 q9  (n1.toNat + 1) 0 (f 24) gt gd h_355 g_355_66 g_355_67 n67 g_355_68 n68 g_355_69 n69 g_355_77 n77 g_355_78 n78 g_355_70 g_355_91 n91 g_355_90 k_355 fr_355 (by omega) (by omega) (by rw [Int.sub_zero]) (by omega)
  · have k_355 : cL h_355 := F_355.1.trans hl
    have fr_355 := hfr_cb (hfr_refl [66, 77, 78] h) F_355 rfl
    have g_355_66 := (hfr_g F_355 66 rfl).trans h66
    have g_355_67 := (hfr_g F_355 67 rfl).trans h67
    have g_355_68 := (hfr_g F_355 68 rfl).trans h68
    have g_355_69 := (hfr_g F_355 69 rfl).trans h69
    have g_355_77 := (hfr_g F_355 77 rfl).trans h77
    have g_355_78 := (hfr_g F_355 78 rfl).trans h78
    have g_355_70 := (hfr_g F_355 70 rfl).trans h70
    have g_355_91 := (hfr_g F_355 91 rfl).trans h91
    have g_355_90 := (hfr_g F_355 90 rfl).trans h90
    refine ik_Wk 0 (pc_q := 7) (loc_q := [some (fI 1)]) (st_q := [fI 0]) (h_q := h_355) (cl_q := 0) (sl_q := 0) rfl ?_
    refine ik_Wret rfl rfl ⟨_, _, rfl, rfl, ?_⟩
    refine ik_Wk 0 (pc_q := 4) (loc_q := [some (.ref 66), some (fI 1), none]) (st_q := [fI 0]) (h_q := h_355) (cl_q := 0) (sl_q := 0) rfl ?_
    refine fw_if_ne rfl rfl (by decide +kernel) (by decide +kernel) (fun hc2 => ?_) (fun hc2 => absurd hc2 (by decide +kernel))
    refine fw_ld (-1000000001) rfl rfl (by decide +kernel) ?_
    omega

end

/-! 38zr.lost -/
noncomputable section
/-! what is lost: findLost (class), lost (reference); what is kept (written by wip/fx/u18.py) -/
def mj_lg (pl : Int) (G : Nat → Nat) : Nat := if pl = 0 then 0 else (1 <<< pl.toNat - 1) ^^^ ((1 <<< pl.toNat - 1) &&& mj_rn G (pl - 1).toNat 12 (1 <<< (pl - 1).toNat))
theorem mj_lost_lg (pl : Int) (cn go : List Int) : mj_lost pl cn go = mj_lg pl (mj_GG cn go) := rfl
theorem mj_rn_12 {G : Nat → Nat} {pl : Int} {x : Nat} (h : 1 ≤ pl ∧ pl ≤ 12) : mj_rn G (pl - 1).toNat pl.toNat x = mj_rn G (pl - 1).toNat 12 x := by
  have a := mj_rn_ge (G := G) (br := (pl - 1).toNat) (x := x) (12 - pl.toNat)
  rw [show (pl - 1).toNat + 1 + (12 - pl.toNat) = 12 by omega, show (pl - 1).toNat + 1 = pl.toNat by omega] at a
  exact a.symm
theorem mj_rd_lt {G : Nat → Nat} {x N : Nat} (hx : x < 2 ^ N) : ∀ p, p ≤ N → mj_rd G p x < 2 ^ N := by
  intro p
  induction p with
  | zero => intro _; exact hx
  | succ p ih =>
    intro h
    show (if G p &&& mj_rd G p x = 0 then mj_rd G p x else mj_rd G p x ||| 1 <<< p) < _
    split
    · exact ih (by omega)
    · exact Nat.or_lt_two_pow (ih (by omega)) (mj_shl_lt (by omega))
theorem mj_rn_lt {G : Nat → Nat} {x br N : Nat} (hb : br ≤ N) (hx : x < 2 ^ N) : ∀ n, mj_rn G br n x < 2 ^ N := by
  intro n
  induction n with
  | zero => exact hx
  | succ n ih => exact mj_rd_lt ih br hb
theorem mj_and_le (a b : Nat) : a &&& b ≤ b := by
  rw [Nat.and_comm]
  exact Nat.and_le_left
theorem mj_lg_lt {pl : Int} {G : Nat → Nat} (h : pl ≤ 12) : mj_lg pl G < 4096 := by
  unfold mj_lg
  split
  · decide
  · have e : 1 <<< pl.toNat - 1 < 2 ^ 12 := by
      have : 1 <<< pl.toNat ≤ 2 ^ 12 := by rw [Nat.shiftLeft_eq, Nat.one_mul]; exact Nat.pow_le_pow_right (by decide +kernel) (by omega)
      omega
    exact Nat.xor_lt_two_pow (n := 12) e (Nat.lt_of_le_of_lt Nat.and_le_left e)
theorem mj_pos (n : Nat) : 1 ≤ 1 <<< n := by
  rw [Nat.shiftLeft_eq, Nat.one_mul]
  exact Nat.one_le_two_pow
/-- a place of a round, by its moves one by one -/
theorem mj_sp_s {a x g p y : Nat} (hy : y = if a &&& x = 0 then x else x ||| 1 <<< p) : (y ||| if y.testBit g then 1 <<< p else 0) = (if (a ||| 1 <<< g) &&& x = 0 then x else x ||| 1 <<< p) ∨ (¬ a &&& x = 0 ∧ (y ||| if y.testBit g then 1 <<< p else 0) = x ||| 1 <<< p) := by
  by_cases h : a &&& x = 0
  · rw [if_pos h] at hy
    subst hy
    left
    cases q : y.testBit g with
    | true => rw [if_pos rfl, if_neg (fun w => by rw [(mj_and_or.mp w).2] at q; cases q)]
    | false => rw [if_neg (by decide +kernel), if_pos (mj_and_or.mpr ⟨h, q⟩), Nat.or_zero]
  · right
    rw [if_neg h] at hy
    refine ⟨h, ?_⟩
    subst hy
    split
    · rw [mj_or_idem]
    · rw [Nat.or_zero]
theorem mj_sp_t {a x g p y : Nat} (hy : y = if a &&& x = 0 then x else x ||| 1 <<< p) : (y ||| if y.testBit g then 1 <<< p else 0) = if (a ||| 1 <<< g) &&& x = 0 then x else x ||| 1 <<< p := by
  rcases mj_sp_s (g := g) hy with h | ⟨h, e⟩
  · exact h
  · rw [e, if_neg (fun w => h (mj_and_or.mp w).1)]
theorem cs_lostP {h : List ik_E} {pl : Int} {lo : Int} {s : Nat} {wg : List Int} {wc : List Int} {we : List Int} {W : Int → List (Int × Int)} (q0 : 0 ≤ pl ∧ pl ≤ 12) (q1 : ∀ x : Int, (0 : Int) ≤ x → x < pl - 1 → mx_wy wg wc we x (W x)) (q2 : ∀ x : Int, (0 : Int) ≤ x → x < pl - 1 → mx_ok pl (W x)) (k0 : Int) (hpl : (1 : Int) ≤ pl) (x0 : Nat) (hx0 : x0 < 2 ^ 12) {R : List Value → List ik_E → Prop} (K : ∀ (w : List ik_E) (p2 : Int) (sv : Nat) (w7 : cE w 7 (.inr (0, [fI pl, fI ((s : Nat) : Int), fI lo, .ref 8, .ref 9, .ref 10, .ref 11, .ref 12, .ref 13]))) (w11 : cE w 11 (.inl (.int, fA wg))) (nw_11 : wg.length = (60 : Nat)) (w12 : cE w 12 (.inl (.int, fA wc))) (nw_12 : wc.length = (60 : Nat)) (w13 : cE w 13 (.inl (.int, fA we))) (nw_13 : we.length = (12 : Nat)) (wl : w.length = (94 : Nat)) (F : hfr [] h w) (hs : sv = mj_rd (fun p => mj_gs (W (p : Nat))) (pl - 1).toNat x0), ik_G 9 58 [some (.ref 7), some (fI ((sv : Nat) : Int)), some (fI k0), some (fI p2)] [] w R) : ∀ (k : Nat) (p : Int) (sv : Nat) (u : List ik_E) (u7 : cE u 7 (.inr (0, [fI pl, fI ((s : Nat) : Int), fI lo, .ref 8, .ref 9, .ref 10, .ref 11, .ref 12, .ref 13]))) (u11 : cE u 11 (.inl (.int, fA wg))) (n11 : wg.length = (60 : Nat)) (u12 : cE u 12 (.inl (.int, fA wc))) (n12 : wc.length = (60 : Nat)) (u13 : cE u 13 (.inl (.int, fA we))) (n13 : we.length = (12 : Nat)) (ul : u.length = (94 : Nat)) (F : hfr [] h u) (hp : 0 ≤ p ∧ p ≤ pl - 1) (hs : sv = mj_rd (fun p => mj_gs (W (p : Nat))) p.toNat x0) (hk : pl - p < (k : Int)), ik_G 9 28 [some (.ref 7), some (fI ((sv : Nat) : Int)), some (fI k0), some (fI p)] [] u R := by
  intro k
  induction k with
  | zero => intro p sv u u7 u11 n11 u12 n12 u13 n13 ul F hp hs hk; omega
  | succ k ih =>
    intro p sv u u7 u11 n11 u12 n12 u13 n13 ul F hp hs hk
    have hsl : sv < 2 ^ 12 := by rw [hs]; exact mj_rd_lt hx0 _ (by omega)
    have hal : mj_gs (W p) &&& sv ≤ sv := mj_and_le _ _
    refine ik_Wk 2 (pc_q := 30) (loc_q := [some (.ref 7), some (fI ((sv : Nat) : Int)), some (fI k0), some (fI p)]) (st_q := [.ref 7, fI p]) (h_q := u) (cl_q := 0) (sl_q := 0) rfl ?_
    refine ik_Wc 2 1 0 [.ref 7] [fI p] rfl rfl rfl (by decide +kernel) rfl rfl (fw_rec ul rfl u7 rfl (Nat.le_of_ble_eq_true rfl)) ?_
    refine ik_Wk 0 (pc_q := 0) (loc_q := [some (.ref 7)]) (st_q := []) (h_q := u) (cl_q := 0) (sl_q := 0) rfl ?_
    refine ik_Wk 1 (pc_q := 1) (loc_q := [some (.ref 7)]) (st_q := [.ref 7]) (h_q := u) (cl_q := 0) (sl_q := 0) rfl ?_
    refine fw_gf rfl rfl u7 rfl ?_
    refine ik_Wk 1 (pc_q := 5) (loc_q := [some (.ref 7)]) (st_q := [fI 1, fI pl]) (h_q := u) (cl_q := 0) (sl_q := 0) rfl ?_
    refine fw_sub rfl ?_
    refine ik_Wret rfl rfl ⟨_, _, rfl, rfl, ?_⟩
    refine ik_Wk 0 (pc_q := 33) (loc_q := [some (.ref 7), some (fI ((sv : Nat) : Int)), some (fI k0), some (fI p)]) (st_q := [fI (pl - 1), fI p]) (h_q := u) (cl_q := 0) (sl_q := 0) rfl ?_
    refine fw_ic_ge rfl rfl (by omega) (by omega) (by omega) (by omega) (fun hc1 => ?_) (fun hc1 => ?_)
    · have ep : p = pl - 1 := by omega
      rw [ep] at hs
      exact K u p sv u7 u11 n11 u12 n12 u13 n13 ul F hs
    · refine ik_Wk 2 (pc_q := 38) (loc_q := [some (.ref 7), some (fI ((sv : Nat) : Int)), some (fI k0), some (fI p)]) (st_q := [fI p, .ref 7]) (h_q := u) (cl_q := 0) (sl_q := 0) rfl ?_
      refine fw_call 10 2 0 [.ref 7, fI p] [] rfl rfl rfl (Nat.le_of_ble_eq_true rfl) rfl rfl (fw_rec ul rfl u7 rfl (Nat.le_of_ble_eq_true rfl)) (cs_goals (p := p) (pl := pl) (lo := lo) (s := s) (wg := wg) (wc := wc) (we := we) (L := (W p)) (by omega) (q1 p (by omega) (by omega)) (q2 p (by omega) (by omega)) (by omega) u7 u11 n11 u12 n12 u13 n13 ul) ?_
      rintro _ h_356 ⟨rfl, F_356⟩
      have k_356 : cL h_356 := F_356.1.trans ul
      have fr_356 := hfr_cb F F_356 rfl
      have g_356_7 := (hfr_g F_356 7 rfl).trans u7
      have g_356_11 := (hfr_g F_356 11 rfl).trans u11
      have g_356_12 := (hfr_g F_356 12 rfl).trans u12
      have g_356_13 := (hfr_g F_356 13 rfl).trans u13
      refine ik_Wk 0 (pc_q := 41) (loc_q := [some (.ref 7), some (fI ((sv : Nat) : Int)), some (fI k0), some (fI p)]) (st_q := [fI ((mj_gs (W p) : Nat) : Int)]) (h_q := h_356) (cl_q := 0) (sl_q := 0) rfl ?_
      refine ik_Wk 1 (pc_q := 42) (loc_q := [some (.ref 7), some (fI ((sv : Nat) : Int)), some (fI k0), some (fI p)]) (st_q := [fI ((sv : Nat) : Int), fI ((mj_gs (W p) : Nat) : Int)]) (h_q := h_356) (cl_q := 0) (sl_q := 0) rfl ?_
      refine fx_and (m := mj_gs (W p)) (n := sv) rfl ?_
      refine fw_if_eq rfl rfl (by omega) (by omega) (fun hc2 => ?_) (fun hc2 => ?_)
      · refine fw_inc (a := p) (loc_q := [some (.ref 7), some (fI ((sv : Nat) : Int)), some (fI k0), some (fI (p + 1))]) rfl rfl (Nat.le_of_ble_eq_true rfl) rfl ?_
        refine ik_Wk 1 (pc_q := 28) (loc_q := [some (.ref 7), some (fI ((sv : Nat) : Int)), some (fI k0), some (fI (p + 1))]) (st_q := []) (h_q := h_356) (cl_q := 0) (sl_q := 0) rfl ?_
        have e1 : mj_rd (fun p => mj_gs (W (p : Nat))) (p + 1).toNat x0 = mj_sp (fun p => mj_gs (W (p : Nat))) (mj_rd (fun p => mj_gs (W (p : Nat))) p.toNat x0) p.toNat := by rw [show (p + 1).toNat = p.toNat + 1 by omega]; rfl
        have e2 : mj_gs (W ((p.toNat : Nat) : Int)) = mj_gs (W p) := by rw [Int.toNat_of_nonneg (by omega)]
        have hs2 : sv = mj_rd (fun p => mj_gs (W (p : Nat))) (p + 1).toNat x0 := by
          rw [e1, ← hs]
          show _ = if mj_gs (W ((p.toNat : Nat) : Int)) &&& sv = 0 then sv else sv ||| 1 <<< p.toNat
          rw [e2, if_pos (by omega)]
        exact ih (p + 1) sv h_356 g_356_7 g_356_11 n11 g_356_12 n12 g_356_13 n13 k_356 fr_356 (by omega) hs2 (by omega)
      · refine ik_Wk 3 (pc_q := 49) (loc_q := [some (.ref 7), some (fI ((sv : Nat) : Int)), some (fI k0), some (fI p)]) (st_q := [fI p, fI 1, fI ((sv : Nat) : Int)]) (h_q := h_356) (cl_q := 0) (sl_q := 0) rfl ?_
        refine fx_shl rfl (by omega) (by omega) ?_
        refine fx_or (m := sv) (n := 1 <<< p.toNat) rfl ?_
        refine ik_Wk 1 (pc_q := 52) (loc_q := [some (.ref 7), some (fI ((sv ||| (1 <<< p.toNat) : Nat) : Int)), some (fI k0), some (fI p)]) (st_q := []) (h_q := h_356) (cl_q := 0) (sl_q := 0) rfl ?_
        refine fw_inc (a := p) (loc_q := [some (.ref 7), some (fI ((sv ||| (1 <<< p.toNat) : Nat) : Int)), some (fI k0), some (fI (p + 1))]) rfl rfl (Nat.le_of_ble_eq_true rfl) rfl ?_
        refine ik_Wk 1 (pc_q := 28) (loc_q := [some (.ref 7), some (fI ((sv ||| (1 <<< p.toNat) : Nat) : Int)), some (fI k0), some (fI (p + 1))]) (st_q := []) (h_q := h_356) (cl_q := 0) (sl_q := 0) rfl ?_
        have e1 : mj_rd (fun p => mj_gs (W (p : Nat))) (p + 1).toNat x0 = mj_sp (fun p => mj_gs (W (p : Nat))) (mj_rd (fun p => mj_gs (W (p : Nat))) p.toNat x0) p.toNat := by rw [show (p + 1).toNat = p.toNat + 1 by omega]; rfl
        have e2 : mj_gs (W ((p.toNat : Nat) : Int)) = mj_gs (W p) := by rw [Int.toNat_of_nonneg (by omega)]
        have hs2 : sv ||| (1 <<< p.toNat) = mj_rd (fun p => mj_gs (W (p : Nat))) (p + 1).toNat x0 := by
          rw [e1, ← hs]
          show _ = if mj_gs (W ((p.toNat : Nat) : Int)) &&& sv = 0 then sv else sv ||| 1 <<< p.toNat
          rw [e2, if_neg (by omega)]
        exact ih (p + 1) (sv ||| (1 <<< p.toNat)) h_356 g_356_7 g_356_11 n11 g_356_12 n12 g_356_13 n13 k_356 fr_356 (by omega) hs2 (by omega)

theorem cs_lostN {h : List ik_E} {pl : Int} {lo : Int} {s : Nat} {wg : List Int} {wc : List Int} {we : List Int} {W : Int → List (Int × Int)} (q0 : 0 ≤ pl ∧ pl ≤ 12) (q1 : ∀ x : Int, (0 : Int) ≤ x → x < pl - 1 → mx_wy wg wc we x (W x)) (q2 : ∀ x : Int, (0 : Int) ≤ x → x < pl - 1 → mx_ok pl (W x)) (hpl : (1 : Int) ≤ pl) : ∀ (k : Nat) (i : Int) (sv : Nat) (x3 : Option Value) (u : List ik_E) (u7 : cE u 7 (.inr (0, [fI pl, fI ((s : Nat) : Int), fI lo, .ref 8, .ref 9, .ref 10, .ref 11, .ref 12, .ref 13]))) (u11 : cE u 11 (.inl (.int, fA wg))) (n11 : wg.length = (60 : Nat)) (u12 : cE u 12 (.inl (.int, fA wc))) (n12 : wc.length = (60 : Nat)) (u13 : cE u 13 (.inl (.int, fA we))) (n13 : we.length = (12 : Nat)) (ul : u.length = (94 : Nat)) (F : hfr [] h u) (hi : (0 : Int) ≤ i ∧ i ≤ pl) (hs : sv = mj_rn (fun p => mj_gs (W (p : Nat))) (pl - 1).toNat i.toNat (1 <<< (pl - 1).toNat)) (w3 : ik_wl 94 x3 = true) (hk : pl - i < (k : Int)), ik_G 9 18 [some (.ref 7), some (fI ((sv : Nat) : Int)), some (fI i), x3] [] u (fun rv h_q => rv = [fI ((mj_lg pl (fun p => mj_gs (W (p : Nat))) : Nat) : Int)] ∧ hfr [] h h_q) := by
  intro k
  induction k with
  | zero => intro i sv x3 u u7 u11 n11 u12 n12 u13 n13 ul F hi hs w3 hk; omega
  | succ k ih =>
    intro i sv x3 u u7 u11 n11 u12 n12 u13 n13 ul F hi hs w3 hk
    have hsl : sv < 2 ^ 12 := by rw [hs]; exact mj_rn_lt (by omega) (mj_shl_lt (by omega)) _
    refine ik_Wk 2 (pc_q := 20) (loc_q := [some (.ref 7), some (fI ((sv : Nat) : Int)), some (fI i), x3]) (st_q := [.ref 7, fI i]) (h_q := u) (cl_q := 0) (sl_q := 0) rfl ?_
    refine fw_gf rfl rfl u7 rfl ?_
    refine fw_ic_ge rfl rfl (by omega) (by omega) (by omega) (by omega) (fun hc1 => ?_) (fun hc1 => ?_)
    · refine ik_Wk 2 (pc_q := 66) (loc_q := [some (.ref 7), some (fI ((sv : Nat) : Int)), some (fI i), x3]) (st_q := [.ref 7, fI 1]) (h_q := u) (cl_q := 0) (sl_q := 0) rfl ?_
      refine fw_gf rfl rfl u7 rfl ?_
      refine fx_shl rfl (by omega) (by omega) ?_
      refine ik_Wk 1 (pc_q := 71) (loc_q := [some (.ref 7), some (fI ((sv : Nat) : Int)), some (fI i), x3]) (st_q := [fI 1, fI ((1 <<< pl.toNat : Nat) : Int)]) (h_q := u) (cl_q := 0) (sl_q := 0) rfl ?_
      refine fw_sub rfl ?_
      rw [show ((1 <<< pl.toNat : Nat) : Int) - (1 : Int) = ((1 <<< pl.toNat - 1 : Nat) : Int) from by have := mj_pos pl.toNat; omega]
      refine ik_Wk 2 (pc_q := 74) (loc_q := [some (.ref 7), some (fI ((sv : Nat) : Int)), some (fI i), x3]) (st_q := [fI (-1), fI ((sv : Nat) : Int), fI ((1 <<< pl.toNat - 1 : Nat) : Int)]) (h_q := u) (cl_q := 0) (sl_q := 0) rfl ?_
      refine fx_not (n := sv) rfl ?_
      refine fx_nand (m := 1 <<< pl.toNat - 1) (n := sv) rfl ?_
      have ei : i = pl := by omega
      rw [ei, mj_rn_12 (by omega)] at hs
      exact ik_Wret rfl rfl ⟨_, _, rfl, rfl, rfl, rfl, ⟨(congrArg (fun z => [fI ((z : Nat) : Int)]) (by unfold mj_lg; rw [if_neg (by omega), hs])), F⟩⟩
    · refine ik_Wk 2 (pc_q := 28) (loc_q := [some (.ref 7), some (fI ((sv : Nat) : Int)), some (fI i), some (fI 0)]) (st_q := []) (h_q := u) (cl_q := 0) (sl_q := 0) rfl ?_
      refine cs_lostP (pl := pl) (lo := lo) (s := s) (wg := wg) (wc := wc) (we := we) (W := W) q0 q1 q2 i hpl sv hsl (R := (fun rv h_q => rv = [fI ((mj_lg pl (fun p => mj_gs (W (p : Nat))) : Nat) : Int)] ∧ hfr [] h h_q)) (fun h_357 p2_357 sv_357 g_357_7 g_357_11 m_357_11 g_357_12 m_357_12 g_357_13 m_357_13 k_357 fr_357 hs_357 => ?_) (pl.toNat + 1) 0 sv u u7 u11 n11 u12 n12 u13 n13 ul F (by omega) rfl (by omega)
      refine fw_inc (a := i) (loc_q := [some (.ref 7), some (fI ((sv_357 : Nat) : Int)), some (fI (i + 1)), some (fI p2_357)]) rfl rfl (Nat.le_of_ble_eq_true rfl) rfl ?_
      refine ik_Wk 1 (pc_q := 18) (loc_q := [some (.ref 7), some (fI ((sv_357 : Nat) : Int)), some (fI (i + 1)), some (fI p2_357)]) (st_q := []) (h_q := h_357) (cl_q := 0) (sl_q := 0) rfl ?_
      exact ih  (i + 1) sv_357 (some (fI p2_357)) h_357 g_357_7 g_357_11 m_357_11 g_357_12 m_357_12 g_357_13 m_357_13 k_357 fr_357 (by omega) (by rw [hs_357, show (i + 1).toNat = i.toNat + 1 by omega]; show _ = mj_rd (fun p => mj_gs (W (p : Nat))) (pl - 1).toNat (mj_rn (fun p => mj_gs (W (p : Nat))) (pl - 1).toNat i.toNat (1 <<< (pl - 1).toNat)); rw [← hs]) rfl (by omega)

theorem cs_findLost {h : List ik_E} {pl : Int} {lo : Int} {s : Nat} {wg : List Int} {wc : List Int} {we : List Int} {W : Int → List (Int × Int)} (q0 : 0 ≤ pl ∧ pl ≤ 12) (q1 : ∀ x : Int, (0 : Int) ≤ x → x < pl - 1 → mx_wy wg wc we x (W x)) (q2 : ∀ x : Int, (0 : Int) ≤ x → x < pl - 1 → mx_ok pl (W x)) (h7 : cE h 7 (.inr (0, [fI pl, fI ((s : Nat) : Int), fI lo, .ref 8, .ref 9, .ref 10, .ref 11, .ref 12, .ref 13]))) (h11 : cE h 11 (.inl (.int, fA wg))) (n11 : wg.length = (60 : Nat)) (h12 : cE h 12 (.inl (.int, fA wc))) (n12 : wc.length = (60 : Nat)) (h13 : cE h 13 (.inl (.int, fA we))) (n13 : we.length = (12 : Nat)) (hl : h.length = (94 : Nat)) : ik_F 9 [.ref 7] h (fun rv h_q => rv = [fI ((mj_lg pl (fun p => mj_gs (W (p : Nat))) : Nat) : Int)] ∧ hfr [] h h_q) := by
  refine ik_Wk 1 (pc_q := 1) (loc_q := [some (.ref 7), none, none, none]) (st_q := [.ref 7]) (h_q := h) (cl_q := 0) (sl_q := 0) rfl ?_
  refine fw_gf rfl rfl h7 rfl ?_
  refine fw_if_ne rfl rfl (by omega) (by omega) (fun hc1 => ?_) (fun hc1 => ?_)
  · refine ik_Wk 1 (pc_q := 8) (loc_q := [some (.ref 7), none, none, none]) (st_q := [fI 0]) (h_q := h) (cl_q := 0) (sl_q := 0) rfl ?_
    exact ik_Wret rfl rfl ⟨_, _, rfl, rfl, rfl, rfl, ⟨(congrArg (fun z => [fI ((z : Nat) : Int)]) (show 0 = mj_lg pl (fun p => mj_gs (W (p : Nat))) by unfold mj_lg; rw [if_pos (by omega)])), (hfr_refl [] h)⟩⟩
  · refine ik_Wk 2 (pc_q := 11) (loc_q := [some (.ref 7), none, none, none]) (st_q := [.ref 7, fI 1]) (h_q := h) (cl_q := 0) (sl_q := 0) rfl ?_
    refine ik_Wc 2 1 0 [.ref 7] [fI 1] rfl rfl rfl (by decide +kernel) rfl rfl (fw_rec hl rfl h7 rfl (Nat.le_of_ble_eq_true rfl)) ?_
    refine ik_Wk 0 (pc_q := 0) (loc_q := [some (.ref 7)]) (st_q := []) (h_q := h) (cl_q := 0) (sl_q := 0) rfl ?_
    refine ik_Wk 1 (pc_q := 1) (loc_q := [some (.ref 7)]) (st_q := [.ref 7]) (h_q := h) (cl_q := 0) (sl_q := 0) rfl ?_
    refine fw_gf rfl rfl h7 rfl ?_
    refine ik_Wk 1 (pc_q := 5) (loc_q := [some (.ref 7)]) (st_q := [fI 1, fI pl]) (h_q := h) (cl_q := 0) (sl_q := 0) rfl ?_
    refine fw_sub rfl ?_
    refine ik_Wret rfl rfl ⟨_, _, rfl, rfl, ?_⟩
    refine ik_Wk 0 (pc_q := 14) (loc_q := [some (.ref 7), none, none, none]) (st_q := [fI (pl - 1), fI 1]) (h_q := h) (cl_q := 0) (sl_q := 0) rfl ?_
    refine fx_shl rfl (by omega) (by omega) ?_
    refine ik_Wk 3 (pc_q := 18) (loc_q := [some (.ref 7), some (fI ((1 <<< (pl - 1).toNat : Nat) : Int)), some (fI 0), none]) (st_q := []) (h_q := h) (cl_q := 0) (sl_q := 0) rfl ?_
    exact cs_lostN (pl := pl) (lo := lo) (s := s) (wg := wg) (wc := wc) (we := we) (W := W) q0 q1 q2 (by omega) (pl.toNat + 1) 0 (1 <<< (pl - 1).toNat) none h h7 h11 n11 h12 n12 h13 n13 hl (hfr_refl [] h) (by omega) rfl rfl (by omega)

theorem cr_lostI {h : List ik_E} {pl : Int} {f : Nat → Int} {cn : List Int} {go : List Int} (q0 : 0 ≤ pl ∧ pl ≤ 12) (q1 : ∀ x : Int, (0 : Int) ≤ x → x < pl - 1 → (0 ≤ cn.getD x.toNat 0 ∧ cn.getD x.toNat 0 ≤ 4) ∧ ∀ i : Int, (0 : Int) ≤ i → i < cn.getD x.toNat 0 → 0 ≤ go.getD (4 * x + i).toNat 0 ∧ go.getD (4 * x + i).toNat (0 : Int) < pl) (k0 : Int) (p : Int) (hp : (0 : Int) ≤ p ∧ p < pl - 1) (x0 : Nat) (hx0 : x0 < 2 ^ 12) {R : List Value → List ik_E → Prop} (K : ∀ (w : List ik_E) (i2 : Int) (sv : Nat) (w66 : cE w 66 (.inr (10, (fI pl :: .ref 67 :: .ref 68 :: .ref 69 :: fI (f 4) :: .ref 70 :: .ref 71 :: fI (f 7) :: fI (f 8) :: .ref 72 :: fI (f 10) :: fI (f 11) :: fI (f 12) :: fJ (f 13) :: fI (f 14) :: fI (f 15) :: fI (f 16) :: fI (f 17) :: .ref 73 :: .ref 74 :: .ref 75 :: .ref 76 :: .ref 77 :: .ref 78 :: fI (f 24) :: .ref 79 :: .ref 80 :: .ref 81 :: .ref 82 :: .ref 83 :: .ref 84 :: .ref 85 :: fJ (f 32) :: fJ (f 33) :: .ref 86 :: .ref 87 :: fI (f 36) :: .ref 88 :: .ref 89 :: .ref 90 :: .ref 91 :: .ref 92 :: .ref 93 :: [])))) (w67 : cE w 67 (.inl (.int, fA cn))) (nw_67 : cn.length = (12 : Nat)) (w68 : cE w 68 (.inl (.int, fA go))) (nw_68 : go.length = (48 : Nat)) (wl : w.length = (94 : Nat)) (F : hfr [] h w) (hs : sv = mj_sp (mj_GG cn go) x0 p.toNat), ik_G 149 86 [some (.ref 66), some (fI ((sv : Nat) : Int)), some (fI k0), some (fI p), some (fI i2)] [] w R) : ∀ (k : Nat) (i : Int) (sv : Nat) (u : List ik_E) (u66 : cE u 66 (.inr (10, (fI pl :: .ref 67 :: .ref 68 :: .ref 69 :: fI (f 4) :: .ref 70 :: .ref 71 :: fI (f 7) :: fI (f 8) :: .ref 72 :: fI (f 10) :: fI (f 11) :: fI (f 12) :: fJ (f 13) :: fI (f 14) :: fI (f 15) :: fI (f 16) :: fI (f 17) :: .ref 73 :: .ref 74 :: .ref 75 :: .ref 76 :: .ref 77 :: .ref 78 :: fI (f 24) :: .ref 79 :: .ref 80 :: .ref 81 :: .ref 82 :: .ref 83 :: .ref 84 :: .ref 85 :: fJ (f 32) :: fJ (f 33) :: .ref 86 :: .ref 87 :: fI (f 36) :: .ref 88 :: .ref 89 :: .ref 90 :: .ref 91 :: .ref 92 :: .ref 93 :: [])))) (u67 : cE u 67 (.inl (.int, fA cn))) (n67 : cn.length = (12 : Nat)) (u68 : cE u 68 (.inl (.int, fA go))) (n68 : go.length = (48 : Nat)) (ul : u.length = (94 : Nat)) (F : hfr [] h u) (hi : (0 : Int) ≤ i ∧ i ≤ cn.getD p.toNat 0) (hs : sv = if mj_G cn go p.toNat i.toNat &&& x0 = 0 then x0 else x0 ||| 1 <<< p.toNat) (hk : cn.getD p.toNat 0 - i < (k : Int)), ik_G 149 41 [some (.ref 66), some (fI ((sv : Nat) : Int)), some (fI k0), some (fI p), some (fI i)] [] u R := by
  intro k
  induction k with
  | zero => intro i sv u u66 u67 n67 u68 n68 ul F hi hs hk; omega
  | succ k ih =>
    intro i sv u u66 u67 n67 u68 n68 ul F hi hs hk
    have hr := q1 p hp.1 hp.2
    have hsl : sv < 2 ^ 12 := by rw [hs]; split; exact hx0; exact Nat.or_lt_two_pow hx0 (mj_shl_lt (by omega))
    refine ik_Wk 2 (pc_q := 44) (loc_q := [some (.ref 66), some (fI ((sv : Nat) : Int)), some (fI k0), some (fI p), some (fI i)]) (st_q := [.ref 66, fI i]) (h_q := u) (cl_q := 0) (sl_q := 0) rfl ?_
    refine fw_gf rfl rfl u66 rfl ?_
    refine ik_Wk 1 (pc_q := 48) (loc_q := [some (.ref 66), some (fI ((sv : Nat) : Int)), some (fI k0), some (fI p), some (fI i)]) (st_q := [fI p, .ref 67, fI i]) (h_q := u) (cl_q := 0) (sl_q := 0) rfl ?_
    refine fw_ial rfl u67 (by omega) (by omega) (by omega) ?_
    refine fw_ic_ge rfl rfl (by omega) (by omega) (by omega) (by omega) (fun hc1 => ?_) (fun hc1 => ?_)
    · have ei : i = cn.getD p.toNat 0 := by omega
      rw [ei] at hs
      exact K u i sv u66 u67 n67 u68 n68 ul F hs
    · refine ik_Wk 3 (pc_q := 55) (loc_q := [some (.ref 66), some (fI ((sv : Nat) : Int)), some (fI k0), some (fI p), some (fI i)]) (st_q := [.ref 66, fI ((sv : Nat) : Int), fI ((sv : Nat) : Int)]) (h_q := u) (cl_q := 0) (sl_q := 0) rfl ?_
      refine fw_gf rfl rfl u66 rfl ?_
      refine ik_Wk 2 (pc_q := 60) (loc_q := [some (.ref 66), some (fI ((sv : Nat) : Int)), some (fI k0), some (fI p), some (fI i)]) (st_q := [fI p, fI 4, .ref 68, fI ((sv : Nat) : Int), fI ((sv : Nat) : Int)]) (h_q := u) (cl_q := 0) (sl_q := 0) rfl ?_
      refine fw_mul rfl ?_
      refine ik_Wk 1 (pc_q := 63) (loc_q := [some (.ref 66), some (fI ((sv : Nat) : Int)), some (fI k0), some (fI p), some (fI i)]) (st_q := [fI i, fI (4 * p), .ref 68, fI ((sv : Nat) : Int), fI ((sv : Nat) : Int)]) (h_q := u) (cl_q := 0) (sl_q := 0) rfl ?_
      refine fw_add rfl ?_
      refine fw_ial rfl u68 (by omega) (by omega) (by omega) ?_
      have hg := hr.2 i (by omega) (by omega)
      refine ik_Wc 128 2 3 [fI ((sv : Nat) : Int), fI (go.getD ((4 * p) + i).toNat 0)] [fI ((sv : Nat) : Int)] rfl rfl rfl (by decide +kernel) rfl rfl (fw_sta ul rfl (by decide +kernel)) ?_
      refine ik_Wk 0 (pc_q := 0) (loc_q := [some (fI ((sv : Nat) : Int)), some (fI (go.getD ((4 * p) + i).toNat 0))]) (st_q := []) (h_q := u) (cl_q := 0) (sl_q := 0) rfl ?_
      refine ik_Wk 2 (pc_q := 2) (loc_q := [some (fI ((sv : Nat) : Int)), some (fI (go.getD ((4 * p) + i).toNat 0))]) (st_q := [fI (go.getD ((4 * p) + i).toNat 0), fI ((sv : Nat) : Int)]) (h_q := u) (cl_q := 0) (sl_q := 0) rfl ?_
      refine fx_shr (n := sv) rfl (by omega) (by omega) (by omega) ?_
      refine ik_Wk 1 (pc_q := 4) (loc_q := [some (fI ((sv : Nat) : Int)), some (fI (go.getD ((4 * p) + i).toNat 0))]) (st_q := [fI 1, fI ((sv >>> (go.getD ((4 * p) + i).toNat 0).toNat : Nat) : Int)]) (h_q := u) (cl_q := 0) (sl_q := 0) rfl ?_
      refine fx_bit (n := sv) (k := (go.getD ((4 * p) + i).toNat 0).toNat) rfl (fun hb2 => ?_) (fun hb2 => ?_)
      · refine ik_Wk 0 (pc_q := 5) (loc_q := [some (fI ((sv : Nat) : Int)), some (fI (go.getD ((4 * p) + i).toNat 0))]) (st_q := [fI 1]) (h_q := u) (cl_q := 0) (sl_q := 0) rfl ?_
        refine ik_Wk 1 (pc_q := 6) (loc_q := [some (fI ((sv : Nat) : Int)), some (fI (go.getD ((4 * p) + i).toNat 0))]) (st_q := [fI 1, fI 1]) (h_q := u) (cl_q := 0) (sl_q := 0) rfl ?_
        refine fw_ic_ne rfl rfl (by decide +kernel) (by decide +kernel) (by decide +kernel) (by decide +kernel) (fun hc3 => ?_) (fun hc3 => absurd hc3 (by decide +kernel))
        refine ik_Wk 2 (pc_q := 14) (loc_q := [some (fI ((sv : Nat) : Int)), some (fI (go.getD ((4 * p) + i).toNat 0))]) (st_q := [fI 1]) (h_q := u) (cl_q := 0) (sl_q := 0) rfl ?_
        refine ik_Wret rfl rfl ⟨_, _, rfl, rfl, ?_⟩
        refine ik_Wk 0 (pc_q := 68) (loc_q := [some (.ref 66), some (fI ((sv : Nat) : Int)), some (fI k0), some (fI p), some (fI i)]) (st_q := [fI 1, fI ((sv : Nat) : Int)]) (h_q := u) (cl_q := 0) (sl_q := 0) rfl ?_
        refine fw_if_eq rfl rfl (by decide +kernel) (by decide +kernel) (fun hc4 => absurd hc4 (by decide +kernel)) (fun hc4 => ?_)
        refine ik_Wk 2 (pc_q := 73) (loc_q := [some (.ref 66), some (fI ((sv : Nat) : Int)), some (fI k0), some (fI p), some (fI i)]) (st_q := [fI p, fI 1, fI ((sv : Nat) : Int)]) (h_q := u) (cl_q := 0) (sl_q := 0) rfl ?_
        refine fx_shl rfl (by omega) (by omega) ?_
        refine ik_Wk 1 (pc_q := 78) (loc_q := [some (.ref 66), some (fI ((sv : Nat) : Int)), some (fI k0), some (fI p), some (fI i)]) (st_q := [fI ((1 <<< p.toNat : Nat) : Int), fI ((sv : Nat) : Int)]) (h_q := u) (cl_q := 0) (sl_q := 0) rfl ?_
        refine fx_or (m := sv) (n := 1 <<< p.toNat) rfl ?_
        refine ik_Wk 1 (pc_q := 80) (loc_q := [some (.ref 66), some (fI ((sv ||| (1 <<< p.toNat) : Nat) : Int)), some (fI k0), some (fI p), some (fI i)]) (st_q := []) (h_q := u) (cl_q := 0) (sl_q := 0) rfl ?_
        refine fw_inc (a := i) (loc_q := [some (.ref 66), some (fI ((sv ||| (1 <<< p.toNat) : Nat) : Int)), some (fI k0), some (fI p), some (fI (i + 1))]) rfl rfl (Nat.le_of_ble_eq_true rfl) rfl ?_
        refine ik_Wk 1 (pc_q := 41) (loc_q := [some (.ref 66), some (fI ((sv ||| (1 <<< p.toNat) : Nat) : Int)), some (fI k0), some (fI p), some (fI (i + 1))]) (st_q := []) (h_q := u) (cl_q := 0) (sl_q := 0) rfl ?_
        have et := mj_sp_t (g := (go.getD (4 * p + i).toNat 0).toNat) hs
        have eg : mj_G cn go p.toNat (i + 1).toNat = mj_G cn go p.toNat i.toNat ||| 1 <<< (go.getD (4 * p + i).toNat 0).toNat := by
          rw [show (i + 1).toNat = i.toNat + 1 by omega]
          show _ ||| 1 <<< (go.getD (4 * p.toNat + i.toNat) 0).toNat = _
          rw [show 4 * p.toNat + i.toNat = (4 * p + i).toNat by omega]
        rw [if_pos hb2] at et
        exact ih (i + 1) (sv ||| (1 <<< p.toNat)) u u66 u67 n67 u68 n68 ul F (by omega) (by rw [eg]; exact et) (by omega)
      · refine ik_Wk 0 (pc_q := 5) (loc_q := [some (fI ((sv : Nat) : Int)), some (fI (go.getD ((4 * p) + i).toNat 0))]) (st_q := [fI 0]) (h_q := u) (cl_q := 0) (sl_q := 0) rfl ?_
        refine ik_Wk 1 (pc_q := 6) (loc_q := [some (fI ((sv : Nat) : Int)), some (fI (go.getD ((4 * p) + i).toNat 0))]) (st_q := [fI 1, fI 0]) (h_q := u) (cl_q := 0) (sl_q := 0) rfl ?_
        refine fw_ic_ne rfl rfl (by decide +kernel) (by decide +kernel) (by decide +kernel) (by decide +kernel) (fun hc5 => absurd hc5 (by decide +kernel)) (fun hc5 => ?_)
        refine ik_Wk 1 (pc_q := 14) (loc_q := [some (fI ((sv : Nat) : Int)), some (fI (go.getD ((4 * p) + i).toNat 0))]) (st_q := [fI 0]) (h_q := u) (cl_q := 0) (sl_q := 0) rfl ?_
        refine ik_Wret rfl rfl ⟨_, _, rfl, rfl, ?_⟩
        refine ik_Wk 0 (pc_q := 68) (loc_q := [some (.ref 66), some (fI ((sv : Nat) : Int)), some (fI k0), some (fI p), some (fI i)]) (st_q := [fI 0, fI ((sv : Nat) : Int)]) (h_q := u) (cl_q := 0) (sl_q := 0) rfl ?_
        refine fw_if_eq rfl rfl (by decide +kernel) (by decide +kernel) (fun hc6 => ?_) (fun hc6 => absurd hc6 (by decide +kernel))
        refine ik_Wk 1 (pc_q := 78) (loc_q := [some (.ref 66), some (fI ((sv : Nat) : Int)), some (fI k0), some (fI p), some (fI i)]) (st_q := [fI 0, fI ((sv : Nat) : Int)]) (h_q := u) (cl_q := 0) (sl_q := 0) rfl ?_
        refine fx_or (m := sv) (n := 0) rfl ?_
        refine ik_Wk 1 (pc_q := 80) (loc_q := [some (.ref 66), some (fI ((sv ||| 0 : Nat) : Int)), some (fI k0), some (fI p), some (fI i)]) (st_q := []) (h_q := u) (cl_q := 0) (sl_q := 0) rfl ?_
        refine fw_inc (a := i) (loc_q := [some (.ref 66), some (fI ((sv ||| 0 : Nat) : Int)), some (fI k0), some (fI p), some (fI (i + 1))]) rfl rfl (Nat.le_of_ble_eq_true rfl) rfl ?_
        refine ik_Wk 1 (pc_q := 41) (loc_q := [some (.ref 66), some (fI ((sv ||| 0 : Nat) : Int)), some (fI k0), some (fI p), some (fI (i + 1))]) (st_q := []) (h_q := u) (cl_q := 0) (sl_q := 0) rfl ?_
        have et := mj_sp_t (g := (go.getD (4 * p + i).toNat 0).toNat) hs
        have eg : mj_G cn go p.toNat (i + 1).toNat = mj_G cn go p.toNat i.toNat ||| 1 <<< (go.getD (4 * p + i).toNat 0).toNat := by
          rw [show (i + 1).toNat = i.toNat + 1 by omega]
          show _ ||| 1 <<< (go.getD (4 * p.toNat + i.toNat) 0).toNat = _
          rw [show 4 * p.toNat + i.toNat = (4 * p + i).toNat by omega]
        rw [if_neg (by rw [hb2]; decide)] at et
        exact ih (i + 1) (sv ||| 0) u u66 u67 n67 u68 n68 ul F (by omega) (by rw [eg]; exact et) (by omega)

theorem cr_lostP {h : List ik_E} {pl : Int} {f : Nat → Int} {cn : List Int} {go : List Int} (q0 : 0 ≤ pl ∧ pl ≤ 12) (q1 : ∀ x : Int, (0 : Int) ≤ x → x < pl - 1 → (0 ≤ cn.getD x.toNat 0 ∧ cn.getD x.toNat 0 ≤ 4) ∧ ∀ i : Int, (0 : Int) ≤ i → i < cn.getD x.toNat 0 → 0 ≤ go.getD (4 * x + i).toNat 0 ∧ go.getD (4 * x + i).toNat (0 : Int) < pl) (k0 : Int) (hpl : (1 : Int) ≤ pl) (x0 : Nat) (hx0 : x0 < 2 ^ 12) {R : List Value → List ik_E → Prop} (K : ∀ (w : List ik_E) (p2 : Int) (sv : Nat) (x4 : Option Value) (w66 : cE w 66 (.inr (10, (fI pl :: .ref 67 :: .ref 68 :: .ref 69 :: fI (f 4) :: .ref 70 :: .ref 71 :: fI (f 7) :: fI (f 8) :: .ref 72 :: fI (f 10) :: fI (f 11) :: fI (f 12) :: fJ (f 13) :: fI (f 14) :: fI (f 15) :: fI (f 16) :: fI (f 17) :: .ref 73 :: .ref 74 :: .ref 75 :: .ref 76 :: .ref 77 :: .ref 78 :: fI (f 24) :: .ref 79 :: .ref 80 :: .ref 81 :: .ref 82 :: .ref 83 :: .ref 84 :: .ref 85 :: fJ (f 32) :: fJ (f 33) :: .ref 86 :: .ref 87 :: fI (f 36) :: .ref 88 :: .ref 89 :: .ref 90 :: .ref 91 :: .ref 92 :: .ref 93 :: [])))) (w67 : cE w 67 (.inl (.int, fA cn))) (nw_67 : cn.length = (12 : Nat)) (w68 : cE w 68 (.inl (.int, fA go))) (nw_68 : go.length = (48 : Nat)) (wl : w.length = (94 : Nat)) (F : hfr [] h w) (hs : sv = mj_rd (mj_GG cn go) (pl - 1).toNat x0) (w4 : ik_wl 94 x4 = true), ik_G 149 92 [some (.ref 66), some (fI ((sv : Nat) : Int)), some (fI k0), some (fI p2), x4] [] w R) : ∀ (k : Nat) (p : Int) (sv : Nat) (x4 : Option Value) (u : List ik_E) (u66 : cE u 66 (.inr (10, (fI pl :: .ref 67 :: .ref 68 :: .ref 69 :: fI (f 4) :: .ref 70 :: .ref 71 :: fI (f 7) :: fI (f 8) :: .ref 72 :: fI (f 10) :: fI (f 11) :: fI (f 12) :: fJ (f 13) :: fI (f 14) :: fI (f 15) :: fI (f 16) :: fI (f 17) :: .ref 73 :: .ref 74 :: .ref 75 :: .ref 76 :: .ref 77 :: .ref 78 :: fI (f 24) :: .ref 79 :: .ref 80 :: .ref 81 :: .ref 82 :: .ref 83 :: .ref 84 :: .ref 85 :: fJ (f 32) :: fJ (f 33) :: .ref 86 :: .ref 87 :: fI (f 36) :: .ref 88 :: .ref 89 :: .ref 90 :: .ref 91 :: .ref 92 :: .ref 93 :: [])))) (u67 : cE u 67 (.inl (.int, fA cn))) (n67 : cn.length = (12 : Nat)) (u68 : cE u 68 (.inl (.int, fA go))) (n68 : go.length = (48 : Nat)) (ul : u.length = (94 : Nat)) (F : hfr [] h u) (hp : (0 : Int) ≤ p ∧ p ≤ pl - 1) (hs : sv = mj_rd (mj_GG cn go) p.toNat x0) (w4 : ik_wl 94 x4 = true) (hk : pl - p < (k : Int)), ik_G 149 28 [some (.ref 66), some (fI ((sv : Nat) : Int)), some (fI k0), some (fI p), x4] [] u R := by
  intro k
  induction k with
  | zero => intro p sv x4 u u66 u67 n67 u68 n68 ul F hp hs w4 hk; omega
  | succ k ih =>
    intro p sv x4 u u66 u67 n67 u68 n68 ul F hp hs w4 hk
    have hsl : sv < 2 ^ 12 := by rw [hs]; exact mj_rd_lt hx0 _ (by omega)
    refine ik_Wk 2 (pc_q := 30) (loc_q := [some (.ref 66), some (fI ((sv : Nat) : Int)), some (fI k0), some (fI p), x4]) (st_q := [.ref 66, fI p]) (h_q := u) (cl_q := 0) (sl_q := 0) rfl ?_
    refine fw_gf rfl rfl u66 rfl ?_
    refine ik_Wk 1 (pc_q := 34) (loc_q := [some (.ref 66), some (fI ((sv : Nat) : Int)), some (fI k0), some (fI p), x4]) (st_q := [fI 1, fI pl, fI p]) (h_q := u) (cl_q := 0) (sl_q := 0) rfl ?_
    refine fw_sub rfl ?_
    refine fw_ic_ge rfl rfl (by omega) (by omega) (by omega) (by omega) (fun hc1 => ?_) (fun hc1 => ?_)
    · have ep : p = pl - 1 := by omega
      rw [ep] at hs
      exact K u p sv x4 u66 u67 n67 u68 n68 ul F hs w4
    · refine ik_Wk 2 (pc_q := 41) (loc_q := [some (.ref 66), some (fI ((sv : Nat) : Int)), some (fI k0), some (fI p), some (fI 0)]) (st_q := []) (h_q := u) (cl_q := 0) (sl_q := 0) rfl ?_
      have hr := q1 p (by omega) (by omega)
      refine cr_lostI (pl := pl) (f := f) (cn := cn) (go := go) q0 q1 k0 p (by omega) sv hsl (R := R) (fun h_358 i2_358 sv_358 g_358_66 g_358_67 m_358_67 g_358_68 m_358_68 k_358 fr_358 hs_358 => ?_) ((cn.getD p.toNat 0).toNat + 1) 0 sv u u66 u67 n67 u68 n68 ul F (by omega) (by show sv = if 0 &&& sv = 0 then sv else _; rw [Nat.zero_and, if_pos rfl]) (by omega)
      refine fw_inc (a := p) (loc_q := [some (.ref 66), some (fI ((sv_358 : Nat) : Int)), some (fI k0), some (fI (p + 1)), some (fI i2_358)]) rfl rfl (Nat.le_of_ble_eq_true rfl) rfl ?_
      refine ik_Wk 1 (pc_q := 28) (loc_q := [some (.ref 66), some (fI ((sv_358 : Nat) : Int)), some (fI k0), some (fI (p + 1)), some (fI i2_358)]) (st_q := []) (h_q := h_358) (cl_q := 0) (sl_q := 0) rfl ?_
      exact ih (p + 1) sv_358 (some (fI i2_358)) h_358 g_358_66 g_358_67 m_358_67 g_358_68 m_358_68 k_358 fr_358 (by omega) (by rw [hs_358, hs, show (p + 1).toNat = p.toNat + 1 by omega]; rfl) rfl (by omega)

theorem cr_lostN {h : List ik_E} {pl : Int} {f : Nat → Int} {cn : List Int} {go : List Int} (q0 : 0 ≤ pl ∧ pl ≤ 12) (q1 : ∀ x : Int, (0 : Int) ≤ x → x < pl - 1 → (0 ≤ cn.getD x.toNat 0 ∧ cn.getD x.toNat 0 ≤ 4) ∧ ∀ i : Int, (0 : Int) ≤ i → i < cn.getD x.toNat 0 → 0 ≤ go.getD (4 * x + i).toNat 0 ∧ go.getD (4 * x + i).toNat 0 < pl) (hpl : 1 ≤ pl) : ∀ (k : Nat) (i : Int) (sv : Nat) (x3 : Option Value) (x4 : Option Value) (u : List ik_E) (u66 : cE u 66 (.inr (10, (fI pl :: .ref 67 :: .ref 68 :: .ref 69 :: fI (f 4) :: .ref 70 :: .ref 71 :: fI (f 7) :: fI (f 8) :: .ref 72 :: fI (f 10) :: fI (f 11) :: fI (f 12) :: fJ (f 13) :: fI (f 14) :: fI (f 15) :: fI (f 16) :: fI (f 17) :: .ref 73 :: .ref 74 :: .ref 75 :: .ref 76 :: .ref 77 :: .ref 78 :: fI (f 24) :: .ref 79 :: .ref 80 :: .ref 81 :: .ref 82 :: .ref 83 :: .ref 84 :: .ref 85 :: fJ (f 32) :: fJ (f 33) :: .ref 86 :: .ref 87 :: fI (f 36) :: .ref 88 :: .ref 89 :: .ref 90 :: .ref 91 :: .ref 92 :: .ref 93 :: [])))) (u67 : cE u 67 (.inl (.int, fA cn))) (n67 : cn.length = (12 : Nat)) (u68 : cE u 68 (.inl (.int, fA go))) (n68 : go.length = (48 : Nat)) (ul : u.length = (94 : Nat)) (F : hfr [] h u) (hi : (0 : Int) ≤ i ∧ i ≤ (12 : Int)) (hs : sv = mj_rn (mj_GG cn go) (pl - 1).toNat i.toNat (1 <<< (pl - 1).toNat)) (w3 : ik_wl 94 x3 = true) (w4 : ik_wl 94 x4 = true) (hk : 12 - i < (k : Int)), ik_G 149 20 [some (.ref 66), some (fI ((sv : Nat) : Int)), some (fI i), x3, x4] [] u (fun rv h_q => rv = [fI ((mj_lost pl cn go : Nat) : Int)] ∧ hfr [] h h_q) := by
  intro k
  induction k with
  | zero => intro i sv x3 x4 u u66 u67 n67 u68 n68 ul F hi hs w3 w4 hk; omega
  | succ k ih =>
    intro i sv x3 x4 u u66 u67 n67 u68 n68 ul F hi hs w3 w4 hk
    have hsl : sv < 2 ^ 12 := by rw [hs]; exact mj_rn_lt (by omega) (mj_shl_lt (by omega)) _
    refine ik_Wk 1 (pc_q := 21) (loc_q := [some (.ref 66), some (fI ((sv : Nat) : Int)), some (fI i), x3, x4]) (st_q := [fI i]) (h_q := u) (cl_q := 0) (sl_q := 0) rfl ?_
    refine fw_bi rfl (by decide +kernel) ?_
    refine fw_ic_ge rfl rfl (by omega) (by omega) (by omega) (by omega) (fun hc1 => ?_) (fun hc1 => ?_)
    · refine ik_Wk 2 (pc_q := 100) (loc_q := [some (.ref 66), some (fI ((sv : Nat) : Int)), some (fI i), x3, x4]) (st_q := [.ref 66, fI 1]) (h_q := u) (cl_q := 0) (sl_q := 0) rfl ?_
      refine fw_gf rfl rfl u66 rfl ?_
      refine fx_shl rfl (by omega) (by omega) ?_
      refine ik_Wk 1 (pc_q := 105) (loc_q := [some (.ref 66), some (fI ((sv : Nat) : Int)), some (fI i), x3, x4]) (st_q := [fI 1, fI ((1 <<< pl.toNat : Nat) : Int)]) (h_q := u) (cl_q := 0) (sl_q := 0) rfl ?_
      refine fw_sub rfl ?_
      rw [show ((1 <<< pl.toNat : Nat) : Int) - (1 : Int) = ((1 <<< pl.toNat - 1 : Nat) : Int) from by have := mj_pos pl.toNat; omega]
      refine ik_Wk 2 (pc_q := 108) (loc_q := [some (.ref 66), some (fI ((sv : Nat) : Int)), some (fI i), x3, x4]) (st_q := [fI (-1), fI ((sv : Nat) : Int), fI ((1 <<< pl.toNat - 1 : Nat) : Int)]) (h_q := u) (cl_q := 0) (sl_q := 0) rfl ?_
      refine fx_not (n := sv) rfl ?_
      refine fx_nand (m := 1 <<< pl.toNat - 1) (n := sv) rfl ?_
      have ei : i.toNat = 12 := by omega
      rw [ei] at hs
      exact ik_Wret rfl rfl ⟨_, _, rfl, rfl, rfl, rfl, ⟨(congrArg (fun z => [fI ((z : Nat) : Int)]) (by unfold mj_lost; rw [if_neg (by omega), hs])), F⟩⟩
    · refine ik_Wk 2 (pc_q := 28) (loc_q := [some (.ref 66), some (fI ((sv : Nat) : Int)), some (fI i), some (fI 0), x4]) (st_q := []) (h_q := u) (cl_q := 0) (sl_q := 0) rfl ?_
      refine cr_lostP (pl := pl) (f := f) (cn := cn) (go := go) q0 q1 i hpl sv hsl (R := (fun rv h_q => rv = [fI ((mj_lost pl cn go : Nat) : Int)] ∧ hfr [] h h_q)) (fun h_359 p2_359 sv_359 x4_359 g_359_66 g_359_67 m_359_67 g_359_68 m_359_68 k_359 fr_359 hs_359 w4_359 => ?_) (pl.toNat + 1) 0 sv x4 u u66 u67 n67 u68 n68 ul F (by omega) rfl w4 (by omega)
      refine fw_inc (a := i) (loc_q := [some (.ref 66), some (fI ((sv_359 : Nat) : Int)), some (fI (i + 1)), some (fI p2_359), x4_359]) rfl rfl (Nat.le_of_ble_eq_true rfl) rfl ?_
      refine ik_Wk 1 (pc_q := 20) (loc_q := [some (.ref 66), some (fI ((sv_359 : Nat) : Int)), some (fI (i + 1)), some (fI p2_359), x4_359]) (st_q := []) (h_q := h_359) (cl_q := 0) (sl_q := 0) rfl ?_
      exact ih  (i + 1) sv_359 (some (fI p2_359)) x4_359 h_359 g_359_66 g_359_67 m_359_67 g_359_68 m_359_68 k_359 fr_359 (by omega) (by rw [hs_359, show (i + 1).toNat = i.toNat + 1 by omega]; show _ = mj_rd (mj_GG cn go) (pl - 1).toNat (mj_rn (mj_GG cn go) (pl - 1).toNat i.toNat (1 <<< (pl - 1).toNat)); rw [← hs]) rfl w4_359 (by omega)

theorem cr_lost0 {h : List ik_E} {pl : Int} {f : Nat → Int} {cn : List Int} {go : List Int} (q0 : 0 ≤ pl ∧ pl ≤ 12) (q1 : ∀ x : Int, (0 : Int) ≤ x → x < pl - 1 → (0 ≤ cn.getD x.toNat 0 ∧ cn.getD x.toNat 0 ≤ 4) ∧ ∀ i : Int, (0 : Int) ≤ i → i < cn.getD x.toNat 0 → 0 ≤ go.getD (4 * x + i).toNat 0 ∧ go.getD (4 * x + i).toNat 0 < pl) (hpl : pl = 0) : ∀ (k : Nat) (i : Int) (x3 : Option Value) (u : List ik_E) (u66 : cE u 66 (.inr (10, (fI pl :: .ref 67 :: .ref 68 :: .ref 69 :: fI (f 4) :: .ref 70 :: .ref 71 :: fI (f 7) :: fI (f 8) :: .ref 72 :: fI (f 10) :: fI (f 11) :: fI (f 12) :: fJ (f 13) :: fI (f 14) :: fI (f 15) :: fI (f 16) :: fI (f 17) :: .ref 73 :: .ref 74 :: .ref 75 :: .ref 76 :: .ref 77 :: .ref 78 :: fI (f 24) :: .ref 79 :: .ref 80 :: .ref 81 :: .ref 82 :: .ref 83 :: .ref 84 :: .ref 85 :: fJ (f 32) :: fJ (f 33) :: .ref 86 :: .ref 87 :: fI (f 36) :: .ref 88 :: .ref 89 :: .ref 90 :: .ref 91 :: .ref 92 :: .ref 93 :: [])))) (u67 : cE u 67 (.inl (.int, fA cn))) (n67 : cn.length = (12 : Nat)) (u68 : cE u 68 (.inl (.int, fA go))) (n68 : go.length = (48 : Nat)) (ul : u.length = (94 : Nat)) (F : hfr [] h u) (hi : (0 : Int) ≤ i ∧ i ≤ (12 : Int)) (w3 : ik_wl 94 x3 = true) (hk : 12 - i < (k : Int)), ik_G 149 20 [some (.ref 66), some (fI 0), some (fI i), x3, none] [] u (fun rv h_q => rv = [fI ((mj_lost pl cn go : Nat) : Int)] ∧ hfr [] h h_q) := by
  intro k
  induction k with
  | zero => intro i x3 u u66 u67 n67 u68 n68 ul F hi w3 hk; omega
  | succ k ih =>
    intro i x3 u u66 u67 n67 u68 n68 ul F hi w3 hk
    refine ik_Wk 1 (pc_q := 21) (loc_q := [some (.ref 66), some (fI 0), some (fI i), x3, none]) (st_q := [fI i]) (h_q := u) (cl_q := 0) (sl_q := 0) rfl ?_
    refine fw_bi rfl (by decide +kernel) ?_
    refine fw_ic_ge rfl rfl (by omega) (by omega) (by omega) (by omega) (fun hc1 => ?_) (fun hc1 => ?_)
    · refine ik_Wk 2 (pc_q := 100) (loc_q := [some (.ref 66), some (fI 0), some (fI i), x3, none]) (st_q := [.ref 66, fI 1]) (h_q := u) (cl_q := 0) (sl_q := 0) rfl ?_
      refine fw_gf rfl rfl u66 rfl ?_
      refine fx_shl rfl (by omega) (by omega) ?_
      refine ik_Wk 1 (pc_q := 105) (loc_q := [some (.ref 66), some (fI 0), some (fI i), x3, none]) (st_q := [fI 1, fI ((1 <<< pl.toNat : Nat) : Int)]) (h_q := u) (cl_q := 0) (sl_q := 0) rfl ?_
      refine fw_sub rfl ?_
      rw [show ((1 <<< pl.toNat : Nat) : Int) - (1 : Int) = ((1 <<< pl.toNat - 1 : Nat) : Int) from by have := mj_pos pl.toNat; omega]
      refine ik_Wk 2 (pc_q := 108) (loc_q := [some (.ref 66), some (fI 0), some (fI i), x3, none]) (st_q := [fI (-1), fI 0, fI ((1 <<< pl.toNat - 1 : Nat) : Int)]) (h_q := u) (cl_q := 0) (sl_q := 0) rfl ?_
      refine fx_not (n := 0) rfl ?_
      refine fx_nand (m := 1 <<< pl.toNat - 1) (n := 0) rfl ?_
      exact ik_Wret rfl rfl ⟨_, _, rfl, rfl, rfl, rfl, ⟨(congrArg (fun z => [fI ((z : Nat) : Int)]) (by unfold mj_lost; rw [if_pos hpl, hpl]; rfl)), F⟩⟩
    · refine ik_Wk 4 (pc_q := 30) (loc_q := [some (.ref 66), some (fI 0), some (fI i), some (fI 0), none]) (st_q := [.ref 66, fI 0]) (h_q := u) (cl_q := 0) (sl_q := 0) rfl ?_
      refine fw_gf rfl rfl u66 rfl ?_
      refine ik_Wk 1 (pc_q := 34) (loc_q := [some (.ref 66), some (fI 0), some (fI i), some (fI 0), none]) (st_q := [fI 1, fI pl, fI 0]) (h_q := u) (cl_q := 0) (sl_q := 0) rfl ?_
      refine fw_sub rfl ?_
      refine fw_ic_ge rfl rfl (by omega) (by omega) (by omega) (by omega) (fun hc2 => ?_) (fun hc2 => absurd hc2 (by omega))
      refine fw_inc (a := i) (loc_q := [some (.ref 66), some (fI 0), some (fI (i + 1)), some (fI 0), none]) rfl rfl (Nat.le_of_ble_eq_true rfl) rfl ?_
      refine ik_Wk 1 (pc_q := 20) (loc_q := [some (.ref 66), some (fI 0), some (fI (i + 1)), some (fI 0), none]) (st_q := []) (h_q := u) (cl_q := 0) (sl_q := 0) rfl ?_
      exact ih  (i + 1) (some (fI 0)) u u66 u67 n67 u68 n68 ul F (by omega) rfl (by omega)

theorem cr_lost {h : List ik_E} {pl : Int} {f : Nat → Int} {cn : List Int} {go : List Int} (q0 : 0 ≤ pl ∧ pl ≤ 12) (q1 : ∀ x : Int, (0 : Int) ≤ x → x < pl - 1 → (0 ≤ cn.getD x.toNat 0 ∧ cn.getD x.toNat 0 ≤ 4) ∧ ∀ i : Int, (0 : Int) ≤ i → i < cn.getD x.toNat 0 → 0 ≤ go.getD (4 * x + i).toNat 0 ∧ go.getD (4 * x + i).toNat 0 < pl) (h66 : cE h 66 (.inr (10, (fI pl :: .ref 67 :: .ref 68 :: .ref 69 :: fI (f 4) :: .ref 70 :: .ref 71 :: fI (f 7) :: fI (f 8) :: .ref 72 :: fI (f 10) :: fI (f 11) :: fI (f 12) :: fJ (f 13) :: fI (f 14) :: fI (f 15) :: fI (f 16) :: fI (f 17) :: .ref 73 :: .ref 74 :: .ref 75 :: .ref 76 :: .ref 77 :: .ref 78 :: fI (f 24) :: .ref 79 :: .ref 80 :: .ref 81 :: .ref 82 :: .ref 83 :: .ref 84 :: .ref 85 :: fJ (f 32) :: fJ (f 33) :: .ref 86 :: .ref 87 :: fI (f 36) :: .ref 88 :: .ref 89 :: .ref 90 :: .ref 91 :: .ref 92 :: .ref 93 :: [])))) (h67 : cE h 67 (.inl (.int, fA cn))) (n67 : cn.length = (12 : Nat)) (h68 : cE h 68 (.inl (.int, fA go))) (n68 : go.length = (48 : Nat)) (hl : h.length = (94 : Nat)) : ik_F 149 [.ref 66] h (fun rv h_q => rv = [fI ((mj_lost pl cn go : Nat) : Int)] ∧ hfr [] h h_q) := by
  refine ik_Wk 1 (pc_q := 1) (loc_q := [some (.ref 66), none, none, none, none]) (st_q := [.ref 66]) (h_q := h) (cl_q := 0) (sl_q := 0) rfl ?_
  refine fw_gf rfl rfl h66 rfl ?_
  refine fw_if_le rfl rfl (by omega) (by omega) (fun hc1 => ?_) (fun hc1 => ?_)
  · refine ik_Wk 4 (pc_q := 20) (loc_q := [some (.ref 66), some (fI 0), some (fI 0), none, none]) (st_q := []) (h_q := h) (cl_q := 0) (sl_q := 0) rfl ?_
    exact cr_lost0 (pl := pl) (f := f) (cn := cn) (go := go) q0 q1 (by omega) 13 0 none h h66 h67 n67 h68 n68 hl (hfr_refl [] h) (by omega) rfl (by omega)
  · refine ik_Wk 2 (pc_q := 9) (loc_q := [some (.ref 66), none, none, none, none]) (st_q := [.ref 66, fI 1]) (h_q := h) (cl_q := 0) (sl_q := 0) rfl ?_
    refine ik_Wc 130 1 0 [.ref 66] [fI 1] rfl rfl rfl (by decide +kernel) rfl rfl (fw_rec hl rfl h66 rfl (Nat.le_of_ble_eq_true rfl)) ?_
    refine ik_Wk 0 (pc_q := 0) (loc_q := [some (.ref 66)]) (st_q := []) (h_q := h) (cl_q := 0) (sl_q := 0) rfl ?_
    refine ik_Wk 1 (pc_q := 1) (loc_q := [some (.ref 66)]) (st_q := [.ref 66]) (h_q := h) (cl_q := 0) (sl_q := 0) rfl ?_
    refine fw_gf rfl rfl h66 rfl ?_
    refine ik_Wk 1 (pc_q := 5) (loc_q := [some (.ref 66)]) (st_q := [fI 1, fI pl]) (h_q := h) (cl_q := 0) (sl_q := 0) rfl ?_
    refine fw_sub rfl ?_
    refine ik_Wret rfl rfl ⟨_, _, rfl, rfl, ?_⟩
    refine ik_Wk 0 (pc_q := 12) (loc_q := [some (.ref 66), none, none, none, none]) (st_q := [fI (pl - 1), fI 1]) (h_q := h) (cl_q := 0) (sl_q := 0) rfl ?_
    refine fx_shl rfl (by omega) (by omega) ?_
    refine ik_Wk 4 (pc_q := 20) (loc_q := [some (.ref 66), some (fI ((1 <<< (pl - 1).toNat : Nat) : Int)), some (fI 0), none, none]) (st_q := []) (h_q := h) (cl_q := 0) (sl_q := 0) rfl ?_
    exact cr_lostN (pl := pl) (f := f) (cn := cn) (go := go) q0 q1 (by omega) 13 0 (1 <<< (pl - 1).toNat) none none h h66 h67 n67 h68 n68 hl (hfr_refl [] h) (by omega) rfl rfl rfl (by omega)

theorem rp_keptL {h : List ik_E} {pl : Int} {f : Nat → Int} {s : Nat} {cn : List Int} {go : List Int} {ch : List Int} {gt : List Int} {gd : List Int} {xs : List Int} {ys : List Int} {kd : Int} {p : Int} {t : Int} (q0 : 0 ≤ pl ∧ pl ≤ 12) (q1 : s < 4096) (q2 : ∀ x : Int, (0 : Int) ≤ x → x < pl - 1 → 0 ≤ cn.getD x.toNat 0 ∧ cn.getD x.toNat 0 ≤ 4) (q3 : ∀ x : Int, (0 : Int) ≤ x → x < pl - 1 → 1 ≤ cn.getD x.toNat 0 ∧ ∀ j : Int, 4 * x ≤ j → j < 4 * x + cn.getD x.toNat 0 → 0 ≤ ch.getD j.toNat 0 ∧ ch.getD j.toNat 0 ≤ 100) (q4 : ∀ x : Int, (0 : Int) ≤ x → x < pl - 1 → mx_ok pl (mx_w cn go ch s x)) (q5 : mx_rw pl cn go ch) (q6 : (-2147483648 : Int) ≤ kd ∧ kd < (2147483648 : Int)) (q7 : (-2147483648 : Int) ≤ p ∧ p < (2147483648 : Int)) (q8 : (-2147483648 : Int) ≤ t ∧ t < (2147483648 : Int)) {w1 : Int} {g1 d1 x1 y1 : List Int} (hkp : (((0 : Int) ≤ kd ∧ kd ≤ (2 : Int)) ∧ ((0 : Int) ≤ p ∧ p < pl)) ∧ (0 : Int) ≤ t ∧ t ≤ (200 : Int)) (his : mf_is pl x1 (mf_od (fun x => mx_w cn go ch s x) (pl - 1) kd p t.toNat)) : ∀ (k : Nat) (i : Int) (sm : Int) (u : List ik_E) (u66 : cE u 66 (.inr (10, (fI pl :: .ref 67 :: .ref 68 :: .ref 69 :: fI ((s : Nat) : Int) :: .ref 70 :: .ref 71 :: fI (f 7) :: fI (f 8) :: .ref 72 :: fI (f 10) :: fI (f 11) :: fI (f 12) :: fJ (f 13) :: fI (f 14) :: fI (f 15) :: fI (f 16) :: fI (f 17) :: .ref 73 :: .ref 74 :: .ref 75 :: .ref 76 :: .ref 77 :: .ref 78 :: fI w1 :: .ref 79 :: .ref 80 :: .ref 81 :: .ref 82 :: .ref 83 :: .ref 84 :: .ref 85 :: fJ (f 32) :: fJ (f 33) :: .ref 86 :: .ref 87 :: fI (f 36) :: .ref 88 :: .ref 89 :: .ref 90 :: .ref 91 :: .ref 92 :: .ref 93 :: [])))) (u67 : cE u 67 (.inl (.int, fA cn))) (n67 : cn.length = (12 : Nat)) (u68 : cE u 68 (.inl (.int, fA go))) (n68 : go.length = (48 : Nat)) (u69 : cE u 69 (.inl (.int, fA ch))) (n69 : ch.length = (48 : Nat)) (u77 : cE u 77 (.inl (.int, fA g1))) (n77 : g1.length = (5 : Nat)) (u78 : cE u 78 (.inl (.int, fA d1))) (n78 : d1.length = (5 : Nat)) (u79 : cE u 79 (.inl (.long, fL x1))) (n79 : x1.length = (12 : Nat)) (u80 : cE u 80 (.inl (.long, fL y1))) (n80 : y1.length = (12 : Nat)) (ul : u.length = (94 : Nat)) (F : hfr [66, 77, 78, 79, 80] h u) (hi : (0 : Int) ≤ i ∧ i ≤ pl) (hs : sm = mf_ss (mj_lost pl cn go) (mf_od (fun x => mx_w cn go ch s x) (pl - 1) kd p t.toNat) i.toNat) (hk : pl - i < (k : Int)), ik_G 162 47 [some (.ref 66), some (fI kd), some (fI p), some (fI t), some (fJ sm), none, some (fI (((mj_lost pl cn go) : Nat) : Int)), some (fI i)] [] u (fun rv h_q => ∃ (w' : Int) (gt' : List Int) (gd' : List Int) (xs' : List Int) (ys' : List Int), rv = [fI (an_kp kd p pl t (mf_ss (mj_lost pl cn go) (mf_od (fun x => mx_w cn go ch s x) (pl - 1) kd p t.toNat) pl.toNat))] ∧ cE h_q 66 (.inr (10, (fI pl :: .ref 67 :: .ref 68 :: .ref 69 :: fI ((s : Nat) : Int) :: .ref 70 :: .ref 71 :: fI (f 7) :: fI (f 8) :: .ref 72 :: fI (f 10) :: fI (f 11) :: fI (f 12) :: fJ (f 13) :: fI (f 14) :: fI (f 15) :: fI (f 16) :: fI (f 17) :: .ref 73 :: .ref 74 :: .ref 75 :: .ref 76 :: .ref 77 :: .ref 78 :: fI w' :: .ref 79 :: .ref 80 :: .ref 81 :: .ref 82 :: .ref 83 :: .ref 84 :: .ref 85 :: fJ (f 32) :: fJ (f 33) :: .ref 86 :: .ref 87 :: fI (f 36) :: .ref 88 :: .ref 89 :: .ref 90 :: .ref 91 :: .ref 92 :: .ref 93 :: []))) ∧ cE h_q 77 (.inl (.int, fA gt')) ∧ gt'.length = (5 : Nat) ∧ cE h_q 78 (.inl (.int, fA gd')) ∧ gd'.length = (5 : Nat) ∧ cE h_q 79 (.inl (.long, fL xs')) ∧ xs'.length = (12 : Nat) ∧ cE h_q 80 (.inl (.long, fL ys')) ∧ ys'.length = (12 : Nat) ∧ hfr [66, 77, 78, 79, 80] h h_q) := by
  intro k
  induction k with
  | zero => intro i sm u u66 u67 n67 u68 n68 u69 n69 u77 n77 u78 n78 u79 n79 u80 n80 ul F hi hs hk; omega
  | succ k ih =>
    intro i sm u u66 u67 n67 u68 n68 u69 n69 u77 n77 u78 n78 u79 n79 u80 n80 ul F hi hs hk
    have hll : (mj_lost pl cn go) < 4096 := mj_lg_lt (by omega)
    refine ik_Wk 2 (pc_q := 50) (loc_q := [some (.ref 66), some (fI kd), some (fI p), some (fI t), some (fJ sm), none, some (fI (((mj_lost pl cn go) : Nat) : Int)), some (fI i)]) (st_q := [.ref 66, fI i]) (h_q := u) (cl_q := 0) (sl_q := 0) rfl ?_
    refine fw_gf rfl rfl u66 rfl ?_
    refine fw_ic_ge rfl rfl (by omega) (by omega) (by omega) (by omega) (fun hc1 => ?_) (fun hc1 => ?_)
    · refine ik_Wk 1 (pc_q := 90) (loc_q := [some (.ref 66), some (fI kd), some (fI p), some (fI t), some (fJ sm), none, some (fI (((mj_lost pl cn go) : Nat) : Int)), some (fI i)]) (st_q := [fJ sm]) (h_q := u) (cl_q := 0) (sl_q := 0) rfl ?_
      refine fx_l2i rfl ?_
      have ei : i = pl := by omega
      rw [ei] at hs
      exact ik_Wret rfl rfl ⟨_, _, rfl, rfl, rfl, rfl, ⟨w1, g1, d1, x1, y1, (congrArg (fun z => [fI z]) (by rw [an_kp, if_pos hkp.1, if_pos hkp.2, hs])), u66, u77, n77, u78, n78, u79, n79, u80, n80, F⟩⟩
    · refine ik_Wk 3 (pc_q := 62) (loc_q := [some (.ref 66), some (fI kd), some (fI p), some (fI t), some (fJ sm), none, some (fI (((mj_lost pl cn go) : Nat) : Int)), some (fI i)]) (st_q := [fI i, fI (((mj_lost pl cn go) : Nat) : Int), fJ sm]) (h_q := u) (cl_q := 0) (sl_q := 0) rfl ?_
      refine ik_Wc 128 2 3 [fI (((mj_lost pl cn go) : Nat) : Int), fI i] [fJ sm] rfl rfl rfl (by decide +kernel) rfl rfl (fw_sta ul rfl (by decide +kernel)) ?_
      refine ik_Wk 0 (pc_q := 0) (loc_q := [some (fI (((mj_lost pl cn go) : Nat) : Int)), some (fI i)]) (st_q := []) (h_q := u) (cl_q := 0) (sl_q := 0) rfl ?_
      refine ik_Wk 2 (pc_q := 2) (loc_q := [some (fI (((mj_lost pl cn go) : Nat) : Int)), some (fI i)]) (st_q := [fI i, fI (((mj_lost pl cn go) : Nat) : Int)]) (h_q := u) (cl_q := 0) (sl_q := 0) rfl ?_
      refine fx_shr (n := (mj_lost pl cn go)) rfl (by omega) (by omega) (by omega) ?_
      refine ik_Wk 1 (pc_q := 4) (loc_q := [some (fI (((mj_lost pl cn go) : Nat) : Int)), some (fI i)]) (st_q := [fI 1, fI (((mj_lost pl cn go) >>> i.toNat : Nat) : Int)]) (h_q := u) (cl_q := 0) (sl_q := 0) rfl ?_
      refine fx_bit (n := (mj_lost pl cn go)) (k := i.toNat) rfl (fun hb2 => ?_) (fun hb2 => ?_)
      · refine ik_Wk 0 (pc_q := 5) (loc_q := [some (fI (((mj_lost pl cn go) : Nat) : Int)), some (fI i)]) (st_q := [fI 1]) (h_q := u) (cl_q := 0) (sl_q := 0) rfl ?_
        refine ik_Wk 1 (pc_q := 6) (loc_q := [some (fI (((mj_lost pl cn go) : Nat) : Int)), some (fI i)]) (st_q := [fI 1, fI 1]) (h_q := u) (cl_q := 0) (sl_q := 0) rfl ?_
        refine fw_ic_ne rfl rfl (by decide +kernel) (by decide +kernel) (by decide +kernel) (by decide +kernel) (fun hc3 => ?_) (fun hc3 => absurd hc3 (by decide +kernel))
        refine ik_Wk 2 (pc_q := 14) (loc_q := [some (fI (((mj_lost pl cn go) : Nat) : Int)), some (fI i)]) (st_q := [fI 1]) (h_q := u) (cl_q := 0) (sl_q := 0) rfl ?_
        refine ik_Wret rfl rfl ⟨_, _, rfl, rfl, ?_⟩
        refine ik_Wk 0 (pc_q := 65) (loc_q := [some (.ref 66), some (fI kd), some (fI p), some (fI t), some (fJ sm), none, some (fI (((mj_lost pl cn go) : Nat) : Int)), some (fI i)]) (st_q := [fI 1, fJ sm]) (h_q := u) (cl_q := 0) (sl_q := 0) rfl ?_
        refine fw_if_eq rfl rfl (by decide +kernel) (by decide +kernel) (fun hc4 => absurd hc4 (by decide +kernel)) (fun hc4 => ?_)
        refine ik_Wk 1 (pc_q := 69) (loc_q := [some (.ref 66), some (fI kd), some (fI p), some (fI t), some (fJ sm), none, some (fI (((mj_lost pl cn go) : Nat) : Int)), some (fI i)]) (st_q := [.ref 66, fJ sm]) (h_q := u) (cl_q := 0) (sl_q := 0) rfl ?_
        refine fw_gf rfl rfl u66 rfl ?_
        refine ik_Wk 1 (pc_q := 74) (loc_q := [some (.ref 66), some (fI kd), some (fI p), some (fI t), some (fJ sm), none, some (fI (((mj_lost pl cn go) : Nat) : Int)), some (fI i)]) (st_q := [fI i, .ref 79, fJ sm]) (h_q := u) (cl_q := 0) (sl_q := 0) rfl ?_
        refine fx_lal rfl u79 (by omega) (by omega) (by omega) ?_
        refine ik_Wk 1 (pc_q := 79) (loc_q := [some (.ref 66), some (fI kd), some (fI p), some (fI t), some (fJ sm), none, some (fI (((mj_lost pl cn go) : Nat) : Int)), some (fI i)]) (st_q := [fJ (x1.getD i.toNat 0), fJ sm]) (h_q := u) (cl_q := 0) (sl_q := 0) rfl ?_
        refine fw_ladd rfl ?_
        refine ik_Wk 1 (pc_q := 82) (loc_q := [some (.ref 66), some (fI kd), some (fI p), some (fI t), some (fJ (sm + (x1.getD i.toNat 0))), none, some (fI (((mj_lost pl cn go) : Nat) : Int)), some (fI i)]) (st_q := []) (h_q := u) (cl_q := 0) (sl_q := 0) rfl ?_
        refine fw_inc (a := i) (loc_q := [some (.ref 66), some (fI kd), some (fI p), some (fI t), some (fJ (sm + (x1.getD i.toNat 0))), none, some (fI (((mj_lost pl cn go) : Nat) : Int)), some (fI (i + 1))]) rfl rfl (Nat.le_of_ble_eq_true rfl) rfl ?_
        refine ik_Wk 1 (pc_q := 47) (loc_q := [some (.ref 66), some (fI kd), some (fI p), some (fI t), some (fJ (sm + (x1.getD i.toNat 0))), none, some (fI (((mj_lost pl cn go) : Nat) : Int)), some (fI (i + 1))]) (st_q := []) (h_q := u) (cl_q := 0) (sl_q := 0) rfl ?_
        exact ih  (i + 1) (sm + (x1.getD i.toNat 0)) u u66 u67 n67 u68 n68 u69 n69 u77 n77 u78 n78 u79 n79 u80 n80 ul F (by omega) (by rw [mf_ss_s (by omega), if_pos hb2, ← hs, his _ (by omega)]) (by omega)
      · refine ik_Wk 0 (pc_q := 5) (loc_q := [some (fI (((mj_lost pl cn go) : Nat) : Int)), some (fI i)]) (st_q := [fI 0]) (h_q := u) (cl_q := 0) (sl_q := 0) rfl ?_
        refine ik_Wk 1 (pc_q := 6) (loc_q := [some (fI (((mj_lost pl cn go) : Nat) : Int)), some (fI i)]) (st_q := [fI 1, fI 0]) (h_q := u) (cl_q := 0) (sl_q := 0) rfl ?_
        refine fw_ic_ne rfl rfl (by decide +kernel) (by decide +kernel) (by decide +kernel) (by decide +kernel) (fun hc5 => absurd hc5 (by decide +kernel)) (fun hc5 => ?_)
        refine ik_Wk 1 (pc_q := 14) (loc_q := [some (fI (((mj_lost pl cn go) : Nat) : Int)), some (fI i)]) (st_q := [fI 0]) (h_q := u) (cl_q := 0) (sl_q := 0) rfl ?_
        refine ik_Wret rfl rfl ⟨_, _, rfl, rfl, ?_⟩
        refine ik_Wk 0 (pc_q := 65) (loc_q := [some (.ref 66), some (fI kd), some (fI p), some (fI t), some (fJ sm), none, some (fI (((mj_lost pl cn go) : Nat) : Int)), some (fI i)]) (st_q := [fI 0, fJ sm]) (h_q := u) (cl_q := 0) (sl_q := 0) rfl ?_
        refine fw_if_eq rfl rfl (by decide +kernel) (by decide +kernel) (fun hc6 => ?_) (fun hc6 => absurd hc6 (by decide +kernel))
        refine fw_lc (z := 0) rfl (by decide +kernel) ?_
        refine fw_ladd rfl ?_
        refine ik_Wk 1 (pc_q := 82) (loc_q := [some (.ref 66), some (fI kd), some (fI p), some (fI t), some (fJ (sm + 0)), none, some (fI (((mj_lost pl cn go) : Nat) : Int)), some (fI i)]) (st_q := []) (h_q := u) (cl_q := 0) (sl_q := 0) rfl ?_
        refine fw_inc (a := i) (loc_q := [some (.ref 66), some (fI kd), some (fI p), some (fI t), some (fJ (sm + 0)), none, some (fI (((mj_lost pl cn go) : Nat) : Int)), some (fI (i + 1))]) rfl rfl (Nat.le_of_ble_eq_true rfl) rfl ?_
        refine ik_Wk 1 (pc_q := 47) (loc_q := [some (.ref 66), some (fI kd), some (fI p), some (fI t), some (fJ (sm + 0)), none, some (fI (((mj_lost pl cn go) : Nat) : Int)), some (fI (i + 1))]) (st_q := []) (h_q := u) (cl_q := 0) (sl_q := 0) rfl ?_
        exact ih  (i + 1) (sm + 0) u u66 u67 n67 u68 n68 u69 n69 u77 n77 u78 n78 u79 n79 u80 n80 ul F (by omega) (by rw [mf_ss_s (by omega), if_neg (by rw [hb2]; decide), ← hs]) (by omega)

theorem rp_kept {h : List ik_E} {pl : Int} {f : Nat → Int} {s : Nat} {cn : List Int} {go : List Int} {ch : List Int} {gt : List Int} {gd : List Int} {xs : List Int} {ys : List Int} {kd : Int} {p : Int} {t : Int} (q0 : 0 ≤ pl ∧ pl ≤ 12) (q1 : s < 4096) (q2 : ∀ x : Int, (0 : Int) ≤ x → x < pl - 1 → 0 ≤ cn.getD x.toNat 0 ∧ cn.getD x.toNat 0 ≤ 4) (q3 : ∀ x : Int, (0 : Int) ≤ x → x < pl - 1 → 1 ≤ cn.getD x.toNat 0 ∧ ∀ j : Int, 4 * x ≤ j → j < 4 * x + cn.getD x.toNat 0 → 0 ≤ ch.getD j.toNat 0 ∧ ch.getD j.toNat 0 ≤ 100) (q4 : ∀ x : Int, (0 : Int) ≤ x → x < pl - 1 → mx_ok pl (mx_w cn go ch s x)) (q5 : mx_rw pl cn go ch) (q6 : (-2147483648 : Int) ≤ kd ∧ kd < (2147483648 : Int)) (q7 : (-2147483648 : Int) ≤ p ∧ p < (2147483648 : Int)) (q8 : (-2147483648 : Int) ≤ t ∧ t < (2147483648 : Int)) (h66 : cE h 66 (.inr (10, (fI pl :: .ref 67 :: .ref 68 :: .ref 69 :: fI ((s : Nat) : Int) :: .ref 70 :: .ref 71 :: fI (f 7) :: fI (f 8) :: .ref 72 :: fI (f 10) :: fI (f 11) :: fI (f 12) :: fJ (f 13) :: fI (f 14) :: fI (f 15) :: fI (f 16) :: fI (f 17) :: .ref 73 :: .ref 74 :: .ref 75 :: .ref 76 :: .ref 77 :: .ref 78 :: fI (f 24) :: .ref 79 :: .ref 80 :: .ref 81 :: .ref 82 :: .ref 83 :: .ref 84 :: .ref 85 :: fJ (f 32) :: fJ (f 33) :: .ref 86 :: .ref 87 :: fI (f 36) :: .ref 88 :: .ref 89 :: .ref 90 :: .ref 91 :: .ref 92 :: .ref 93 :: [])))) (h67 : cE h 67 (.inl (.int, fA cn))) (n67 : cn.length = (12 : Nat)) (h68 : cE h 68 (.inl (.int, fA go))) (n68 : go.length = (48 : Nat)) (h69 : cE h 69 (.inl (.int, fA ch))) (n69 : ch.length = (48 : Nat)) (h77 : cE h 77 (.inl (.int, fA gt))) (n77 : gt.length = (5 : Nat)) (h78 : cE h 78 (.inl (.int, fA gd))) (n78 : gd.length = (5 : Nat)) (h79 : cE h 79 (.inl (.long, fL xs))) (n79 : xs.length = (12 : Nat)) (h80 : cE h 80 (.inl (.long, fL ys))) (n80 : ys.length = (12 : Nat)) (hl : h.length = (94 : Nat)) : ik_F 162 [.ref 66, fI kd, fI p, fI t] h (fun rv h_q => ∃ (w' : Int) (gt' : List Int) (gd' : List Int) (xs' : List Int) (ys' : List Int), rv = [fI (an_kp kd p pl t (mf_ss (mj_lost pl cn go) (mf_od (fun x => mx_w cn go ch s x) (pl - 1) kd p t.toNat) pl.toNat))] ∧ cE h_q 66 (.inr (10, (fI pl :: .ref 67 :: .ref 68 :: .ref 69 :: fI ((s : Nat) : Int) :: .ref 70 :: .ref 71 :: fI (f 7) :: fI (f 8) :: .ref 72 :: fI (f 10) :: fI (f 11) :: fI (f 12) :: fJ (f 13) :: fI (f 14) :: fI (f 15) :: fI (f 16) :: fI (f 17) :: .ref 73 :: .ref 74 :: .ref 75 :: .ref 76 :: .ref 77 :: .ref 78 :: fI w' :: .ref 79 :: .ref 80 :: .ref 81 :: .ref 82 :: .ref 83 :: .ref 84 :: .ref 85 :: fJ (f 32) :: fJ (f 33) :: .ref 86 :: .ref 87 :: fI (f 36) :: .ref 88 :: .ref 89 :: .ref 90 :: .ref 91 :: .ref 92 :: .ref 93 :: []))) ∧ cE h_q 77 (.inl (.int, fA gt')) ∧ gt'.length = (5 : Nat) ∧ cE h_q 78 (.inl (.int, fA gd')) ∧ gd'.length = (5 : Nat) ∧ cE h_q 79 (.inl (.long, fL xs')) ∧ xs'.length = (12 : Nat) ∧ cE h_q 80 (.inl (.long, fL ys')) ∧ ys'.length = (12 : Nat) ∧ hfr [66, 77, 78, 79, 80] h h_q) := by
  refine ik_Wk 1 (pc_q := 1) (loc_q := [some (.ref 66), some (fI kd), some (fI p), some (fI t), none, none, none, none]) (st_q := [fI kd]) (h_q := h) (cl_q := 0) (sl_q := 0) rfl ?_
  refine ik_Wc 133 1 3 [fI kd] [] rfl rfl rfl (by decide +kernel) rfl rfl (fw_sta hl rfl (by decide +kernel)) ?_
  refine ik_Wk 0 (pc_q := 0) (loc_q := [some (fI kd)]) (st_q := []) (h_q := h) (cl_q := 0) (sl_q := 0) rfl ?_
  refine ik_Wk 1 (pc_q := 1) (loc_q := [some (fI kd)]) (st_q := [fI kd]) (h_q := h) (cl_q := 0) (sl_q := 0) rfl ?_
  refine fw_i2l rfl (by omega) (by omega) ?_
  refine fw_lc (z := 0) rfl (by decide +kernel) ?_
  refine fw_l2 2 rfl rfl (by decide +kernel) ?_
  refine fw_call 127 3 3 [fJ kd, fJ 0, fJ 2] [] rfl rfl rfl (Nat.le_of_ble_eq_true rfl) rfl rfl (fw_sta hl rfl (by decide +kernel)) (cr_in (v := kd) (a := 0) (b := 2) (by omega) (by omega) (by omega)  hl) ?_
  rintro _ h_360 (⟨rfl, p_360_0, F_360⟩ | ⟨rfl, p_360_0, F_360⟩)
  · have k_360 : cL h_360 := F_360.1.trans hl
    have fr_360 := hfr_cb (hfr_refl [66, 77, 78, 79, 80] h) F_360 rfl
    have g_360_66 := (hfr_g F_360 66 rfl).trans h66
    have g_360_67 := (hfr_g F_360 67 rfl).trans h67
    have g_360_68 := (hfr_g F_360 68 rfl).trans h68
    have g_360_69 := (hfr_g F_360 69 rfl).trans h69
    have g_360_77 := (hfr_g F_360 77 rfl).trans h77
    have g_360_78 := (hfr_g F_360 78 rfl).trans h78
    have g_360_79 := (hfr_g F_360 79 rfl).trans h79
    have g_360_80 := (hfr_g F_360 80 rfl).trans h80
    refine ik_Wk 0 (pc_q := 9) (loc_q := [some (fI kd)]) (st_q := [fI 1]) (h_q := h_360) (cl_q := 0) (sl_q := 0) rfl ?_
    refine ik_Wret rfl rfl ⟨_, _, rfl, rfl, ?_⟩
    refine ik_Wk 0 (pc_q := 4) (loc_q := [some (.ref 66), some (fI kd), some (fI p), some (fI t), none, none, none, none]) (st_q := [fI 1]) (h_q := h_360) (cl_q := 0) (sl_q := 0) rfl ?_
    refine fw_if_eq rfl rfl (by decide +kernel) (by decide +kernel) (fun hc1 => absurd hc1 (by decide +kernel)) (fun hc1 => ?_)
    refine ik_Wk 2 (pc_q := 9) (loc_q := [some (.ref 66), some (fI kd), some (fI p), some (fI t), none, none, none, none]) (st_q := [fI p, .ref 66]) (h_q := h_360) (cl_q := 0) (sl_q := 0) rfl ?_
    refine ik_Wc 129 2 0 [.ref 66, fI p] [] rfl rfl rfl (by decide +kernel) rfl rfl (fw_rec k_360 rfl g_360_66 rfl (Nat.le_of_ble_eq_true rfl)) ?_
    refine ik_Wk 0 (pc_q := 0) (loc_q := [some (.ref 66), some (fI p)]) (st_q := []) (h_q := h_360) (cl_q := 0) (sl_q := 0) rfl ?_
    refine ik_Wk 1 (pc_q := 1) (loc_q := [some (.ref 66), some (fI p)]) (st_q := [fI p]) (h_q := h_360) (cl_q := 0) (sl_q := 0) rfl ?_
    refine fw_i2l rfl (by omega) (by omega) ?_
    refine fw_lc (z := 0) rfl (by decide +kernel) ?_
    refine ik_Wk 1 (pc_q := 4) (loc_q := [some (.ref 66), some (fI p)]) (st_q := [.ref 66, fJ 0, fJ p]) (h_q := h_360) (cl_q := 0) (sl_q := 0) rfl ?_
    refine fw_gf rfl rfl g_360_66 rfl ?_
    refine ik_Wk 1 (pc_q := 8) (loc_q := [some (.ref 66), some (fI p)]) (st_q := [fI 1, fI pl, fJ 0, fJ p]) (h_q := h_360) (cl_q := 0) (sl_q := 0) rfl ?_
    refine fw_sub rfl ?_
    refine fw_i2l rfl (by omega) (by omega) ?_
    refine fw_call 127 3 3 [fJ p, fJ 0, fJ (pl - 1)] [] rfl rfl rfl (Nat.le_of_ble_eq_true rfl) rfl rfl (fw_sta k_360 rfl (by decide +kernel)) (cr_in (v := p) (a := 0) (b := pl - 1) (by omega) (by omega) (by omega)  k_360) ?_
    rintro _ h_361 (⟨rfl, p_361_0, F_361⟩ | ⟨rfl, p_361_0, F_361⟩)
    · have k_361 : cL h_361 := F_361.1.trans k_360
      have fr_361 := hfr_cb fr_360 F_361 rfl
      have g_361_66 := (hfr_g F_361 66 rfl).trans g_360_66
      have g_361_67 := (hfr_g F_361 67 rfl).trans g_360_67
      have g_361_68 := (hfr_g F_361 68 rfl).trans g_360_68
      have g_361_69 := (hfr_g F_361 69 rfl).trans g_360_69
      have g_361_77 := (hfr_g F_361 77 rfl).trans g_360_77
      have g_361_78 := (hfr_g F_361 78 rfl).trans g_360_78
      have g_361_79 := (hfr_g F_361 79 rfl).trans g_360_79
      have g_361_80 := (hfr_g F_361 80 rfl).trans g_360_80
      refine ik_Wk 0 (pc_q := 13) (loc_q := [some (.ref 66), some (fI p)]) (st_q := [fI 1]) (h_q := h_361) (cl_q := 0) (sl_q := 0) rfl ?_
      refine ik_Wret rfl rfl ⟨_, _, rfl, rfl, ?_⟩
      refine ik_Wk 0 (pc_q := 12) (loc_q := [some (.ref 66), some (fI kd), some (fI p), some (fI t), none, none, none, none]) (st_q := [fI 1]) (h_q := h_361) (cl_q := 0) (sl_q := 0) rfl ?_
      refine fw_if_ne rfl rfl (by decide +kernel) (by decide +kernel) (fun hc2 => absurd hc2 (by decide +kernel)) (fun hc2 => ?_)
      refine ik_Wk 1 (pc_q := 19) (loc_q := [some (.ref 66), some (fI kd), some (fI p), some (fI t), none, none, none, none]) (st_q := [fI t]) (h_q := h_361) (cl_q := 0) (sl_q := 0) rfl ?_
      refine ik_Wc 159 1 3 [fI t] [] rfl rfl rfl (by decide +kernel) rfl rfl (fw_sta k_361 rfl (by decide +kernel)) ?_
      refine ik_Wk 0 (pc_q := 0) (loc_q := [some (fI t)]) (st_q := []) (h_q := h_361) (cl_q := 0) (sl_q := 0) rfl ?_
      refine ik_Wk 1 (pc_q := 1) (loc_q := [some (fI t)]) (st_q := [fI t]) (h_q := h_361) (cl_q := 0) (sl_q := 0) rfl ?_
      refine fw_i2l rfl (by omega) (by omega) ?_
      refine fw_lc (z := 0) rfl (by decide +kernel) ?_
      refine fw_l2 200 rfl rfl (by decide +kernel) ?_
      refine fw_call 127 3 3 [fJ t, fJ 0, fJ 200] [] rfl rfl rfl (Nat.le_of_ble_eq_true rfl) rfl rfl (fw_sta k_361 rfl (by decide +kernel)) (cr_in (v := t) (a := 0) (b := 200) (by omega) (by omega) (by omega)  k_361) ?_
      rintro _ h_362 (⟨rfl, p_362_0, F_362⟩ | ⟨rfl, p_362_0, F_362⟩)
      · have k_362 : cL h_362 := F_362.1.trans k_361
        have fr_362 := hfr_cb fr_361 F_362 rfl
        have g_362_66 := (hfr_g F_362 66 rfl).trans g_361_66
        have g_362_67 := (hfr_g F_362 67 rfl).trans g_361_67
        have g_362_68 := (hfr_g F_362 68 rfl).trans g_361_68
        have g_362_69 := (hfr_g F_362 69 rfl).trans g_361_69
        have g_362_77 := (hfr_g F_362 77 rfl).trans g_361_77
        have g_362_78 := (hfr_g F_362 78 rfl).trans g_361_78
        have g_362_79 := (hfr_g F_362 79 rfl).trans g_361_79
        have g_362_80 := (hfr_g F_362 80 rfl).trans g_361_80
        refine ik_Wk 0 (pc_q := 9) (loc_q := [some (fI t)]) (st_q := [fI 1]) (h_q := h_362) (cl_q := 0) (sl_q := 0) rfl ?_
        refine ik_Wret rfl rfl ⟨_, _, rfl, rfl, ?_⟩
        refine ik_Wk 0 (pc_q := 22) (loc_q := [some (.ref 66), some (fI kd), some (fI p), some (fI t), none, none, none, none]) (st_q := [fI 1]) (h_q := h_362) (cl_q := 0) (sl_q := 0) rfl ?_
        refine fw_if_ne rfl rfl (by decide +kernel) (by decide +kernel) (fun hc3 => absurd hc3 (by decide +kernel)) (fun hc3 => ?_)
        refine ik_Wk 4 (pc_q := 32) (loc_q := [some (.ref 66), some (fI kd), some (fI p), some (fI t), none, none, none, none]) (st_q := [fI t, fI p, fI kd, .ref 66]) (h_q := h_362) (cl_q := 0) (sl_q := 0) rfl ?_
        refine fw_call 156 4 0 [.ref 66, fI kd, fI p, fI t] [] rfl rfl rfl (Nat.le_of_ble_eq_true rfl) rfl rfl (fw_rec k_362 rfl g_362_66 rfl (Nat.le_of_ble_eq_true rfl)) (cr_oddsAt (pl := pl) (f := fun j => ((0 :: 0 :: 0 :: 0 :: 0 :: 0 :: 0 :: f 7 :: f 8 :: 0 :: f 10 :: f 11 :: f 12 :: f 13 :: f 14 :: f 15 :: f 16 :: f 17 :: 0 :: 0 :: 0 :: 0 :: 0 :: 0 :: f 24 :: 0 :: 0 :: 0 :: 0 :: 0 :: 0 :: 0 :: f 32 :: f 33 :: 0 :: 0 :: f 36 :: 0 :: 0 :: 0 :: 0 :: 0 :: 0 :: []) : List Int).getD j 0) (s := s) (cn := cn) (go := go) (ch := ch) (gt := gt) (gd := gd) (xs := xs) (ys := ys) (kd := kd) (qp := p) (t := t) (by omega) (by omega) q2 q3 q4 (by omega) (by omega) (by omega) g_362_66 g_362_67 n67 g_362_68 n68 g_362_69 n69 g_362_77 n77 g_362_78 n78 g_362_79 n79 g_362_80 n80 k_362) ?_
        rintro _ h_363 ⟨w'_363, gt'_363, gd'_363, xs'_363, ys'_363, rfl, e_363_66, e_363_77, m_363_77, e_363_78, m_363_78, e_363_79, m_363_79, e_363_80, m_363_80, p_363_0, F_363⟩
        have k_363 : cL h_363 := F_363.1.trans k_362
        have fr_363 := hfr_cb fr_362 F_363 rfl
        have g_363_67 := (hfr_g F_363 67 rfl).trans g_362_67
        have g_363_68 := (hfr_g F_363 68 rfl).trans g_362_68
        have g_363_69 := (hfr_g F_363 69 rfl).trans g_362_69
        have g_363_66 : cE h_363 66 (.inr (10, (fI pl :: .ref 67 :: .ref 68 :: .ref 69 :: fI ((s : Nat) : Int) :: .ref 70 :: .ref 71 :: fI (f 7) :: fI (f 8) :: .ref 72 :: fI (f 10) :: fI (f 11) :: fI (f 12) :: fJ (f 13) :: fI (f 14) :: fI (f 15) :: fI (f 16) :: fI (f 17) :: .ref 73 :: .ref 74 :: .ref 75 :: .ref 76 :: .ref 77 :: .ref 78 :: fI w'_363 :: .ref 79 :: .ref 80 :: .ref 81 :: .ref 82 :: .ref 83 :: .ref 84 :: .ref 85 :: fJ (f 32) :: fJ (f 33) :: .ref 86 :: .ref 87 :: fI (f 36) :: .ref 88 :: .ref 89 :: .ref 90 :: .ref 91 :: .ref 92 :: .ref 93 :: []))) := e_363_66
        have g_363_77 : cE h_363 77 (.inl (.int, fA gt'_363)) := e_363_77
        have g_363_78 : cE h_363 78 (.inl (.int, fA gd'_363)) := e_363_78
        have g_363_79 : cE h_363 79 (.inl (.long, fL xs'_363)) := e_363_79
        have g_363_80 : cE h_363 80 (.inl (.long, fL ys'_363)) := e_363_80
        refine ik_Wk 0 (pc_q := 35) (loc_q := [some (.ref 66), some (fI kd), some (fI p), some (fI t), none, none, none, none]) (st_q := []) (h_q := h_363) (cl_q := 0) (sl_q := 0) rfl ?_
        refine fw_lc (z := 0) rfl (by decide +kernel) ?_
        refine ik_Wk 2 (pc_q := 39) (loc_q := [some (.ref 66), some (fI kd), some (fI p), some (fI t), some (fJ 0), none, none, none]) (st_q := [.ref 66]) (h_q := h_363) (cl_q := 0) (sl_q := 0) rfl ?_
        refine fw_call 149 1 0 [.ref 66] [] rfl rfl rfl (Nat.le_of_ble_eq_true rfl) rfl rfl (fw_rec k_363 rfl g_363_66 rfl (Nat.le_of_ble_eq_true rfl)) (cr_lost (pl := pl) (f := fun j => ((0 :: 0 :: 0 :: 0 :: (((s : Nat) : Int)) :: 0 :: 0 :: ((f 7)) :: ((f 8)) :: 0 :: ((f 10)) :: ((f 11)) :: ((f 12)) :: ((f 13)) :: ((f 14)) :: ((f 15)) :: ((f 16)) :: ((f 17)) :: 0 :: 0 :: 0 :: 0 :: 0 :: 0 :: w'_363 :: 0 :: 0 :: 0 :: 0 :: 0 :: 0 :: 0 :: ((f 32)) :: ((f 33)) :: 0 :: 0 :: ((f 36)) :: 0 :: 0 :: 0 :: 0 :: 0 :: 0 :: []) : List Int).getD j 0) (cn := cn) (go := go) (by omega) (fun x h0 h1 => ⟨q2 x h0 h1, fun i i0 i1 => by have z := (q5 x h0 h1).2.1 i i0 i1; omega⟩) g_363_66 g_363_67 n67 g_363_68 n68 k_363) ?_
        rintro _ h_364 ⟨rfl, F_364⟩
        have k_364 : cL h_364 := F_364.1.trans k_363
        have fr_364 := hfr_cb fr_363 F_364 rfl
        have g_364_66 := (hfr_g F_364 66 rfl).trans g_363_66
        have g_364_67 := (hfr_g F_364 67 rfl).trans g_363_67
        have g_364_68 := (hfr_g F_364 68 rfl).trans g_363_68
        have g_364_69 := (hfr_g F_364 69 rfl).trans g_363_69
        have g_364_77 := (hfr_g F_364 77 rfl).trans g_363_77
        have g_364_78 := (hfr_g F_364 78 rfl).trans g_363_78
        have g_364_79 := (hfr_g F_364 79 rfl).trans g_363_79
        have g_364_80 := (hfr_g F_364 80 rfl).trans g_363_80
        refine ik_Wk 0 (pc_q := 42) (loc_q := [some (.ref 66), some (fI kd), some (fI p), some (fI t), some (fJ 0), none, none, none]) (st_q := [fI ((mj_lost pl cn go : Nat) : Int)]) (h_q := h_364) (cl_q := 0) (sl_q := 0) rfl ?_
        refine ik_Wk 3 (pc_q := 47) (loc_q := [some (.ref 66), some (fI kd), some (fI p), some (fI t), some (fJ 0), none, some (fI ((mj_lost pl cn go : Nat) : Int)), some (fI 0)]) (st_q := []) (h_q := h_364) (cl_q := 0) (sl_q := 0) rfl ?_
        exact rp_keptL (pl := pl) (f := f) (s := s) (cn := cn) (go := go) (ch := ch) (gt := gt) (gd := gd) (xs := xs) (ys := ys) (kd := kd) (p := p) (t := t) q0 q1 q2 q3 q4 q5 q6 q7 q8 ⟨⟨by omega, by omega⟩, by omega⟩ p_363_0 (pl.toNat + 1) 0 0 h_364 g_364_66 g_364_67 n67 g_364_68 n68 g_364_69 n69 g_364_77 m_363_77 g_364_78 m_363_78 g_364_79 m_363_79 g_364_80 m_363_80 k_364 fr_364 (by omega) rfl (by omega)
      · have k_362 : cL h_362 := F_362.1.trans k_361
        have fr_362 := hfr_cb fr_361 F_362 rfl
        have g_362_66 := (hfr_g F_362 66 rfl).trans g_361_66
        have g_362_67 := (hfr_g F_362 67 rfl).trans g_361_67
        have g_362_68 := (hfr_g F_362 68 rfl).trans g_361_68
        have g_362_69 := (hfr_g F_362 69 rfl).trans g_361_69
        have g_362_77 := (hfr_g F_362 77 rfl).trans g_361_77
        have g_362_78 := (hfr_g F_362 78 rfl).trans g_361_78
        have g_362_79 := (hfr_g F_362 79 rfl).trans g_361_79
        have g_362_80 := (hfr_g F_362 80 rfl).trans g_361_80
        refine ik_Wk 0 (pc_q := 9) (loc_q := [some (fI t)]) (st_q := [fI 0]) (h_q := h_362) (cl_q := 0) (sl_q := 0) rfl ?_
        refine ik_Wret rfl rfl ⟨_, _, rfl, rfl, ?_⟩
        refine ik_Wk 0 (pc_q := 22) (loc_q := [some (.ref 66), some (fI kd), some (fI p), some (fI t), none, none, none, none]) (st_q := [fI 0]) (h_q := h_362) (cl_q := 0) (sl_q := 0) rfl ?_
        refine fw_if_ne rfl rfl (by decide +kernel) (by decide +kernel) (fun hc4 => ?_) (fun hc4 => absurd hc4 (by decide +kernel))
        refine fw_ld (-1000000002) rfl rfl (by decide +kernel) ?_
        exact ik_Wret rfl rfl ⟨_, _, rfl, rfl, rfl, rfl, ⟨(f 24), gt, gd, xs, ys, (congrArg (fun z => [fI z]) (by unfold an_kp; (repeat' split) <;> first | rfl | omega)), g_362_66, g_362_77, n77, g_362_78, n78, g_362_79, n79, g_362_80, n80, fr_362⟩⟩
    · have k_361 : cL h_361 := F_361.1.trans k_360
      have fr_361 := hfr_cb fr_360 F_361 rfl
      have g_361_66 := (hfr_g F_361 66 rfl).trans g_360_66
      have g_361_67 := (hfr_g F_361 67 rfl).trans g_360_67
      have g_361_68 := (hfr_g F_361 68 rfl).trans g_360_68
      have g_361_69 := (hfr_g F_361 69 rfl).trans g_360_69
      have g_361_77 := (hfr_g F_361 77 rfl).trans g_360_77
      have g_361_78 := (hfr_g F_361 78 rfl).trans g_360_78
      have g_361_79 := (hfr_g F_361 79 rfl).trans g_360_79
      have g_361_80 := (hfr_g F_361 80 rfl).trans g_360_80
      refine ik_Wk 0 (pc_q := 13) (loc_q := [some (.ref 66), some (fI p)]) (st_q := [fI 0]) (h_q := h_361) (cl_q := 0) (sl_q := 0) rfl ?_
      refine ik_Wret rfl rfl ⟨_, _, rfl, rfl, ?_⟩
      refine ik_Wk 0 (pc_q := 12) (loc_q := [some (.ref 66), some (fI kd), some (fI p), some (fI t), none, none, none, none]) (st_q := [fI 0]) (h_q := h_361) (cl_q := 0) (sl_q := 0) rfl ?_
      refine fw_if_ne rfl rfl (by decide +kernel) (by decide +kernel) (fun hc5 => ?_) (fun hc5 => absurd hc5 (by decide +kernel))
      refine fw_ld (-1000000001) rfl rfl (by decide +kernel) ?_
      exact ik_Wret rfl rfl ⟨_, _, rfl, rfl, rfl, rfl, ⟨(f 24), gt, gd, xs, ys, (congrArg (fun z => [fI z]) (by unfold an_kp; (repeat' split) <;> first | rfl | omega)), g_361_66, g_361_77, n77, g_361_78, n78, g_361_79, n79, g_361_80, n80, fr_361⟩⟩
  · have k_360 : cL h_360 := F_360.1.trans hl
    have fr_360 := hfr_cb (hfr_refl [66, 77, 78, 79, 80] h) F_360 rfl
    have g_360_66 := (hfr_g F_360 66 rfl).trans h66
    have g_360_67 := (hfr_g F_360 67 rfl).trans h67
    have g_360_68 := (hfr_g F_360 68 rfl).trans h68
    have g_360_69 := (hfr_g F_360 69 rfl).trans h69
    have g_360_77 := (hfr_g F_360 77 rfl).trans h77
    have g_360_78 := (hfr_g F_360 78 rfl).trans h78
    have g_360_79 := (hfr_g F_360 79 rfl).trans h79
    have g_360_80 := (hfr_g F_360 80 rfl).trans h80
    refine ik_Wk 0 (pc_q := 9) (loc_q := [some (fI kd)]) (st_q := [fI 0]) (h_q := h_360) (cl_q := 0) (sl_q := 0) rfl ?_
    refine ik_Wret rfl rfl ⟨_, _, rfl, rfl, ?_⟩
    refine ik_Wk 0 (pc_q := 4) (loc_q := [some (.ref 66), some (fI kd), some (fI p), some (fI t), none, none, none, none]) (st_q := [fI 0]) (h_q := h_360) (cl_q := 0) (sl_q := 0) rfl ?_
    refine fw_if_eq rfl rfl (by decide +kernel) (by decide +kernel) (fun hc6 => ?_) (fun hc6 => absurd hc6 (by decide +kernel))
    refine fw_ld (-1000000001) rfl rfl (by decide +kernel) ?_
    exact ik_Wret rfl rfl ⟨_, _, rfl, rfl, rfl, rfl, ⟨(f 24), gt, gd, xs, ys, (congrArg (fun z => [fI z]) (by unfold an_kp; (repeat' split) <;> first | rfl | omega)), g_360_66, g_360_77, n77, g_360_78, n78, g_360_79, n79, g_360_80, n80, fr_360⟩⟩

end
