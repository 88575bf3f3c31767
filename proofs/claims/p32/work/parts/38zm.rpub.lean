noncomputable section
/-! the reference: its calls that seek (written by wip/fx/u14.py) -/
theorem rp_comes {h : List ik_E} {pl : Int} {f : Nat → Int} {s : Nat} {cn : List Int} {go : List Int} {ch : List Int} {gt : List Int} {gd : List Int} {xs : List Int} {ys : List Int} {kd : Int} {p : Int} {t : Int} (q0 : 0 ≤ pl ∧ pl ≤ 12) (q1 : s < 4096) (q2 : ∀ x : Int, 0 ≤ x → x < pl - 1 → 0 ≤ cn.getD x.toNat 0 ∧ cn.getD x.toNat 0 ≤ 4) (q3 : ∀ x : Int, 0 ≤ x → x < pl - 1 → 1 ≤ cn.getD x.toNat 0 ∧ ∀ j : Int, 4 * x ≤ j → j < 4 * x + cn.getD x.toNat 0 → 0 ≤ ch.getD j.toNat 0 ∧ ch.getD j.toNat 0 ≤ 100) (q4 : ∀ x : Int, 0 ≤ x → x < pl - 1 → mx_ok pl (mx_w cn go ch s x)) (q5 : -2147483648 ≤ kd ∧ kd < 2147483648) (q6 : -2147483648 ≤ p ∧ p < 2147483648) (q7 : -2147483648 ≤ t ∧ t < 2147483648) (h66 : cE h 66 (.inr (10, [fI pl, .ref 67, .ref 68, .ref 69, fI ((s : Nat) : Int), .ref 70, .ref 71, fI (f 7), fI (f 8), .ref 72, fI (f 10), fI (f 11), fI (f 12), fJ (f 13), fI (f 14), fI (f 15), fI (f 16), fI (f 17), .ref 73, .ref 74, .ref 75, .ref 76, .ref 77, .ref 78, fI (f 24), .ref 79, .ref 80, .ref 81, .ref 82, .ref 83, .ref 84, .ref 85, fJ (f 32), fJ (f 33), .ref 86, .ref 87, fI (f 36), .ref 88, .ref 89, .ref 90, .ref 91, .ref 92, .ref 93]))) (h67 : cE h 67 (.inl (.int, fA cn))) (n67 : cn.length = 12) (h68 : cE h 68 (.inl (.int, fA go))) (n68 : go.length = 48) (h69 : cE h 69 (.inl (.int, fA ch))) (n69 : ch.length = 48) (h77 : cE h 77 (.inl (.int, fA gt))) (n77 : gt.length = 5) (h78 : cE h 78 (.inl (.int, fA gd))) (n78 : gd.length = 5) (h79 : cE h 79 (.inl (.long, fL xs))) (n79 : xs.length = 12) (h80 : cE h 80 (.inl (.long, fL ys))) (n80 : ys.length = 12) (hl : h.length = 94) : ik_F 160 [.ref 66, fI kd, fI p, fI t] h (fun rv h' => ∃ (w' : Int) (gt' : List Int) (gd' : List Int) (xs' : List Int) (ys' : List Int), rv = [fI (an_kp kd p pl t (mf_cm (fun x => mx_w cn go ch s x) (pl - 1) kd p t.toNat))] ∧ cE h' 66 (.inr (10, [fI pl, .ref 67, .ref 68, .ref 69, fI ((s : Nat) : Int), .ref 70, .ref 71, fI (f 7), fI (f 8), .ref 72, fI (f 10), fI (f 11), fI (f 12), fJ (f 13), fI (f 14), fI (f 15), fI (f 16), fI (f 17), .ref 73, .ref 74, .ref 75, .ref 76, .ref 77, .ref 78, fI w', .ref 79, .ref 80, .ref 81, .ref 82, .ref 83, .ref 84, .ref 85, fJ (f 32), fJ (f 33), .ref 86, .ref 87, fI (f 36), .ref 88, .ref 89, .ref 90, .ref 91, .ref 92, .ref 93])) ∧ cE h' 77 (.inl (.int, fA gt')) ∧ gt'.length = 5 ∧ cE h' 78 (.inl (.int, fA gd')) ∧ gd'.length = 5 ∧ cE h' 79 (.inl (.long, fL xs')) ∧ xs'.length = 12 ∧ cE h' 80 (.inl (.long, fL ys')) ∧ ys'.length = 12 ∧ hfr [66, 77, 78, 79, 80] h h') := by
  refine ik_Wk 1 (pc' := 1) (loc' := [some (.ref 66), some (fI kd), some (fI p), some (fI t)]) (st' := [fI kd]) (h' := h) (cl' := 0) (sl' := 0) rfl ?_
  refine ik_Wc 133 1 3 [fI kd] [] rfl rfl rfl (by decide) rfl rfl (fw_sta hl rfl (by decide)) ?_
  refine ik_Wk 0 (pc' := 0) (loc' := [some (fI kd)]) (st' := []) (h' := h) (cl' := 0) (sl' := 0) rfl ?_
  refine ik_Wk 1 (pc' := 1) (loc' := [some (fI kd)]) (st' := [fI kd]) (h' := h) (cl' := 0) (sl' := 0) rfl ?_
  refine fw_i2l rfl (by omega) (by omega) ?_
  refine fw_lc (z := 0) rfl (by decide) ?_
  refine fw_l2 2 rfl rfl (by decide) ?_
  refine fw_call 127 3 3 [fJ kd, fJ 0, fJ 2] [] rfl rfl rfl (by decide) rfl rfl (fw_sta hl rfl (by decide)) (cr_in (v := kd) (a := 0) (b := 2) (by omega) (by omega) (by omega)  hl) ?_
  rintro _ h_253 (⟨rfl, p_253_0, F_253⟩ | ⟨rfl, p_253_0, F_253⟩)
  · have k_253 := F_253.1.trans hl
    have fr_253 := hfr_c (hfr_refl [66, 77, 78, 79, 80] h) F_253 (by decide)
    have g_253_66 := (F_253.2 66 (by decide +kernel)).trans h66
    have g_253_67 := (F_253.2 67 (by decide +kernel)).trans h67
    have g_253_68 := (F_253.2 68 (by decide +kernel)).trans h68
    have g_253_69 := (F_253.2 69 (by decide +kernel)).trans h69
    have g_253_77 := (F_253.2 77 (by decide +kernel)).trans h77
    have g_253_78 := (F_253.2 78 (by decide +kernel)).trans h78
    have g_253_79 := (F_253.2 79 (by decide +kernel)).trans h79
    have g_253_80 := (F_253.2 80 (by decide +kernel)).trans h80
    refine ik_Wk 0 (pc' := 9) (loc' := [some (fI kd)]) (st' := [fI 1]) (h' := h_253) (cl' := 0) (sl' := 0) rfl ?_
    refine ik_Wret rfl rfl ⟨_, _, rfl, rfl, ?_⟩
    refine ik_Wk 0 (pc' := 4) (loc' := [some (.ref 66), some (fI kd), some (fI p), some (fI t)]) (st' := [fI 1]) (h' := h_253) (cl' := 0) (sl' := 0) rfl ?_
    refine fw_if_eq rfl rfl (by omega) (by omega) (fun hc1 => absurd hc1 (by omega)) (fun hc1 => ?_)
    refine ik_Wk 2 (pc' := 9) (loc' := [some (.ref 66), some (fI kd), some (fI p), some (fI t)]) (st' := [fI p, .ref 66]) (h' := h_253) (cl' := 0) (sl' := 0) rfl ?_
    refine ik_Wc 129 2 0 [.ref 66, fI p] [] rfl rfl rfl (by decide) rfl rfl (fw_rec k_253 rfl g_253_66 rfl (by decide)) ?_
    refine ik_Wk 0 (pc' := 0) (loc' := [some (.ref 66), some (fI p)]) (st' := []) (h' := h_253) (cl' := 0) (sl' := 0) rfl ?_
    refine ik_Wk 1 (pc' := 1) (loc' := [some (.ref 66), some (fI p)]) (st' := [fI p]) (h' := h_253) (cl' := 0) (sl' := 0) rfl ?_
    refine fw_i2l rfl (by omega) (by omega) ?_
    refine fw_lc (z := 0) rfl (by decide) ?_
    refine ik_Wk 1 (pc' := 4) (loc' := [some (.ref 66), some (fI p)]) (st' := [.ref 66, fJ 0, fJ p]) (h' := h_253) (cl' := 0) (sl' := 0) rfl ?_
    refine fw_gf rfl rfl g_253_66 rfl ?_
    refine ik_Wk 1 (pc' := 8) (loc' := [some (.ref 66), some (fI p)]) (st' := [fI 1, fI pl, fJ 0, fJ p]) (h' := h_253) (cl' := 0) (sl' := 0) rfl ?_
    refine fw_sub rfl ?_
    refine fw_i2l rfl (by omega) (by omega) ?_
    refine fw_call 127 3 3 [fJ p, fJ 0, fJ (pl - 1)] [] rfl rfl rfl (by decide) rfl rfl (fw_sta k_253 rfl (by decide)) (cr_in (v := p) (a := 0) (b := pl - 1) (by omega) (by omega) (by omega)  k_253) ?_
    rintro _ h_254 (⟨rfl, p_254_0, F_254⟩ | ⟨rfl, p_254_0, F_254⟩)
    · have k_254 := F_254.1.trans k_253
      have fr_254 := hfr_c fr_253 F_254 (by decide)
      have g_254_66 := (F_254.2 66 (by decide +kernel)).trans g_253_66
      have g_254_67 := (F_254.2 67 (by decide +kernel)).trans g_253_67
      have g_254_68 := (F_254.2 68 (by decide +kernel)).trans g_253_68
      have g_254_69 := (F_254.2 69 (by decide +kernel)).trans g_253_69
      have g_254_77 := (F_254.2 77 (by decide +kernel)).trans g_253_77
      have g_254_78 := (F_254.2 78 (by decide +kernel)).trans g_253_78
      have g_254_79 := (F_254.2 79 (by decide +kernel)).trans g_253_79
      have g_254_80 := (F_254.2 80 (by decide +kernel)).trans g_253_80
      refine ik_Wk 0 (pc' := 13) (loc' := [some (.ref 66), some (fI p)]) (st' := [fI 1]) (h' := h_254) (cl' := 0) (sl' := 0) rfl ?_
      refine ik_Wret rfl rfl ⟨_, _, rfl, rfl, ?_⟩
      refine ik_Wk 0 (pc' := 12) (loc' := [some (.ref 66), some (fI kd), some (fI p), some (fI t)]) (st' := [fI 1]) (h' := h_254) (cl' := 0) (sl' := 0) rfl ?_
      refine fw_if_ne rfl rfl (by omega) (by omega) (fun hc2 => absurd hc2 (by omega)) (fun hc2 => ?_)
      refine ik_Wk 1 (pc' := 19) (loc' := [some (.ref 66), some (fI kd), some (fI p), some (fI t)]) (st' := [fI t]) (h' := h_254) (cl' := 0) (sl' := 0) rfl ?_
      refine ik_Wc 159 1 3 [fI t] [] rfl rfl rfl (by decide) rfl rfl (fw_sta k_254 rfl (by decide)) ?_
      refine ik_Wk 0 (pc' := 0) (loc' := [some (fI t)]) (st' := []) (h' := h_254) (cl' := 0) (sl' := 0) rfl ?_
      refine ik_Wk 1 (pc' := 1) (loc' := [some (fI t)]) (st' := [fI t]) (h' := h_254) (cl' := 0) (sl' := 0) rfl ?_
      refine fw_i2l rfl (by omega) (by omega) ?_
      refine fw_lc (z := 0) rfl (by decide) ?_
      refine fw_l2 200 rfl rfl (by decide) ?_
      refine fw_call 127 3 3 [fJ t, fJ 0, fJ 200] [] rfl rfl rfl (by decide) rfl rfl (fw_sta k_254 rfl (by decide)) (cr_in (v := t) (a := 0) (b := 200) (by omega) (by omega) (by omega)  k_254) ?_
      rintro _ h_255 (⟨rfl, p_255_0, F_255⟩ | ⟨rfl, p_255_0, F_255⟩)
      · have k_255 := F_255.1.trans k_254
        have fr_255 := hfr_c fr_254 F_255 (by decide)
        have g_255_66 := (F_255.2 66 (by decide +kernel)).trans g_254_66
        have g_255_67 := (F_255.2 67 (by decide +kernel)).trans g_254_67
        have g_255_68 := (F_255.2 68 (by decide +kernel)).trans g_254_68
        have g_255_69 := (F_255.2 69 (by decide +kernel)).trans g_254_69
        have g_255_77 := (F_255.2 77 (by decide +kernel)).trans g_254_77
        have g_255_78 := (F_255.2 78 (by decide +kernel)).trans g_254_78
        have g_255_79 := (F_255.2 79 (by decide +kernel)).trans g_254_79
        have g_255_80 := (F_255.2 80 (by decide +kernel)).trans g_254_80
        refine ik_Wk 0 (pc' := 9) (loc' := [some (fI t)]) (st' := [fI 1]) (h' := h_255) (cl' := 0) (sl' := 0) rfl ?_
        refine ik_Wret rfl rfl ⟨_, _, rfl, rfl, ?_⟩
        refine ik_Wk 0 (pc' := 22) (loc' := [some (.ref 66), some (fI kd), some (fI p), some (fI t)]) (st' := [fI 1]) (h' := h_255) (cl' := 0) (sl' := 0) rfl ?_
        refine fw_if_ne rfl rfl (by omega) (by omega) (fun hc3 => absurd hc3 (by omega)) (fun hc3 => ?_)
        refine ik_Wk 4 (pc' := 32) (loc' := [some (.ref 66), some (fI kd), some (fI p), some (fI t)]) (st' := [fI t, fI p, fI kd, .ref 66]) (h' := h_255) (cl' := 0) (sl' := 0) rfl ?_
        refine fw_call 156 4 0 [.ref 66, fI kd, fI p, fI t] [] rfl rfl rfl (by decide) rfl rfl (fw_rec k_255 rfl g_255_66 rfl (by decide)) (cr_oddsAt (pl := pl) (f := fun j => ([0, 0, 0, 0, 0, 0, 0, f 7, f 8, 0, f 10, f 11, f 12, f 13, f 14, f 15, f 16, f 17, 0, 0, 0, 0, 0, 0, f 24, 0, 0, 0, 0, 0, 0, 0, f 32, f 33, 0, 0, f 36, 0, 0, 0, 0, 0, 0] : List Int).getD j 0) (s := s) (cn := cn) (go := go) (ch := ch) (gt := gt) (gd := gd) (xs := xs) (ys := ys) (kd := kd) (qp := p) (t := t) (by omega) (by omega) q2 q3 q4 (by omega) (by omega) (by omega) g_255_66 g_255_67 n67 g_255_68 n68 g_255_69 n69 g_255_77 n77 g_255_78 n78 g_255_79 n79 g_255_80 n80 k_255) ?_
        rintro _ h_256 ⟨w'_256, gt'_256, gd'_256, xs'_256, ys'_256, rfl, e_256_66, e_256_77, m_256_77, e_256_78, m_256_78, e_256_79, m_256_79, e_256_80, m_256_80, p_256_0, F_256⟩
        have k_256 := F_256.1.trans k_255
        have fr_256 := hfr_c fr_255 F_256 (by decide)
        have g_256_67 := (F_256.2 67 (by decide +kernel)).trans g_255_67
        have g_256_68 := (F_256.2 68 (by decide +kernel)).trans g_255_68
        have g_256_69 := (F_256.2 69 (by decide +kernel)).trans g_255_69
        have g_256_66 : cE h_256 66 (.inr (10, [fI pl, .ref 67, .ref 68, .ref 69, fI ((s : Nat) : Int), .ref 70, .ref 71, fI (f 7), fI (f 8), .ref 72, fI (f 10), fI (f 11), fI (f 12), fJ (f 13), fI (f 14), fI (f 15), fI (f 16), fI (f 17), .ref 73, .ref 74, .ref 75, .ref 76, .ref 77, .ref 78, fI w'_256, .ref 79, .ref 80, .ref 81, .ref 82, .ref 83, .ref 84, .ref 85, fJ (f 32), fJ (f 33), .ref 86, .ref 87, fI (f 36), .ref 88, .ref 89, .ref 90, .ref 91, .ref 92, .ref 93])) := e_256_66
        have g_256_77 : cE h_256 77 (.inl (.int, fA gt'_256)) := e_256_77
        have g_256_78 : cE h_256 78 (.inl (.int, fA gd'_256)) := e_256_78
        have g_256_79 : cE h_256 79 (.inl (.long, fL xs'_256)) := e_256_79
        have g_256_80 : cE h_256 80 (.inl (.long, fL ys'_256)) := e_256_80
        refine ik_Wk 0 (pc' := 35) (loc' := [some (.ref 66), some (fI kd), some (fI p), some (fI t)]) (st' := []) (h' := h_256) (cl' := 0) (sl' := 0) rfl ?_
        refine ik_Wk 1 (pc' := 36) (loc' := [some (.ref 66), some (fI kd), some (fI p), some (fI t)]) (st' := [.ref 66]) (h' := h_256) (cl' := 0) (sl' := 0) rfl ?_
        refine fw_gf rfl rfl g_256_66 rfl ?_
        refine ik_Wk 1 (pc' := 40) (loc' := [some (.ref 66), some (fI kd), some (fI p), some (fI t)]) (st' := [.ref 66, .ref 79]) (h' := h_256) (cl' := 0) (sl' := 0) rfl ?_
        refine ik_Wc 130 1 0 [.ref 66] [.ref 79] rfl rfl rfl (by decide) rfl rfl (fw_rec k_256 rfl g_256_66 rfl (by decide)) ?_
        refine ik_Wk 0 (pc' := 0) (loc' := [some (.ref 66)]) (st' := []) (h' := h_256) (cl' := 0) (sl' := 0) rfl ?_
        refine ik_Wk 1 (pc' := 1) (loc' := [some (.ref 66)]) (st' := [.ref 66]) (h' := h_256) (cl' := 0) (sl' := 0) rfl ?_
        refine fw_gf rfl rfl g_256_66 rfl ?_
        refine ik_Wk 1 (pc' := 5) (loc' := [some (.ref 66)]) (st' := [fI 1, fI pl]) (h' := h_256) (cl' := 0) (sl' := 0) rfl ?_
        refine fw_sub rfl ?_
        refine ik_Wret rfl rfl ⟨_, _, rfl, rfl, ?_⟩
        refine ik_Wk 0 (pc' := 43) (loc' := [some (.ref 66), some (fI kd), some (fI p), some (fI t)]) (st' := [fI (pl - 1), .ref 79]) (h' := h_256) (cl' := 0) (sl' := 0) rfl ?_
        refine fx_lal rfl g_256_79 (by omega) (by omega) (by omega) ?_
        refine fx_l2i rfl ?_
        have ev : xs'_256.getD (pl - 1).toNat 0 = mf_cm (fun x => mx_w cn go ch s x) (pl - 1) kd p t.toNat := p_256_0 _ (by omega)
        have ev2 := ev
        exact ik_Wret rfl rfl ⟨_, _, rfl, rfl, rfl, rfl, ⟨w'_256, gt'_256, gd'_256, xs'_256, ys'_256, (congrArg (fun z => [fI z]) (by rw [ev]; unfold an_kp; (repeat' split) <;> first | rfl | omega)), g_256_66, g_256_77, m_256_77, g_256_78, m_256_78, g_256_79, m_256_79, g_256_80, m_256_80, fr_256⟩⟩
      · have k_255 := F_255.1.trans k_254
        have fr_255 := hfr_c fr_254 F_255 (by decide)
        have g_255_66 := (F_255.2 66 (by decide +kernel)).trans g_254_66
        have g_255_67 := (F_255.2 67 (by decide +kernel)).trans g_254_67
        have g_255_68 := (F_255.2 68 (by decide +kernel)).trans g_254_68
        have g_255_69 := (F_255.2 69 (by decide +kernel)).trans g_254_69
        have g_255_77 := (F_255.2 77 (by decide +kernel)).trans g_254_77
        have g_255_78 := (F_255.2 78 (by decide +kernel)).trans g_254_78
        have g_255_79 := (F_255.2 79 (by decide +kernel)).trans g_254_79
        have g_255_80 := (F_255.2 80 (by decide +kernel)).trans g_254_80
        refine ik_Wk 0 (pc' := 9) (loc' := [some (fI t)]) (st' := [fI 0]) (h' := h_255) (cl' := 0) (sl' := 0) rfl ?_
        refine ik_Wret rfl rfl ⟨_, _, rfl, rfl, ?_⟩
        refine ik_Wk 0 (pc' := 22) (loc' := [some (.ref 66), some (fI kd), some (fI p), some (fI t)]) (st' := [fI 0]) (h' := h_255) (cl' := 0) (sl' := 0) rfl ?_
        refine fw_if_ne rfl rfl (by omega) (by omega) (fun hc4 => ?_) (fun hc4 => absurd hc4 (by omega))
        refine fw_ld (-1000000002) rfl rfl (by decide) ?_
        exact ik_Wret rfl rfl ⟨_, _, rfl, rfl, rfl, rfl, ⟨(f 24), gt, gd, xs, ys, (congrArg (fun z => [fI z]) (by unfold an_kp; (repeat' split) <;> first | rfl | omega)), g_255_66, g_255_77, n77, g_255_78, n78, g_255_79, n79, g_255_80, n80, fr_255⟩⟩
    · have k_254 := F_254.1.trans k_253
      have fr_254 := hfr_c fr_253 F_254 (by decide)
      have g_254_66 := (F_254.2 66 (by decide +kernel)).trans g_253_66
      have g_254_67 := (F_254.2 67 (by decide +kernel)).trans g_253_67
      have g_254_68 := (F_254.2 68 (by decide +kernel)).trans g_253_68
      have g_254_69 := (F_254.2 69 (by decide +kernel)).trans g_253_69
      have g_254_77 := (F_254.2 77 (by decide +kernel)).trans g_253_77
      have g_254_78 := (F_254.2 78 (by decide +kernel)).trans g_253_78
      have g_254_79 := (F_254.2 79 (by decide +kernel)).trans g_253_79
      have g_254_80 := (F_254.2 80 (by decide +kernel)).trans g_253_80
      refine ik_Wk 0 (pc' := 13) (loc' := [some (.ref 66), some (fI p)]) (st' := [fI 0]) (h' := h_254) (cl' := 0) (sl' := 0) rfl ?_
      refine ik_Wret rfl rfl ⟨_, _, rfl, rfl, ?_⟩
      refine ik_Wk 0 (pc' := 12) (loc' := [some (.ref 66), some (fI kd), some (fI p), some (fI t)]) (st' := [fI 0]) (h' := h_254) (cl' := 0) (sl' := 0) rfl ?_
      refine fw_if_ne rfl rfl (by omega) (by omega) (fun hc5 => ?_) (fun hc5 => absurd hc5 (by omega))
      refine fw_ld (-1000000001) rfl rfl (by decide) ?_
      exact ik_Wret rfl rfl ⟨_, _, rfl, rfl, rfl, rfl, ⟨(f 24), gt, gd, xs, ys, (congrArg (fun z => [fI z]) (by unfold an_kp; (repeat' split) <;> first | rfl | omega)), g_254_66, g_254_77, n77, g_254_78, n78, g_254_79, n79, g_254_80, n80, fr_254⟩⟩
  · have k_253 := F_253.1.trans hl
    have fr_253 := hfr_c (hfr_refl [66, 77, 78, 79, 80] h) F_253 (by decide)
    have g_253_66 := (F_253.2 66 (by decide +kernel)).trans h66
    have g_253_67 := (F_253.2 67 (by decide +kernel)).trans h67
    have g_253_68 := (F_253.2 68 (by decide +kernel)).trans h68
    have g_253_69 := (F_253.2 69 (by decide +kernel)).trans h69
    have g_253_77 := (F_253.2 77 (by decide +kernel)).trans h77
    have g_253_78 := (F_253.2 78 (by decide +kernel)).trans h78
    have g_253_79 := (F_253.2 79 (by decide +kernel)).trans h79
    have g_253_80 := (F_253.2 80 (by decide +kernel)).trans h80
    refine ik_Wk 0 (pc' := 9) (loc' := [some (fI kd)]) (st' := [fI 0]) (h' := h_253) (cl' := 0) (sl' := 0) rfl ?_
    refine ik_Wret rfl rfl ⟨_, _, rfl, rfl, ?_⟩
    refine ik_Wk 0 (pc' := 4) (loc' := [some (.ref 66), some (fI kd), some (fI p), some (fI t)]) (st' := [fI 0]) (h' := h_253) (cl' := 0) (sl' := 0) rfl ?_
    refine fw_if_eq rfl rfl (by omega) (by omega) (fun hc6 => ?_) (fun hc6 => absurd hc6 (by omega))
    refine fw_ld (-1000000001) rfl rfl (by decide) ?_
    exact ik_Wret rfl rfl ⟨_, _, rfl, rfl, rfl, rfl, ⟨(f 24), gt, gd, xs, ys, (congrArg (fun z => [fI z]) (by unfold an_kp; (repeat' split) <;> first | rfl | omega)), g_253_66, g_253_77, n77, g_253_78, n78, g_253_79, n79, g_253_80, n80, fr_253⟩⟩

theorem rp_at {h : List ik_E} {pl : Int} {f : Nat → Int} {s : Nat} {cn : List Int} {go : List Int} {ch : List Int} {gt : List Int} {gd : List Int} {xs : List Int} {ys : List Int} {kd : Int} {p : Int} {t : Int} {q : Int} (q0 : 0 ≤ pl ∧ pl ≤ 12) (q1 : s < 4096) (q2 : ∀ x : Int, 0 ≤ x → x < pl - 1 → 0 ≤ cn.getD x.toNat 0 ∧ cn.getD x.toNat 0 ≤ 4) (q3 : ∀ x : Int, 0 ≤ x → x < pl - 1 → 1 ≤ cn.getD x.toNat 0 ∧ ∀ j : Int, 4 * x ≤ j → j < 4 * x + cn.getD x.toNat 0 → 0 ≤ ch.getD j.toNat 0 ∧ ch.getD j.toNat 0 ≤ 100) (q4 : ∀ x : Int, 0 ≤ x → x < pl - 1 → mx_ok pl (mx_w cn go ch s x)) (q5 : -2147483648 ≤ kd ∧ kd < 2147483648) (q6 : -2147483648 ≤ p ∧ p < 2147483648) (q7 : -2147483648 ≤ t ∧ t < 2147483648) (q8 : -2147483648 ≤ q ∧ q < 2147483648) (h66 : cE h 66 (.inr (10, [fI pl, .ref 67, .ref 68, .ref 69, fI ((s : Nat) : Int), .ref 70, .ref 71, fI (f 7), fI (f 8), .ref 72, fI (f 10), fI (f 11), fI (f 12), fJ (f 13), fI (f 14), fI (f 15), fI (f 16), fI (f 17), .ref 73, .ref 74, .ref 75, .ref 76, .ref 77, .ref 78, fI (f 24), .ref 79, .ref 80, .ref 81, .ref 82, .ref 83, .ref 84, .ref 85, fJ (f 32), fJ (f 33), .ref 86, .ref 87, fI (f 36), .ref 88, .ref 89, .ref 90, .ref 91, .ref 92, .ref 93]))) (h67 : cE h 67 (.inl (.int, fA cn))) (n67 : cn.length = 12) (h68 : cE h 68 (.inl (.int, fA go))) (n68 : go.length = 48) (h69 : cE h 69 (.inl (.int, fA ch))) (n69 : ch.length = 48) (h77 : cE h 77 (.inl (.int, fA gt))) (n77 : gt.length = 5) (h78 : cE h 78 (.inl (.int, fA gd))) (n78 : gd.length = 5) (h79 : cE h 79 (.inl (.long, fL xs))) (n79 : xs.length = 12) (h80 : cE h 80 (.inl (.long, fL ys))) (n80 : ys.length = 12) (hl : h.length = 94) : ik_F 161 [.ref 66, fI kd, fI p, fI t, fI q] h (fun rv h' => ∃ (w' : Int) (gt' : List Int) (gd' : List Int) (xs' : List Int) (ys' : List Int), rv = [fI (an_kpq kd p q pl t (mf_od (fun x => mx_w cn go ch s x) (pl - 1) kd p t.toNat q.toNat))] ∧ cE h' 66 (.inr (10, [fI pl, .ref 67, .ref 68, .ref 69, fI ((s : Nat) : Int), .ref 70, .ref 71, fI (f 7), fI (f 8), .ref 72, fI (f 10), fI (f 11), fI (f 12), fJ (f 13), fI (f 14), fI (f 15), fI (f 16), fI (f 17), .ref 73, .ref 74, .ref 75, .ref 76, .ref 77, .ref 78, fI w', .ref 79, .ref 80, .ref 81, .ref 82, .ref 83, .ref 84, .ref 85, fJ (f 32), fJ (f 33), .ref 86, .ref 87, fI (f 36), .ref 88, .ref 89, .ref 90, .ref 91, .ref 92, .ref 93])) ∧ cE h' 77 (.inl (.int, fA gt')) ∧ gt'.length = 5 ∧ cE h' 78 (.inl (.int, fA gd')) ∧ gd'.length = 5 ∧ cE h' 79 (.inl (.long, fL xs')) ∧ xs'.length = 12 ∧ cE h' 80 (.inl (.long, fL ys')) ∧ ys'.length = 12 ∧ hfr [66, 77, 78, 79, 80] h h') := by
  refine ik_Wk 1 (pc' := 1) (loc' := [some (.ref 66), some (fI kd), some (fI p), some (fI t), some (fI q)]) (st' := [fI kd]) (h' := h) (cl' := 0) (sl' := 0) rfl ?_
  refine ik_Wc 133 1 3 [fI kd] [] rfl rfl rfl (by decide) rfl rfl (fw_sta hl rfl (by decide)) ?_
  refine ik_Wk 0 (pc' := 0) (loc' := [some (fI kd)]) (st' := []) (h' := h) (cl' := 0) (sl' := 0) rfl ?_
  refine ik_Wk 1 (pc' := 1) (loc' := [some (fI kd)]) (st' := [fI kd]) (h' := h) (cl' := 0) (sl' := 0) rfl ?_
  refine fw_i2l rfl (by omega) (by omega) ?_
  refine fw_lc (z := 0) rfl (by decide) ?_
  refine fw_l2 2 rfl rfl (by decide) ?_
  refine fw_call 127 3 3 [fJ kd, fJ 0, fJ 2] [] rfl rfl rfl (by decide) rfl rfl (fw_sta hl rfl (by decide)) (cr_in (v := kd) (a := 0) (b := 2) (by omega) (by omega) (by omega)  hl) ?_
  rintro _ h_257 (⟨rfl, p_257_0, F_257⟩ | ⟨rfl, p_257_0, F_257⟩)
  · have k_257 := F_257.1.trans hl
    have fr_257 := hfr_c (hfr_refl [66, 77, 78, 79, 80] h) F_257 (by decide)
    have g_257_66 := (F_257.2 66 (by decide +kernel)).trans h66
    have g_257_67 := (F_257.2 67 (by decide +kernel)).trans h67
    have g_257_68 := (F_257.2 68 (by decide +kernel)).trans h68
    have g_257_69 := (F_257.2 69 (by decide +kernel)).trans h69
    have g_257_77 := (F_257.2 77 (by decide +kernel)).trans h77
    have g_257_78 := (F_257.2 78 (by decide +kernel)).trans h78
    have g_257_79 := (F_257.2 79 (by decide +kernel)).trans h79
    have g_257_80 := (F_257.2 80 (by decide +kernel)).trans h80
    refine ik_Wk 0 (pc' := 9) (loc' := [some (fI kd)]) (st' := [fI 1]) (h' := h_257) (cl' := 0) (sl' := 0) rfl ?_
    refine ik_Wret rfl rfl ⟨_, _, rfl, rfl, ?_⟩
    refine ik_Wk 0 (pc' := 4) (loc' := [some (.ref 66), some (fI kd), some (fI p), some (fI t), some (fI q)]) (st' := [fI 1]) (h' := h_257) (cl' := 0) (sl' := 0) rfl ?_
    refine fw_if_eq rfl rfl (by omega) (by omega) (fun hc1 => absurd hc1 (by omega)) (fun hc1 => ?_)
    refine ik_Wk 2 (pc' := 9) (loc' := [some (.ref 66), some (fI kd), some (fI p), some (fI t), some (fI q)]) (st' := [fI p, .ref 66]) (h' := h_257) (cl' := 0) (sl' := 0) rfl ?_
    refine ik_Wc 129 2 0 [.ref 66, fI p] [] rfl rfl rfl (by decide) rfl rfl (fw_rec k_257 rfl g_257_66 rfl (by decide)) ?_
    refine ik_Wk 0 (pc' := 0) (loc' := [some (.ref 66), some (fI p)]) (st' := []) (h' := h_257) (cl' := 0) (sl' := 0) rfl ?_
    refine ik_Wk 1 (pc' := 1) (loc' := [some (.ref 66), some (fI p)]) (st' := [fI p]) (h' := h_257) (cl' := 0) (sl' := 0) rfl ?_
    refine fw_i2l rfl (by omega) (by omega) ?_
    refine fw_lc (z := 0) rfl (by decide) ?_
    refine ik_Wk 1 (pc' := 4) (loc' := [some (.ref 66), some (fI p)]) (st' := [.ref 66, fJ 0, fJ p]) (h' := h_257) (cl' := 0) (sl' := 0) rfl ?_
    refine fw_gf rfl rfl g_257_66 rfl ?_
    refine ik_Wk 1 (pc' := 8) (loc' := [some (.ref 66), some (fI p)]) (st' := [fI 1, fI pl, fJ 0, fJ p]) (h' := h_257) (cl' := 0) (sl' := 0) rfl ?_
    refine fw_sub rfl ?_
    refine fw_i2l rfl (by omega) (by omega) ?_
    refine fw_call 127 3 3 [fJ p, fJ 0, fJ (pl - 1)] [] rfl rfl rfl (by decide) rfl rfl (fw_sta k_257 rfl (by decide)) (cr_in (v := p) (a := 0) (b := pl - 1) (by omega) (by omega) (by omega)  k_257) ?_
    rintro _ h_258 (⟨rfl, p_258_0, F_258⟩ | ⟨rfl, p_258_0, F_258⟩)
    · have k_258 := F_258.1.trans k_257
      have fr_258 := hfr_c fr_257 F_258 (by decide)
      have g_258_66 := (F_258.2 66 (by decide +kernel)).trans g_257_66
      have g_258_67 := (F_258.2 67 (by decide +kernel)).trans g_257_67
      have g_258_68 := (F_258.2 68 (by decide +kernel)).trans g_257_68
      have g_258_69 := (F_258.2 69 (by decide +kernel)).trans g_257_69
      have g_258_77 := (F_258.2 77 (by decide +kernel)).trans g_257_77
      have g_258_78 := (F_258.2 78 (by decide +kernel)).trans g_257_78
      have g_258_79 := (F_258.2 79 (by decide +kernel)).trans g_257_79
      have g_258_80 := (F_258.2 80 (by decide +kernel)).trans g_257_80
      refine ik_Wk 0 (pc' := 13) (loc' := [some (.ref 66), some (fI p)]) (st' := [fI 1]) (h' := h_258) (cl' := 0) (sl' := 0) rfl ?_
      refine ik_Wret rfl rfl ⟨_, _, rfl, rfl, ?_⟩
      refine ik_Wk 0 (pc' := 12) (loc' := [some (.ref 66), some (fI kd), some (fI p), some (fI t), some (fI q)]) (st' := [fI 1]) (h' := h_258) (cl' := 0) (sl' := 0) rfl ?_
      refine fw_if_eq rfl rfl (by omega) (by omega) (fun hc2 => absurd hc2 (by omega)) (fun hc2 => ?_)
      refine ik_Wk 2 (pc' := 18) (loc' := [some (.ref 66), some (fI kd), some (fI p), some (fI t), some (fI q)]) (st' := [fI q, .ref 66]) (h' := h_258) (cl' := 0) (sl' := 0) rfl ?_
      refine ik_Wc 129 2 0 [.ref 66, fI q] [] rfl rfl rfl (by decide) rfl rfl (fw_rec k_258 rfl g_258_66 rfl (by decide)) ?_
      refine ik_Wk 0 (pc' := 0) (loc' := [some (.ref 66), some (fI q)]) (st' := []) (h' := h_258) (cl' := 0) (sl' := 0) rfl ?_
      refine ik_Wk 1 (pc' := 1) (loc' := [some (.ref 66), some (fI q)]) (st' := [fI q]) (h' := h_258) (cl' := 0) (sl' := 0) rfl ?_
      refine fw_i2l rfl (by omega) (by omega) ?_
      refine fw_lc (z := 0) rfl (by decide) ?_
      refine ik_Wk 1 (pc' := 4) (loc' := [some (.ref 66), some (fI q)]) (st' := [.ref 66, fJ 0, fJ q]) (h' := h_258) (cl' := 0) (sl' := 0) rfl ?_
      refine fw_gf rfl rfl g_258_66 rfl ?_
      refine ik_Wk 1 (pc' := 8) (loc' := [some (.ref 66), some (fI q)]) (st' := [fI 1, fI pl, fJ 0, fJ q]) (h' := h_258) (cl' := 0) (sl' := 0) rfl ?_
      refine fw_sub rfl ?_
      refine fw_i2l rfl (by omega) (by omega) ?_
      refine fw_call 127 3 3 [fJ q, fJ 0, fJ (pl - 1)] [] rfl rfl rfl (by decide) rfl rfl (fw_sta k_258 rfl (by decide)) (cr_in (v := q) (a := 0) (b := pl - 1) (by omega) (by omega) (by omega)  k_258) ?_
      rintro _ h_259 (⟨rfl, p_259_0, F_259⟩ | ⟨rfl, p_259_0, F_259⟩)
      · have k_259 := F_259.1.trans k_258
        have fr_259 := hfr_c fr_258 F_259 (by decide)
        have g_259_66 := (F_259.2 66 (by decide +kernel)).trans g_258_66
        have g_259_67 := (F_259.2 67 (by decide +kernel)).trans g_258_67
        have g_259_68 := (F_259.2 68 (by decide +kernel)).trans g_258_68
        have g_259_69 := (F_259.2 69 (by decide +kernel)).trans g_258_69
        have g_259_77 := (F_259.2 77 (by decide +kernel)).trans g_258_77
        have g_259_78 := (F_259.2 78 (by decide +kernel)).trans g_258_78
        have g_259_79 := (F_259.2 79 (by decide +kernel)).trans g_258_79
        have g_259_80 := (F_259.2 80 (by decide +kernel)).trans g_258_80
        refine ik_Wk 0 (pc' := 13) (loc' := [some (.ref 66), some (fI q)]) (st' := [fI 1]) (h' := h_259) (cl' := 0) (sl' := 0) rfl ?_
        refine ik_Wret rfl rfl ⟨_, _, rfl, rfl, ?_⟩
        refine ik_Wk 0 (pc' := 21) (loc' := [some (.ref 66), some (fI kd), some (fI p), some (fI t), some (fI q)]) (st' := [fI 1]) (h' := h_259) (cl' := 0) (sl' := 0) rfl ?_
        refine fw_if_ne rfl rfl (by omega) (by omega) (fun hc3 => absurd hc3 (by omega)) (fun hc3 => ?_)
        refine ik_Wk 1 (pc' := 28) (loc' := [some (.ref 66), some (fI kd), some (fI p), some (fI t), some (fI q)]) (st' := [fI t]) (h' := h_259) (cl' := 0) (sl' := 0) rfl ?_
        refine ik_Wc 159 1 3 [fI t] [] rfl rfl rfl (by decide) rfl rfl (fw_sta k_259 rfl (by decide)) ?_
        refine ik_Wk 0 (pc' := 0) (loc' := [some (fI t)]) (st' := []) (h' := h_259) (cl' := 0) (sl' := 0) rfl ?_
        refine ik_Wk 1 (pc' := 1) (loc' := [some (fI t)]) (st' := [fI t]) (h' := h_259) (cl' := 0) (sl' := 0) rfl ?_
        refine fw_i2l rfl (by omega) (by omega) ?_
        refine fw_lc (z := 0) rfl (by decide) ?_
        refine fw_l2 200 rfl rfl (by decide) ?_
        refine fw_call 127 3 3 [fJ t, fJ 0, fJ 200] [] rfl rfl rfl (by decide) rfl rfl (fw_sta k_259 rfl (by decide)) (cr_in (v := t) (a := 0) (b := 200) (by omega) (by omega) (by omega)  k_259) ?_
        rintro _ h_260 (⟨rfl, p_260_0, F_260⟩ | ⟨rfl, p_260_0, F_260⟩)
        · have k_260 := F_260.1.trans k_259
          have fr_260 := hfr_c fr_259 F_260 (by decide)
          have g_260_66 := (F_260.2 66 (by decide +kernel)).trans g_259_66
          have g_260_67 := (F_260.2 67 (by decide +kernel)).trans g_259_67
          have g_260_68 := (F_260.2 68 (by decide +kernel)).trans g_259_68
          have g_260_69 := (F_260.2 69 (by decide +kernel)).trans g_259_69
          have g_260_77 := (F_260.2 77 (by decide +kernel)).trans g_259_77
          have g_260_78 := (F_260.2 78 (by decide +kernel)).trans g_259_78
          have g_260_79 := (F_260.2 79 (by decide +kernel)).trans g_259_79
          have g_260_80 := (F_260.2 80 (by decide +kernel)).trans g_259_80
          refine ik_Wk 0 (pc' := 9) (loc' := [some (fI t)]) (st' := [fI 1]) (h' := h_260) (cl' := 0) (sl' := 0) rfl ?_
          refine ik_Wret rfl rfl ⟨_, _, rfl, rfl, ?_⟩
          refine ik_Wk 0 (pc' := 31) (loc' := [some (.ref 66), some (fI kd), some (fI p), some (fI t), some (fI q)]) (st' := [fI 1]) (h' := h_260) (cl' := 0) (sl' := 0) rfl ?_
          refine fw_if_ne rfl rfl (by omega) (by omega) (fun hc4 => absurd hc4 (by omega)) (fun hc4 => ?_)
          refine ik_Wk 4 (pc' := 41) (loc' := [some (.ref 66), some (fI kd), some (fI p), some (fI t), some (fI q)]) (st' := [fI t, fI p, fI kd, .ref 66]) (h' := h_260) (cl' := 0) (sl' := 0) rfl ?_
          refine fw_call 156 4 0 [.ref 66, fI kd, fI p, fI t] [] rfl rfl rfl (by decide) rfl rfl (fw_rec k_260 rfl g_260_66 rfl (by decide)) (cr_oddsAt (pl := pl) (f := fun j => ([0, 0, 0, 0, 0, 0, 0, f 7, f 8, 0, f 10, f 11, f 12, f 13, f 14, f 15, f 16, f 17, 0, 0, 0, 0, 0, 0, f 24, 0, 0, 0, 0, 0, 0, 0, f 32, f 33, 0, 0, f 36, 0, 0, 0, 0, 0, 0] : List Int).getD j 0) (s := s) (cn := cn) (go := go) (ch := ch) (gt := gt) (gd := gd) (xs := xs) (ys := ys) (kd := kd) (qp := p) (t := t) (by omega) (by omega) q2 q3 q4 (by omega) (by omega) (by omega) g_260_66 g_260_67 n67 g_260_68 n68 g_260_69 n69 g_260_77 n77 g_260_78 n78 g_260_79 n79 g_260_80 n80 k_260) ?_
          rintro _ h_261 ⟨w'_261, gt'_261, gd'_261, xs'_261, ys'_261, rfl, e_261_66, e_261_77, m_261_77, e_261_78, m_261_78, e_261_79, m_261_79, e_261_80, m_261_80, p_261_0, F_261⟩
          have k_261 := F_261.1.trans k_260
          have fr_261 := hfr_c fr_260 F_261 (by decide)
          have g_261_67 := (F_261.2 67 (by decide +kernel)).trans g_260_67
          have g_261_68 := (F_261.2 68 (by decide +kernel)).trans g_260_68
          have g_261_69 := (F_261.2 69 (by decide +kernel)).trans g_260_69
          have g_261_66 : cE h_261 66 (.inr (10, [fI pl, .ref 67, .ref 68, .ref 69, fI ((s : Nat) : Int), .ref 70, .ref 71, fI (f 7), fI (f 8), .ref 72, fI (f 10), fI (f 11), fI (f 12), fJ (f 13), fI (f 14), fI (f 15), fI (f 16), fI (f 17), .ref 73, .ref 74, .ref 75, .ref 76, .ref 77, .ref 78, fI w'_261, .ref 79, .ref 80, .ref 81, .ref 82, .ref 83, .ref 84, .ref 85, fJ (f 32), fJ (f 33), .ref 86, .ref 87, fI (f 36), .ref 88, .ref 89, .ref 90, .ref 91, .ref 92, .ref 93])) := e_261_66
          have g_261_77 : cE h_261 77 (.inl (.int, fA gt'_261)) := e_261_77
          have g_261_78 : cE h_261 78 (.inl (.int, fA gd'_261)) := e_261_78
          have g_261_79 : cE h_261 79 (.inl (.long, fL xs'_261)) := e_261_79
          have g_261_80 : cE h_261 80 (.inl (.long, fL ys'_261)) := e_261_80
          refine ik_Wk 0 (pc' := 44) (loc' := [some (.ref 66), some (fI kd), some (fI p), some (fI t), some (fI q)]) (st' := []) (h' := h_261) (cl' := 0) (sl' := 0) rfl ?_
          refine ik_Wk 1 (pc' := 45) (loc' := [some (.ref 66), some (fI kd), some (fI p), some (fI t), some (fI q)]) (st' := [.ref 66]) (h' := h_261) (cl' := 0) (sl' := 0) rfl ?_
          refine fw_gf rfl rfl g_261_66 rfl ?_
          refine ik_Wk 1 (pc' := 50) (loc' := [some (.ref 66), some (fI kd), some (fI p), some (fI t), some (fI q)]) (st' := [fI q, .ref 79]) (h' := h_261) (cl' := 0) (sl' := 0) rfl ?_
          refine fx_lal rfl g_261_79 (by omega) (by omega) (by omega) ?_
          refine fx_l2i rfl ?_
          have ev : xs'_261.getD q.toNat 0 = mf_od (fun x => mx_w cn go ch s x) (pl - 1) kd p t.toNat q.toNat := p_261_0 _ (by omega)
          have ev2 := ev
          exact ik_Wret rfl rfl ⟨_, _, rfl, rfl, rfl, rfl, ⟨w'_261, gt'_261, gd'_261, xs'_261, ys'_261, (congrArg (fun z => [fI z]) (by rw [ev]; unfold an_kpq; (repeat' split) <;> first | rfl | omega)), g_261_66, g_261_77, m_261_77, g_261_78, m_261_78, g_261_79, m_261_79, g_261_80, m_261_80, fr_261⟩⟩
        · have k_260 := F_260.1.trans k_259
          have fr_260 := hfr_c fr_259 F_260 (by decide)
          have g_260_66 := (F_260.2 66 (by decide +kernel)).trans g_259_66
          have g_260_67 := (F_260.2 67 (by decide +kernel)).trans g_259_67
          have g_260_68 := (F_260.2 68 (by decide +kernel)).trans g_259_68
          have g_260_69 := (F_260.2 69 (by decide +kernel)).trans g_259_69
          have g_260_77 := (F_260.2 77 (by decide +kernel)).trans g_259_77
          have g_260_78 := (F_260.2 78 (by decide +kernel)).trans g_259_78
          have g_260_79 := (F_260.2 79 (by decide +kernel)).trans g_259_79
          have g_260_80 := (F_260.2 80 (by decide +kernel)).trans g_259_80
          refine ik_Wk 0 (pc' := 9) (loc' := [some (fI t)]) (st' := [fI 0]) (h' := h_260) (cl' := 0) (sl' := 0) rfl ?_
          refine ik_Wret rfl rfl ⟨_, _, rfl, rfl, ?_⟩
          refine ik_Wk 0 (pc' := 31) (loc' := [some (.ref 66), some (fI kd), some (fI p), some (fI t), some (fI q)]) (st' := [fI 0]) (h' := h_260) (cl' := 0) (sl' := 0) rfl ?_
          refine fw_if_ne rfl rfl (by omega) (by omega) (fun hc5 => ?_) (fun hc5 => absurd hc5 (by omega))
          refine fw_ld (-1000000002) rfl rfl (by decide) ?_
          exact ik_Wret rfl rfl ⟨_, _, rfl, rfl, rfl, rfl, ⟨(f 24), gt, gd, xs, ys, (congrArg (fun z => [fI z]) (by unfold an_kpq; (repeat' split) <;> first | rfl | omega)), g_260_66, g_260_77, n77, g_260_78, n78, g_260_79, n79, g_260_80, n80, fr_260⟩⟩
      · have k_259 := F_259.1.trans k_258
        have fr_259 := hfr_c fr_258 F_259 (by decide)
        have g_259_66 := (F_259.2 66 (by decide +kernel)).trans g_258_66
        have g_259_67 := (F_259.2 67 (by decide +kernel)).trans g_258_67
        have g_259_68 := (F_259.2 68 (by decide +kernel)).trans g_258_68
        have g_259_69 := (F_259.2 69 (by decide +kernel)).trans g_258_69
        have g_259_77 := (F_259.2 77 (by decide +kernel)).trans g_258_77
        have g_259_78 := (F_259.2 78 (by decide +kernel)).trans g_258_78
        have g_259_79 := (F_259.2 79 (by decide +kernel)).trans g_258_79
        have g_259_80 := (F_259.2 80 (by decide +kernel)).trans g_258_80
        refine ik_Wk 0 (pc' := 13) (loc' := [some (.ref 66), some (fI q)]) (st' := [fI 0]) (h' := h_259) (cl' := 0) (sl' := 0) rfl ?_
        refine ik_Wret rfl rfl ⟨_, _, rfl, rfl, ?_⟩
        refine ik_Wk 0 (pc' := 21) (loc' := [some (.ref 66), some (fI kd), some (fI p), some (fI t), some (fI q)]) (st' := [fI 0]) (h' := h_259) (cl' := 0) (sl' := 0) rfl ?_
        refine fw_if_ne rfl rfl (by omega) (by omega) (fun hc6 => ?_) (fun hc6 => absurd hc6 (by omega))
        refine fw_ld (-1000000001) rfl rfl (by decide) ?_
        exact ik_Wret rfl rfl ⟨_, _, rfl, rfl, rfl, rfl, ⟨(f 24), gt, gd, xs, ys, (congrArg (fun z => [fI z]) (by unfold an_kpq; (repeat' split) <;> first | rfl | omega)), g_259_66, g_259_77, n77, g_259_78, n78, g_259_79, n79, g_259_80, n80, fr_259⟩⟩
    · have k_258 := F_258.1.trans k_257
      have fr_258 := hfr_c fr_257 F_258 (by decide)
      have g_258_66 := (F_258.2 66 (by decide +kernel)).trans g_257_66
      have g_258_67 := (F_258.2 67 (by decide +kernel)).trans g_257_67
      have g_258_68 := (F_258.2 68 (by decide +kernel)).trans g_257_68
      have g_258_69 := (F_258.2 69 (by decide +kernel)).trans g_257_69
      have g_258_77 := (F_258.2 77 (by decide +kernel)).trans g_257_77
      have g_258_78 := (F_258.2 78 (by decide +kernel)).trans g_257_78
      have g_258_79 := (F_258.2 79 (by decide +kernel)).trans g_257_79
      have g_258_80 := (F_258.2 80 (by decide +kernel)).trans g_257_80
      refine ik_Wk 0 (pc' := 13) (loc' := [some (.ref 66), some (fI p)]) (st' := [fI 0]) (h' := h_258) (cl' := 0) (sl' := 0) rfl ?_
      refine ik_Wret rfl rfl ⟨_, _, rfl, rfl, ?_⟩
      refine ik_Wk 0 (pc' := 12) (loc' := [some (.ref 66), some (fI kd), some (fI p), some (fI t), some (fI q)]) (st' := [fI 0]) (h' := h_258) (cl' := 0) (sl' := 0) rfl ?_
      refine fw_if_eq rfl rfl (by omega) (by omega) (fun hc7 => ?_) (fun hc7 => absurd hc7 (by omega))
      refine fw_ld (-1000000001) rfl rfl (by decide) ?_
      exact ik_Wret rfl rfl ⟨_, _, rfl, rfl, rfl, rfl, ⟨(f 24), gt, gd, xs, ys, (congrArg (fun z => [fI z]) (by unfold an_kpq; (repeat' split) <;> first | rfl | omega)), g_258_66, g_258_77, n77, g_258_78, n78, g_258_79, n79, g_258_80, n80, fr_258⟩⟩
  · have k_257 := F_257.1.trans hl
    have fr_257 := hfr_c (hfr_refl [66, 77, 78, 79, 80] h) F_257 (by decide)
    have g_257_66 := (F_257.2 66 (by decide +kernel)).trans h66
    have g_257_67 := (F_257.2 67 (by decide +kernel)).trans h67
    have g_257_68 := (F_257.2 68 (by decide +kernel)).trans h68
    have g_257_69 := (F_257.2 69 (by decide +kernel)).trans h69
    have g_257_77 := (F_257.2 77 (by decide +kernel)).trans h77
    have g_257_78 := (F_257.2 78 (by decide +kernel)).trans h78
    have g_257_79 := (F_257.2 79 (by decide +kernel)).trans h79
    have g_257_80 := (F_257.2 80 (by decide +kernel)).trans h80
    refine ik_Wk 0 (pc' := 9) (loc' := [some (fI kd)]) (st' := [fI 0]) (h' := h_257) (cl' := 0) (sl' := 0) rfl ?_
    refine ik_Wret rfl rfl ⟨_, _, rfl, rfl, ?_⟩
    refine ik_Wk 0 (pc' := 4) (loc' := [some (.ref 66), some (fI kd), some (fI p), some (fI t), some (fI q)]) (st' := [fI 0]) (h' := h_257) (cl' := 0) (sl' := 0) rfl ?_
    refine fw_if_eq rfl rfl (by omega) (by omega) (fun hc8 => ?_) (fun hc8 => absurd hc8 (by omega))
    refine fw_ld (-1000000001) rfl rfl (by decide) ?_
    exact ik_Wret rfl rfl ⟨_, _, rfl, rfl, rfl, rfl, ⟨(f 24), gt, gd, xs, ys, (congrArg (fun z => [fI z]) (by unfold an_kpq; (repeat' split) <;> first | rfl | omega)), g_257_66, g_257_77, n77, g_257_78, n78, g_257_79, n79, g_257_80, n80, fr_257⟩⟩

theorem rp_knownL {h : List ik_E} {pl : Int} {f : Nat → Int} {s : Nat} {cn : List Int} {go : List Int} {ch : List Int} {gt : List Int} {gd : List Int} {xs : List Int} {ys : List Int} {r1 : List Int} {r2 : List Int} {kd : Int} {p : Int} {d : Int} (q0 : 0 ≤ pl ∧ pl ≤ 12) (q1 : s < 4096) (q2 : ∀ x : Int, 0 ≤ x → x < pl - 1 → 0 ≤ cn.getD x.toNat 0 ∧ cn.getD x.toNat 0 ≤ 4) (q3 : ∀ x : Int, 0 ≤ x → x < pl - 1 → 1 ≤ cn.getD x.toNat 0 ∧ ∀ j : Int, 4 * x ≤ j → j < 4 * x + cn.getD x.toNat 0 → 0 ≤ ch.getD j.toNat 0 ∧ ch.getD j.toNat 0 ≤ 100) (q4 : ∀ x : Int, 0 ≤ x → x < pl - 1 → mx_ok pl (mx_w cn go ch s x)) (q5 : -2147483648 ≤ kd ∧ kd < 2147483648) (q6 : -2147483648 ≤ p ∧ p < 2147483648) (q7 : -2147483648 ≤ d ∧ d < 2147483648) {w1 : Int} {g1 d1 x1 y1 s1 s2 : List Int} (hkp : ((0 ≤ kd ∧ kd ≤ 2) ∧ (0 ≤ p ∧ p < pl)) ∧ 1 ≤ d ∧ d ≤ 1000) (hr1 : ∀ j : Nat, j ≤ 200 → s1.getD j 0 = (mf_cm (fun x => mx_w cn go ch s x) (pl - 1) kd p) j) (hr2 : ∀ j : Nat, j ≤ 200 → s2.getD j 0 = (mf_cm (fun x => mx_w cn go ch s x) (pl - 1) 0 p) j) : ∀ (k : Nat) (t : Int) (u : List ik_E) (u66 : cE u 66 (.inr (10, [fI pl, .ref 67, .ref 68, .ref 69, fI ((s : Nat) : Int), .ref 70, .ref 71, fI (f 7), fI (f 8), .ref 72, fI (f 10), fI (f 11), fI (f 12), fJ (f 13), fI (f 14), fI (f 15), fI (f 16), fI (f 17), .ref 73, .ref 74, .ref 75, .ref 76, .ref 77, .ref 78, fI w1, .ref 79, .ref 80, .ref 81, .ref 82, .ref 83, .ref 84, .ref 85, fJ (f 32), fJ (f 33), .ref 86, .ref 87, fI (f 36), .ref 88, .ref 89, .ref 90, .ref 91, .ref 92, .ref 93]))) (u67 : cE u 67 (.inl (.int, fA cn))) (n67 : cn.length = 12) (u68 : cE u 68 (.inl (.int, fA go))) (n68 : go.length = 48) (u69 : cE u 69 (.inl (.int, fA ch))) (n69 : ch.length = 48) (u77 : cE u 77 (.inl (.int, fA g1))) (n77 : g1.length = 5) (u78 : cE u 78 (.inl (.int, fA d1))) (n78 : d1.length = 5) (u79 : cE u 79 (.inl (.long, fL x1))) (n79 : x1.length = 12) (u80 : cE u 80 (.inl (.long, fL y1))) (n80 : y1.length = 12) (u81 : cE u 81 (.inl (.long, fL s1))) (n81 : s1.length = 201) (u82 : cE u 82 (.inl (.long, fL s2))) (n82 : s2.length = 201) (ul : u.length = 94) (F : hfr [66, 77, 78, 79, 80, 81, 82] h u) (ht : 0 ≤ t ∧ t ≤ 201) (he : mk_kn (mf_cm (fun x => mx_w cn go ch s x) (pl - 1) kd p) (mf_cm (fun x => mx_w cn go ch s x) (pl - 1) 0 p) d 201 0 = mk_kn (mf_cm (fun x => mx_w cn go ch s x) (pl - 1) kd p) (mf_cm (fun x => mx_w cn go ch s x) (pl - 1) 0 p) d (201 - t).toNat t) (hk : 201 - t < (k : Int)), ik_G 164 56 [some (.ref 66), some (fI kd), some (fI p), some (fI d), some (fI t)] [] u (fun rv h' => ∃ (w' : Int) (gt' : List Int) (gd' : List Int) (xs' : List Int) (ys' : List Int) (r1' : List Int) (r2' : List Int), rv = [fI (an_kpd kd p pl d (mk_kn (mf_cm (fun x => mx_w cn go ch s x) (pl - 1) kd p) (mf_cm (fun x => mx_w cn go ch s x) (pl - 1) 0 p) d 201 0))] ∧ cE h' 66 (.inr (10, [fI pl, .ref 67, .ref 68, .ref 69, fI ((s : Nat) : Int), .ref 70, .ref 71, fI (f 7), fI (f 8), .ref 72, fI (f 10), fI (f 11), fI (f 12), fJ (f 13), fI (f 14), fI (f 15), fI (f 16), fI (f 17), .ref 73, .ref 74, .ref 75, .ref 76, .ref 77, .ref 78, fI w', .ref 79, .ref 80, .ref 81, .ref 82, .ref 83, .ref 84, .ref 85, fJ (f 32), fJ (f 33), .ref 86, .ref 87, fI (f 36), .ref 88, .ref 89, .ref 90, .ref 91, .ref 92, .ref 93])) ∧ cE h' 77 (.inl (.int, fA gt')) ∧ gt'.length = 5 ∧ cE h' 78 (.inl (.int, fA gd')) ∧ gd'.length = 5 ∧ cE h' 79 (.inl (.long, fL xs')) ∧ xs'.length = 12 ∧ cE h' 80 (.inl (.long, fL ys')) ∧ ys'.length = 12 ∧ cE h' 81 (.inl (.long, fL r1')) ∧ r1'.length = 201 ∧ cE h' 82 (.inl (.long, fL r2')) ∧ r2'.length = 201 ∧ hfr [66, 77, 78, 79, 80, 81, 82] h h') := by
  intro k
  induction k with
  | zero => intro t u u66 u67 n67 u68 n68 u69 n69 u77 n77 u78 n78 u79 n79 u80 n80 u81 n81 u82 n82 ul F ht he hk; omega
  | succ k ih =>
    intro t u u66 u67 n67 u68 n68 u69 n69 u77 n77 u78 n78 u79 n79 u80 n80 u81 n81 u82 n82 ul F ht he hk
    have b0 := mf_cm_b (W := (fun x => mx_w cn go ch s x)) (k := kd) q4 hkp.1.2 t.toNat
    have b1 := mf_cm_b (W := (fun x => mx_w cn go ch s x)) (k := 0) q4 hkp.1.2 t.toNat
    refine ik_Wk 1 (pc' := 58) (loc' := [some (.ref 66), some (fI kd), some (fI p), some (fI d), some (fI t)]) (st' := [fI t]) (h' := u) (cl' := 0) (sl' := 0) rfl ?_
    refine fw_si rfl (by decide) ?_
    refine fw_ic_gt rfl rfl (by omega) (by omega) (by omega) (by omega) (fun hc1 => ?_) (fun hc1 => ?_)
    · refine ik_Wk 1 (pc' := 102) (loc' := [some (.ref 66), some (fI kd), some (fI p), some (fI d), some (fI t)]) (st' := [fI (-1)]) (h' := u) (cl' := 0) (sl' := 0) rfl ?_
      exact ik_Wret rfl rfl ⟨_, _, rfl, rfl, rfl, rfl, ⟨w1, g1, d1, x1, y1, s1, s2, (by rw [an_kpd, if_pos hkp.1, if_pos hkp.2, he, show (201 - t).toNat = 0 by omega]; rfl), u66, u77, n77, u78, n78, u79, n79, u80, n80, u81, n81, u82, n82, F⟩⟩
    · refine ik_Wk 1 (pc' := 65) (loc' := [some (.ref 66), some (fI kd), some (fI p), some (fI d), some (fI t)]) (st' := [.ref 66]) (h' := u) (cl' := 0) (sl' := 0) rfl ?_
      refine fw_gf rfl rfl u66 rfl ?_
      refine ik_Wk 1 (pc' := 70) (loc' := [some (.ref 66), some (fI kd), some (fI p), some (fI d), some (fI t)]) (st' := [fI t, .ref 81]) (h' := u) (cl' := 0) (sl' := 0) rfl ?_
      refine fx_lal rfl u81 (by omega) (by omega) (by omega) ?_
      have e0 := hr1 t.toNat (by omega)
      refine ik_Wk 1 (pc' := 72) (loc' := [some (.ref 66), some (fI kd), some (fI p), some (fI d), some (fI t)]) (st' := [.ref 66, fJ (s1.getD t.toNat 0)]) (h' := u) (cl' := 0) (sl' := 0) rfl ?_
      refine fw_gf rfl rfl u66 rfl ?_
      refine ik_Wk 1 (pc' := 77) (loc' := [some (.ref 66), some (fI kd), some (fI p), some (fI d), some (fI t)]) (st' := [fI t, .ref 82, fJ (s1.getD t.toNat 0)]) (h' := u) (cl' := 0) (sl' := 0) rfl ?_
      refine fx_lal rfl u82 (by omega) (by omega) (by omega) ?_
      have e1 := hr2 t.toNat (by omega)
      refine fw_lsub rfl ?_
      refine ik_Wc 163 1 3 [fJ ((s1.getD t.toNat 0) - (s2.getD t.toNat 0))] [] rfl rfl rfl (by decide) rfl rfl (fw_sta ul rfl (by decide)) ?_
      refine ik_Wk 0 (pc' := 0) (loc' := [some (fJ ((s1.getD t.toNat 0) - (s2.getD t.toNat 0))), none]) (st' := []) (h' := u) (cl' := 0) (sl' := 0) rfl ?_
      refine ik_Wk 1 (pc' := 1) (loc' := [some (fJ ((s1.getD t.toNat 0) - (s2.getD t.toNat 0))), none]) (st' := [fJ ((s1.getD t.toNat 0) - (s2.getD t.toNat 0))]) (h' := u) (cl' := 0) (sl' := 0) rfl ?_
      refine fw_lc (z := 0) rfl (by decide) ?_
      refine fw_lcmp_ge rfl rfl rfl (by omega) (by omega) (by omega) (by omega) (fun hc2 => ?_) (fun hc2 => ?_)
      · refine ik_Wk 1 (pc' := 12) (loc' := [some (fJ ((s1.getD t.toNat 0) - (s2.getD t.toNat 0))), none]) (st' := [fJ ((s1.getD t.toNat 0) - (s2.getD t.toNat 0))]) (h' := u) (cl' := 0) (sl' := 0) rfl ?_
        refine ik_Wret rfl rfl ⟨_, _, rfl, rfl, ?_⟩
        refine ik_Wk 0 (pc' := 82) (loc' := [some (.ref 66), some (fI kd), some (fI p), some (fI d), some (fI t)]) (st' := [fJ ((s1.getD t.toNat 0) - (s2.getD t.toNat 0))]) (h' := u) (cl' := 0) (sl' := 0) rfl ?_
        refine fw_l2 1000000 rfl rfl (by decide) ?_
        have ea : mk_ab ((mf_cm (fun x => mx_w cn go ch s x) (pl - 1) kd p) t.toNat - (mf_cm (fun x => mx_w cn go ch s x) (pl - 1) 0 p) t.toNat) = (s1.getD t.toNat 0) - (s2.getD t.toNat 0) := by unfold mk_ab; split <;> omega
        refine fx_ldiv rfl (by omega) (by omega) (by omega) (by omega) ?_
        refine ik_Wk 1 (pc' := 87) (loc' := [some (.ref 66), some (fI kd), some (fI p), some (fI d), some (fI t)]) (st' := [fI d, fJ (((s1.getD t.toNat 0) - (s2.getD t.toNat 0)) / 1000000)]) (h' := u) (cl' := 0) (sl' := 0) rfl ?_
        refine fw_i2l rfl (by omega) (by omega) ?_
        refine fw_lcmp_lt rfl rfl rfl (by omega) (by omega) (by omega) (by omega) (fun hc3 => ?_) (fun hc3 => ?_)
        · refine fw_inc (a := t) (loc' := [some (.ref 66), some (fI kd), some (fI p), some (fI d), some (fI (t + 1))]) rfl rfl (Nat.le_of_ble_eq_true rfl) rfl ?_
          refine ik_Wk 1 (pc' := 56) (loc' := [some (.ref 66), some (fI kd), some (fI p), some (fI d), some (fI (t + 1))]) (st' := []) (h' := u) (cl' := 0) (sl' := 0) rfl ?_
          exact ih  (t + 1) u u66 u67 n67 u68 n68 u69 n69 u77 n77 u78 n78 u79 n79 u80 n80 u81 n81 u82 n82 ul F (by omega) (by rw [he, mk_kn_s (by omega), if_neg (by rw [ea]; omega)]) (by omega)
        · refine ik_Wk 1 (pc' := 94) (loc' := [some (.ref 66), some (fI kd), some (fI p), some (fI d), some (fI t)]) (st' := [fI t]) (h' := u) (cl' := 0) (sl' := 0) rfl ?_
          exact ik_Wret rfl rfl ⟨_, _, rfl, rfl, rfl, rfl, ⟨w1, g1, d1, x1, y1, s1, s2, (by rw [an_kpd, if_pos hkp.1, if_pos hkp.2, he, mk_kn_s (by omega), if_pos (by rw [ea]; omega)]), u66, u77, n77, u78, n78, u79, n79, u80, n80, u81, n81, u82, n82, F⟩⟩
      · refine ik_Wk 1 (pc' := 7) (loc' := [some (fJ ((s1.getD t.toNat 0) - (s2.getD t.toNat 0))), none]) (st' := [fJ ((s1.getD t.toNat 0) - (s2.getD t.toNat 0))]) (h' := u) (cl' := 0) (sl' := 0) rfl ?_
        refine fx_lneg rfl ?_
        refine ik_Wk 1 (pc' := 12) (loc' := [some (fJ ((s1.getD t.toNat 0) - (s2.getD t.toNat 0))), none]) (st' := [fJ (-((s1.getD t.toNat 0) - (s2.getD t.toNat 0)))]) (h' := u) (cl' := 0) (sl' := 0) rfl ?_
        refine ik_Wret rfl rfl ⟨_, _, rfl, rfl, ?_⟩
        refine ik_Wk 0 (pc' := 82) (loc' := [some (.ref 66), some (fI kd), some (fI p), some (fI d), some (fI t)]) (st' := [fJ (-((s1.getD t.toNat 0) - (s2.getD t.toNat 0)))]) (h' := u) (cl' := 0) (sl' := 0) rfl ?_
        refine fw_l2 1000000 rfl rfl (by decide) ?_
        have ea : mk_ab ((mf_cm (fun x => mx_w cn go ch s x) (pl - 1) kd p) t.toNat - (mf_cm (fun x => mx_w cn go ch s x) (pl - 1) 0 p) t.toNat) = -((s1.getD t.toNat 0) - (s2.getD t.toNat 0)) := by unfold mk_ab; split <;> omega
        refine fx_ldiv rfl (by omega) (by omega) (by omega) (by omega) ?_
        refine ik_Wk 1 (pc' := 87) (loc' := [some (.ref 66), some (fI kd), some (fI p), some (fI d), some (fI t)]) (st' := [fI d, fJ ((-((s1.getD t.toNat 0) - (s2.getD t.toNat 0))) / 1000000)]) (h' := u) (cl' := 0) (sl' := 0) rfl ?_
        refine fw_i2l rfl (by omega) (by omega) ?_
        refine fw_lcmp_lt rfl rfl rfl (by omega) (by omega) (by omega) (by omega) (fun hc4 => ?_) (fun hc4 => ?_)
        · refine fw_inc (a := t) (loc' := [some (.ref 66), some (fI kd), some (fI p), some (fI d), some (fI (t + 1))]) rfl rfl (Nat.le_of_ble_eq_true rfl) rfl ?_
          refine ik_Wk 1 (pc' := 56) (loc' := [some (.ref 66), some (fI kd), some (fI p), some (fI d), some (fI (t + 1))]) (st' := []) (h' := u) (cl' := 0) (sl' := 0) rfl ?_
          exact ih  (t + 1) u u66 u67 n67 u68 n68 u69 n69 u77 n77 u78 n78 u79 n79 u80 n80 u81 n81 u82 n82 ul F (by omega) (by rw [he, mk_kn_s (by omega), if_neg (by rw [ea]; omega)]) (by omega)
        · refine ik_Wk 1 (pc' := 94) (loc' := [some (.ref 66), some (fI kd), some (fI p), some (fI d), some (fI t)]) (st' := [fI t]) (h' := u) (cl' := 0) (sl' := 0) rfl ?_
          exact ik_Wret rfl rfl ⟨_, _, rfl, rfl, rfl, rfl, ⟨w1, g1, d1, x1, y1, s1, s2, (by rw [an_kpd, if_pos hkp.1, if_pos hkp.2, he, mk_kn_s (by omega), if_pos (by rw [ea]; omega)]), u66, u77, n77, u78, n78, u79, n79, u80, n80, u81, n81, u82, n82, F⟩⟩

theorem rp_known {h : List ik_E} {pl : Int} {f : Nat → Int} {s : Nat} {cn : List Int} {go : List Int} {ch : List Int} {gt : List Int} {gd : List Int} {xs : List Int} {ys : List Int} {r1 : List Int} {r2 : List Int} {kd : Int} {p : Int} {d : Int} (q0 : 0 ≤ pl ∧ pl ≤ 12) (q1 : s < 4096) (q2 : ∀ x : Int, 0 ≤ x → x < pl - 1 → 0 ≤ cn.getD x.toNat 0 ∧ cn.getD x.toNat 0 ≤ 4) (q3 : ∀ x : Int, 0 ≤ x → x < pl - 1 → 1 ≤ cn.getD x.toNat 0 ∧ ∀ j : Int, 4 * x ≤ j → j < 4 * x + cn.getD x.toNat 0 → 0 ≤ ch.getD j.toNat 0 ∧ ch.getD j.toNat 0 ≤ 100) (q4 : ∀ x : Int, 0 ≤ x → x < pl - 1 → mx_ok pl (mx_w cn go ch s x)) (q5 : -2147483648 ≤ kd ∧ kd < 2147483648) (q6 : -2147483648 ≤ p ∧ p < 2147483648) (q7 : -2147483648 ≤ d ∧ d < 2147483648) (h66 : cE h 66 (.inr (10, [fI pl, .ref 67, .ref 68, .ref 69, fI ((s : Nat) : Int), .ref 70, .ref 71, fI (f 7), fI (f 8), .ref 72, fI (f 10), fI (f 11), fI (f 12), fJ (f 13), fI (f 14), fI (f 15), fI (f 16), fI (f 17), .ref 73, .ref 74, .ref 75, .ref 76, .ref 77, .ref 78, fI (f 24), .ref 79, .ref 80, .ref 81, .ref 82, .ref 83, .ref 84, .ref 85, fJ (f 32), fJ (f 33), .ref 86, .ref 87, fI (f 36), .ref 88, .ref 89, .ref 90, .ref 91, .ref 92, .ref 93]))) (h67 : cE h 67 (.inl (.int, fA cn))) (n67 : cn.length = 12) (h68 : cE h 68 (.inl (.int, fA go))) (n68 : go.length = 48) (h69 : cE h 69 (.inl (.int, fA ch))) (n69 : ch.length = 48) (h77 : cE h 77 (.inl (.int, fA gt))) (n77 : gt.length = 5) (h78 : cE h 78 (.inl (.int, fA gd))) (n78 : gd.length = 5) (h79 : cE h 79 (.inl (.long, fL xs))) (n79 : xs.length = 12) (h80 : cE h 80 (.inl (.long, fL ys))) (n80 : ys.length = 12) (h81 : cE h 81 (.inl (.long, fL r1))) (n81 : r1.length = 201) (h82 : cE h 82 (.inl (.long, fL r2))) (n82 : r2.length = 201) (hl : h.length = 94) : ik_F 164 [.ref 66, fI kd, fI p, fI d] h (fun rv h' => ∃ (w' : Int) (gt' : List Int) (gd' : List Int) (xs' : List Int) (ys' : List Int) (r1' : List Int) (r2' : List Int), rv = [fI (an_kpd kd p pl d (mk_kn (mf_cm (fun x => mx_w cn go ch s x) (pl - 1) kd p) (mf_cm (fun x => mx_w cn go ch s x) (pl - 1) 0 p) d 201 0))] ∧ cE h' 66 (.inr (10, [fI pl, .ref 67, .ref 68, .ref 69, fI ((s : Nat) : Int), .ref 70, .ref 71, fI (f 7), fI (f 8), .ref 72, fI (f 10), fI (f 11), fI (f 12), fJ (f 13), fI (f 14), fI (f 15), fI (f 16), fI (f 17), .ref 73, .ref 74, .ref 75, .ref 76, .ref 77, .ref 78, fI w', .ref 79, .ref 80, .ref 81, .ref 82, .ref 83, .ref 84, .ref 85, fJ (f 32), fJ (f 33), .ref 86, .ref 87, fI (f 36), .ref 88, .ref 89, .ref 90, .ref 91, .ref 92, .ref 93])) ∧ cE h' 77 (.inl (.int, fA gt')) ∧ gt'.length = 5 ∧ cE h' 78 (.inl (.int, fA gd')) ∧ gd'.length = 5 ∧ cE h' 79 (.inl (.long, fL xs')) ∧ xs'.length = 12 ∧ cE h' 80 (.inl (.long, fL ys')) ∧ ys'.length = 12 ∧ cE h' 81 (.inl (.long, fL r1')) ∧ r1'.length = 201 ∧ cE h' 82 (.inl (.long, fL r2')) ∧ r2'.length = 201 ∧ hfr [66, 77, 78, 79, 80, 81, 82] h h') := by
  refine ik_Wk 1 (pc' := 1) (loc' := [some (.ref 66), some (fI kd), some (fI p), some (fI d), none]) (st' := [fI kd]) (h' := h) (cl' := 0) (sl' := 0) rfl ?_
  refine ik_Wc 133 1 3 [fI kd] [] rfl rfl rfl (by decide) rfl rfl (fw_sta hl rfl (by decide)) ?_
  refine ik_Wk 0 (pc' := 0) (loc' := [some (fI kd)]) (st' := []) (h' := h) (cl' := 0) (sl' := 0) rfl ?_
  refine ik_Wk 1 (pc' := 1) (loc' := [some (fI kd)]) (st' := [fI kd]) (h' := h) (cl' := 0) (sl' := 0) rfl ?_
  refine fw_i2l rfl (by omega) (by omega) ?_
  refine fw_lc (z := 0) rfl (by decide) ?_
  refine fw_l2 2 rfl rfl (by decide) ?_
  refine fw_call 127 3 3 [fJ kd, fJ 0, fJ 2] [] rfl rfl rfl (by decide) rfl rfl (fw_sta hl rfl (by decide)) (cr_in (v := kd) (a := 0) (b := 2) (by omega) (by omega) (by omega)  hl) ?_
  rintro _ h_262 (⟨rfl, p_262_0, F_262⟩ | ⟨rfl, p_262_0, F_262⟩)
  · have k_262 := F_262.1.trans hl
    have fr_262 := hfr_c (hfr_refl [66, 77, 78, 79, 80, 81, 82] h) F_262 (by decide)
    have g_262_66 := (F_262.2 66 (by decide +kernel)).trans h66
    have g_262_67 := (F_262.2 67 (by decide +kernel)).trans h67
    have g_262_68 := (F_262.2 68 (by decide +kernel)).trans h68
    have g_262_69 := (F_262.2 69 (by decide +kernel)).trans h69
    have g_262_77 := (F_262.2 77 (by decide +kernel)).trans h77
    have g_262_78 := (F_262.2 78 (by decide +kernel)).trans h78
    have g_262_79 := (F_262.2 79 (by decide +kernel)).trans h79
    have g_262_80 := (F_262.2 80 (by decide +kernel)).trans h80
    have g_262_81 := (F_262.2 81 (by decide +kernel)).trans h81
    have g_262_82 := (F_262.2 82 (by decide +kernel)).trans h82
    refine ik_Wk 0 (pc' := 9) (loc' := [some (fI kd)]) (st' := [fI 1]) (h' := h_262) (cl' := 0) (sl' := 0) rfl ?_
    refine ik_Wret rfl rfl ⟨_, _, rfl, rfl, ?_⟩
    refine ik_Wk 0 (pc' := 4) (loc' := [some (.ref 66), some (fI kd), some (fI p), some (fI d), none]) (st' := [fI 1]) (h' := h_262) (cl' := 0) (sl' := 0) rfl ?_
    refine fw_if_eq rfl rfl (by omega) (by omega) (fun hc1 => absurd hc1 (by omega)) (fun hc1 => ?_)
    refine ik_Wk 2 (pc' := 9) (loc' := [some (.ref 66), some (fI kd), some (fI p), some (fI d), none]) (st' := [fI p, .ref 66]) (h' := h_262) (cl' := 0) (sl' := 0) rfl ?_
    refine ik_Wc 129 2 0 [.ref 66, fI p] [] rfl rfl rfl (by decide) rfl rfl (fw_rec k_262 rfl g_262_66 rfl (by decide)) ?_
    refine ik_Wk 0 (pc' := 0) (loc' := [some (.ref 66), some (fI p)]) (st' := []) (h' := h_262) (cl' := 0) (sl' := 0) rfl ?_
    refine ik_Wk 1 (pc' := 1) (loc' := [some (.ref 66), some (fI p)]) (st' := [fI p]) (h' := h_262) (cl' := 0) (sl' := 0) rfl ?_
    refine fw_i2l rfl (by omega) (by omega) ?_
    refine fw_lc (z := 0) rfl (by decide) ?_
    refine ik_Wk 1 (pc' := 4) (loc' := [some (.ref 66), some (fI p)]) (st' := [.ref 66, fJ 0, fJ p]) (h' := h_262) (cl' := 0) (sl' := 0) rfl ?_
    refine fw_gf rfl rfl g_262_66 rfl ?_
    refine ik_Wk 1 (pc' := 8) (loc' := [some (.ref 66), some (fI p)]) (st' := [fI 1, fI pl, fJ 0, fJ p]) (h' := h_262) (cl' := 0) (sl' := 0) rfl ?_
    refine fw_sub rfl ?_
    refine fw_i2l rfl (by omega) (by omega) ?_
    refine fw_call 127 3 3 [fJ p, fJ 0, fJ (pl - 1)] [] rfl rfl rfl (by decide) rfl rfl (fw_sta k_262 rfl (by decide)) (cr_in (v := p) (a := 0) (b := pl - 1) (by omega) (by omega) (by omega)  k_262) ?_
    rintro _ h_263 (⟨rfl, p_263_0, F_263⟩ | ⟨rfl, p_263_0, F_263⟩)
    · have k_263 := F_263.1.trans k_262
      have fr_263 := hfr_c fr_262 F_263 (by decide)
      have g_263_66 := (F_263.2 66 (by decide +kernel)).trans g_262_66
      have g_263_67 := (F_263.2 67 (by decide +kernel)).trans g_262_67
      have g_263_68 := (F_263.2 68 (by decide +kernel)).trans g_262_68
      have g_263_69 := (F_263.2 69 (by decide +kernel)).trans g_262_69
      have g_263_77 := (F_263.2 77 (by decide +kernel)).trans g_262_77
      have g_263_78 := (F_263.2 78 (by decide +kernel)).trans g_262_78
      have g_263_79 := (F_263.2 79 (by decide +kernel)).trans g_262_79
      have g_263_80 := (F_263.2 80 (by decide +kernel)).trans g_262_80
      have g_263_81 := (F_263.2 81 (by decide +kernel)).trans g_262_81
      have g_263_82 := (F_263.2 82 (by decide +kernel)).trans g_262_82
      refine ik_Wk 0 (pc' := 13) (loc' := [some (.ref 66), some (fI p)]) (st' := [fI 1]) (h' := h_263) (cl' := 0) (sl' := 0) rfl ?_
      refine ik_Wret rfl rfl ⟨_, _, rfl, rfl, ?_⟩
      refine ik_Wk 0 (pc' := 12) (loc' := [some (.ref 66), some (fI kd), some (fI p), some (fI d), none]) (st' := [fI 1]) (h' := h_263) (cl' := 0) (sl' := 0) rfl ?_
      refine fw_if_ne rfl rfl (by omega) (by omega) (fun hc2 => absurd hc2 (by omega)) (fun hc2 => ?_)
      refine ik_Wk 1 (pc' := 19) (loc' := [some (.ref 66), some (fI kd), some (fI p), some (fI d), none]) (st' := [fI d]) (h' := h_263) (cl' := 0) (sl' := 0) rfl ?_
      refine fw_i2l rfl (by omega) (by omega) ?_
      refine fw_lc (z := 1) rfl (by decide) ?_
      refine fw_l2 1000 rfl rfl (by decide) ?_
      refine fw_call 127 3 3 [fJ d, fJ 1, fJ 1000] [] rfl rfl rfl (by decide) rfl rfl (fw_sta k_263 rfl (by decide)) (cr_in (v := d) (a := 1) (b := 1000) (by omega) (by omega) (by omega)  k_263) ?_
      rintro _ h_264 (⟨rfl, p_264_0, F_264⟩ | ⟨rfl, p_264_0, F_264⟩)
      · have k_264 := F_264.1.trans k_263
        have fr_264 := hfr_c fr_263 F_264 (by decide)
        have g_264_66 := (F_264.2 66 (by decide +kernel)).trans g_263_66
        have g_264_67 := (F_264.2 67 (by decide +kernel)).trans g_263_67
        have g_264_68 := (F_264.2 68 (by decide +kernel)).trans g_263_68
        have g_264_69 := (F_264.2 69 (by decide +kernel)).trans g_263_69
        have g_264_77 := (F_264.2 77 (by decide +kernel)).trans g_263_77
        have g_264_78 := (F_264.2 78 (by decide +kernel)).trans g_263_78
        have g_264_79 := (F_264.2 79 (by decide +kernel)).trans g_263_79
        have g_264_80 := (F_264.2 80 (by decide +kernel)).trans g_263_80
        have g_264_81 := (F_264.2 81 (by decide +kernel)).trans g_263_81
        have g_264_82 := (F_264.2 82 (by decide +kernel)).trans g_263_82
        refine ik_Wk 0 (pc' := 27) (loc' := [some (.ref 66), some (fI kd), some (fI p), some (fI d), none]) (st' := [fI 1]) (h' := h_264) (cl' := 0) (sl' := 0) rfl ?_
        refine fw_if_ne rfl rfl (by omega) (by omega) (fun hc3 => absurd hc3 (by omega)) (fun hc3 => ?_)
        refine ik_Wk 2 (pc' := 35) (loc' := [some (.ref 66), some (fI kd), some (fI p), some (fI d), none]) (st' := [.ref 66, .ref 66]) (h' := h_264) (cl' := 0) (sl' := 0) rfl ?_
        refine fw_gf rfl rfl g_264_66 rfl ?_
        refine ik_Wk 2 (pc' := 40) (loc' := [some (.ref 66), some (fI kd), some (fI p), some (fI d), none]) (st' := [fI p, fI kd, .ref 81, .ref 66]) (h' := h_264) (cl' := 0) (sl' := 0) rfl ?_
        refine fw_call 157 4 0 [.ref 66, .ref 81, fI kd, fI p] [] rfl rfl rfl (by decide) rfl rfl (fw_rec k_264 rfl g_264_66 rfl (by decide)) (cr_comesRow (pl := pl) (f := fun j => ([0, 0, 0, 0, 0, 0, 0, f 7, f 8, 0, f 10, f 11, f 12, f 13, f 14, f 15, f 16, f 17, 0, 0, 0, 0, 0, 0, f 24, 0, 0, 0, 0, 0, 0, 0, f 32, f 33, 0, 0, f 36, 0, 0, 0, 0, 0, 0] : List Int).getD j 0) (s := s) (cn := cn) (go := go) (ch := ch) (gt := gt) (gd := gd) (xs := xs) (ys := ys) (kd := kd) (qp := p) (r := 81) (rr := r1) (by omega) (by omega) q2 q3 q4 (by omega) (by omega) (by omega) g_264_66 g_264_67 n67 g_264_68 n68 g_264_69 n69 g_264_77 n77 g_264_78 n78 g_264_79 n79 g_264_80 n80 g_264_81 n81 k_264) ?_
        rintro _ h_265 ⟨w'_265, gt'_265, gd'_265, xs'_265, ys'_265, rr'_265, rfl, e_265_66, e_265_77, m_265_77, e_265_78, m_265_78, e_265_79, m_265_79, e_265_80, m_265_80, e_265_r, m_265_r, p_265_0, F_265⟩
        have k_265 := F_265.1.trans k_264
        have fr_265 := hfr_c fr_264 F_265 (by decide)
        have g_265_67 := (F_265.2 67 (by decide +kernel)).trans g_264_67
        have g_265_68 := (F_265.2 68 (by decide +kernel)).trans g_264_68
        have g_265_69 := (F_265.2 69 (by decide +kernel)).trans g_264_69
        have g_265_82 := (F_265.2 82 (by decide +kernel)).trans g_264_82
        have g_265_66 : cE h_265 66 (.inr (10, [fI pl, .ref 67, .ref 68, .ref 69, fI ((s : Nat) : Int), .ref 70, .ref 71, fI (f 7), fI (f 8), .ref 72, fI (f 10), fI (f 11), fI (f 12), fJ (f 13), fI (f 14), fI (f 15), fI (f 16), fI (f 17), .ref 73, .ref 74, .ref 75, .ref 76, .ref 77, .ref 78, fI w'_265, .ref 79, .ref 80, .ref 81, .ref 82, .ref 83, .ref 84, .ref 85, fJ (f 32), fJ (f 33), .ref 86, .ref 87, fI (f 36), .ref 88, .ref 89, .ref 90, .ref 91, .ref 92, .ref 93])) := e_265_66
        have g_265_77 : cE h_265 77 (.inl (.int, fA gt'_265)) := e_265_77
        have g_265_78 : cE h_265 78 (.inl (.int, fA gd'_265)) := e_265_78
        have g_265_79 : cE h_265 79 (.inl (.long, fL xs'_265)) := e_265_79
        have g_265_80 : cE h_265 80 (.inl (.long, fL ys'_265)) := e_265_80
        have g_265_81 : cE h_265 81 (.inl (.long, fL rr'_265)) := e_265_r
        refine ik_Wk 0 (pc' := 43) (loc' := [some (.ref 66), some (fI kd), some (fI p), some (fI d), none]) (st' := []) (h' := h_265) (cl' := 0) (sl' := 0) rfl ?_
        refine ik_Wk 2 (pc' := 45) (loc' := [some (.ref 66), some (fI kd), some (fI p), some (fI d), none]) (st' := [.ref 66, .ref 66]) (h' := h_265) (cl' := 0) (sl' := 0) rfl ?_
        refine fw_gf rfl rfl g_265_66 rfl ?_
        refine ik_Wk 2 (pc' := 50) (loc' := [some (.ref 66), some (fI kd), some (fI p), some (fI d), none]) (st' := [fI p, fI 0, .ref 82, .ref 66]) (h' := h_265) (cl' := 0) (sl' := 0) rfl ?_
        refine fw_call 157 4 0 [.ref 66, .ref 82, fI 0, fI p] [] rfl rfl rfl (by decide) rfl rfl (fw_rec k_265 rfl g_265_66 rfl (by decide)) (cr_comesRow (pl := pl) (f := fun j => ([0, 0, 0, 0, 0, 0, 0, (f 7), (f 8), 0, (f 10), (f 11), (f 12), (f 13), (f 14), (f 15), (f 16), (f 17), 0, 0, 0, 0, 0, 0, w'_265, 0, 0, 0, 0, 0, 0, 0, (f 32), (f 33), 0, 0, (f 36), 0, 0, 0, 0, 0, 0] : List Int).getD j 0) (s := s) (cn := cn) (go := go) (ch := ch) (gt := gt'_265) (gd := gd'_265) (xs := xs'_265) (ys := ys'_265) (kd := 0) (qp := p) (r := 82) (rr := r2) (by omega) (by omega) q2 q3 q4 (by omega) (by omega) (by omega) g_265_66 g_265_67 n67 g_265_68 n68 g_265_69 n69 g_265_77 m_265_77 g_265_78 m_265_78 g_265_79 m_265_79 g_265_80 m_265_80 g_265_82 n82 k_265) ?_
        rintro _ h_266 ⟨w'_266, gt'_266, gd'_266, xs'_266, ys'_266, rr'_266, rfl, e_266_66, e_266_77, m_266_77, e_266_78, m_266_78, e_266_79, m_266_79, e_266_80, m_266_80, e_266_r, m_266_r, p_266_0, F_266⟩
        have k_266 := F_266.1.trans k_265
        have fr_266 := hfr_c fr_265 F_266 (by decide)
        have g_266_67 := (F_266.2 67 (by decide +kernel)).trans g_265_67
        have g_266_68 := (F_266.2 68 (by decide +kernel)).trans g_265_68
        have g_266_69 := (F_266.2 69 (by decide +kernel)).trans g_265_69
        have g_266_81 := (F_266.2 81 (by decide +kernel)).trans g_265_81
        have g_266_66 : cE h_266 66 (.inr (10, [fI pl, .ref 67, .ref 68, .ref 69, fI ((s : Nat) : Int), .ref 70, .ref 71, fI (f 7), fI (f 8), .ref 72, fI (f 10), fI (f 11), fI (f 12), fJ (f 13), fI (f 14), fI (f 15), fI (f 16), fI (f 17), .ref 73, .ref 74, .ref 75, .ref 76, .ref 77, .ref 78, fI w'_266, .ref 79, .ref 80, .ref 81, .ref 82, .ref 83, .ref 84, .ref 85, fJ (f 32), fJ (f 33), .ref 86, .ref 87, fI (f 36), .ref 88, .ref 89, .ref 90, .ref 91, .ref 92, .ref 93])) := e_266_66
        have g_266_77 : cE h_266 77 (.inl (.int, fA gt'_266)) := e_266_77
        have g_266_78 : cE h_266 78 (.inl (.int, fA gd'_266)) := e_266_78
        have g_266_79 : cE h_266 79 (.inl (.long, fL xs'_266)) := e_266_79
        have g_266_80 : cE h_266 80 (.inl (.long, fL ys'_266)) := e_266_80
        have g_266_82 : cE h_266 82 (.inl (.long, fL rr'_266)) := e_266_r
        refine ik_Wk 0 (pc' := 53) (loc' := [some (.ref 66), some (fI kd), some (fI p), some (fI d), none]) (st' := []) (h' := h_266) (cl' := 0) (sl' := 0) rfl ?_
        refine ik_Wk 2 (pc' := 56) (loc' := [some (.ref 66), some (fI kd), some (fI p), some (fI d), some (fI 0)]) (st' := []) (h' := h_266) (cl' := 0) (sl' := 0) rfl ?_
        exact rp_knownL (pl := pl) (f := f) (s := s) (cn := cn) (go := go) (ch := ch) (gt := gt) (gd := gd) (xs := xs) (ys := ys) (r1 := r1) (r2 := r2) (kd := kd) (p := p) (d := d) q0 q1 q2 q3 q4 q5 q6 q7 ⟨⟨by omega, by omega⟩, by omega⟩ p_265_0 p_266_0 202 0 h_266 g_266_66 g_266_67 n67 g_266_68 n68 g_266_69 n69 g_266_77 m_266_77 g_266_78 m_266_78 g_266_79 m_266_79 g_266_80 m_266_80 g_266_81 m_265_r g_266_82 m_266_r k_266 fr_266 (by omega) rfl (by omega)
      · have k_264 := F_264.1.trans k_263
        have fr_264 := hfr_c fr_263 F_264 (by decide)
        have g_264_66 := (F_264.2 66 (by decide +kernel)).trans g_263_66
        have g_264_67 := (F_264.2 67 (by decide +kernel)).trans g_263_67
        have g_264_68 := (F_264.2 68 (by decide +kernel)).trans g_263_68
        have g_264_69 := (F_264.2 69 (by decide +kernel)).trans g_263_69
        have g_264_77 := (F_264.2 77 (by decide +kernel)).trans g_263_77
        have g_264_78 := (F_264.2 78 (by decide +kernel)).trans g_263_78
        have g_264_79 := (F_264.2 79 (by decide +kernel)).trans g_263_79
        have g_264_80 := (F_264.2 80 (by decide +kernel)).trans g_263_80
        have g_264_81 := (F_264.2 81 (by decide +kernel)).trans g_263_81
        have g_264_82 := (F_264.2 82 (by decide +kernel)).trans g_263_82
        refine ik_Wk 0 (pc' := 27) (loc' := [some (.ref 66), some (fI kd), some (fI p), some (fI d), none]) (st' := [fI 0]) (h' := h_264) (cl' := 0) (sl' := 0) rfl ?_
        refine fw_if_ne rfl rfl (by omega) (by omega) (fun hc4 => ?_) (fun hc4 => absurd hc4 (by omega))
        refine fw_ld (-1000000002) rfl rfl (by decide) ?_
        exact ik_Wret rfl rfl ⟨_, _, rfl, rfl, rfl, rfl, ⟨(f 24), gt, gd, xs, ys, r1, r2, (congrArg (fun z => [fI z]) (by unfold an_kpd; (repeat' split) <;> first | rfl | omega)), g_264_66, g_264_77, n77, g_264_78, n78, g_264_79, n79, g_264_80, n80, g_264_81, n81, g_264_82, n82, fr_264⟩⟩
    · have k_263 := F_263.1.trans k_262
      have fr_263 := hfr_c fr_262 F_263 (by decide)
      have g_263_66 := (F_263.2 66 (by decide +kernel)).trans g_262_66
      have g_263_67 := (F_263.2 67 (by decide +kernel)).trans g_262_67
      have g_263_68 := (F_263.2 68 (by decide +kernel)).trans g_262_68
      have g_263_69 := (F_263.2 69 (by decide +kernel)).trans g_262_69
      have g_263_77 := (F_263.2 77 (by decide +kernel)).trans g_262_77
      have g_263_78 := (F_263.2 78 (by decide +kernel)).trans g_262_78
      have g_263_79 := (F_263.2 79 (by decide +kernel)).trans g_262_79
      have g_263_80 := (F_263.2 80 (by decide +kernel)).trans g_262_80
      have g_263_81 := (F_263.2 81 (by decide +kernel)).trans g_262_81
      have g_263_82 := (F_263.2 82 (by decide +kernel)).trans g_262_82
      refine ik_Wk 0 (pc' := 13) (loc' := [some (.ref 66), some (fI p)]) (st' := [fI 0]) (h' := h_263) (cl' := 0) (sl' := 0) rfl ?_
      refine ik_Wret rfl rfl ⟨_, _, rfl, rfl, ?_⟩
      refine ik_Wk 0 (pc' := 12) (loc' := [some (.ref 66), some (fI kd), some (fI p), some (fI d), none]) (st' := [fI 0]) (h' := h_263) (cl' := 0) (sl' := 0) rfl ?_
      refine fw_if_ne rfl rfl (by omega) (by omega) (fun hc5 => ?_) (fun hc5 => absurd hc5 (by omega))
      refine fw_ld (-1000000001) rfl rfl (by decide) ?_
      exact ik_Wret rfl rfl ⟨_, _, rfl, rfl, rfl, rfl, ⟨(f 24), gt, gd, xs, ys, r1, r2, (congrArg (fun z => [fI z]) (by unfold an_kpd; (repeat' split) <;> first | rfl | omega)), g_263_66, g_263_77, n77, g_263_78, n78, g_263_79, n79, g_263_80, n80, g_263_81, n81, g_263_82, n82, fr_263⟩⟩
  · have k_262 := F_262.1.trans hl
    have fr_262 := hfr_c (hfr_refl [66, 77, 78, 79, 80, 81, 82] h) F_262 (by decide)
    have g_262_66 := (F_262.2 66 (by decide +kernel)).trans h66
    have g_262_67 := (F_262.2 67 (by decide +kernel)).trans h67
    have g_262_68 := (F_262.2 68 (by decide +kernel)).trans h68
    have g_262_69 := (F_262.2 69 (by decide +kernel)).trans h69
    have g_262_77 := (F_262.2 77 (by decide +kernel)).trans h77
    have g_262_78 := (F_262.2 78 (by decide +kernel)).trans h78
    have g_262_79 := (F_262.2 79 (by decide +kernel)).trans h79
    have g_262_80 := (F_262.2 80 (by decide +kernel)).trans h80
    have g_262_81 := (F_262.2 81 (by decide +kernel)).trans h81
    have g_262_82 := (F_262.2 82 (by decide +kernel)).trans h82
    refine ik_Wk 0 (pc' := 9) (loc' := [some (fI kd)]) (st' := [fI 0]) (h' := h_262) (cl' := 0) (sl' := 0) rfl ?_
    refine ik_Wret rfl rfl ⟨_, _, rfl, rfl, ?_⟩
    refine ik_Wk 0 (pc' := 4) (loc' := [some (.ref 66), some (fI kd), some (fI p), some (fI d), none]) (st' := [fI 0]) (h' := h_262) (cl' := 0) (sl' := 0) rfl ?_
    refine fw_if_eq rfl rfl (by omega) (by omega) (fun hc6 => ?_) (fun hc6 => absurd hc6 (by omega))
    refine fw_ld (-1000000001) rfl rfl (by decide) ?_
    exact ik_Wret rfl rfl ⟨_, _, rfl, rfl, rfl, rfl, ⟨(f 24), gt, gd, xs, ys, r1, r2, (congrArg (fun z => [fI z]) (by unfold an_kpd; (repeat' split) <;> first | rfl | omega)), g_262_66, g_262_77, n77, g_262_78, n78, g_262_79, n79, g_262_80, n80, g_262_81, n81, g_262_82, n82, fr_262⟩⟩

theorem rp_later {h : List ik_E} {pl : Int} {f : Nat → Int} {s : Nat} {cn : List Int} {go : List Int} {ch : List Int} {gt : List Int} {gd : List Int} {xs : List Int} {ys : List Int} {ka : Int} {pa : Int} {fa : Int} {kb : Int} {pb : Int} {fb : Int} {r1 : List Int} {r2 : List Int} {what : Int} (q0 : 0 ≤ pl ∧ pl ≤ 12) (q1 : s < 4096) (q2 : ∀ x : Int, 0 ≤ x → x < pl - 1 → 0 ≤ cn.getD x.toNat 0 ∧ cn.getD x.toNat 0 ≤ 4) (q3 : ∀ x : Int, 0 ≤ x → x < pl - 1 → 1 ≤ cn.getD x.toNat 0 ∧ ∀ j : Int, 4 * x ≤ j → j < 4 * x + cn.getD x.toNat 0 → 0 ≤ ch.getD j.toNat 0 ∧ ch.getD j.toNat 0 ≤ 100) (q4 : ∀ x : Int, 0 ≤ x → x < pl - 1 → mx_ok pl (mx_w cn go ch s x)) (q5 : 0 ≤ ka ∧ ka ≤ 2) (q6 : 0 ≤ kb ∧ kb ≤ 2) (q7 : 1 < pl → 0 ≤ pa ∧ pa < pl - 1) (q8 : 1 < pl → 0 ≤ pb ∧ pb < pl - 1) (q9 : 0 ≤ fa ∧ fa ≤ 30) (q10 : 0 ≤ fb ∧ fb ≤ 30) (q11 : -2147483648 ≤ what ∧ what < 2147483648) (h66 : cE h 66 (.inr (10, [fI pl, .ref 67, .ref 68, .ref 69, fI ((s : Nat) : Int), .ref 70, .ref 71, fI (f 7), fI (f 8), .ref 72, fI (f 10), fI (f 11), fI (f 12), fJ (f 13), fI (f 14), fI (f 15), fI (f 16), fI (f 17), .ref 73, .ref 74, .ref 75, .ref 76, .ref 77, .ref 78, fI (f 24), .ref 79, .ref 80, .ref 81, .ref 82, .ref 83, .ref 84, .ref 85, fJ (f 32), fJ (f 33), .ref 86, .ref 87, fI (f 36), .ref 88, .ref 89, .ref 90, .ref 91, .ref 92, .ref 93]))) (h67 : cE h 67 (.inl (.int, fA cn))) (n67 : cn.length = 12) (h68 : cE h 68 (.inl (.int, fA go))) (n68 : go.length = 48) (h69 : cE h 69 (.inl (.int, fA ch))) (n69 : ch.length = 48) (h77 : cE h 77 (.inl (.int, fA gt))) (n77 : gt.length = 5) (h78 : cE h 78 (.inl (.int, fA gd))) (n78 : gd.length = 5) (h79 : cE h 79 (.inl (.long, fL xs))) (n79 : xs.length = 12) (h80 : cE h 80 (.inl (.long, fL ys))) (n80 : ys.length = 12) (h70 : cE h 70 (.inl (.int, fA [ka, pa, fa, kb, pb, fb]))) (h81 : cE h 81 (.inl (.long, fL r1))) (n81 : r1.length = 201) (h82 : cE h 82 (.inl (.long, fL r2))) (n82 : r2.length = 201) (hl : h.length = 94) : ik_F 170 [.ref 66, fI what] h (fun rv h' => ∃ (w' : Int) (gt' : List Int) (gd' : List Int) (xs' : List Int) (ys' : List Int) (r1' : List Int) (r2' : List Int), rv = [fI (an_la what pl (mk_lw cn go ch s pl ka pa fa kb pb fb what))] ∧ cE h' 66 (.inr (10, [fI pl, .ref 67, .ref 68, .ref 69, fI ((s : Nat) : Int), .ref 70, .ref 71, fI (f 7), fI (f 8), .ref 72, fI (f 10), fI (f 11), fI (f 12), fJ (f 13), fI (f 14), fI (f 15), fI (f 16), fI (f 17), .ref 73, .ref 74, .ref 75, .ref 76, .ref 77, .ref 78, fI w', .ref 79, .ref 80, .ref 81, .ref 82, .ref 83, .ref 84, .ref 85, fJ (f 32), fJ (f 33), .ref 86, .ref 87, fI (f 36), .ref 88, .ref 89, .ref 90, .ref 91, .ref 92, .ref 93])) ∧ cE h' 77 (.inl (.int, fA gt')) ∧ gt'.length = 5 ∧ cE h' 78 (.inl (.int, fA gd')) ∧ gd'.length = 5 ∧ cE h' 79 (.inl (.long, fL xs')) ∧ xs'.length = 12 ∧ cE h' 80 (.inl (.long, fL ys')) ∧ ys'.length = 12 ∧ cE h' 81 (.inl (.long, fL r1')) ∧ r1'.length = 201 ∧ cE h' 82 (.inl (.long, fL r2')) ∧ r2'.length = 201 ∧ hfr [66, 77, 78, 79, 80, 81, 82] h h') := by
  refine ik_Wk 1 (pc' := 1) (loc' := [some (.ref 66), some (fI what)]) (st' := [fI what]) (h' := h) (cl' := 0) (sl' := 0) rfl ?_
  refine fw_i2l rfl (by omega) (by omega) ?_
  refine fw_lc (z := 0) rfl (by decide) ?_
  refine fw_l2 2 rfl rfl (by decide) ?_
  refine fw_call 127 3 3 [fJ what, fJ 0, fJ 2] [] rfl rfl rfl (by decide) rfl rfl (fw_sta hl rfl (by decide)) (cr_in (v := what) (a := 0) (b := 2) (by omega) (by omega) (by omega)  hl) ?_
  rintro _ h_267 (⟨rfl, p_267_0, F_267⟩ | ⟨rfl, p_267_0, F_267⟩)
  · have k_267 := F_267.1.trans hl
    have fr_267 := hfr_c (hfr_refl [66, 77, 78, 79, 80, 81, 82] h) F_267 (by decide)
    have g_267_66 := (F_267.2 66 (by decide +kernel)).trans h66
    have g_267_67 := (F_267.2 67 (by decide +kernel)).trans h67
    have g_267_68 := (F_267.2 68 (by decide +kernel)).trans h68
    have g_267_69 := (F_267.2 69 (by decide +kernel)).trans h69
    have g_267_77 := (F_267.2 77 (by decide +kernel)).trans h77
    have g_267_78 := (F_267.2 78 (by decide +kernel)).trans h78
    have g_267_79 := (F_267.2 79 (by decide +kernel)).trans h79
    have g_267_80 := (F_267.2 80 (by decide +kernel)).trans h80
    have g_267_70 := (F_267.2 70 (by decide +kernel)).trans h70
    have g_267_81 := (F_267.2 81 (by decide +kernel)).trans h81
    have g_267_82 := (F_267.2 82 (by decide +kernel)).trans h82
    refine ik_Wk 0 (pc' := 9) (loc' := [some (.ref 66), some (fI what)]) (st' := [fI 1]) (h' := h_267) (cl' := 0) (sl' := 0) rfl ?_
    refine fw_if_ne rfl rfl (by omega) (by omega) (fun hc1 => absurd hc1 (by omega)) (fun hc1 => ?_)
    refine ik_Wk 1 (pc' := 16) (loc' := [some (.ref 66), some (fI what)]) (st' := [.ref 66]) (h' := h_267) (cl' := 0) (sl' := 0) rfl ?_
    refine ik_Wc 134 1 0 [.ref 66] [] rfl rfl rfl (by decide) rfl rfl (fw_rec k_267 rfl g_267_66 rfl (by decide)) ?_
    refine ik_Wk 0 (pc' := 0) (loc' := [some (.ref 66)]) (st' := []) (h' := h_267) (cl' := 0) (sl' := 0) rfl ?_
    refine ik_Wk 1 (pc' := 1) (loc' := [some (.ref 66)]) (st' := [.ref 66]) (h' := h_267) (cl' := 0) (sl' := 0) rfl ?_
    refine fw_gf rfl rfl g_267_66 rfl ?_
    refine ik_Wk 1 (pc' := 5) (loc' := [some (.ref 66)]) (st' := [fI 1, fI pl]) (h' := h_267) (cl' := 0) (sl' := 0) rfl ?_
    refine fw_ic_le rfl rfl (by omega) (by omega) (by omega) (by omega) (fun hc2 => ?_) (fun hc2 => ?_)
    · refine ik_Wk 1 (pc' := 13) (loc' := [some (.ref 66)]) (st' := [fI 0]) (h' := h_267) (cl' := 0) (sl' := 0) rfl ?_
      refine ik_Wret rfl rfl ⟨_, _, rfl, rfl, ?_⟩
      refine ik_Wk 0 (pc' := 19) (loc' := [some (.ref 66), some (fI what)]) (st' := [fI 0]) (h' := h_267) (cl' := 0) (sl' := 0) rfl ?_
      refine fw_if_eq rfl rfl (by omega) (by omega) (fun hc3 => ?_) (fun hc3 => absurd hc3 (by omega))
      refine fw_ld (-1000000003) rfl rfl (by decide) ?_
      exact ik_Wret rfl rfl ⟨_, _, rfl, rfl, rfl, rfl, ⟨(f 24), gt, gd, xs, ys, r1, r2, (congrArg (fun z => [fI z]) (by unfold an_la; (repeat' split) <;> first | rfl | omega)), g_267_66, g_267_77, n77, g_267_78, n78, g_267_79, n79, g_267_80, n80, g_267_81, n81, g_267_82, n82, fr_267⟩⟩
    · refine ik_Wk 2 (pc' := 13) (loc' := [some (.ref 66)]) (st' := [fI 1]) (h' := h_267) (cl' := 0) (sl' := 0) rfl ?_
      refine ik_Wret rfl rfl ⟨_, _, rfl, rfl, ?_⟩
      refine ik_Wk 0 (pc' := 19) (loc' := [some (.ref 66), some (fI what)]) (st' := [fI 1]) (h' := h_267) (cl' := 0) (sl' := 0) rfl ?_
      refine fw_if_eq rfl rfl (by omega) (by omega) (fun hc4 => absurd hc4 (by omega)) (fun hc4 => ?_)
      refine ik_Wk 2 (pc' := 24) (loc' := [some (.ref 66), some (fI what)]) (st' := [fI what, .ref 66]) (h' := h_267) (cl' := 0) (sl' := 0) rfl ?_
      refine fw_call 169 2 0 [.ref 66, fI what] [] rfl rfl rfl (by decide) rfl rfl (fw_rec k_267 rfl g_267_66 rfl (by decide)) (cr_laterOf (pl := pl) (f := fun j => ([0, 0, 0, 0, 0, 0, 0, f 7, f 8, 0, f 10, f 11, f 12, f 13, f 14, f 15, f 16, f 17, 0, 0, 0, 0, 0, 0, f 24, 0, 0, 0, 0, 0, 0, 0, f 32, f 33, 0, 0, f 36, 0, 0, 0, 0, 0, 0] : List Int).getD j 0) (s := s) (cn := cn) (go := go) (ch := ch) (gt := gt) (gd := gd) (xs := xs) (ys := ys) (ka := ka) (pa := pa) (fa := fa) (kb := kb) (pb := pb) (fb := fb) (r1 := r1) (r2 := r2) (wh := what) (by omega) (by omega) q2 q3 q4 q5 q6 (q7 (by omega)) (q8 (by omega)) q9 q10 (by omega) g_267_66 g_267_67 n67 g_267_68 n68 g_267_69 n69 g_267_77 n77 g_267_78 n78 g_267_79 n79 g_267_80 n80 g_267_70 g_267_81 n81 g_267_82 n82 k_267) ?_
      rintro _ h_268 ⟨w'_268, gt'_268, gd'_268, xs'_268, ys'_268, r1'_268, r2'_268, rfl, e_268_66, e_268_77, m_268_77, e_268_78, m_268_78, e_268_79, m_268_79, e_268_80, m_268_80, e_268_81, m_268_81, e_268_82, m_268_82, F_268⟩
      have k_268 := F_268.1.trans k_267
      have fr_268 := hfr_c fr_267 F_268 (by decide)
      have g_268_67 := (F_268.2 67 (by decide +kernel)).trans g_267_67
      have g_268_68 := (F_268.2 68 (by decide +kernel)).trans g_267_68
      have g_268_69 := (F_268.2 69 (by decide +kernel)).trans g_267_69
      have g_268_70 := (F_268.2 70 (by decide +kernel)).trans g_267_70
      have g_268_66 : cE h_268 66 (.inr (10, [fI pl, .ref 67, .ref 68, .ref 69, fI ((s : Nat) : Int), .ref 70, .ref 71, fI (f 7), fI (f 8), .ref 72, fI (f 10), fI (f 11), fI (f 12), fJ (f 13), fI (f 14), fI (f 15), fI (f 16), fI (f 17), .ref 73, .ref 74, .ref 75, .ref 76, .ref 77, .ref 78, fI w'_268, .ref 79, .ref 80, .ref 81, .ref 82, .ref 83, .ref 84, .ref 85, fJ (f 32), fJ (f 33), .ref 86, .ref 87, fI (f 36), .ref 88, .ref 89, .ref 90, .ref 91, .ref 92, .ref 93])) := e_268_66
      have g_268_77 : cE h_268 77 (.inl (.int, fA gt'_268)) := e_268_77
      have g_268_78 : cE h_268 78 (.inl (.int, fA gd'_268)) := e_268_78
      have g_268_79 : cE h_268 79 (.inl (.long, fL xs'_268)) := e_268_79
      have g_268_80 : cE h_268 80 (.inl (.long, fL ys'_268)) := e_268_80
      have g_268_81 : cE h_268 81 (.inl (.long, fL r1'_268)) := e_268_81
      have g_268_82 : cE h_268 82 (.inl (.long, fL r2'_268)) := e_268_82
      refine ik_Wk 0 (pc' := 27) (loc' := [some (.ref 66), some (fI what)]) (st' := [fI (mr_w (mf_cm (fun x => mx_w cn go ch s x) (pl - 1) ka pa) fa (mf_cm (fun x => mx_w cn go ch s x) (pl - 1) kb pb) fb what)]) (h' := h_268) (cl' := 0) (sl' := 0) rfl ?_
      refine ik_Wk 1 (pc' := 32) (loc' := [some (.ref 66), some (fI what)]) (st' := [fI (mr_w (mf_cm (fun x => mx_w cn go ch s x) (pl - 1) ka pa) fa (mf_cm (fun x => mx_w cn go ch s x) (pl - 1) kb pb) fb what)]) (h' := h_268) (cl' := 0) (sl' := 0) rfl ?_
      exact ik_Wret rfl rfl ⟨_, _, rfl, rfl, rfl, rfl, ⟨w'_268, gt'_268, gd'_268, xs'_268, ys'_268, r1'_268, r2'_268, (congrArg (fun z => [fI z]) (by unfold an_la; (repeat' split) <;> first | rfl | omega)), g_268_66, g_268_77, m_268_77, g_268_78, m_268_78, g_268_79, m_268_79, g_268_80, m_268_80, g_268_81, m_268_81, g_268_82, m_268_82, fr_268⟩⟩
  · have k_267 := F_267.1.trans hl
    have fr_267 := hfr_c (hfr_refl [66, 77, 78, 79, 80, 81, 82] h) F_267 (by decide)
    have g_267_66 := (F_267.2 66 (by decide +kernel)).trans h66
    have g_267_67 := (F_267.2 67 (by decide +kernel)).trans h67
    have g_267_68 := (F_267.2 68 (by decide +kernel)).trans h68
    have g_267_69 := (F_267.2 69 (by decide +kernel)).trans h69
    have g_267_77 := (F_267.2 77 (by decide +kernel)).trans h77
    have g_267_78 := (F_267.2 78 (by decide +kernel)).trans h78
    have g_267_79 := (F_267.2 79 (by decide +kernel)).trans h79
    have g_267_80 := (F_267.2 80 (by decide +kernel)).trans h80
    have g_267_70 := (F_267.2 70 (by decide +kernel)).trans h70
    have g_267_81 := (F_267.2 81 (by decide +kernel)).trans h81
    have g_267_82 := (F_267.2 82 (by decide +kernel)).trans h82
    refine ik_Wk 0 (pc' := 9) (loc' := [some (.ref 66), some (fI what)]) (st' := [fI 0]) (h' := h_267) (cl' := 0) (sl' := 0) rfl ?_
    refine fw_if_ne rfl rfl (by omega) (by omega) (fun hc5 => ?_) (fun hc5 => absurd hc5 (by omega))
    refine fw_ld (-1000000002) rfl rfl (by decide) ?_
    exact ik_Wret rfl rfl ⟨_, _, rfl, rfl, rfl, rfl, ⟨(f 24), gt, gd, xs, ys, r1, r2, (congrArg (fun z => [fI z]) (by unfold an_la; (repeat' split) <;> first | rfl | omega)), g_267_66, g_267_77, n77, g_267_78, n78, g_267_79, n79, g_267_80, n80, g_267_81, n81, g_267_82, n82, fr_267⟩⟩

end