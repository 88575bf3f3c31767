noncomputable section
theorem cr_fears1 {h : List ik_E} {pl : Int} {f : Nat → Int} {s : Nat} {cn : List Int} {go : List Int} {ch : List Int} {gt : List Int} {gd : List Int} {xs : List Int} {ys : List Int} {ka : Int} {pa : Int} {fa : Int} {kb : Int} {pb : Int} {fb : Int} {r1 : List Int} {r2 : List Int} {p : Int} {fr : List Int} (q0 : 1 ≤ pl ∧ pl ≤ 12) (q1 : s < 4096) (q2 : ∀ x : Int, 0 ≤ x → x < pl - 1 → 0 ≤ cn.getD x.toNat 0 ∧ cn.getD x.toNat 0 ≤ 4) (q3 : ∀ x : Int, 0 ≤ x → x < pl - 1 → 1 ≤ cn.getD x.toNat 0 ∧ ∀ j : Int, 4 * x ≤ j → j < 4 * x + cn.getD x.toNat 0 → 0 ≤ ch.getD j.toNat 0 ∧ ch.getD j.toNat 0 ≤ 100) (q4 : ∀ x : Int, 0 ≤ x → x < pl - 1 → mx_ok pl (mx_w cn go ch s x)) (q5 : 0 ≤ ka ∧ ka ≤ 2) (q6 : 0 ≤ kb ∧ kb ≤ 2) (q7 : 0 ≤ p ∧ p + 1 < pl) (h66 : cE h 66 (.inr (10, [fI pl, .ref 67, .ref 68, .ref 69, fI ((s : Nat) : Int), .ref 70, .ref 71, fI (f 7), fI (f 8), .ref 72, fI (f 10), fI (f 11), fI (f 12), fJ (f 13), fI (f 14), fI (f 15), fI (f 16), fI (f 17), .ref 73, .ref 74, .ref 75, .ref 76, .ref 77, .ref 78, fI (f 24), .ref 79, .ref 80, .ref 81, .ref 82, .ref 83, .ref 84, .ref 85, fJ (f 32), fJ (f 33), .ref 86, .ref 87, fI (f 36), .ref 88, .ref 89, .ref 90, .ref 91, .ref 92, .ref 93]))) (h67 : cE h 67 (.inl (.int, fA cn))) (n67 : cn.length = 12) (h68 : cE h 68 (.inl (.int, fA go))) (n68 : go.length = 48) (h69 : cE h 69 (.inl (.int, fA ch))) (n69 : ch.length = 48) (h77 : cE h 77 (.inl (.int, fA gt))) (n77 : gt.length = 5) (h78 : cE h 78 (.inl (.int, fA gd))) (n78 : gd.length = 5) (h79 : cE h 79 (.inl (.long, fL xs))) (n79 : xs.length = 12) (h80 : cE h 80 (.inl (.long, fL ys))) (n80 : ys.length = 12) (h70 : cE h 70 (.inl (.int, fA [ka, pa, fa, kb, pb, fb]))) (h81 : cE h 81 (.inl (.long, fL r1))) (n81 : r1.length = 201) (h82 : cE h 82 (.inl (.long, fL r2))) (n82 : r2.length = 201) (h83 : cE h 83 (.inl (.long, fL fr))) (n83 : fr.length = 9) (hl : h.length = 94) : ik_F 178 [.ref 66, fI p, fI 1] h (fun rv h' => ∃ (w' : Int) (gt' : List Int) (gd' : List Int) (xs' : List Int) (ys' : List Int) (r1' : List Int) (r2' : List Int) (fr' : List Int), rv = [] ∧ cE h' 66 (.inr (10, [fI pl, .ref 67, .ref 68, .ref 69, fI ((s : Nat) : Int), .ref 70, .ref 71, fI (f 7), fI (f 8), .ref 72, fI (f 10), fI (f 11), fI (f 12), fJ (f 13), fI (f 14), fI (f 15), fI (f 16), fI (f 17), .ref 73, .ref 74, .ref 75, .ref 76, .ref 77, .ref 78, fI w', .ref 79, .ref 80, .ref 81, .ref 82, .ref 83, .ref 84, .ref 85, fJ (f 32), fJ (f 33), .ref 86, .ref 87, fI (f 36), .ref 88, .ref 89, .ref 90, .ref 91, .ref 92, .ref 93])) ∧ cE h' 77 (.inl (.int, fA gt')) ∧ gt'.length = 5 ∧ cE h' 78 (.inl (.int, fA gd')) ∧ gd'.length = 5 ∧ cE h' 79 (.inl (.long, fL xs')) ∧ xs'.length = 12 ∧ cE h' 80 (.inl (.long, fL ys')) ∧ ys'.length = 12 ∧ cE h' 81 (.inl (.long, fL r1')) ∧ r1'.length = 201 ∧ cE h' 82 (.inl (.long, fL r2')) ∧ r2'.length = 201 ∧ cE h' 70 (.inl (.int, fA [ka, pa, fa, kb, pb, fb])) ∧ cE h' 83 (.inl (.long, fL fr')) ∧ fr'.length = 9 ∧ hfr [66, 77, 78, 79, 80, 81, 82, 70, 83] h h') := by
  refine ik_Wk 1 (pc' := 1) (loc' := [some (.ref 66), some (fI p), some (fI 1), none, none, none, none, none, none]) (st' := [.ref 66]) (h' := h) (cl' := 0) (sl' := 0) rfl ?_
  refine fw_gf rfl rfl h66 rfl ?_
  refine ik_Wk 1 (pc' := 5) (loc' := [some (.ref 66), some (fI p), some (fI 1), none, none, none, none, none, none]) (st' := [fI 1, .ref 70]) (h' := h) (cl' := 0) (sl' := 0) rfl ?_
  refine fw_ial (z := 1) rfl h70 (by decide) (Nat.le_of_ble_eq_true rfl) (by decide) ?_
  refine ik_Wk 0 (pc' := 6) (loc' := [some (.ref 66), some (fI p), some (fI 1), none, none, none, none, none, none]) (st' := [fI pa]) (h' := h) (cl' := 0) (sl' := 0) rfl ?_
  refine ik_Wk 2 (pc' := 8) (loc' := [some (.ref 66), some (fI p), some (fI 1), some (fI pa), none, none, none, none, none]) (st' := [.ref 66]) (h' := h) (cl' := 0) (sl' := 0) rfl ?_
  refine fw_gf rfl rfl h66 rfl ?_
  refine ik_Wk 1 (pc' := 12) (loc' := [some (.ref 66), some (fI p), some (fI 1), some (fI pa), none, none, none, none, none]) (st' := [fI 2, .ref 70]) (h' := h) (cl' := 0) (sl' := 0) rfl ?_
  refine fw_ial (z := 2) rfl h70 (by decide) (Nat.le_of_ble_eq_true rfl) (by decide) ?_
  refine ik_Wk 0 (pc' := 13) (loc' := [some (.ref 66), some (fI p), some (fI 1), some (fI pa), none, none, none, none, none]) (st' := [fI fa]) (h' := h) (cl' := 0) (sl' := 0) rfl ?_
  refine ik_Wk 2 (pc' := 16) (loc' := [some (.ref 66), some (fI p), some (fI 1), some (fI pa), some (fI fa), none, none, none, none]) (st' := [.ref 66]) (h' := h) (cl' := 0) (sl' := 0) rfl ?_
  refine fw_gf rfl rfl h66 rfl ?_
  refine ik_Wk 1 (pc' := 20) (loc' := [some (.ref 66), some (fI p), some (fI 1), some (fI pa), some (fI fa), none, none, none, none]) (st' := [fI 4, .ref 70]) (h' := h) (cl' := 0) (sl' := 0) rfl ?_
  refine fw_ial (z := 4) rfl h70 (by decide) (Nat.le_of_ble_eq_true rfl) (by decide) ?_
  refine ik_Wk 0 (pc' := 21) (loc' := [some (.ref 66), some (fI p), some (fI 1), some (fI pa), some (fI fa), none, none, none, none]) (st' := [fI pb]) (h' := h) (cl' := 0) (sl' := 0) rfl ?_
  refine ik_Wk 2 (pc' := 24) (loc' := [some (.ref 66), some (fI p), some (fI 1), some (fI pa), some (fI fa), some (fI pb), none, none, none]) (st' := [.ref 66]) (h' := h) (cl' := 0) (sl' := 0) rfl ?_
  refine fw_gf rfl rfl h66 rfl ?_
  refine ik_Wk 1 (pc' := 28) (loc' := [some (.ref 66), some (fI p), some (fI 1), some (fI pa), some (fI fa), some (fI pb), none, none, none]) (st' := [fI 5, .ref 70]) (h' := h) (cl' := 0) (sl' := 0) rfl ?_
  refine fw_ial (z := 5) rfl h70 (by decide) (Nat.le_of_ble_eq_true rfl) (by decide) ?_
  refine ik_Wk 0 (pc' := 29) (loc' := [some (.ref 66), some (fI p), some (fI 1), some (fI pa), some (fI fa), some (fI pb), none, none, none]) (st' := [fI fb]) (h' := h) (cl' := 0) (sl' := 0) rfl ?_
  refine ik_Wk 2 (pc' := 32) (loc' := [some (.ref 66), some (fI p), some (fI 1), some (fI pa), some (fI fa), some (fI pb), some (fI fb), none, none]) (st' := [.ref 66]) (h' := h) (cl' := 0) (sl' := 0) rfl ?_
  refine fw_gf rfl rfl h66 rfl ?_
  refine ik_Wk 2 (pc' := 37) (loc' := [some (.ref 66), some (fI p), some (fI 1), some (fI pa), some (fI fa), some (fI pb), some (fI fb), none, none]) (st' := [fI 0, fI 2, .ref 70]) (h' := h) (cl' := 0) (sl' := 0) rfl ?_
  refine fx_ias (z := 2) rfl h70 (by decide) (Nat.le_of_ble_eq_true rfl) (by decide) ?_
  intro h_903 e_903 f_903 l_903
  have k_903 := l_903.trans hl
  have fr_903 := hfr_w (hfr_refl [66, 77, 78, 79, 80, 81, 82, 70, 83] h) f_903 l_903 (by decide)
  have g_903_66 := (f_903 66 (by decide)).trans h66
  have g_903_67 := (f_903 67 (by decide)).trans h67
  have g_903_68 := (f_903 68 (by decide)).trans h68
  have g_903_69 := (f_903 69 (by decide)).trans h69
  have g_903_77 := (f_903 77 (by decide)).trans h77
  have g_903_78 := (f_903 78 (by decide)).trans h78
  have g_903_79 := (f_903 79 (by decide)).trans h79
  have g_903_80 := (f_903 80 (by decide)).trans h80
  have g_903_81 := (f_903 81 (by decide)).trans h81
  have g_903_82 := (f_903 82 (by decide)).trans h82
  have g_903_83 := (f_903 83 (by decide)).trans h83
  have g_903_70 : cE h_903 70 (.inl (.int, fA [ka, pa, 0, kb, pb, fb])) := e_903
  refine ik_Wk 1 (pc' := 39) (loc' := [some (.ref 66), some (fI p), some (fI 1), some (fI pa), some (fI fa), some (fI pb), some (fI fb), none, none]) (st' := [.ref 66]) (h' := h_903) (cl' := 0) (sl' := 0) rfl ?_
  refine fw_gf rfl rfl g_903_66 rfl ?_
  refine ik_Wk 2 (pc' := 44) (loc' := [some (.ref 66), some (fI p), some (fI 1), some (fI pa), some (fI fa), some (fI pb), some (fI fb), none, none]) (st' := [fI 0, fI 5, .ref 70]) (h' := h_903) (cl' := 0) (sl' := 0) rfl ?_
  refine fx_ias (z := 5) rfl g_903_70 (by decide) (Nat.le_of_ble_eq_true rfl) (by decide) ?_
  intro h_904 e_904 f_904 l_904
  have k_904 := l_904.trans k_903
  have fr_904 := hfr_w fr_903 f_904 l_904 (by decide)
  have g_904_66 := (f_904 66 (by decide)).trans g_903_66
  have g_904_67 := (f_904 67 (by decide)).trans g_903_67
  have g_904_68 := (f_904 68 (by decide)).trans g_903_68
  have g_904_69 := (f_904 69 (by decide)).trans g_903_69
  have g_904_77 := (f_904 77 (by decide)).trans g_903_77
  have g_904_78 := (f_904 78 (by decide)).trans g_903_78
  have g_904_79 := (f_904 79 (by decide)).trans g_903_79
  have g_904_80 := (f_904 80 (by decide)).trans g_903_80
  have g_904_81 := (f_904 81 (by decide)).trans g_903_81
  have g_904_82 := (f_904 82 (by decide)).trans g_903_82
  have g_904_83 := (f_904 83 (by decide)).trans g_903_83
  have g_904_70 : cE h_904 70 (.inl (.int, fA [ka, pa, 0, kb, pb, 0])) := e_904
  refine ik_Wk 4 (pc' := 51) (loc' := [some (.ref 66), some (fI p), some (fI 1), some (fI pa), some (fI fa), some (fI pb), some (fI fb), some (fI 0), none]) (st' := [fI 1, fI 0]) (h' := h_904) (cl' := 0) (sl' := 0) rfl ?_
  refine fw_ic_ge rfl rfl (by omega) (by omega) (by omega) (by omega) (fun hc1 => absurd hc1 (by omega)) (fun hc1 => ?_)
  refine ik_Wk 4 (pc' := 60) (loc' := [some (.ref 66), some (fI p), some (fI 1), some (fI pa), some (fI fa), some (fI pb), some (fI fb), some (fI 0), some (fI 0)]) (st' := [fI 1, fI 0]) (h' := h_904) (cl' := 0) (sl' := 0) rfl ?_
  refine fw_ic_ge rfl rfl (by omega) (by omega) (by omega) (by omega) (fun hc2 => absurd hc2 (by omega)) (fun hc2 => ?_)
  refine ik_Wk 1 (pc' := 64) (loc' := [some (.ref 66), some (fI p), some (fI 1), some (fI pa), some (fI fa), some (fI pb), some (fI fb), some (fI 0), some (fI 0)]) (st' := [.ref 66]) (h' := h_904) (cl' := 0) (sl' := 0) rfl ?_
  refine fw_gf rfl rfl g_904_66 rfl ?_
  refine ik_Wk 3 (pc' := 71) (loc' := [some (.ref 66), some (fI p), some (fI 1), some (fI pa), some (fI fa), some (fI pb), some (fI fb), some (fI 0), some (fI 0)]) (st' := [fI 0, fI p, fI 1, .ref 70]) (h' := h_904) (cl' := 0) (sl' := 0) rfl ?_
  refine fw_add rfl ?_
  refine fx_ias (z := 1) rfl g_904_70 (by decide) (Nat.le_of_ble_eq_true rfl) (by decide) ?_
  intro h_905 e_905 f_905 l_905
  have k_905 := l_905.trans k_904
  have fr_905 := hfr_w fr_904 f_905 l_905 (by decide)
  have g_905_66 := (f_905 66 (by decide)).trans g_904_66
  have g_905_67 := (f_905 67 (by decide)).trans g_904_67
  have g_905_68 := (f_905 68 (by decide)).trans g_904_68
  have g_905_69 := (f_905 69 (by decide)).trans g_904_69
  have g_905_77 := (f_905 77 (by decide)).trans g_904_77
  have g_905_78 := (f_905 78 (by decide)).trans g_904_78
  have g_905_79 := (f_905 79 (by decide)).trans g_904_79
  have g_905_80 := (f_905 80 (by decide)).trans g_904_80
  have g_905_81 := (f_905 81 (by decide)).trans g_904_81
  have g_905_82 := (f_905 82 (by decide)).trans g_904_82
  have g_905_83 := (f_905 83 (by decide)).trans g_904_83
  have g_905_70 : cE h_905 70 (.inl (.int, fA [ka, p + 0, 0, kb, pb, 0])) := e_905
  refine ik_Wk 1 (pc' := 74) (loc' := [some (.ref 66), some (fI p), some (fI 1), some (fI pa), some (fI fa), some (fI pb), some (fI fb), some (fI 0), some (fI 0)]) (st' := [.ref 66]) (h' := h_905) (cl' := 0) (sl' := 0) rfl ?_
  refine fw_gf rfl rfl g_905_66 rfl ?_
  refine ik_Wk 3 (pc' := 81) (loc' := [some (.ref 66), some (fI p), some (fI 1), some (fI pa), some (fI fa), some (fI pb), some (fI fb), some (fI 0), some (fI 0)]) (st' := [fI 0, fI p, fI 4, .ref 70]) (h' := h_905) (cl' := 0) (sl' := 0) rfl ?_
  refine fw_add rfl ?_
  refine fx_ias (z := 4) rfl g_905_70 (by decide) (Nat.le_of_ble_eq_true rfl) (by decide) ?_
  intro h_906 e_906 f_906 l_906
  have k_906 := l_906.trans k_905
  have fr_906 := hfr_w fr_905 f_906 l_906 (by decide)
  have g_906_66 := (f_906 66 (by decide)).trans g_905_66
  have g_906_67 := (f_906 67 (by decide)).trans g_905_67
  have g_906_68 := (f_906 68 (by decide)).trans g_905_68
  have g_906_69 := (f_906 69 (by decide)).trans g_905_69
  have g_906_77 := (f_906 77 (by decide)).trans g_905_77
  have g_906_78 := (f_906 78 (by decide)).trans g_905_78
  have g_906_79 := (f_906 79 (by decide)).trans g_905_79
  have g_906_80 := (f_906 80 (by decide)).trans g_905_80
  have g_906_81 := (f_906 81 (by decide)).trans g_905_81
  have g_906_82 := (f_906 82 (by decide)).trans g_905_82
  have g_906_83 := (f_906 83 (by decide)).trans g_905_83
  have g_906_70 : cE h_906 70 (.inl (.int, fA [ka, p + 0, 0, kb, p + 0, 0])) := e_906
  refine ik_Wk 1 (pc' := 84) (loc' := [some (.ref 66), some (fI p), some (fI 1), some (fI pa), some (fI fa), some (fI pb), some (fI fb), some (fI 0), some (fI 0)]) (st' := [.ref 66]) (h' := h_906) (cl' := 0) (sl' := 0) rfl ?_
  refine fw_gf rfl rfl g_906_66 rfl ?_
  refine ik_Wk 2 (pc' := 90) (loc' := [some (.ref 66), some (fI p), some (fI 1), some (fI pa), some (fI fa), some (fI pb), some (fI fb), some (fI 0), some (fI 0)]) (st' := [fI 0, fI 3, .ref 83]) (h' := h_906) (cl' := 0) (sl' := 0) rfl ?_
  refine fw_mul rfl ?_
  refine ik_Wk 1 (pc' := 93) (loc' := [some (.ref 66), some (fI p), some (fI 1), some (fI pa), some (fI fa), some (fI pb), some (fI fb), some (fI 0), some (fI 0)]) (st' := [fI 0, fI 0, .ref 83]) (h' := h_906) (cl' := 0) (sl' := 0) rfl ?_
  refine fw_add rfl ?_
  refine ik_Wk 2 (pc' := 96) (loc' := [some (.ref 66), some (fI p), some (fI 1), some (fI pa), some (fI fa), some (fI pb), some (fI fb), some (fI 0), some (fI 0)]) (st' := [fI 0, .ref 66, fI 0, .ref 83]) (h' := h_906) (cl' := 0) (sl' := 0) rfl ?_
  refine fw_call 169 2 0 [.ref 66, fI 0] [fI 0, .ref 83] rfl rfl rfl (by decide) rfl rfl (fw_rec k_906 rfl g_906_66 rfl (by decide)) (cr_laterOf (pl := pl) (f := fun j => ([0, 0, 0, 0, 0, 0, 0, f 7, f 8, 0, f 10, f 11, f 12, f 13, f 14, f 15, f 16, f 17, 0, 0, 0, 0, 0, 0, f 24, 0, 0, 0, 0, 0, 0, 0, f 32, f 33, 0, 0, f 36, 0, 0, 0, 0, 0, 0] : List Int).getD j 0) (s := s) (cn := cn) (go := go) (ch := ch) (gt := gt) (gd := gd) (xs := xs) (ys := ys) (ka := ka) (pa := p + 0) (fa := 0) (kb := kb) (pb := p + 0) (fb := 0) (r1 := r1) (r2 := r2) (wh := 0) (by omega) (by omega) q2 q3 q4 (by omega) (by omega) (by omega) (by omega) (by omega) (by omega) (by omega) g_906_66 g_906_67 n67 g_906_68 n68 g_906_69 n69 g_906_77 n77 g_906_78 n78 g_906_79 n79 g_906_80 n80 g_906_70 g_906_81 n81 g_906_82 n82 k_906) ?_
  rintro _ h_907 ⟨w'_907, gt'_907, gd'_907, xs'_907, ys'_907, r1'_907, r2'_907, rfl, e_907_66, e_907_77, m_907_77, e_907_78, m_907_78, e_907_79, m_907_79, e_907_80, m_907_80, e_907_81, m_907_81, e_907_82, m_907_82, F_907⟩
  have k_907 := F_907.1.trans k_906
  have fr_907 := hfr_c fr_906 F_907 (by decide)
  have g_907_67 := (F_907.2 67 (by decide +kernel)).trans g_906_67
  have g_907_68 := (F_907.2 68 (by decide +kernel)).trans g_906_68
  have g_907_69 := (F_907.2 69 (by decide +kernel)).trans g_906_69
  have g_907_70 := (F_907.2 70 (by decide +kernel)).trans g_906_70
  have g_907_83 := (F_907.2 83 (by decide +kernel)).trans g_906_83
  have g_907_66 : cE h_907 66 (.inr (10, [fI pl, .ref 67, .ref 68, .ref 69, fI ((s : Nat) : Int), .ref 70, .ref 71, fI (f 7), fI (f 8), .ref 72, fI (f 10), fI (f 11), fI (f 12), fJ (f 13), fI (f 14), fI (f 15), fI (f 16), fI (f 17), .ref 73, .ref 74, .ref 75, .ref 76, .ref 77, .ref 78, fI w'_907, .ref 79, .ref 80, .ref 81, .ref 82, .ref 83, .ref 84, .ref 85, fJ (f 32), fJ (f 33), .ref 86, .ref 87, fI (f 36), .ref 88, .ref 89, .ref 90, .ref 91, .ref 92, .ref 93])) := e_907_66
  have g_907_77 : cE h_907 77 (.inl (.int, fA gt'_907)) := e_907_77
  have g_907_78 : cE h_907 78 (.inl (.int, fA gd'_907)) := e_907_78
  have g_907_79 : cE h_907 79 (.inl (.long, fL xs'_907)) := e_907_79
  have g_907_80 : cE h_907 80 (.inl (.long, fL ys'_907)) := e_907_80
  have g_907_81 : cE h_907 81 (.inl (.long, fL r1'_907)) := e_907_81
  have g_907_82 : cE h_907 82 (.inl (.long, fL r2'_907)) := e_907_82
  refine ik_Wk 0 (pc' := 99) (loc' := [some (.ref 66), some (fI p), some (fI 1), some (fI pa), some (fI fa), some (fI pb), some (fI fb), some (fI 0), some (fI 0)]) (st' := [fI (mr_w (mf_cm (fun x => mx_w cn go ch s x) (pl - 1) ka (p + 0)) 0 (mf_cm (fun x => mx_w cn go ch s x) (pl - 1) kb (p + 0)) 0 0), fI 0, .ref 83]) (h' := h_907) (cl' := 0) (sl' := 0) rfl ?_
  have wb_907 : 0 ≤ mr_w (mf_cm (fun x => mx_w cn go ch s x) (pl - 1) ka (p + 0)) 0 (mf_cm (fun x => mx_w cn go ch s x) (pl - 1) kb (p + 0)) 0 0 ∧ mr_w (mf_cm (fun x => mx_w cn go ch s x) (pl - 1) ka (p + 0)) 0 (mf_cm (fun x => mx_w cn go ch s x) (pl - 1) kb (p + 0)) 0 0 ≤ 1000000 := mr_w_b (mr_ok_cm (W := (fun x => mx_w cn go ch s x)) (k := ka) q4 (show 0 ≤ p + 0 ∧ p + 0 < pl - 1 by omega)) (mr_ok_cm (W := (fun x => mx_w cn go ch s x)) (k := kb) q4 (show 0 ≤ p + 0 ∧ p + 0 < pl - 1 by omega)) (by decide) (by decide) 0
  refine fw_si rfl (by decide) ?_
  refine fx_idiv rfl (by omega) (by omega) (by omega) (by omega) ?_
  refine fw_i2l rfl (by omega) (by omega) ?_
  have hl3 : (fr.set (0 : Int).toNat ((mr_w (mf_cm (fun x => mx_w cn go ch s x) (pl - 1) ka (p + 0)) 0 (mf_cm (fun x => mx_w cn go ch s x) (pl - 1) kb (p + 0)) 0 0) / 1000)).length = 9 := (List.length_set ..).trans n83
  refine fx_las rfl g_907_83 (by omega) (by omega) (by omega) ?_
  intro h_908 e_908 f_908 l_908
  have k_908 := l_908.trans k_907
  have fr_908 := hfr_w fr_907 f_908 l_908 (by decide)
  have g_908_66 := (f_908 66 (by decide)).trans g_907_66
  have g_908_67 := (f_908 67 (by decide)).trans g_907_67
  have g_908_68 := (f_908 68 (by decide)).trans g_907_68
  have g_908_69 := (f_908 69 (by decide)).trans g_907_69
  have g_908_77 := (f_908 77 (by decide)).trans g_907_77
  have g_908_78 := (f_908 78 (by decide)).trans g_907_78
  have g_908_79 := (f_908 79 (by decide)).trans g_907_79
  have g_908_80 := (f_908 80 (by decide)).trans g_907_80
  have g_908_70 := (f_908 70 (by decide)).trans g_907_70
  have g_908_81 := (f_908 81 (by decide)).trans g_907_81
  have g_908_82 := (f_908 82 (by decide)).trans g_907_82
  have g_908_83 : cE h_908 83 (.inl (.long, fL (fr.set (0 : Int).toNat ((mr_w (mf_cm (fun x => mx_w cn go ch s x) (pl - 1) ka (p + 0)) 0 (mf_cm (fun x => mx_w cn go ch s x) (pl - 1) kb (p + 0)) 0 0) / 1000)))) := e_908
  refine fw_inc (a := 0) (loc' := [some (.ref 66), some (fI p), some (fI 1), some (fI pa), some (fI fa), some (fI pb), some (fI fb), some (fI 0), some (fI 1)]) rfl rfl (Nat.le_of_ble_eq_true rfl) rfl ?_
  refine ik_Wk 3 (pc' := 60) (loc' := [some (.ref 66), some (fI p), some (fI 1), some (fI pa), some (fI fa), some (fI pb), some (fI fb), some (fI 0), some (fI 1)]) (st' := [fI 1, fI 1]) (h' := h_908) (cl' := 0) (sl' := 0) rfl ?_
  refine fw_ic_ge rfl rfl (by omega) (by omega) (by omega) (by omega) (fun hc4 => ?_) (fun hc4 => absurd hc4 (by omega))
  refine fw_inc (a := 0) (loc' := [some (.ref 66), some (fI p), some (fI 1), some (fI pa), some (fI fa), some (fI pb), some (fI fb), some (fI 1), some (fI 1)]) rfl rfl (Nat.le_of_ble_eq_true rfl) rfl ?_
  refine ik_Wk 3 (pc' := 51) (loc' := [some (.ref 66), some (fI p), some (fI 1), some (fI pa), some (fI fa), some (fI pb), some (fI fb), some (fI 1), some (fI 1)]) (st' := [fI 1, fI 1]) (h' := h_908) (cl' := 0) (sl' := 0) rfl ?_
  refine fw_ic_ge rfl rfl (by omega) (by omega) (by omega) (by omega) (fun hc5 => ?_) (fun hc5 => absurd hc5 (by omega))
  refine ik_Wk 1 (pc' := 118) (loc' := [some (.ref 66), some (fI p), some (fI 1), some (fI pa), some (fI fa), some (fI pb), some (fI fb), some (fI 1), some (fI 1)]) (st' := [.ref 66]) (h' := h_908) (cl' := 0) (sl' := 0) rfl ?_
  refine fw_gf rfl rfl g_908_66 rfl ?_
  refine ik_Wk 2 (pc' := 123) (loc' := [some (.ref 66), some (fI p), some (fI 1), some (fI pa), some (fI fa), some (fI pb), some (fI fb), some (fI 1), some (fI 1)]) (st' := [fI pa, fI 1, .ref 70]) (h' := h_908) (cl' := 0) (sl' := 0) rfl ?_
  refine fx_ias (z := 1) rfl g_908_70 (by decide) (Nat.le_of_ble_eq_true rfl) (by decide) ?_
  intro h_909 e_909 f_909 l_909
  have k_909 := l_909.trans k_908
  have fr_909 := hfr_w fr_908 f_909 l_909 (by decide)
  have g_909_66 := (f_909 66 (by decide)).trans g_908_66
  have g_909_67 := (f_909 67 (by decide)).trans g_908_67
  have g_909_68 := (f_909 68 (by decide)).trans g_908_68
  have g_909_69 := (f_909 69 (by decide)).trans g_908_69
  have g_909_77 := (f_909 77 (by decide)).trans g_908_77
  have g_909_78 := (f_909 78 (by decide)).trans g_908_78
  have g_909_79 := (f_909 79 (by decide)).trans g_908_79
  have g_909_80 := (f_909 80 (by decide)).trans g_908_80
  have g_909_81 := (f_909 81 (by decide)).trans g_908_81
  have g_909_82 := (f_909 82 (by decide)).trans g_908_82
  have g_909_83 := (f_909 83 (by decide)).trans g_908_83
  have g_909_70 : cE h_909 70 (.inl (.int, fA [ka, pa, 0, kb, p + 0, 0])) := e_909
  refine ik_Wk 1 (pc' := 125) (loc' := [some (.ref 66), some (fI p), some (fI 1), some (fI pa), some (fI fa), some (fI pb), some (fI fb), some (fI 1), some (fI 1)]) (st' := [.ref 66]) (h' := h_909) (cl' := 0) (sl' := 0) rfl ?_
  refine fw_gf rfl rfl g_909_66 rfl ?_
  refine ik_Wk 2 (pc' := 131) (loc' := [some (.ref 66), some (fI p), some (fI 1), some (fI pa), some (fI fa), some (fI pb), some (fI fb), some (fI 1), some (fI 1)]) (st' := [fI fa, fI 2, .ref 70]) (h' := h_909) (cl' := 0) (sl' := 0) rfl ?_
  refine fx_ias (z := 2) rfl g_909_70 (by decide) (Nat.le_of_ble_eq_true rfl) (by decide) ?_
  intro h_910 e_910 f_910 l_910
  have k_910 := l_910.trans k_909
  have fr_910 := hfr_w fr_909 f_910 l_910 (by decide)
  have g_910_66 := (f_910 66 (by decide)).trans g_909_66
  have g_910_67 := (f_910 67 (by decide)).trans g_909_67
  have g_910_68 := (f_910 68 (by decide)).trans g_909_68
  have g_910_69 := (f_910 69 (by decide)).trans g_909_69
  have g_910_77 := (f_910 77 (by decide)).trans g_909_77
  have g_910_78 := (f_910 78 (by decide)).trans g_909_78
  have g_910_79 := (f_910 79 (by decide)).trans g_909_79
  have g_910_80 := (f_910 80 (by decide)).trans g_909_80
  have g_910_81 := (f_910 81 (by decide)).trans g_909_81
  have g_910_82 := (f_910 82 (by decide)).trans g_909_82
  have g_910_83 := (f_910 83 (by decide)).trans g_909_83
  have g_910_70 : cE h_910 70 (.inl (.int, fA [ka, pa, fa, kb, p + 0, 0])) := e_910
  refine ik_Wk 1 (pc' := 133) (loc' := [some (.ref 66), some (fI p), some (fI 1), some (fI pa), some (fI fa), some (fI pb), some (fI fb), some (fI 1), some (fI 1)]) (st' := [.ref 66]) (h' := h_910) (cl' := 0) (sl' := 0) rfl ?_
  refine fw_gf rfl rfl g_910_66 rfl ?_
  refine ik_Wk 2 (pc' := 139) (loc' := [some (.ref 66), some (fI p), some (fI 1), some (fI pa), some (fI fa), some (fI pb), some (fI fb), some (fI 1), some (fI 1)]) (st' := [fI pb, fI 4, .ref 70]) (h' := h_910) (cl' := 0) (sl' := 0) rfl ?_
  refine fx_ias (z := 4) rfl g_910_70 (by decide) (Nat.le_of_ble_eq_true rfl) (by decide) ?_
  intro h_911 e_911 f_911 l_911
  have k_911 := l_911.trans k_910
  have fr_911 := hfr_w fr_910 f_911 l_911 (by decide)
  have g_911_66 := (f_911 66 (by decide)).trans g_910_66
  have g_911_67 := (f_911 67 (by decide)).trans g_910_67
  have g_911_68 := (f_911 68 (by decide)).trans g_910_68
  have g_911_69 := (f_911 69 (by decide)).trans g_910_69
  have g_911_77 := (f_911 77 (by decide)).trans g_910_77
  have g_911_78 := (f_911 78 (by decide)).trans g_910_78
  have g_911_79 := (f_911 79 (by decide)).trans g_910_79
  have g_911_80 := (f_911 80 (by decide)).trans g_910_80
  have g_911_81 := (f_911 81 (by decide)).trans g_910_81
  have g_911_82 := (f_911 82 (by decide)).trans g_910_82
  have g_911_83 := (f_911 83 (by decide)).trans g_910_83
  have g_911_70 : cE h_911 70 (.inl (.int, fA [ka, pa, fa, kb, pb, 0])) := e_911
  refine ik_Wk 1 (pc' := 141) (loc' := [some (.ref 66), some (fI p), some (fI 1), some (fI pa), some (fI fa), some (fI pb), some (fI fb), some (fI 1), some (fI 1)]) (st' := [.ref 66]) (h' := h_911) (cl' := 0) (sl' := 0) rfl ?_
  refine fw_gf rfl rfl g_911_66 rfl ?_
  refine ik_Wk 2 (pc' := 147) (loc' := [some (.ref 66), some (fI p), some (fI 1), some (fI pa), some (fI fa), some (fI pb), some (fI fb), some (fI 1), some (fI 1)]) (st' := [fI fb, fI 5, .ref 70]) (h' := h_911) (cl' := 0) (sl' := 0) rfl ?_
  refine fx_ias (z := 5) rfl g_911_70 (by decide) (Nat.le_of_ble_eq_true rfl) (by decide) ?_
  intro h_912 e_912 f_912 l_912
  have k_912 := l_912.trans k_911
  have fr_912 := hfr_w fr_911 f_912 l_912 (by decide)
  have g_912_66 := (f_912 66 (by decide)).trans g_911_66
  have g_912_67 := (f_912 67 (by decide)).trans g_911_67
  have g_912_68 := (f_912 68 (by decide)).trans g_911_68
  have g_912_69 := (f_912 69 (by decide)).trans g_911_69
  have g_912_77 := (f_912 77 (by decide)).trans g_911_77
  have g_912_78 := (f_912 78 (by decide)).trans g_911_78
  have g_912_79 := (f_912 79 (by decide)).trans g_911_79
  have g_912_80 := (f_912 80 (by decide)).trans g_911_80
  have g_912_81 := (f_912 81 (by decide)).trans g_911_81
  have g_912_82 := (f_912 82 (by decide)).trans g_911_82
  have g_912_83 := (f_912 83 (by decide)).trans g_911_83
  have g_912_70 : cE h_912 70 (.inl (.int, fA [ka, pa, fa, kb, pb, fb])) := e_912
  exact ik_Wret rfl rfl ⟨_, _, rfl, rfl, rfl, rfl, ⟨w'_907, gt'_907, gd'_907, xs'_907, ys'_907, r1'_907, r2'_907, (fr.set (0 : Int).toNat ((mr_w (mf_cm (fun x => mx_w cn go ch s x) (pl - 1) ka (p + 0)) 0 (mf_cm (fun x => mx_w cn go ch s x) (pl - 1) kb (p + 0)) 0 0) / 1000)), rfl, g_912_66, g_912_77, m_907_77, g_912_78, m_907_78, g_912_79, m_907_79, g_912_80, m_907_80, g_912_81, m_907_81, g_912_82, m_907_82, g_912_70, g_912_83, hl3, fr_912⟩⟩
end
