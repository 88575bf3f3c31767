noncomputable section
theorem cr_fears3 {h : List ik_E} {pl : Int} {f : Nat → Int} {s : Nat} {cn : List Int} {go : List Int} {ch : List Int} {gt : List Int} {gd : List Int} {xs : List Int} {ys : List Int} {ka : Int} {pa : Int} {fa : Int} {kb : Int} {pb : Int} {fb : Int} {r1 : List Int} {r2 : List Int} {p : Int} {fr : List Int} (q0 : 1 ≤ pl ∧ pl ≤ 12) (q1 : s < 4096) (q2 : ∀ x : Int, 0 ≤ x → x < pl - 1 → 0 ≤ cn.getD x.toNat 0 ∧ cn.getD x.toNat 0 ≤ 4) (q3 : ∀ x : Int, 0 ≤ x → x < pl - 1 → 1 ≤ cn.getD x.toNat 0 ∧ ∀ j : Int, 4 * x ≤ j → j < 4 * x + cn.getD x.toNat 0 → 0 ≤ ch.getD j.toNat 0 ∧ ch.getD j.toNat 0 ≤ 100) (q4 : ∀ x : Int, 0 ≤ x → x < pl - 1 → mx_ok pl (mx_w cn go ch s x)) (q5 : 0 ≤ ka ∧ ka ≤ 2) (q6 : 0 ≤ kb ∧ kb ≤ 2) (q7 : 0 ≤ p ∧ p + 3 < pl) (h66 : cE h 66 (.inr (10, [fI pl, .ref 67, .ref 68, .ref 69, fI ((s : Nat) : Int), .ref 70, .ref 71, fI (f 7), fI (f 8), .ref 72, fI (f 10), fI (f 11), fI (f 12), fJ (f 13), fI (f 14), fI (f 15), fI (f 16), fI (f 17), .ref 73, .ref 74, .ref 75, .ref 76, .ref 77, .ref 78, fI (f 24), .ref 79, .ref 80, .ref 81, .ref 82, .ref 83, .ref 84, .ref 85, fJ (f 32), fJ (f 33), .ref 86, .ref 87, fI (f 36), .ref 88, .ref 89, .ref 90, .ref 91, .ref 92, .ref 93]))) (h67 : cE h 67 (.inl (.int, fA cn))) (n67 : cn.length = 12) (h68 : cE h 68 (.inl (.int, fA go))) (n68 : go.length = 48) (h69 : cE h 69 (.inl (.int, fA ch))) (n69 : ch.length = 48) (h77 : cE h 77 (.inl (.int, fA gt))) (n77 : gt.length = 5) (h78 : cE h 78 (.inl (.int, fA gd))) (n78 : gd.length = 5) (h79 : cE h 79 (.inl (.long, fL xs))) (n79 : xs.length = 12) (h80 : cE h 80 (.inl (.long, fL ys))) (n80 : ys.length = 12) (h70 : cE h 70 (.inl (.int, fA [ka, pa, fa, kb, pb, fb]))) (h81 : cE h 81 (.inl (.long, fL r1))) (n81 : r1.length = 201) (h82 : cE h 82 (.inl (.long, fL r2))) (n82 : r2.length = 201) (h83 : cE h 83 (.inl (.long, fL fr))) (n83 : fr.length = 9) (hl : h.length = 94) : ik_F 178 [.ref 66, fI p, fI 3] h (fun rv h' => ∃ (w' : Int) (gt' : List Int) (gd' : List Int) (xs' : List Int) (ys' : List Int) (r1' : List Int) (r2' : List Int) (fr' : List Int), rv = [] ∧ cE h' 66 (.inr (10, [fI pl, .ref 67, .ref 68, .ref 69, fI ((s : Nat) : Int), .ref 70, .ref 71, fI (f 7), fI (f 8), .ref 72, fI (f 10), fI (f 11), fI (f 12), fJ (f 13), fI (f 14), fI (f 15), fI (f 16), fI (f 17), .ref 73, .ref 74, .ref 75, .ref 76, .ref 77, .ref 78, fI w', .ref 79, .ref 80, .ref 81, .ref 82, .ref 83, .ref 84, .ref 85, fJ (f 32), fJ (f 33), .ref 86, .ref 87, fI (f 36), .ref 88, .ref 89, .ref 90, .ref 91, .ref 92, .ref 93])) ∧ cE h' 77 (.inl (.int, fA gt')) ∧ gt'.length = 5 ∧ cE h' 78 (.inl (.int, fA gd')) ∧ gd'.length = 5 ∧ cE h' 79 (.inl (.long, fL xs')) ∧ xs'.length = 12 ∧ cE h' 80 (.inl (.long, fL ys')) ∧ ys'.length = 12 ∧ cE h' 81 (.inl (.long, fL r1')) ∧ r1'.length = 201 ∧ cE h' 82 (.inl (.long, fL r2')) ∧ r2'.length = 201 ∧ cE h' 70 (.inl (.int, fA [ka, pa, fa, kb, pb, fb])) ∧ cE h' 83 (.inl (.long, fL fr')) ∧ fr'.length = 9 ∧ hfr [66, 77, 78, 79, 80, 81, 82, 70, 83] h h') := by
  refine ik_Wk 1 (pc' := 1) (loc' := [some (.ref 66), some (fI p), some (fI 3), none, none, none, none, none, none]) (st' := [.ref 66]) (h' := h) (cl' := 0) (sl' := 0) rfl ?_
  refine fw_gf rfl rfl h66 rfl ?_
  refine ik_Wk 1 (pc' := 5) (loc' := [some (.ref 66), some (fI p), some (fI 3), none, none, none, none, none, none]) (st' := [fI 1, .ref 70]) (h' := h) (cl' := 0) (sl' := 0) rfl ?_
  refine fw_ial (z := 1) rfl h70 (by decide) (Nat.le_of_ble_eq_true rfl) (by decide) ?_
  refine ik_Wk 0 (pc' := 6) (loc' := [some (.ref 66), some (fI p), some (fI 3), none, none, none, none, none, none]) (st' := [fI pa]) (h' := h) (cl' := 0) (sl' := 0) rfl ?_
  refine ik_Wk 2 (pc' := 8) (loc' := [some (.ref 66), some (fI p), some (fI 3), some (fI pa), none, none, none, none, none]) (st' := [.ref 66]) (h' := h) (cl' := 0) (sl' := 0) rfl ?_
  refine fw_gf rfl rfl h66 rfl ?_
  refine ik_Wk 1 (pc' := 12) (loc' := [some (.ref 66), some (fI p), some (fI 3), some (fI pa), none, none, none, none, none]) (st' := [fI 2, .ref 70]) (h' := h) (cl' := 0) (sl' := 0) rfl ?_
  refine fw_ial (z := 2) rfl h70 (by decide) (Nat.le_of_ble_eq_true rfl) (by decide) ?_
  refine ik_Wk 0 (pc' := 13) (loc' := [some (.ref 66), some (fI p), some (fI 3), some (fI pa), none, none, none, none, none]) (st' := [fI fa]) (h' := h) (cl' := 0) (sl' := 0) rfl ?_
  refine ik_Wk 2 (pc' := 16) (loc' := [some (.ref 66), some (fI p), some (fI 3), some (fI pa), some (fI fa), none, none, none, none]) (st' := [.ref 66]) (h' := h) (cl' := 0) (sl' := 0) rfl ?_
  refine fw_gf rfl rfl h66 rfl ?_
  refine ik_Wk 1 (pc' := 20) (loc' := [some (.ref 66), some (fI p), some (fI 3), some (fI pa), some (fI fa), none, none, none, none]) (st' := [fI 4, .ref 70]) (h' := h) (cl' := 0) (sl' := 0) rfl ?_
  refine fw_ial (z := 4) rfl h70 (by decide) (Nat.le_of_ble_eq_true rfl) (by decide) ?_
  refine ik_Wk 0 (pc' := 21) (loc' := [some (.ref 66), some (fI p), some (fI 3), some (fI pa), some (fI fa), none, none, none, none]) (st' := [fI pb]) (h' := h) (cl' := 0) (sl' := 0) rfl ?_
  refine ik_Wk 2 (pc' := 24) (loc' := [some (.ref 66), some (fI p), some (fI 3), some (fI pa), some (fI fa), some (fI pb), none, none, none]) (st' := [.ref 66]) (h' := h) (cl' := 0) (sl' := 0) rfl ?_
  refine fw_gf rfl rfl h66 rfl ?_
  refine ik_Wk 1 (pc' := 28) (loc' := [some (.ref 66), some (fI p), some (fI 3), some (fI pa), some (fI fa), some (fI pb), none, none, none]) (st' := [fI 5, .ref 70]) (h' := h) (cl' := 0) (sl' := 0) rfl ?_
  refine fw_ial (z := 5) rfl h70 (by decide) (Nat.le_of_ble_eq_true rfl) (by decide) ?_
  refine ik_Wk 0 (pc' := 29) (loc' := [some (.ref 66), some (fI p), some (fI 3), some (fI pa), some (fI fa), some (fI pb), none, none, none]) (st' := [fI fb]) (h' := h) (cl' := 0) (sl' := 0) rfl ?_
  refine ik_Wk 2 (pc' := 32) (loc' := [some (.ref 66), some (fI p), some (fI 3), some (fI pa), some (fI fa), some (fI pb), some (fI fb), none, none]) (st' := [.ref 66]) (h' := h) (cl' := 0) (sl' := 0) rfl ?_
  refine fw_gf rfl rfl h66 rfl ?_
  refine ik_Wk 2 (pc' := 37) (loc' := [some (.ref 66), some (fI p), some (fI 3), some (fI pa), some (fI fa), some (fI pb), some (fI fb), none, none]) (st' := [fI 0, fI 2, .ref 70]) (h' := h) (cl' := 0) (sl' := 0) rfl ?_
  refine fx_ias (z := 2) rfl h70 (by decide) (Nat.le_of_ble_eq_true rfl) (by decide) ?_
  intro h_935 e_935 f_935 l_935
  have k_935 := l_935.trans hl
  have fr_935 := hfr_w (hfr_refl [66, 77, 78, 79, 80, 81, 82, 70, 83] h) f_935 l_935 (by decide)
  have g_935_66 := (f_935 66 (by decide)).trans h66
  have g_935_67 := (f_935 67 (by decide)).trans h67
  have g_935_68 := (f_935 68 (by decide)).trans h68
  have g_935_69 := (f_935 69 (by decide)).trans h69
  have g_935_77 := (f_935 77 (by decide)).trans h77
  have g_935_78 := (f_935 78 (by decide)).trans h78
  have g_935_79 := (f_935 79 (by decide)).trans h79
  have g_935_80 := (f_935 80 (by decide)).trans h80
  have g_935_81 := (f_935 81 (by decide)).trans h81
  have g_935_82 := (f_935 82 (by decide)).trans h82
  have g_935_83 := (f_935 83 (by decide)).trans h83
  have g_935_70 : cE h_935 70 (.inl (.int, fA [ka, pa, 0, kb, pb, fb])) := e_935
  refine ik_Wk 1 (pc' := 39) (loc' := [some (.ref 66), some (fI p), some (fI 3), some (fI pa), some (fI fa), some (fI pb), some (fI fb), none, none]) (st' := [.ref 66]) (h' := h_935) (cl' := 0) (sl' := 0) rfl ?_
  refine fw_gf rfl rfl g_935_66 rfl ?_
  refine ik_Wk 2 (pc' := 44) (loc' := [some (.ref 66), some (fI p), some (fI 3), some (fI pa), some (fI fa), some (fI pb), some (fI fb), none, none]) (st' := [fI 0, fI 5, .ref 70]) (h' := h_935) (cl' := 0) (sl' := 0) rfl ?_
  refine fx_ias (z := 5) rfl g_935_70 (by decide) (Nat.le_of_ble_eq_true rfl) (by decide) ?_
  intro h_936 e_936 f_936 l_936
  have k_936 := l_936.trans k_935
  have fr_936 := hfr_w fr_935 f_936 l_936 (by decide)
  have g_936_66 := (f_936 66 (by decide)).trans g_935_66
  have g_936_67 := (f_936 67 (by decide)).trans g_935_67
  have g_936_68 := (f_936 68 (by decide)).trans g_935_68
  have g_936_69 := (f_936 69 (by decide)).trans g_935_69
  have g_936_77 := (f_936 77 (by decide)).trans g_935_77
  have g_936_78 := (f_936 78 (by decide)).trans g_935_78
  have g_936_79 := (f_936 79 (by decide)).trans g_935_79
  have g_936_80 := (f_936 80 (by decide)).trans g_935_80
  have g_936_81 := (f_936 81 (by decide)).trans g_935_81
  have g_936_82 := (f_936 82 (by decide)).trans g_935_82
  have g_936_83 := (f_936 83 (by decide)).trans g_935_83
  have g_936_70 : cE h_936 70 (.inl (.int, fA [ka, pa, 0, kb, pb, 0])) := e_936
  refine ik_Wk 4 (pc' := 51) (loc' := [some (.ref 66), some (fI p), some (fI 3), some (fI pa), some (fI fa), some (fI pb), some (fI fb), some (fI 0), none]) (st' := [fI 3, fI 0]) (h' := h_936) (cl' := 0) (sl' := 0) rfl ?_
  refine fw_ic_ge rfl rfl (by omega) (by omega) (by omega) (by omega) (fun hc1 => absurd hc1 (by omega)) (fun hc1 => ?_)
  refine ik_Wk 4 (pc' := 60) (loc' := [some (.ref 66), some (fI p), some (fI 3), some (fI pa), some (fI fa), some (fI pb), some (fI fb), some (fI 0), some (fI 0)]) (st' := [fI 3, fI 0]) (h' := h_936) (cl' := 0) (sl' := 0) rfl ?_
  refine fw_ic_ge rfl rfl (by omega) (by omega) (by omega) (by omega) (fun hc2 => absurd hc2 (by omega)) (fun hc2 => ?_)
  refine ik_Wk 1 (pc' := 64) (loc' := [some (.ref 66), some (fI p), some (fI 3), some (fI pa), some (fI fa), some (fI pb), some (fI fb), some (fI 0), some (fI 0)]) (st' := [.ref 66]) (h' := h_936) (cl' := 0) (sl' := 0) rfl ?_
  refine fw_gf rfl rfl g_936_66 rfl ?_
  refine ik_Wk 3 (pc' := 71) (loc' := [some (.ref 66), some (fI p), some (fI 3), some (fI pa), some (fI fa), some (fI pb), some (fI fb), some (fI 0), some (fI 0)]) (st' := [fI 0, fI p, fI 1, .ref 70]) (h' := h_936) (cl' := 0) (sl' := 0) rfl ?_
  refine fw_add rfl ?_
  refine fx_ias (z := 1) rfl g_936_70 (by decide) (Nat.le_of_ble_eq_true rfl) (by decide) ?_
  intro h_937 e_937 f_937 l_937
  have k_937 := l_937.trans k_936
  have fr_937 := hfr_w fr_936 f_937 l_937 (by decide)
  have g_937_66 := (f_937 66 (by decide)).trans g_936_66
  have g_937_67 := (f_937 67 (by decide)).trans g_936_67
  have g_937_68 := (f_937 68 (by decide)).trans g_936_68
  have g_937_69 := (f_937 69 (by decide)).trans g_936_69
  have g_937_77 := (f_937 77 (by decide)).trans g_936_77
  have g_937_78 := (f_937 78 (by decide)).trans g_936_78
  have g_937_79 := (f_937 79 (by decide)).trans g_936_79
  have g_937_80 := (f_937 80 (by decide)).trans g_936_80
  have g_937_81 := (f_937 81 (by decide)).trans g_936_81
  have g_937_82 := (f_937 82 (by decide)).trans g_936_82
  have g_937_83 := (f_937 83 (by decide)).trans g_936_83
  have g_937_70 : cE h_937 70 (.inl (.int, fA [ka, p + 0, 0, kb, pb, 0])) := e_937
  refine ik_Wk 1 (pc' := 74) (loc' := [some (.ref 66), some (fI p), some (fI 3), some (fI pa), some (fI fa), some (fI pb), some (fI fb), some (fI 0), some (fI 0)]) (st' := [.ref 66]) (h' := h_937) (cl' := 0) (sl' := 0) rfl ?_
  refine fw_gf rfl rfl g_937_66 rfl ?_
  refine ik_Wk 3 (pc' := 81) (loc' := [some (.ref 66), some (fI p), some (fI 3), some (fI pa), some (fI fa), some (fI pb), some (fI fb), some (fI 0), some (fI 0)]) (st' := [fI 0, fI p, fI 4, .ref 70]) (h' := h_937) (cl' := 0) (sl' := 0) rfl ?_
  refine fw_add rfl ?_
  refine fx_ias (z := 4) rfl g_937_70 (by decide) (Nat.le_of_ble_eq_true rfl) (by decide) ?_
  intro h_938 e_938 f_938 l_938
  have k_938 := l_938.trans k_937
  have fr_938 := hfr_w fr_937 f_938 l_938 (by decide)
  have g_938_66 := (f_938 66 (by decide)).trans g_937_66
  have g_938_67 := (f_938 67 (by decide)).trans g_937_67
  have g_938_68 := (f_938 68 (by decide)).trans g_937_68
  have g_938_69 := (f_938 69 (by decide)).trans g_937_69
  have g_938_77 := (f_938 77 (by decide)).trans g_937_77
  have g_938_78 := (f_938 78 (by decide)).trans g_937_78
  have g_938_79 := (f_938 79 (by decide)).trans g_937_79
  have g_938_80 := (f_938 80 (by decide)).trans g_937_80
  have g_938_81 := (f_938 81 (by decide)).trans g_937_81
  have g_938_82 := (f_938 82 (by decide)).trans g_937_82
  have g_938_83 := (f_938 83 (by decide)).trans g_937_83
  have g_938_70 : cE h_938 70 (.inl (.int, fA [ka, p + 0, 0, kb, p + 0, 0])) := e_938
  refine ik_Wk 1 (pc' := 84) (loc' := [some (.ref 66), some (fI p), some (fI 3), some (fI pa), some (fI fa), some (fI pb), some (fI fb), some (fI 0), some (fI 0)]) (st' := [.ref 66]) (h' := h_938) (cl' := 0) (sl' := 0) rfl ?_
  refine fw_gf rfl rfl g_938_66 rfl ?_
  refine ik_Wk 2 (pc' := 90) (loc' := [some (.ref 66), some (fI p), some (fI 3), some (fI pa), some (fI fa), some (fI pb), some (fI fb), some (fI 0), some (fI 0)]) (st' := [fI 0, fI 3, .ref 83]) (h' := h_938) (cl' := 0) (sl' := 0) rfl ?_
  refine fw_mul rfl ?_
  refine ik_Wk 1 (pc' := 93) (loc' := [some (.ref 66), some (fI p), some (fI 3), some (fI pa), some (fI fa), some (fI pb), some (fI fb), some (fI 0), some (fI 0)]) (st' := [fI 0, fI 0, .ref 83]) (h' := h_938) (cl' := 0) (sl' := 0) rfl ?_
  refine fw_add rfl ?_
  refine ik_Wk 2 (pc' := 96) (loc' := [some (.ref 66), some (fI p), some (fI 3), some (fI pa), some (fI fa), some (fI pb), some (fI fb), some (fI 0), some (fI 0)]) (st' := [fI 0, .ref 66, fI 0, .ref 83]) (h' := h_938) (cl' := 0) (sl' := 0) rfl ?_
  refine fw_call 169 2 0 [.ref 66, fI 0] [fI 0, .ref 83] rfl rfl rfl (by decide) rfl rfl (fw_rec k_938 rfl g_938_66 rfl (by decide)) (cr_laterOf (pl := pl) (f := fun j => ([0, 0, 0, 0, 0, 0, 0, f 7, f 8, 0, f 10, f 11, f 12, f 13, f 14, f 15, f 16, f 17, 0, 0, 0, 0, 0, 0, f 24, 0, 0, 0, 0, 0, 0, 0, f 32, f 33, 0, 0, f 36, 0, 0, 0, 0, 0, 0] : List Int).getD j 0) (s := s) (cn := cn) (go := go) (ch := ch) (gt := gt) (gd := gd) (xs := xs) (ys := ys) (ka := ka) (pa := p + 0) (fa := 0) (kb := kb) (pb := p + 0) (fb := 0) (r1 := r1) (r2 := r2) (wh := 0) (by omega) (by omega) q2 q3 q4 (by omega) (by omega) (by omega) (by omega) (by omega) (by omega) (by omega) g_938_66 g_938_67 n67 g_938_68 n68 g_938_69 n69 g_938_77 n77 g_938_78 n78 g_938_79 n79 g_938_80 n80 g_938_70 g_938_81 n81 g_938_82 n82 k_938) ?_
  rintro _ h_939 ⟨w'_939, gt'_939, gd'_939, xs'_939, ys'_939, r1'_939, r2'_939, rfl, e_939_66, e_939_77, m_939_77, e_939_78, m_939_78, e_939_79, m_939_79, e_939_80, m_939_80, e_939_81, m_939_81, e_939_82, m_939_82, F_939⟩
  have k_939 := F_939.1.trans k_938
  have fr_939 := hfr_c fr_938 F_939 (by decide)
  have g_939_67 := (F_939.2 67 (by decide +kernel)).trans g_938_67
  have g_939_68 := (F_939.2 68 (by decide +kernel)).trans g_938_68
  have g_939_69 := (F_939.2 69 (by decide +kernel)).trans g_938_69
  have g_939_70 := (F_939.2 70 (by decide +kernel)).trans g_938_70
  have g_939_83 := (F_939.2 83 (by decide +kernel)).trans g_938_83
  have g_939_66 : cE h_939 66 (.inr (10, [fI pl, .ref 67, .ref 68, .ref 69, fI ((s : Nat) : Int), .ref 70, .ref 71, fI (f 7), fI (f 8), .ref 72, fI (f 10), fI (f 11), fI (f 12), fJ (f 13), fI (f 14), fI (f 15), fI (f 16), fI (f 17), .ref 73, .ref 74, .ref 75, .ref 76, .ref 77, .ref 78, fI w'_939, .ref 79, .ref 80, .ref 81, .ref 82, .ref 83, .ref 84, .ref 85, fJ (f 32), fJ (f 33), .ref 86, .ref 87, fI (f 36), .ref 88, .ref 89, .ref 90, .ref 91, .ref 92, .ref 93])) := e_939_66
  have g_939_77 : cE h_939 77 (.inl (.int, fA gt'_939)) := e_939_77
  have g_939_78 : cE h_939 78 (.inl (.int, fA gd'_939)) := e_939_78
  have g_939_79 : cE h_939 79 (.inl (.long, fL xs'_939)) := e_939_79
  have g_939_80 : cE h_939 80 (.inl (.long, fL ys'_939)) := e_939_80
  have g_939_81 : cE h_939 81 (.inl (.long, fL r1'_939)) := e_939_81
  have g_939_82 : cE h_939 82 (.inl (.long, fL r2'_939)) := e_939_82
  refine ik_Wk 0 (pc' := 99) (loc' := [some (.ref 66), some (fI p), some (fI 3), some (fI pa), some (fI fa), some (fI pb), some (fI fb), some (fI 0), some (fI 0)]) (st' := [fI (mr_w (mf_cm (fun x => mx_w cn go ch s x) (pl - 1) ka (p + 0)) 0 (mf_cm (fun x => mx_w cn go ch s x) (pl - 1) kb (p + 0)) 0 0), fI 0, .ref 83]) (h' := h_939) (cl' := 0) (sl' := 0) rfl ?_
  have wb_939 : 0 ≤ mr_w (mf_cm (fun x => mx_w cn go ch s x) (pl - 1) ka (p + 0)) 0 (mf_cm (fun x => mx_w cn go ch s x) (pl - 1) kb (p + 0)) 0 0 ∧ mr_w (mf_cm (fun x => mx_w cn go ch s x) (pl - 1) ka (p + 0)) 0 (mf_cm (fun x => mx_w cn go ch s x) (pl - 1) kb (p + 0)) 0 0 ≤ 1000000 := mr_w_b (mr_ok_cm (W := (fun x => mx_w cn go ch s x)) (k := ka) q4 (show 0 ≤ p + 0 ∧ p + 0 < pl - 1 by omega)) (mr_ok_cm (W := (fun x => mx_w cn go ch s x)) (k := kb) q4 (show 0 ≤ p + 0 ∧ p + 0 < pl - 1 by omega)) (by decide) (by decide) 0
  refine fw_si rfl (by decide) ?_
  refine fx_idiv rfl (by omega) (by omega) (by omega) (by omega) ?_
  refine fw_i2l rfl (by omega) (by omega) ?_
  have hl3 : (fr.set (0 : Int).toNat ((mr_w (mf_cm (fun x => mx_w cn go ch s x) (pl - 1) ka (p + 0)) 0 (mf_cm (fun x => mx_w cn go ch s x) (pl - 1) kb (p + 0)) 0 0) / 1000)).length = 9 := (List.length_set ..).trans n83
  refine fx_las rfl g_939_83 (by omega) (by omega) (by omega) ?_
  intro h_940 e_940 f_940 l_940
  have k_940 := l_940.trans k_939
  have fr_940 := hfr_w fr_939 f_940 l_940 (by decide)
  have g_940_66 := (f_940 66 (by decide)).trans g_939_66
  have g_940_67 := (f_940 67 (by decide)).trans g_939_67
  have g_940_68 := (f_940 68 (by decide)).trans g_939_68
  have g_940_69 := (f_940 69 (by decide)).trans g_939_69
  have g_940_77 := (f_940 77 (by decide)).trans g_939_77
  have g_940_78 := (f_940 78 (by decide)).trans g_939_78
  have g_940_79 := (f_940 79 (by decide)).trans g_939_79
  have g_940_80 := (f_940 80 (by decide)).trans g_939_80
  have g_940_70 := (f_940 70 (by decide)).trans g_939_70
  have g_940_81 := (f_940 81 (by decide)).trans g_939_81
  have g_940_82 := (f_940 82 (by decide)).trans g_939_82
  have g_940_83 : cE h_940 83 (.inl (.long, fL (fr.set (0 : Int).toNat ((mr_w (mf_cm (fun x => mx_w cn go ch s x) (pl - 1) ka (p + 0)) 0 (mf_cm (fun x => mx_w cn go ch s x) (pl - 1) kb (p + 0)) 0 0) / 1000)))) := e_940
  refine fw_inc (a := 0) (loc' := [some (.ref 66), some (fI p), some (fI 3), some (fI pa), some (fI fa), some (fI pb), some (fI fb), some (fI 0), some (fI 1)]) rfl rfl (Nat.le_of_ble_eq_true rfl) rfl ?_
  refine ik_Wk 3 (pc' := 60) (loc' := [some (.ref 66), some (fI p), some (fI 3), some (fI pa), some (fI fa), some (fI pb), some (fI fb), some (fI 0), some (fI 1)]) (st' := [fI 3, fI 1]) (h' := h_940) (cl' := 0) (sl' := 0) rfl ?_
  refine fw_ic_ge rfl rfl (by omega) (by omega) (by omega) (by omega) (fun hc4 => absurd hc4 (by omega)) (fun hc4 => ?_)
  refine ik_Wk 1 (pc' := 64) (loc' := [some (.ref 66), some (fI p), some (fI 3), some (fI pa), some (fI fa), some (fI pb), some (fI fb), some (fI 0), some (fI 1)]) (st' := [.ref 66]) (h' := h_940) (cl' := 0) (sl' := 0) rfl ?_
  refine fw_gf rfl rfl g_940_66 rfl ?_
  refine ik_Wk 3 (pc' := 71) (loc' := [some (.ref 66), some (fI p), some (fI 3), some (fI pa), some (fI fa), some (fI pb), some (fI fb), some (fI 0), some (fI 1)]) (st' := [fI 0, fI p, fI 1, .ref 70]) (h' := h_940) (cl' := 0) (sl' := 0) rfl ?_
  refine fw_add rfl ?_
  refine fx_ias (z := 1) rfl g_940_70 (by decide) (Nat.le_of_ble_eq_true rfl) (by decide) ?_
  intro h_941 e_941 f_941 l_941
  have k_941 := l_941.trans k_940
  have fr_941 := hfr_w fr_940 f_941 l_941 (by decide)
  have g_941_66 := (f_941 66 (by decide)).trans g_940_66
  have g_941_67 := (f_941 67 (by decide)).trans g_940_67
  have g_941_68 := (f_941 68 (by decide)).trans g_940_68
  have g_941_69 := (f_941 69 (by decide)).trans g_940_69
  have g_941_77 := (f_941 77 (by decide)).trans g_940_77
  have g_941_78 := (f_941 78 (by decide)).trans g_940_78
  have g_941_79 := (f_941 79 (by decide)).trans g_940_79
  have g_941_80 := (f_941 80 (by decide)).trans g_940_80
  have g_941_81 := (f_941 81 (by decide)).trans g_940_81
  have g_941_82 := (f_941 82 (by decide)).trans g_940_82
  have g_941_83 := (f_941 83 (by decide)).trans g_940_83
  have g_941_70 : cE h_941 70 (.inl (.int, fA [ka, p + 0, 0, kb, p + 0, 0])) := e_941
  refine ik_Wk 1 (pc' := 74) (loc' := [some (.ref 66), some (fI p), some (fI 3), some (fI pa), some (fI fa), some (fI pb), some (fI fb), some (fI 0), some (fI 1)]) (st' := [.ref 66]) (h' := h_941) (cl' := 0) (sl' := 0) rfl ?_
  refine fw_gf rfl rfl g_941_66 rfl ?_
  refine ik_Wk 3 (pc' := 81) (loc' := [some (.ref 66), some (fI p), some (fI 3), some (fI pa), some (fI fa), some (fI pb), some (fI fb), some (fI 0), some (fI 1)]) (st' := [fI 1, fI p, fI 4, .ref 70]) (h' := h_941) (cl' := 0) (sl' := 0) rfl ?_
  refine fw_add rfl ?_
  refine fx_ias (z := 4) rfl g_941_70 (by decide) (Nat.le_of_ble_eq_true rfl) (by decide) ?_
  intro h_942 e_942 f_942 l_942
  have k_942 := l_942.trans k_941
  have fr_942 := hfr_w fr_941 f_942 l_942 (by decide)
  have g_942_66 := (f_942 66 (by decide)).trans g_941_66
  have g_942_67 := (f_942 67 (by decide)).trans g_941_67
  have g_942_68 := (f_942 68 (by decide)).trans g_941_68
  have g_942_69 := (f_942 69 (by decide)).trans g_941_69
  have g_942_77 := (f_942 77 (by decide)).trans g_941_77
  have g_942_78 := (f_942 78 (by decide)).trans g_941_78
  have g_942_79 := (f_942 79 (by decide)).trans g_941_79
  have g_942_80 := (f_942 80 (by decide)).trans g_941_80
  have g_942_81 := (f_942 81 (by decide)).trans g_941_81
  have g_942_82 := (f_942 82 (by decide)).trans g_941_82
  have g_942_83 := (f_942 83 (by decide)).trans g_941_83
  have g_942_70 : cE h_942 70 (.inl (.int, fA [ka, p + 0, 0, kb, p + 1, 0])) := e_942
  refine ik_Wk 1 (pc' := 84) (loc' := [some (.ref 66), some (fI p), some (fI 3), some (fI pa), some (fI fa), some (fI pb), some (fI fb), some (fI 0), some (fI 1)]) (st' := [.ref 66]) (h' := h_942) (cl' := 0) (sl' := 0) rfl ?_
  refine fw_gf rfl rfl g_942_66 rfl ?_
  refine ik_Wk 2 (pc' := 90) (loc' := [some (.ref 66), some (fI p), some (fI 3), some (fI pa), some (fI fa), some (fI pb), some (fI fb), some (fI 0), some (fI 1)]) (st' := [fI 0, fI 3, .ref 83]) (h' := h_942) (cl' := 0) (sl' := 0) rfl ?_
  refine fw_mul rfl ?_
  refine ik_Wk 1 (pc' := 93) (loc' := [some (.ref 66), some (fI p), some (fI 3), some (fI pa), some (fI fa), some (fI pb), some (fI fb), some (fI 0), some (fI 1)]) (st' := [fI 1, fI 0, .ref 83]) (h' := h_942) (cl' := 0) (sl' := 0) rfl ?_
  refine fw_add rfl ?_
  refine ik_Wk 2 (pc' := 96) (loc' := [some (.ref 66), some (fI p), some (fI 3), some (fI pa), some (fI fa), some (fI pb), some (fI fb), some (fI 0), some (fI 1)]) (st' := [fI 0, .ref 66, fI 1, .ref 83]) (h' := h_942) (cl' := 0) (sl' := 0) rfl ?_
  refine fw_call 169 2 0 [.ref 66, fI 0] [fI 1, .ref 83] rfl rfl rfl (by decide) rfl rfl (fw_rec k_942 rfl g_942_66 rfl (by decide)) (cr_laterOf (pl := pl) (f := fun j => ([0, 0, 0, 0, 0, 0, 0, (f 7), (f 8), 0, (f 10), (f 11), (f 12), (f 13), (f 14), (f 15), (f 16), (f 17), 0, 0, 0, 0, 0, 0, w'_939, 0, 0, 0, 0, 0, 0, 0, (f 32), (f 33), 0, 0, (f 36), 0, 0, 0, 0, 0, 0] : List Int).getD j 0) (s := s) (cn := cn) (go := go) (ch := ch) (gt := gt'_939) (gd := gd'_939) (xs := xs'_939) (ys := ys'_939) (ka := ka) (pa := p + 0) (fa := 0) (kb := kb) (pb := p + 1) (fb := 0) (r1 := r1'_939) (r2 := r2'_939) (wh := 0) (by omega) (by omega) q2 q3 q4 (by omega) (by omega) (by omega) (by omega) (by omega) (by omega) (by omega) g_942_66 g_942_67 n67 g_942_68 n68 g_942_69 n69 g_942_77 m_939_77 g_942_78 m_939_78 g_942_79 m_939_79 g_942_80 m_939_80 g_942_70 g_942_81 m_939_81 g_942_82 m_939_82 k_942) ?_
  rintro _ h_943 ⟨w'_943, gt'_943, gd'_943, xs'_943, ys'_943, r1'_943, r2'_943, rfl, e_943_66, e_943_77, m_943_77, e_943_78, m_943_78, e_943_79, m_943_79, e_943_80, m_943_80, e_943_81, m_943_81, e_943_82, m_943_82, F_943⟩
  have k_943 := F_943.1.trans k_942
  have fr_943 := hfr_c fr_942 F_943 (by decide)
  have g_943_67 := (F_943.2 67 (by decide +kernel)).trans g_942_67
  have g_943_68 := (F_943.2 68 (by decide +kernel)).trans g_942_68
  have g_943_69 := (F_943.2 69 (by decide +kernel)).trans g_942_69
  have g_943_70 := (F_943.2 70 (by decide +kernel)).trans g_942_70
  have g_943_83 := (F_943.2 83 (by decide +kernel)).trans g_942_83
  have g_943_66 : cE h_943 66 (.inr (10, [fI pl, .ref 67, .ref 68, .ref 69, fI ((s : Nat) : Int), .ref 70, .ref 71, fI (f 7), fI (f 8), .ref 72, fI (f 10), fI (f 11), fI (f 12), fJ (f 13), fI (f 14), fI (f 15), fI (f 16), fI (f 17), .ref 73, .ref 74, .ref 75, .ref 76, .ref 77, .ref 78, fI w'_943, .ref 79, .ref 80, .ref 81, .ref 82, .ref 83, .ref 84, .ref 85, fJ (f 32), fJ (f 33), .ref 86, .ref 87, fI (f 36), .ref 88, .ref 89, .ref 90, .ref 91, .ref 92, .ref 93])) := e_943_66
  have g_943_77 : cE h_943 77 (.inl (.int, fA gt'_943)) := e_943_77
  have g_943_78 : cE h_943 78 (.inl (.int, fA gd'_943)) := e_943_78
  have g_943_79 : cE h_943 79 (.inl (.long, fL xs'_943)) := e_943_79
  have g_943_80 : cE h_943 80 (.inl (.long, fL ys'_943)) := e_943_80
  have g_943_81 : cE h_943 81 (.inl (.long, fL r1'_943)) := e_943_81
  have g_943_82 : cE h_943 82 (.inl (.long, fL r2'_943)) := e_943_82
  refine ik_Wk 0 (pc' := 99) (loc' := [some (.ref 66), some (fI p), some (fI 3), some (fI pa), some (fI fa), some (fI pb), some (fI fb), some (fI 0), some (fI 1)]) (st' := [fI (mr_w (mf_cm (fun x => mx_w cn go ch s x) (pl - 1) ka (p + 0)) 0 (mf_cm (fun x => mx_w cn go ch s x) (pl - 1) kb (p + 1)) 0 0), fI 1, .ref 83]) (h' := h_943) (cl' := 0) (sl' := 0) rfl ?_
  have wb_943 : 0 ≤ mr_w (mf_cm (fun x => mx_w cn go ch s x) (pl - 1) ka (p + 0)) 0 (mf_cm (fun x => mx_w cn go ch s x) (pl - 1) kb (p + 1)) 0 0 ∧ mr_w (mf_cm (fun x => mx_w cn go ch s x) (pl - 1) ka (p + 0)) 0 (mf_cm (fun x => mx_w cn go ch s x) (pl - 1) kb (p + 1)) 0 0 ≤ 1000000 := mr_w_b (mr_ok_cm (W := (fun x => mx_w cn go ch s x)) (k := ka) q4 (show 0 ≤ p + 0 ∧ p + 0 < pl - 1 by omega)) (mr_ok_cm (W := (fun x => mx_w cn go ch s x)) (k := kb) q4 (show 0 ≤ p + 1 ∧ p + 1 < pl - 1 by omega)) (by decide) (by decide) 0
  refine fw_si rfl (by decide) ?_
  refine fx_idiv rfl (by omega) (by omega) (by omega) (by omega) ?_
  refine fw_i2l rfl (by omega) (by omega) ?_
  have hl5 : ((fr.set (0 : Int).toNat ((mr_w (mf_cm (fun x => mx_w cn go ch s x) (pl - 1) ka (p + 0)) 0 (mf_cm (fun x => mx_w cn go ch s x) (pl - 1) kb (p + 0)) 0 0) / 1000)).set (1 : Int).toNat ((mr_w (mf_cm (fun x => mx_w cn go ch s x) (pl - 1) ka (p + 0)) 0 (mf_cm (fun x => mx_w cn go ch s x) (pl - 1) kb (p + 1)) 0 0) / 1000)).length = 9 := (List.length_set ..).trans hl3
  refine fx_las rfl g_943_83 (by omega) (by omega) (by omega) ?_
  intro h_944 e_944 f_944 l_944
  have k_944 := l_944.trans k_943
  have fr_944 := hfr_w fr_943 f_944 l_944 (by decide)
  have g_944_66 := (f_944 66 (by decide)).trans g_943_66
  have g_944_67 := (f_944 67 (by decide)).trans g_943_67
  have g_944_68 := (f_944 68 (by decide)).trans g_943_68
  have g_944_69 := (f_944 69 (by decide)).trans g_943_69
  have g_944_77 := (f_944 77 (by decide)).trans g_943_77
  have g_944_78 := (f_944 78 (by decide)).trans g_943_78
  have g_944_79 := (f_944 79 (by decide)).trans g_943_79
  have g_944_80 := (f_944 80 (by decide)).trans g_943_80
  have g_944_70 := (f_944 70 (by decide)).trans g_943_70
  have g_944_81 := (f_944 81 (by decide)).trans g_943_81
  have g_944_82 := (f_944 82 (by decide)).trans g_943_82
  have g_944_83 : cE h_944 83 (.inl (.long, fL ((fr.set (0 : Int).toNat ((mr_w (mf_cm (fun x => mx_w cn go ch s x) (pl - 1) ka (p + 0)) 0 (mf_cm (fun x => mx_w cn go ch s x) (pl - 1) kb (p + 0)) 0 0) / 1000)).set (1 : Int).toNat ((mr_w (mf_cm (fun x => mx_w cn go ch s x) (pl - 1) ka (p + 0)) 0 (mf_cm (fun x => mx_w cn go ch s x) (pl - 1) kb (p + 1)) 0 0) / 1000)))) := e_944
  refine fw_inc (a := 1) (loc' := [some (.ref 66), some (fI p), some (fI 3), some (fI pa), some (fI fa), some (fI pb), some (fI fb), some (fI 0), some (fI 2)]) rfl rfl (Nat.le_of_ble_eq_true rfl) rfl ?_
  refine ik_Wk 3 (pc' := 60) (loc' := [some (.ref 66), some (fI p), some (fI 3), some (fI pa), some (fI fa), some (fI pb), some (fI fb), some (fI 0), some (fI 2)]) (st' := [fI 3, fI 2]) (h' := h_944) (cl' := 0) (sl' := 0) rfl ?_
  refine fw_ic_ge rfl rfl (by omega) (by omega) (by omega) (by omega) (fun hc6 => absurd hc6 (by omega)) (fun hc6 => ?_)
  refine ik_Wk 1 (pc' := 64) (loc' := [some (.ref 66), some (fI p), some (fI 3), some (fI pa), some (fI fa), some (fI pb), some (fI fb), some (fI 0), some (fI 2)]) (st' := [.ref 66]) (h' := h_944) (cl' := 0) (sl' := 0) rfl ?_
  refine fw_gf rfl rfl g_944_66 rfl ?_
  refine ik_Wk 3 (pc' := 71) (loc' := [some (.ref 66), some (fI p), some (fI 3), some (fI pa), some (fI fa), some (fI pb), some (fI fb), some (fI 0), some (fI 2)]) (st' := [fI 0, fI p, fI 1, .ref 70]) (h' := h_944) (cl' := 0) (sl' := 0) rfl ?_
  refine fw_add rfl ?_
  refine fx_ias (z := 1) rfl g_944_70 (by decide) (Nat.le_of_ble_eq_true rfl) (by decide) ?_
  intro h_945 e_945 f_945 l_945
  have k_945 := l_945.trans k_944
  have fr_945 := hfr_w fr_944 f_945 l_945 (by decide)
  have g_945_66 := (f_945 66 (by decide)).trans g_944_66
  have g_945_67 := (f_945 67 (by decide)).trans g_944_67
  have g_945_68 := (f_945 68 (by decide)).trans g_944_68
  have g_945_69 := (f_945 69 (by decide)).trans g_944_69
  have g_945_77 := (f_945 77 (by decide)).trans g_944_77
  have g_945_78 := (f_945 78 (by decide)).trans g_944_78
  have g_945_79 := (f_945 79 (by decide)).trans g_944_79
  have g_945_80 := (f_945 80 (by decide)).trans g_944_80
  have g_945_81 := (f_945 81 (by decide)).trans g_944_81
  have g_945_82 := (f_945 82 (by decide)).trans g_944_82
  have g_945_83 := (f_945 83 (by decide)).trans g_944_83
  have g_945_70 : cE h_945 70 (.inl (.int, fA [ka, p + 0, 0, kb, p + 1, 0])) := e_945
  refine ik_Wk 1 (pc' := 74) (loc' := [some (.ref 66), some (fI p), some (fI 3), some (fI pa), some (fI fa), some (fI pb), some (fI fb), some (fI 0), some (fI 2)]) (st' := [.ref 66]) (h' := h_945) (cl' := 0) (sl' := 0) rfl ?_
  refine fw_gf rfl rfl g_945_66 rfl ?_
  refine ik_Wk 3 (pc' := 81) (loc' := [some (.ref 66), some (fI p), some (fI 3), some (fI pa), some (fI fa), some (fI pb), some (fI fb), some (fI 0), some (fI 2)]) (st' := [fI 2, fI p, fI 4, .ref 70]) (h' := h_945) (cl' := 0) (sl' := 0) rfl ?_
  refine fw_add rfl ?_
  refine fx_ias (z := 4) rfl g_945_70 (by decide) (Nat.le_of_ble_eq_true rfl) (by decide) ?_
  intro h_946 e_946 f_946 l_946
  have k_946 := l_946.trans k_945
  have fr_946 := hfr_w fr_945 f_946 l_946 (by decide)
  have g_946_66 := (f_946 66 (by decide)).trans g_945_66
  have g_946_67 := (f_946 67 (by decide)).trans g_945_67
  have g_946_68 := (f_946 68 (by decide)).trans g_945_68
  have g_946_69 := (f_946 69 (by decide)).trans g_945_69
  have g_946_77 := (f_946 77 (by decide)).trans g_945_77
  have g_946_78 := (f_946 78 (by decide)).trans g_945_78
  have g_946_79 := (f_946 79 (by decide)).trans g_945_79
  have g_946_80 := (f_946 80 (by decide)).trans g_945_80
  have g_946_81 := (f_946 81 (by decide)).trans g_945_81
  have g_946_82 := (f_946 82 (by decide)).trans g_945_82
  have g_946_83 := (f_946 83 (by decide)).trans g_945_83
  have g_946_70 : cE h_946 70 (.inl (.int, fA [ka, p + 0, 0, kb, p + 2, 0])) := e_946
  refine ik_Wk 1 (pc' := 84) (loc' := [some (.ref 66), some (fI p), some (fI 3), some (fI pa), some (fI fa), some (fI pb), some (fI fb), some (fI 0), some (fI 2)]) (st' := [.ref 66]) (h' := h_946) (cl' := 0) (sl' := 0) rfl ?_
  refine fw_gf rfl rfl g_946_66 rfl ?_
  refine ik_Wk 2 (pc' := 90) (loc' := [some (.ref 66), some (fI p), some (fI 3), some (fI pa), some (fI fa), some (fI pb), some (fI fb), some (fI 0), some (fI 2)]) (st' := [fI 0, fI 3, .ref 83]) (h' := h_946) (cl' := 0) (sl' := 0) rfl ?_
  refine fw_mul rfl ?_
  refine ik_Wk 1 (pc' := 93) (loc' := [some (.ref 66), some (fI p), some (fI 3), some (fI pa), some (fI fa), some (fI pb), some (fI fb), some (fI 0), some (fI 2)]) (st' := [fI 2, fI 0, .ref 83]) (h' := h_946) (cl' := 0) (sl' := 0) rfl ?_
  refine fw_add rfl ?_
  refine ik_Wk 2 (pc' := 96) (loc' := [some (.ref 66), some (fI p), some (fI 3), some (fI pa), some (fI fa), some (fI pb), some (fI fb), some (fI 0), some (fI 2)]) (st' := [fI 0, .ref 66, fI 2, .ref 83]) (h' := h_946) (cl' := 0) (sl' := 0) rfl ?_
  refine fw_call 169 2 0 [.ref 66, fI 0] [fI 2, .ref 83] rfl rfl rfl (by decide) rfl rfl (fw_rec k_946 rfl g_946_66 rfl (by decide)) (cr_laterOf (pl := pl) (f := fun j => ([0, 0, 0, 0, 0, 0, 0, (f 7), (f 8), 0, (f 10), (f 11), (f 12), (f 13), (f 14), (f 15), (f 16), (f 17), 0, 0, 0, 0, 0, 0, w'_943, 0, 0, 0, 0, 0, 0, 0, (f 32), (f 33), 0, 0, (f 36), 0, 0, 0, 0, 0, 0] : List Int).getD j 0) (s := s) (cn := cn) (go := go) (ch := ch) (gt := gt'_943) (gd := gd'_943) (xs := xs'_943) (ys := ys'_943) (ka := ka) (pa := p + 0) (fa := 0) (kb := kb) (pb := p + 2) (fb := 0) (r1 := r1'_943) (r2 := r2'_943) (wh := 0) (by omega) (by omega) q2 q3 q4 (by omega) (by omega) (by omega) (by omega) (by omega) (by omega) (by omega) g_946_66 g_946_67 n67 g_946_68 n68 g_946_69 n69 g_946_77 m_943_77 g_946_78 m_943_78 g_946_79 m_943_79 g_946_80 m_943_80 g_946_70 g_946_81 m_943_81 g_946_82 m_943_82 k_946) ?_
  rintro _ h_947 ⟨w'_947, gt'_947, gd'_947, xs'_947, ys'_947, r1'_947, r2'_947, rfl, e_947_66, e_947_77, m_947_77, e_947_78, m_947_78, e_947_79, m_947_79, e_947_80, m_947_80, e_947_81, m_947_81, e_947_82, m_947_82, F_947⟩
  have k_947 := F_947.1.trans k_946
  have fr_947 := hfr_c fr_946 F_947 (by decide)
  have g_947_67 := (F_947.2 67 (by decide +kernel)).trans g_946_67
  have g_947_68 := (F_947.2 68 (by decide +kernel)).trans g_946_68
  have g_947_69 := (F_947.2 69 (by decide +kernel)).trans g_946_69
  have g_947_70 := (F_947.2 70 (by decide +kernel)).trans g_946_70
  have g_947_83 := (F_947.2 83 (by decide +kernel)).trans g_946_83
  have g_947_66 : cE h_947 66 (.inr (10, [fI pl, .ref 67, .ref 68, .ref 69, fI ((s : Nat) : Int), .ref 70, .ref 71, fI (f 7), fI (f 8), .ref 72, fI (f 10), fI (f 11), fI (f 12), fJ (f 13), fI (f 14), fI (f 15), fI (f 16), fI (f 17), .ref 73, .ref 74, .ref 75, .ref 76, .ref 77, .ref 78, fI w'_947, .ref 79, .ref 80, .ref 81, .ref 82, .ref 83, .ref 84, .ref 85, fJ (f 32), fJ (f 33), .ref 86, .ref 87, fI (f 36), .ref 88, .ref 89, .ref 90, .ref 91, .ref 92, .ref 93])) := e_947_66
  have g_947_77 : cE h_947 77 (.inl (.int, fA gt'_947)) := e_947_77
  have g_947_78 : cE h_947 78 (.inl (.int, fA gd'_947)) := e_947_78
  have g_947_79 : cE h_947 79 (.inl (.long, fL xs'_947)) := e_947_79
  have g_947_80 : cE h_947 80 (.inl (.long, fL ys'_947)) := e_947_80
  have g_947_81 : cE h_947 81 (.inl (.long, fL r1'_947)) := e_947_81
  have g_947_82 : cE h_947 82 (.inl (.long, fL r2'_947)) := e_947_82
  refine ik_Wk 0 (pc' := 99) (loc' := [some (.ref 66), some (fI p), some (fI 3), some (fI pa), some (fI fa), some (fI pb), some (fI fb), some (fI 0), some (fI 2)]) (st' := [fI (mr_w (mf_cm (fun x => mx_w cn go ch s x) (pl - 1) ka (p + 0)) 0 (mf_cm (fun x => mx_w cn go ch s x) (pl - 1) kb (p + 2)) 0 0), fI 2, .ref 83]) (h' := h_947) (cl' := 0) (sl' := 0) rfl ?_
  have wb_947 : 0 ≤ mr_w (mf_cm (fun x => mx_w cn go ch s x) (pl - 1) ka (p + 0)) 0 (mf_cm (fun x => mx_w cn go ch s x) (pl - 1) kb (p + 2)) 0 0 ∧ mr_w (mf_cm (fun x => mx_w cn go ch s x) (pl - 1) ka (p + 0)) 0 (mf_cm (fun x => mx_w cn go ch s x) (pl - 1) kb (p + 2)) 0 0 ≤ 1000000 := mr_w_b (mr_ok_cm (W := (fun x => mx_w cn go ch s x)) (k := ka) q4 (show 0 ≤ p + 0 ∧ p + 0 < pl - 1 by omega)) (mr_ok_cm (W := (fun x => mx_w cn go ch s x)) (k := kb) q4 (show 0 ≤ p + 2 ∧ p + 2 < pl - 1 by omega)) (by decide) (by decide) 0
  refine fw_si rfl (by decide) ?_
  refine fx_idiv rfl (by omega) (by omega) (by omega) (by omega) ?_
  refine fw_i2l rfl (by omega) (by omega) ?_
  have hl7 : (((fr.set (0 : Int).toNat ((mr_w (mf_cm (fun x => mx_w cn go ch s x) (pl - 1) ka (p + 0)) 0 (mf_cm (fun x => mx_w cn go ch s x) (pl - 1) kb (p + 0)) 0 0) / 1000)).set (1 : Int).toNat ((mr_w (mf_cm (fun x => mx_w cn go ch s x) (pl - 1) ka (p + 0)) 0 (mf_cm (fun x => mx_w cn go ch s x) (pl - 1) kb (p + 1)) 0 0) / 1000)).set (2 : Int).toNat ((mr_w (mf_cm (fun x => mx_w cn go ch s x) (pl - 1) ka (p + 0)) 0 (mf_cm (fun x => mx_w cn go ch s x) (pl - 1) kb (p + 2)) 0 0) / 1000)).length = 9 := (List.length_set ..).trans hl5
  refine fx_las rfl g_947_83 (by omega) (by omega) (by omega) ?_
  intro h_948 e_948 f_948 l_948
  have k_948 := l_948.trans k_947
  have fr_948 := hfr_w fr_947 f_948 l_948 (by decide)
  have g_948_66 := (f_948 66 (by decide)).trans g_947_66
  have g_948_67 := (f_948 67 (by decide)).trans g_947_67
  have g_948_68 := (f_948 68 (by decide)).trans g_947_68
  have g_948_69 := (f_948 69 (by decide)).trans g_947_69
  have g_948_77 := (f_948 77 (by decide)).trans g_947_77
  have g_948_78 := (f_948 78 (by decide)).trans g_947_78
  have g_948_79 := (f_948 79 (by decide)).trans g_947_79
  have g_948_80 := (f_948 80 (by decide)).trans g_947_80
  have g_948_70 := (f_948 70 (by decide)).trans g_947_70
  have g_948_81 := (f_948 81 (by decide)).trans g_947_81
  have g_948_82 := (f_948 82 (by decide)).trans g_947_82
  have g_948_83 : cE h_948 83 (.inl (.long, fL (((fr.set (0 : Int).toNat ((mr_w (mf_cm (fun x => mx_w cn go ch s x) (pl - 1) ka (p + 0)) 0 (mf_cm (fun x => mx_w cn go ch s x) (pl - 1) kb (p + 0)) 0 0) / 1000)).set (1 : Int).toNat ((mr_w (mf_cm (fun x => mx_w cn go ch s x) (pl - 1) ka (p + 0)) 0 (mf_cm (fun x => mx_w cn go ch s x) (pl - 1) kb (p + 1)) 0 0) / 1000)).set (2 : Int).toNat ((mr_w (mf_cm (fun x => mx_w cn go ch s x) (pl - 1) ka (p + 0)) 0 (mf_cm (fun x => mx_w cn go ch s x) (pl - 1) kb (p + 2)) 0 0) / 1000)))) := e_948
  refine fw_inc (a := 2) (loc' := [some (.ref 66), some (fI p), some (fI 3), some (fI pa), some (fI fa), some (fI pb), some (fI fb), some (fI 0), some (fI 3)]) rfl rfl (Nat.le_of_ble_eq_true rfl) rfl ?_
  refine ik_Wk 3 (pc' := 60) (loc' := [some (.ref 66), some (fI p), some (fI 3), some (fI pa), some (fI fa), some (fI pb), some (fI fb), some (fI 0), some (fI 3)]) (st' := [fI 3, fI 3]) (h' := h_948) (cl' := 0) (sl' := 0) rfl ?_
  refine fw_ic_ge rfl rfl (by omega) (by omega) (by omega) (by omega) (fun hc8 => ?_) (fun hc8 => absurd hc8 (by omega))
  refine fw_inc (a := 0) (loc' := [some (.ref 66), some (fI p), some (fI 3), some (fI pa), some (fI fa), some (fI pb), some (fI fb), some (fI 1), some (fI 3)]) rfl rfl (Nat.le_of_ble_eq_true rfl) rfl ?_
  refine ik_Wk 3 (pc' := 51) (loc' := [some (.ref 66), some (fI p), some (fI 3), some (fI pa), some (fI fa), some (fI pb), some (fI fb), some (fI 1), some (fI 3)]) (st' := [fI 3, fI 1]) (h' := h_948) (cl' := 0) (sl' := 0) rfl ?_
  refine fw_ic_ge rfl rfl (by omega) (by omega) (by omega) (by omega) (fun hc9 => absurd hc9 (by omega)) (fun hc9 => ?_)
  refine ik_Wk 4 (pc' := 60) (loc' := [some (.ref 66), some (fI p), some (fI 3), some (fI pa), some (fI fa), some (fI pb), some (fI fb), some (fI 1), some (fI 0)]) (st' := [fI 3, fI 0]) (h' := h_948) (cl' := 0) (sl' := 0) rfl ?_
  refine fw_ic_ge rfl rfl (by omega) (by omega) (by omega) (by omega) (fun hc10 => absurd hc10 (by omega)) (fun hc10 => ?_)
  refine ik_Wk 1 (pc' := 64) (loc' := [some (.ref 66), some (fI p), some (fI 3), some (fI pa), some (fI fa), some (fI pb), some (fI fb), some (fI 1), some (fI 0)]) (st' := [.ref 66]) (h' := h_948) (cl' := 0) (sl' := 0) rfl ?_
  refine fw_gf rfl rfl g_948_66 rfl ?_
  refine ik_Wk 3 (pc' := 71) (loc' := [some (.ref 66), some (fI p), some (fI 3), some (fI pa), some (fI fa), some (fI pb), some (fI fb), some (fI 1), some (fI 0)]) (st' := [fI 1, fI p, fI 1, .ref 70]) (h' := h_948) (cl' := 0) (sl' := 0) rfl ?_
  refine fw_add rfl ?_
  refine fx_ias (z := 1) rfl g_948_70 (by decide) (Nat.le_of_ble_eq_true rfl) (by decide) ?_
  intro h_949 e_949 f_949 l_949
  have k_949 := l_949.trans k_948
  have fr_949 := hfr_w fr_948 f_949 l_949 (by decide)
  have g_949_66 := (f_949 66 (by decide)).trans g_948_66
  have g_949_67 := (f_949 67 (by decide)).trans g_948_67
  have g_949_68 := (f_949 68 (by decide)).trans g_948_68
  have g_949_69 := (f_949 69 (by decide)).trans g_948_69
  have g_949_77 := (f_949 77 (by decide)).trans g_948_77
  have g_949_78 := (f_949 78 (by decide)).trans g_948_78
  have g_949_79 := (f_949 79 (by decide)).trans g_948_79
  have g_949_80 := (f_949 80 (by decide)).trans g_948_80
  have g_949_81 := (f_949 81 (by decide)).trans g_948_81
  have g_949_82 := (f_949 82 (by decide)).trans g_948_82
  have g_949_83 := (f_949 83 (by decide)).trans g_948_83
  have g_949_70 : cE h_949 70 (.inl (.int, fA [ka, p + 1, 0, kb, p + 2, 0])) := e_949
  refine ik_Wk 1 (pc' := 74) (loc' := [some (.ref 66), some (fI p), some (fI 3), some (fI pa), some (fI fa), some (fI pb), some (fI fb), some (fI 1), some (fI 0)]) (st' := [.ref 66]) (h' := h_949) (cl' := 0) (sl' := 0) rfl ?_
  refine fw_gf rfl rfl g_949_66 rfl ?_
  refine ik_Wk 3 (pc' := 81) (loc' := [some (.ref 66), some (fI p), some (fI 3), some (fI pa), some (fI fa), some (fI pb), some (fI fb), some (fI 1), some (fI 0)]) (st' := [fI 0, fI p, fI 4, .ref 70]) (h' := h_949) (cl' := 0) (sl' := 0) rfl ?_
  refine fw_add rfl ?_
  refine fx_ias (z := 4) rfl g_949_70 (by decide) (Nat.le_of_ble_eq_true rfl) (by decide) ?_
  intro h_950 e_950 f_950 l_950
  have k_950 := l_950.trans k_949
  have fr_950 := hfr_w fr_949 f_950 l_950 (by decide)
  have g_950_66 := (f_950 66 (by decide)).trans g_949_66
  have g_950_67 := (f_950 67 (by decide)).trans g_949_67
  have g_950_68 := (f_950 68 (by decide)).trans g_949_68
  have g_950_69 := (f_950 69 (by decide)).trans g_949_69
  have g_950_77 := (f_950 77 (by decide)).trans g_949_77
  have g_950_78 := (f_950 78 (by decide)).trans g_949_78
  have g_950_79 := (f_950 79 (by decide)).trans g_949_79
  have g_950_80 := (f_950 80 (by decide)).trans g_949_80
  have g_950_81 := (f_950 81 (by decide)).trans g_949_81
  have g_950_82 := (f_950 82 (by decide)).trans g_949_82
  have g_950_83 := (f_950 83 (by decide)).trans g_949_83
  have g_950_70 : cE h_950 70 (.inl (.int, fA [ka, p + 1, 0, kb, p + 0, 0])) := e_950
  refine ik_Wk 1 (pc' := 84) (loc' := [some (.ref 66), some (fI p), some (fI 3), some (fI pa), some (fI fa), some (fI pb), some (fI fb), some (fI 1), some (fI 0)]) (st' := [.ref 66]) (h' := h_950) (cl' := 0) (sl' := 0) rfl ?_
  refine fw_gf rfl rfl g_950_66 rfl ?_
  refine ik_Wk 2 (pc' := 90) (loc' := [some (.ref 66), some (fI p), some (fI 3), some (fI pa), some (fI fa), some (fI pb), some (fI fb), some (fI 1), some (fI 0)]) (st' := [fI 1, fI 3, .ref 83]) (h' := h_950) (cl' := 0) (sl' := 0) rfl ?_
  refine fw_mul rfl ?_
  refine ik_Wk 1 (pc' := 93) (loc' := [some (.ref 66), some (fI p), some (fI 3), some (fI pa), some (fI fa), some (fI pb), some (fI fb), some (fI 1), some (fI 0)]) (st' := [fI 0, fI 3, .ref 83]) (h' := h_950) (cl' := 0) (sl' := 0) rfl ?_
  refine fw_add rfl ?_
  refine ik_Wk 2 (pc' := 96) (loc' := [some (.ref 66), some (fI p), some (fI 3), some (fI pa), some (fI fa), some (fI pb), some (fI fb), some (fI 1), some (fI 0)]) (st' := [fI 0, .ref 66, fI 3, .ref 83]) (h' := h_950) (cl' := 0) (sl' := 0) rfl ?_
  refine fw_call 169 2 0 [.ref 66, fI 0] [fI 3, .ref 83] rfl rfl rfl (by decide) rfl rfl (fw_rec k_950 rfl g_950_66 rfl (by decide)) (cr_laterOf (pl := pl) (f := fun j => ([0, 0, 0, 0, 0, 0, 0, (f 7), (f 8), 0, (f 10), (f 11), (f 12), (f 13), (f 14), (f 15), (f 16), (f 17), 0, 0, 0, 0, 0, 0, w'_947, 0, 0, 0, 0, 0, 0, 0, (f 32), (f 33), 0, 0, (f 36), 0, 0, 0, 0, 0, 0] : List Int).getD j 0) (s := s) (cn := cn) (go := go) (ch := ch) (gt := gt'_947) (gd := gd'_947) (xs := xs'_947) (ys := ys'_947) (ka := ka) (pa := p + 1) (fa := 0) (kb := kb) (pb := p + 0) (fb := 0) (r1 := r1'_947) (r2 := r2'_947) (wh := 0) (by omega) (by omega) q2 q3 q4 (by omega) (by omega) (by omega) (by omega) (by omega) (by omega) (by omega) g_950_66 g_950_67 n67 g_950_68 n68 g_950_69 n69 g_950_77 m_947_77 g_950_78 m_947_78 g_950_79 m_947_79 g_950_80 m_947_80 g_950_70 g_950_81 m_947_81 g_950_82 m_947_82 k_950) ?_
  rintro _ h_951 ⟨w'_951, gt'_951, gd'_951, xs'_951, ys'_951, r1'_951, r2'_951, rfl, e_951_66, e_951_77, m_951_77, e_951_78, m_951_78, e_951_79, m_951_79, e_951_80, m_951_80, e_951_81, m_951_81, e_951_82, m_951_82, F_951⟩
  have k_951 := F_951.1.trans k_950
  have fr_951 := hfr_c fr_950 F_951 (by decide)
  have g_951_67 := (F_951.2 67 (by decide +kernel)).trans g_950_67
  have g_951_68 := (F_951.2 68 (by decide +kernel)).trans g_950_68
  have g_951_69 := (F_951.2 69 (by decide +kernel)).trans g_950_69
  have g_951_70 := (F_951.2 70 (by decide +kernel)).trans g_950_70
  have g_951_83 := (F_951.2 83 (by decide +kernel)).trans g_950_83
  have g_951_66 : cE h_951 66 (.inr (10, [fI pl, .ref 67, .ref 68, .ref 69, fI ((s : Nat) : Int), .ref 70, .ref 71, fI (f 7), fI (f 8), .ref 72, fI (f 10), fI (f 11), fI (f 12), fJ (f 13), fI (f 14), fI (f 15), fI (f 16), fI (f 17), .ref 73, .ref 74, .ref 75, .ref 76, .ref 77, .ref 78, fI w'_951, .ref 79, .ref 80, .ref 81, .ref 82, .ref 83, .ref 84, .ref 85, fJ (f 32), fJ (f 33), .ref 86, .ref 87, fI (f 36), .ref 88, .ref 89, .ref 90, .ref 91, .ref 92, .ref 93])) := e_951_66
  have g_951_77 : cE h_951 77 (.inl (.int, fA gt'_951)) := e_951_77
  have g_951_78 : cE h_951 78 (.inl (.int, fA gd'_951)) := e_951_78
  have g_951_79 : cE h_951 79 (.inl (.long, fL xs'_951)) := e_951_79
  have g_951_80 : cE h_951 80 (.inl (.long, fL ys'_951)) := e_951_80
  have g_951_81 : cE h_951 81 (.inl (.long, fL r1'_951)) := e_951_81
  have g_951_82 : cE h_951 82 (.inl (.long, fL r2'_951)) := e_951_82
  refine ik_Wk 0 (pc' := 99) (loc' := [some (.ref 66), some (fI p), some (fI 3), some (fI pa), some (fI fa), some (fI pb), some (fI fb), some (fI 1), some (fI 0)]) (st' := [fI (mr_w (mf_cm (fun x => mx_w cn go ch s x) (pl - 1) ka (p + 1)) 0 (mf_cm (fun x => mx_w cn go ch s x) (pl - 1) kb (p + 0)) 0 0), fI 3, .ref 83]) (h' := h_951) (cl' := 0) (sl' := 0) rfl ?_
  have wb_951 : 0 ≤ mr_w (mf_cm (fun x => mx_w cn go ch s x) (pl - 1) ka (p + 1)) 0 (mf_cm (fun x => mx_w cn go ch s x) (pl - 1) kb (p + 0)) 0 0 ∧ mr_w (mf_cm (fun x => mx_w cn go ch s x) (pl - 1) ka (p + 1)) 0 (mf_cm (fun x => mx_w cn go ch s x) (pl - 1) kb (p + 0)) 0 0 ≤ 1000000 := mr_w_b (mr_ok_cm (W := (fun x => mx_w cn go ch s x)) (k := ka) q4 (show 0 ≤ p + 1 ∧ p + 1 < pl - 1 by omega)) (mr_ok_cm (W := (fun x => mx_w cn go ch s x)) (k := kb) q4 (show 0 ≤ p + 0 ∧ p + 0 < pl - 1 by omega)) (by decide) (by decide) 0
  refine fw_si rfl (by decide) ?_
  refine fx_idiv rfl (by omega) (by omega) (by omega) (by omega) ?_
  refine fw_i2l rfl (by omega) (by omega) ?_
  have hl11 : ((((fr.set (0 : Int).toNat ((mr_w (mf_cm (fun x => mx_w cn go ch s x) (pl - 1) ka (p + 0)) 0 (mf_cm (fun x => mx_w cn go ch s x) (pl - 1) kb (p + 0)) 0 0) / 1000)).set (1 : Int).toNat ((mr_w (mf_cm (fun x => mx_w cn go ch s x) (pl - 1) ka (p + 0)) 0 (mf_cm (fun x => mx_w cn go ch s x) (pl - 1) kb (p + 1)) 0 0) / 1000)).set (2 : Int).toNat ((mr_w (mf_cm (fun x => mx_w cn go ch s x) (pl - 1) ka (p + 0)) 0 (mf_cm (fun x => mx_w cn go ch s x) (pl - 1) kb (p + 2)) 0 0) / 1000)).set (3 : Int).toNat ((mr_w (mf_cm (fun x => mx_w cn go ch s x) (pl - 1) ka (p + 1)) 0 (mf_cm (fun x => mx_w cn go ch s x) (pl - 1) kb (p + 0)) 0 0) / 1000)).length = 9 := (List.length_set ..).trans hl7
  refine fx_las rfl g_951_83 (by omega) (by omega) (by omega) ?_
  intro h_952 e_952 f_952 l_952
  have k_952 := l_952.trans k_951
  have fr_952 := hfr_w fr_951 f_952 l_952 (by decide)
  have g_952_66 := (f_952 66 (by decide)).trans g_951_66
  have g_952_67 := (f_952 67 (by decide)).trans g_951_67
  have g_952_68 := (f_952 68 (by decide)).trans g_951_68
  have g_952_69 := (f_952 69 (by decide)).trans g_951_69
  have g_952_77 := (f_952 77 (by decide)).trans g_951_77
  have g_952_78 := (f_952 78 (by decide)).trans g_951_78
  have g_952_79 := (f_952 79 (by decide)).trans g_951_79
  have g_952_80 := (f_952 80 (by decide)).trans g_951_80
  have g_952_70 := (f_952 70 (by decide)).trans g_951_70
  have g_952_81 := (f_952 81 (by decide)).trans g_951_81
  have g_952_82 := (f_952 82 (by decide)).trans g_951_82
  have g_952_83 : cE h_952 83 (.inl (.long, fL ((((fr.set (0 : Int).toNat ((mr_w (mf_cm (fun x => mx_w cn go ch s x) (pl - 1) ka (p + 0)) 0 (mf_cm (fun x => mx_w cn go ch s x) (pl - 1) kb (p + 0)) 0 0) / 1000)).set (1 : Int).toNat ((mr_w (mf_cm (fun x => mx_w cn go ch s x) (pl - 1) ka (p + 0)) 0 (mf_cm (fun x => mx_w cn go ch s x) (pl - 1) kb (p + 1)) 0 0) / 1000)).set (2 : Int).toNat ((mr_w (mf_cm (fun x => mx_w cn go ch s x) (pl - 1) ka (p + 0)) 0 (mf_cm (fun x => mx_w cn go ch s x) (pl - 1) kb (p + 2)) 0 0) / 1000)).set (3 : Int).toNat ((mr_w (mf_cm (fun x => mx_w cn go ch s x) (pl - 1) ka (p + 1)) 0 (mf_cm (fun x => mx_w cn go ch s x) (pl - 1) kb (p + 0)) 0 0) / 1000)))) := e_952
  refine fw_inc (a := 0) (loc' := [some (.ref 66), some (fI p), some (fI 3), some (fI pa), some (fI fa), some (fI pb), some (fI fb), some (fI 1), some (fI 1)]) rfl rfl (Nat.le_of_ble_eq_true rfl) rfl ?_
  refine ik_Wk 3 (pc' := 60) (loc' := [some (.ref 66), some (fI p), some (fI 3), some (fI pa), some (fI fa), some (fI pb), some (fI fb), some (fI 1), some (fI 1)]) (st' := [fI 3, fI 1]) (h' := h_952) (cl' := 0) (sl' := 0) rfl ?_
  refine fw_ic_ge rfl rfl (by omega) (by omega) (by omega) (by omega) (fun hc12 => absurd hc12 (by omega)) (fun hc12 => ?_)
  refine ik_Wk 1 (pc' := 64) (loc' := [some (.ref 66), some (fI p), some (fI 3), some (fI pa), some (fI fa), some (fI pb), some (fI fb), some (fI 1), some (fI 1)]) (st' := [.ref 66]) (h' := h_952) (cl' := 0) (sl' := 0) rfl ?_
  refine fw_gf rfl rfl g_952_66 rfl ?_
  refine ik_Wk 3 (pc' := 71) (loc' := [some (.ref 66), some (fI p), some (fI 3), some (fI pa), some (fI fa), some (fI pb), some (fI fb), some (fI 1), some (fI 1)]) (st' := [fI 1, fI p, fI 1, .ref 70]) (h' := h_952) (cl' := 0) (sl' := 0) rfl ?_
  refine fw_add rfl ?_
  refine fx_ias (z := 1) rfl g_952_70 (by decide) (Nat.le_of_ble_eq_true rfl) (by decide) ?_
  intro h_953 e_953 f_953 l_953
  have k_953 := l_953.trans k_952
  have fr_953 := hfr_w fr_952 f_953 l_953 (by decide)
  have g_953_66 := (f_953 66 (by decide)).trans g_952_66
  have g_953_67 := (f_953 67 (by decide)).trans g_952_67
  have g_953_68 := (f_953 68 (by decide)).trans g_952_68
  have g_953_69 := (f_953 69 (by decide)).trans g_952_69
  have g_953_77 := (f_953 77 (by decide)).trans g_952_77
  have g_953_78 := (f_953 78 (by decide)).trans g_952_78
  have g_953_79 := (f_953 79 (by decide)).trans g_952_79
  have g_953_80 := (f_953 80 (by decide)).trans g_952_80
  have g_953_81 := (f_953 81 (by decide)).trans g_952_81
  have g_953_82 := (f_953 82 (by decide)).trans g_952_82
  have g_953_83 := (f_953 83 (by decide)).trans g_952_83
  have g_953_70 : cE h_953 70 (.inl (.int, fA [ka, p + 1, 0, kb, p + 0, 0])) := e_953
  refine ik_Wk 1 (pc' := 74) (loc' := [some (.ref 66), some (fI p), some (fI 3), some (fI pa), some (fI fa), some (fI pb), some (fI fb), some (fI 1), some (fI 1)]) (st' := [.ref 66]) (h' := h_953) (cl' := 0) (sl' := 0) rfl ?_
  refine fw_gf rfl rfl g_953_66 rfl ?_
  refine ik_Wk 3 (pc' := 81) (loc' := [some (.ref 66), some (fI p), some (fI 3), some (fI pa), some (fI fa), some (fI pb), some (fI fb), some (fI 1), some (fI 1)]) (st' := [fI 1, fI p, fI 4, .ref 70]) (h' := h_953) (cl' := 0) (sl' := 0) rfl ?_
  refine fw_add rfl ?_
  refine fx_ias (z := 4) rfl g_953_70 (by decide) (Nat.le_of_ble_eq_true rfl) (by decide) ?_
  intro h_954 e_954 f_954 l_954
  have k_954 := l_954.trans k_953
  have fr_954 := hfr_w fr_953 f_954 l_954 (by decide)
  have g_954_66 := (f_954 66 (by decide)).trans g_953_66
  have g_954_67 := (f_954 67 (by decide)).trans g_953_67
  have g_954_68 := (f_954 68 (by decide)).trans g_953_68
  have g_954_69 := (f_954 69 (by decide)).trans g_953_69
  have g_954_77 := (f_954 77 (by decide)).trans g_953_77
  have g_954_78 := (f_954 78 (by decide)).trans g_953_78
  have g_954_79 := (f_954 79 (by decide)).trans g_953_79
  have g_954_80 := (f_954 80 (by decide)).trans g_953_80
  have g_954_81 := (f_954 81 (by decide)).trans g_953_81
  have g_954_82 := (f_954 82 (by decide)).trans g_953_82
  have g_954_83 := (f_954 83 (by decide)).trans g_953_83
  have g_954_70 : cE h_954 70 (.inl (.int, fA [ka, p + 1, 0, kb, p + 1, 0])) := e_954
  refine ik_Wk 1 (pc' := 84) (loc' := [some (.ref 66), some (fI p), some (fI 3), some (fI pa), some (fI fa), some (fI pb), some (fI fb), some (fI 1), some (fI 1)]) (st' := [.ref 66]) (h' := h_954) (cl' := 0) (sl' := 0) rfl ?_
  refine fw_gf rfl rfl g_954_66 rfl ?_
  refine ik_Wk 2 (pc' := 90) (loc' := [some (.ref 66), some (fI p), some (fI 3), some (fI pa), some (fI fa), some (fI pb), some (fI fb), some (fI 1), some (fI 1)]) (st' := [fI 1, fI 3, .ref 83]) (h' := h_954) (cl' := 0) (sl' := 0) rfl ?_
  refine fw_mul rfl ?_
  refine ik_Wk 1 (pc' := 93) (loc' := [some (.ref 66), some (fI p), some (fI 3), some (fI pa), some (fI fa), some (fI pb), some (fI fb), some (fI 1), some (fI 1)]) (st' := [fI 1, fI 3, .ref 83]) (h' := h_954) (cl' := 0) (sl' := 0) rfl ?_
  refine fw_add rfl ?_
  refine ik_Wk 2 (pc' := 96) (loc' := [some (.ref 66), some (fI p), some (fI 3), some (fI pa), some (fI fa), some (fI pb), some (fI fb), some (fI 1), some (fI 1)]) (st' := [fI 0, .ref 66, fI 4, .ref 83]) (h' := h_954) (cl' := 0) (sl' := 0) rfl ?_
  refine fw_call 169 2 0 [.ref 66, fI 0] [fI 4, .ref 83] rfl rfl rfl (by decide) rfl rfl (fw_rec k_954 rfl g_954_66 rfl (by decide)) (cr_laterOf (pl := pl) (f := fun j => ([0, 0, 0, 0, 0, 0, 0, (f 7), (f 8), 0, (f 10), (f 11), (f 12), (f 13), (f 14), (f 15), (f 16), (f 17), 0, 0, 0, 0, 0, 0, w'_951, 0, 0, 0, 0, 0, 0, 0, (f 32), (f 33), 0, 0, (f 36), 0, 0, 0, 0, 0, 0] : List Int).getD j 0) (s := s) (cn := cn) (go := go) (ch := ch) (gt := gt'_951) (gd := gd'_951) (xs := xs'_951) (ys := ys'_951) (ka := ka) (pa := p + 1) (fa := 0) (kb := kb) (pb := p + 1) (fb := 0) (r1 := r1'_951) (r2 := r2'_951) (wh := 0) (by omega) (by omega) q2 q3 q4 (by omega) (by omega) (by omega) (by omega) (by omega) (by omega) (by omega) g_954_66 g_954_67 n67 g_954_68 n68 g_954_69 n69 g_954_77 m_951_77 g_954_78 m_951_78 g_954_79 m_951_79 g_954_80 m_951_80 g_954_70 g_954_81 m_951_81 g_954_82 m_951_82 k_954) ?_
  rintro _ h_955 ⟨w'_955, gt'_955, gd'_955, xs'_955, ys'_955, r1'_955, r2'_955, rfl, e_955_66, e_955_77, m_955_77, e_955_78, m_955_78, e_955_79, m_955_79, e_955_80, m_955_80, e_955_81, m_955_81, e_955_82, m_955_82, F_955⟩
  have k_955 := F_955.1.trans k_954
  have fr_955 := hfr_c fr_954 F_955 (by decide)
  have g_955_67 := (F_955.2 67 (by decide +kernel)).trans g_954_67
  have g_955_68 := (F_955.2 68 (by decide +kernel)).trans g_954_68
  have g_955_69 := (F_955.2 69 (by decide +kernel)).trans g_954_69
  have g_955_70 := (F_955.2 70 (by decide +kernel)).trans g_954_70
  have g_955_83 := (F_955.2 83 (by decide +kernel)).trans g_954_83
  have g_955_66 : cE h_955 66 (.inr (10, [fI pl, .ref 67, .ref 68, .ref 69, fI ((s : Nat) : Int), .ref 70, .ref 71, fI (f 7), fI (f 8), .ref 72, fI (f 10), fI (f 11), fI (f 12), fJ (f 13), fI (f 14), fI (f 15), fI (f 16), fI (f 17), .ref 73, .ref 74, .ref 75, .ref 76, .ref 77, .ref 78, fI w'_955, .ref 79, .ref 80, .ref 81, .ref 82, .ref 83, .ref 84, .ref 85, fJ (f 32), fJ (f 33), .ref 86, .ref 87, fI (f 36), .ref 88, .ref 89, .ref 90, .ref 91, .ref 92, .ref 93])) := e_955_66
  have g_955_77 : cE h_955 77 (.inl (.int, fA gt'_955)) := e_955_77
  have g_955_78 : cE h_955 78 (.inl (.int, fA gd'_955)) := e_955_78
  have g_955_79 : cE h_955 79 (.inl (.long, fL xs'_955)) := e_955_79
  have g_955_80 : cE h_955 80 (.inl (.long, fL ys'_955)) := e_955_80
  have g_955_81 : cE h_955 81 (.inl (.long, fL r1'_955)) := e_955_81
  have g_955_82 : cE h_955 82 (.inl (.long, fL r2'_955)) := e_955_82
  refine ik_Wk 0 (pc' := 99) (loc' := [some (.ref 66), some (fI p), some (fI 3), some (fI pa), some (fI fa), some (fI pb), some (fI fb), some (fI 1), some (fI 1)]) (st' := [fI (mr_w (mf_cm (fun x => mx_w cn go ch s x) (pl - 1) ka (p + 1)) 0 (mf_cm (fun x => mx_w cn go ch s x) (pl - 1) kb (p + 1)) 0 0), fI 4, .ref 83]) (h' := h_955) (cl' := 0) (sl' := 0) rfl ?_
  have wb_955 : 0 ≤ mr_w (mf_cm (fun x => mx_w cn go ch s x) (pl - 1) ka (p + 1)) 0 (mf_cm (fun x => mx_w cn go ch s x) (pl - 1) kb (p + 1)) 0 0 ∧ mr_w (mf_cm (fun x => mx_w cn go ch s x) (pl - 1) ka (p + 1)) 0 (mf_cm (fun x => mx_w cn go ch s x) (pl - 1) kb (p + 1)) 0 0 ≤ 1000000 := mr_w_b (mr_ok_cm (W := (fun x => mx_w cn go ch s x)) (k := ka) q4 (show 0 ≤ p + 1 ∧ p + 1 < pl - 1 by omega)) (mr_ok_cm (W := (fun x => mx_w cn go ch s x)) (k := kb) q4 (show 0 ≤ p + 1 ∧ p + 1 < pl - 1 by omega)) (by decide) (by decide) 0
  refine fw_si rfl (by decide) ?_
  refine fx_idiv rfl (by omega) (by omega) (by omega) (by omega) ?_
  refine fw_i2l rfl (by omega) (by omega) ?_
  have hl13 : (((((fr.set (0 : Int).toNat ((mr_w (mf_cm (fun x => mx_w cn go ch s x) (pl - 1) ka (p + 0)) 0 (mf_cm (fun x => mx_w cn go ch s x) (pl - 1) kb (p + 0)) 0 0) / 1000)).set (1 : Int).toNat ((mr_w (mf_cm (fun x => mx_w cn go ch s x) (pl - 1) ka (p + 0)) 0 (mf_cm (fun x => mx_w cn go ch s x) (pl - 1) kb (p + 1)) 0 0) / 1000)).set (2 : Int).toNat ((mr_w (mf_cm (fun x => mx_w cn go ch s x) (pl - 1) ka (p + 0)) 0 (mf_cm (fun x => mx_w cn go ch s x) (pl - 1) kb (p + 2)) 0 0) / 1000)).set (3 : Int).toNat ((mr_w (mf_cm (fun x => mx_w cn go ch s x) (pl - 1) ka (p + 1)) 0 (mf_cm (fun x => mx_w cn go ch s x) (pl - 1) kb (p + 0)) 0 0) / 1000)).set (4 : Int).toNat ((mr_w (mf_cm (fun x => mx_w cn go ch s x) (pl - 1) ka (p + 1)) 0 (mf_cm (fun x => mx_w cn go ch s x) (pl - 1) kb (p + 1)) 0 0) / 1000)).length = 9 := (List.length_set ..).trans hl11
  refine fx_las rfl g_955_83 (by omega) (by omega) (by omega) ?_
  intro h_956 e_956 f_956 l_956
  have k_956 := l_956.trans k_955
  have fr_956 := hfr_w fr_955 f_956 l_956 (by decide)
  have g_956_66 := (f_956 66 (by decide)).trans g_955_66
  have g_956_67 := (f_956 67 (by decide)).trans g_955_67
  have g_956_68 := (f_956 68 (by decide)).trans g_955_68
  have g_956_69 := (f_956 69 (by decide)).trans g_955_69
  have g_956_77 := (f_956 77 (by decide)).trans g_955_77
  have g_956_78 := (f_956 78 (by decide)).trans g_955_78
  have g_956_79 := (f_956 79 (by decide)).trans g_955_79
  have g_956_80 := (f_956 80 (by decide)).trans g_955_80
  have g_956_70 := (f_956 70 (by decide)).trans g_955_70
  have g_956_81 := (f_956 81 (by decide)).trans g_955_81
  have g_956_82 := (f_956 82 (by decide)).trans g_955_82
  have g_956_83 : cE h_956 83 (.inl (.long, fL (((((fr.set (0 : Int).toNat ((mr_w (mf_cm (fun x => mx_w cn go ch s x) (pl - 1) ka (p + 0)) 0 (mf_cm (fun x => mx_w cn go ch s x) (pl - 1) kb (p + 0)) 0 0) / 1000)).set (1 : Int).toNat ((mr_w (mf_cm (fun x => mx_w cn go ch s x) (pl - 1) ka (p + 0)) 0 (mf_cm (fun x => mx_w cn go ch s x) (pl - 1) kb (p + 1)) 0 0) / 1000)).set (2 : Int).toNat ((mr_w (mf_cm (fun x => mx_w cn go ch s x) (pl - 1) ka (p + 0)) 0 (mf_cm (fun x => mx_w cn go ch s x) (pl - 1) kb (p + 2)) 0 0) / 1000)).set (3 : Int).toNat ((mr_w (mf_cm (fun x => mx_w cn go ch s x) (pl - 1) ka (p + 1)) 0 (mf_cm (fun x => mx_w cn go ch s x) (pl - 1) kb (p + 0)) 0 0) / 1000)).set (4 : Int).toNat ((mr_w (mf_cm (fun x => mx_w cn go ch s x) (pl - 1) ka (p + 1)) 0 (mf_cm (fun x => mx_w cn go ch s x) (pl - 1) kb (p + 1)) 0 0) / 1000)))) := e_956
  refine fw_inc (a := 1) (loc' := [some (.ref 66), some (fI p), some (fI 3), some (fI pa), some (fI fa), some (fI pb), some (fI fb), some (fI 1), some (fI 2)]) rfl rfl (Nat.le_of_ble_eq_true rfl) rfl ?_
  refine ik_Wk 3 (pc' := 60) (loc' := [some (.ref 66), some (fI p), some (fI 3), some (fI pa), some (fI fa), some (fI pb), some (fI fb), some (fI 1), some (fI 2)]) (st' := [fI 3, fI 2]) (h' := h_956) (cl' := 0) (sl' := 0) rfl ?_
  refine fw_ic_ge rfl rfl (by omega) (by omega) (by omega) (by omega) (fun hc14 => absurd hc14 (by omega)) (fun hc14 => ?_)
  refine ik_Wk 1 (pc' := 64) (loc' := [some (.ref 66), some (fI p), some (fI 3), some (fI pa), some (fI fa), some (fI pb), some (fI fb), some (fI 1), some (fI 2)]) (st' := [.ref 66]) (h' := h_956) (cl' := 0) (sl' := 0) rfl ?_
  refine fw_gf rfl rfl g_956_66 rfl ?_
  refine ik_Wk 3 (pc' := 71) (loc' := [some (.ref 66), some (fI p), some (fI 3), some (fI pa), some (fI fa), some (fI pb), some (fI fb), some (fI 1), some (fI 2)]) (st' := [fI 1, fI p, fI 1, .ref 70]) (h' := h_956) (cl' := 0) (sl' := 0) rfl ?_
  refine fw_add rfl ?_
  refine fx_ias (z := 1) rfl g_956_70 (by decide) (Nat.le_of_ble_eq_true rfl) (by decide) ?_
  intro h_957 e_957 f_957 l_957
  have k_957 := l_957.trans k_956
  have fr_957 := hfr_w fr_956 f_957 l_957 (by decide)
  have g_957_66 := (f_957 66 (by decide)).trans g_956_66
  have g_957_67 := (f_957 67 (by decide)).trans g_956_67
  have g_957_68 := (f_957 68 (by decide)).trans g_956_68
  have g_957_69 := (f_957 69 (by decide)).trans g_956_69
  have g_957_77 := (f_957 77 (by decide)).trans g_956_77
  have g_957_78 := (f_957 78 (by decide)).trans g_956_78
  have g_957_79 := (f_957 79 (by decide)).trans g_956_79
  have g_957_80 := (f_957 80 (by decide)).trans g_956_80
  have g_957_81 := (f_957 81 (by decide)).trans g_956_81
  have g_957_82 := (f_957 82 (by decide)).trans g_956_82
  have g_957_83 := (f_957 83 (by decide)).trans g_956_83
  have g_957_70 : cE h_957 70 (.inl (.int, fA [ka, p + 1, 0, kb, p + 1, 0])) := e_957
  refine ik_Wk 1 (pc' := 74) (loc' := [some (.ref 66), some (fI p), some (fI 3), some (fI pa), some (fI fa), some (fI pb), some (fI fb), some (fI 1), some (fI 2)]) (st' := [.ref 66]) (h' := h_957) (cl' := 0) (sl' := 0) rfl ?_
  refine fw_gf rfl rfl g_957_66 rfl ?_
  refine ik_Wk 3 (pc' := 81) (loc' := [some (.ref 66), some (fI p), some (fI 3), some (fI pa), some (fI fa), some (fI pb), some (fI fb), some (fI 1), some (fI 2)]) (st' := [fI 2, fI p, fI 4, .ref 70]) (h' := h_957) (cl' := 0) (sl' := 0) rfl ?_
  refine fw_add rfl ?_
  refine fx_ias (z := 4) rfl g_957_70 (by decide) (Nat.le_of_ble_eq_true rfl) (by decide) ?_
  intro h_958 e_958 f_958 l_958
  have k_958 := l_958.trans k_957
  have fr_958 := hfr_w fr_957 f_958 l_958 (by decide)
  have g_958_66 := (f_958 66 (by decide)).trans g_957_66
  have g_958_67 := (f_958 67 (by decide)).trans g_957_67
  have g_958_68 := (f_958 68 (by decide)).trans g_957_68
  have g_958_69 := (f_958 69 (by decide)).trans g_957_69
  have g_958_77 := (f_958 77 (by decide)).trans g_957_77
  have g_958_78 := (f_958 78 (by decide)).trans g_957_78
  have g_958_79 := (f_958 79 (by decide)).trans g_957_79
  have g_958_80 := (f_958 80 (by decide)).trans g_957_80
  have g_958_81 := (f_958 81 (by decide)).trans g_957_81
  have g_958_82 := (f_958 82 (by decide)).trans g_957_82
  have g_958_83 := (f_958 83 (by decide)).trans g_957_83
  have g_958_70 : cE h_958 70 (.inl (.int, fA [ka, p + 1, 0, kb, p + 2, 0])) := e_958
  refine ik_Wk 1 (pc' := 84) (loc' := [some (.ref 66), some (fI p), some (fI 3), some (fI pa), some (fI fa), some (fI pb), some (fI fb), some (fI 1), some (fI 2)]) (st' := [.ref 66]) (h' := h_958) (cl' := 0) (sl' := 0) rfl ?_
  refine fw_gf rfl rfl g_958_66 rfl ?_
  refine ik_Wk 2 (pc' := 90) (loc' := [some (.ref 66), some (fI p), some (fI 3), some (fI pa), some (fI fa), some (fI pb), some (fI fb), some (fI 1), some (fI 2)]) (st' := [fI 1, fI 3, .ref 83]) (h' := h_958) (cl' := 0) (sl' := 0) rfl ?_
  refine fw_mul rfl ?_
  refine ik_Wk 1 (pc' := 93) (loc' := [some (.ref 66), some (fI p), some (fI 3), some (fI pa), some (fI fa), some (fI pb), some (fI fb), some (fI 1), some (fI 2)]) (st' := [fI 2, fI 3, .ref 83]) (h' := h_958) (cl' := 0) (sl' := 0) rfl ?_
  refine fw_add rfl ?_
  refine ik_Wk 2 (pc' := 96) (loc' := [some (.ref 66), some (fI p), some (fI 3), some (fI pa), some (fI fa), some (fI pb), some (fI fb), some (fI 1), some (fI 2)]) (st' := [fI 0, .ref 66, fI 5, .ref 83]) (h' := h_958) (cl' := 0) (sl' := 0) rfl ?_
  refine fw_call 169 2 0 [.ref 66, fI 0] [fI 5, .ref 83] rfl rfl rfl (by decide) rfl rfl (fw_rec k_958 rfl g_958_66 rfl (by decide)) (cr_laterOf (pl := pl) (f := fun j => ([0, 0, 0, 0, 0, 0, 0, (f 7), (f 8), 0, (f 10), (f 11), (f 12), (f 13), (f 14), (f 15), (f 16), (f 17), 0, 0, 0, 0, 0, 0, w'_955, 0, 0, 0, 0, 0, 0, 0, (f 32), (f 33), 0, 0, (f 36), 0, 0, 0, 0, 0, 0] : List Int).getD j 0) (s := s) (cn := cn) (go := go) (ch := ch) (gt := gt'_955) (gd := gd'_955) (xs := xs'_955) (ys := ys'_955) (ka := ka) (pa := p + 1) (fa := 0) (kb := kb) (pb := p + 2) (fb := 0) (r1 := r1'_955) (r2 := r2'_955) (wh := 0) (by omega) (by omega) q2 q3 q4 (by omega) (by omega) (by omega) (by omega) (by omega) (by omega) (by omega) g_958_66 g_958_67 n67 g_958_68 n68 g_958_69 n69 g_958_77 m_955_77 g_958_78 m_955_78 g_958_79 m_955_79 g_958_80 m_955_80 g_958_70 g_958_81 m_955_81 g_958_82 m_955_82 k_958) ?_
  rintro _ h_959 ⟨w'_959, gt'_959, gd'_959, xs'_959, ys'_959, r1'_959, r2'_959, rfl, e_959_66, e_959_77, m_959_77, e_959_78, m_959_78, e_959_79, m_959_79, e_959_80, m_959_80, e_959_81, m_959_81, e_959_82, m_959_82, F_959⟩
  have k_959 := F_959.1.trans k_958
  have fr_959 := hfr_c fr_958 F_959 (by decide)
  have g_959_67 := (F_959.2 67 (by decide +kernel)).trans g_958_67
  have g_959_68 := (F_959.2 68 (by decide +kernel)).trans g_958_68
  have g_959_69 := (F_959.2 69 (by decide +kernel)).trans g_958_69
  have g_959_70 := (F_959.2 70 (by decide +kernel)).trans g_958_70
  have g_959_83 := (F_959.2 83 (by decide +kernel)).trans g_958_83
  have g_959_66 : cE h_959 66 (.inr (10, [fI pl, .ref 67, .ref 68, .ref 69, fI ((s : Nat) : Int), .ref 70, .ref 71, fI (f 7), fI (f 8), .ref 72, fI (f 10), fI (f 11), fI (f 12), fJ (f 13), fI (f 14), fI (f 15), fI (f 16), fI (f 17), .ref 73, .ref 74, .ref 75, .ref 76, .ref 77, .ref 78, fI w'_959, .ref 79, .ref 80, .ref 81, .ref 82, .ref 83, .ref 84, .ref 85, fJ (f 32), fJ (f 33), .ref 86, .ref 87, fI (f 36), .ref 88, .ref 89, .ref 90, .ref 91, .ref 92, .ref 93])) := e_959_66
  have g_959_77 : cE h_959 77 (.inl (.int, fA gt'_959)) := e_959_77
  have g_959_78 : cE h_959 78 (.inl (.int, fA gd'_959)) := e_959_78
  have g_959_79 : cE h_959 79 (.inl (.long, fL xs'_959)) := e_959_79
  have g_959_80 : cE h_959 80 (.inl (.long, fL ys'_959)) := e_959_80
  have g_959_81 : cE h_959 81 (.inl (.long, fL r1'_959)) := e_959_81
  have g_959_82 : cE h_959 82 (.inl (.long, fL r2'_959)) := e_959_82
  refine ik_Wk 0 (pc' := 99) (loc' := [some (.ref 66), some (fI p), some (fI 3), some (fI pa), some (fI fa), some (fI pb), some (fI fb), some (fI 1), some (fI 2)]) (st' := [fI (mr_w (mf_cm (fun x => mx_w cn go ch s x) (pl - 1) ka (p + 1)) 0 (mf_cm (fun x => mx_w cn go ch s x) (pl - 1) kb (p + 2)) 0 0), fI 5, .ref 83]) (h' := h_959) (cl' := 0) (sl' := 0) rfl ?_
  have wb_959 : 0 ≤ mr_w (mf_cm (fun x => mx_w cn go ch s x) (pl - 1) ka (p + 1)) 0 (mf_cm (fun x => mx_w cn go ch s x) (pl - 1) kb (p + 2)) 0 0 ∧ mr_w (mf_cm (fun x => mx_w cn go ch s x) (pl - 1) ka (p + 1)) 0 (mf_cm (fun x => mx_w cn go ch s x) (pl - 1) kb (p + 2)) 0 0 ≤ 1000000 := mr_w_b (mr_ok_cm (W := (fun x => mx_w cn go ch s x)) (k := ka) q4 (show 0 ≤ p + 1 ∧ p + 1 < pl - 1 by omega)) (mr_ok_cm (W := (fun x => mx_w cn go ch s x)) (k := kb) q4 (show 0 ≤ p + 2 ∧ p + 2 < pl - 1 by omega)) (by decide) (by decide) 0
  refine fw_si rfl (by decide) ?_
  refine fx_idiv rfl (by omega) (by omega) (by omega) (by omega) ?_
  refine fw_i2l rfl (by omega) (by omega) ?_
  have hl15 : ((((((fr.set (0 : Int).toNat ((mr_w (mf_cm (fun x => mx_w cn go ch s x) (pl - 1) ka (p + 0)) 0 (mf_cm (fun x => mx_w cn go ch s x) (pl - 1) kb (p + 0)) 0 0) / 1000)).set (1 : Int).toNat ((mr_w (mf_cm (fun x => mx_w cn go ch s x) (pl - 1) ka (p + 0)) 0 (mf_cm (fun x => mx_w cn go ch s x) (pl - 1) kb (p + 1)) 0 0) / 1000)).set (2 : Int).toNat ((mr_w (mf_cm (fun x => mx_w cn go ch s x) (pl - 1) ka (p + 0)) 0 (mf_cm (fun x => mx_w cn go ch s x) (pl - 1) kb (p + 2)) 0 0) / 1000)).set (3 : Int).toNat ((mr_w (mf_cm (fun x => mx_w cn go ch s x) (pl - 1) ka (p + 1)) 0 (mf_cm (fun x => mx_w cn go ch s x) (pl - 1) kb (p + 0)) 0 0) / 1000)).set (4 : Int).toNat ((mr_w (mf_cm (fun x => mx_w cn go ch s x) (pl - 1) ka (p + 1)) 0 (mf_cm (fun x => mx_w cn go ch s x) (pl - 1) kb (p + 1)) 0 0) / 1000)).set (5 : Int).toNat ((mr_w (mf_cm (fun x => mx_w cn go ch s x) (pl - 1) ka (p + 1)) 0 (mf_cm (fun x => mx_w cn go ch s x) (pl - 1) kb (p + 2)) 0 0) / 1000)).length = 9 := (List.length_set ..).trans hl13
  refine fx_las rfl g_959_83 (by omega) (by omega) (by omega) ?_
  intro h_960 e_960 f_960 l_960
  have k_960 := l_960.trans k_959
  have fr_960 := hfr_w fr_959 f_960 l_960 (by decide)
  have g_960_66 := (f_960 66 (by decide)).trans g_959_66
  have g_960_67 := (f_960 67 (by decide)).trans g_959_67
  have g_960_68 := (f_960 68 (by decide)).trans g_959_68
  have g_960_69 := (f_960 69 (by decide)).trans g_959_69
  have g_960_77 := (f_960 77 (by decide)).trans g_959_77
  have g_960_78 := (f_960 78 (by decide)).trans g_959_78
  have g_960_79 := (f_960 79 (by decide)).trans g_959_79
  have g_960_80 := (f_960 80 (by decide)).trans g_959_80
  have g_960_70 := (f_960 70 (by decide)).trans g_959_70
  have g_960_81 := (f_960 81 (by decide)).trans g_959_81
  have g_960_82 := (f_960 82 (by decide)).trans g_959_82
  have g_960_83 : cE h_960 83 (.inl (.long, fL ((((((fr.set (0 : Int).toNat ((mr_w (mf_cm (fun x => mx_w cn go ch s x) (pl - 1) ka (p + 0)) 0 (mf_cm (fun x => mx_w cn go ch s x) (pl - 1) kb (p + 0)) 0 0) / 1000)).set (1 : Int).toNat ((mr_w (mf_cm (fun x => mx_w cn go ch s x) (pl - 1) ka (p + 0)) 0 (mf_cm (fun x => mx_w cn go ch s x) (pl - 1) kb (p + 1)) 0 0) / 1000)).set (2 : Int).toNat ((mr_w (mf_cm (fun x => mx_w cn go ch s x) (pl - 1) ka (p + 0)) 0 (mf_cm (fun x => mx_w cn go ch s x) (pl - 1) kb (p + 2)) 0 0) / 1000)).set (3 : Int).toNat ((mr_w (mf_cm (fun x => mx_w cn go ch s x) (pl - 1) ka (p + 1)) 0 (mf_cm (fun x => mx_w cn go ch s x) (pl - 1) kb (p + 0)) 0 0) / 1000)).set (4 : Int).toNat ((mr_w (mf_cm (fun x => mx_w cn go ch s x) (pl - 1) ka (p + 1)) 0 (mf_cm (fun x => mx_w cn go ch s x) (pl - 1) kb (p + 1)) 0 0) / 1000)).set (5 : Int).toNat ((mr_w (mf_cm (fun x => mx_w cn go ch s x) (pl - 1) ka (p + 1)) 0 (mf_cm (fun x => mx_w cn go ch s x) (pl - 1) kb (p + 2)) 0 0) / 1000)))) := e_960
  refine fw_inc (a := 2) (loc' := [some (.ref 66), some (fI p), some (fI 3), some (fI pa), some (fI fa), some (fI pb), some (fI fb), some (fI 1), some (fI 3)]) rfl rfl (Nat.le_of_ble_eq_true rfl) rfl ?_
  refine ik_Wk 3 (pc' := 60) (loc' := [some (.ref 66), some (fI p), some (fI 3), some (fI pa), some (fI fa), some (fI pb), some (fI fb), some (fI 1), some (fI 3)]) (st' := [fI 3, fI 3]) (h' := h_960) (cl' := 0) (sl' := 0) rfl ?_
  refine fw_ic_ge rfl rfl (by omega) (by omega) (by omega) (by omega) (fun hc16 => ?_) (fun hc16 => absurd hc16 (by omega))
  refine fw_inc (a := 1) (loc' := [some (.ref 66), some (fI p), some (fI 3), some (fI pa), some (fI fa), some (fI pb), some (fI fb), some (fI 2), some (fI 3)]) rfl rfl (Nat.le_of_ble_eq_true rfl) rfl ?_
  refine ik_Wk 3 (pc' := 51) (loc' := [some (.ref 66), some (fI p), some (fI 3), some (fI pa), some (fI fa), some (fI pb), some (fI fb), some (fI 2), some (fI 3)]) (st' := [fI 3, fI 2]) (h' := h_960) (cl' := 0) (sl' := 0) rfl ?_
  refine fw_ic_ge rfl rfl (by omega) (by omega) (by omega) (by omega) (fun hc17 => absurd hc17 (by omega)) (fun hc17 => ?_)
  refine ik_Wk 4 (pc' := 60) (loc' := [some (.ref 66), some (fI p), some (fI 3), some (fI pa), some (fI fa), some (fI pb), some (fI fb), some (fI 2), some (fI 0)]) (st' := [fI 3, fI 0]) (h' := h_960) (cl' := 0) (sl' := 0) rfl ?_
  refine fw_ic_ge rfl rfl (by omega) (by omega) (by omega) (by omega) (fun hc18 => absurd hc18 (by omega)) (fun hc18 => ?_)
  refine ik_Wk 1 (pc' := 64) (loc' := [some (.ref 66), some (fI p), some (fI 3), some (fI pa), some (fI fa), some (fI pb), some (fI fb), some (fI 2), some (fI 0)]) (st' := [.ref 66]) (h' := h_960) (cl' := 0) (sl' := 0) rfl ?_
  refine fw_gf rfl rfl g_960_66 rfl ?_
  refine ik_Wk 3 (pc' := 71) (loc' := [some (.ref 66), some (fI p), some (fI 3), some (fI pa), some (fI fa), some (fI pb), some (fI fb), some (fI 2), some (fI 0)]) (st' := [fI 2, fI p, fI 1, .ref 70]) (h' := h_960) (cl' := 0) (sl' := 0) rfl ?_
  refine fw_add rfl ?_
  refine fx_ias (z := 1) rfl g_960_70 (by decide) (Nat.le_of_ble_eq_true rfl) (by decide) ?_
  intro h_961 e_961 f_961 l_961
  have k_961 := l_961.trans k_960
  have fr_961 := hfr_w fr_960 f_961 l_961 (by decide)
  have g_961_66 := (f_961 66 (by decide)).trans g_960_66
  have g_961_67 := (f_961 67 (by decide)).trans g_960_67
  have g_961_68 := (f_961 68 (by decide)).trans g_960_68
  have g_961_69 := (f_961 69 (by decide)).trans g_960_69
  have g_961_77 := (f_961 77 (by decide)).trans g_960_77
  have g_961_78 := (f_961 78 (by decide)).trans g_960_78
  have g_961_79 := (f_961 79 (by decide)).trans g_960_79
  have g_961_80 := (f_961 80 (by decide)).trans g_960_80
  have g_961_81 := (f_961 81 (by decide)).trans g_960_81
  have g_961_82 := (f_961 82 (by decide)).trans g_960_82
  have g_961_83 := (f_961 83 (by decide)).trans g_960_83
  have g_961_70 : cE h_961 70 (.inl (.int, fA [ka, p + 2, 0, kb, p + 2, 0])) := e_961
  refine ik_Wk 1 (pc' := 74) (loc' := [some (.ref 66), some (fI p), some (fI 3), some (fI pa), some (fI fa), some (fI pb), some (fI fb), some (fI 2), some (fI 0)]) (st' := [.ref 66]) (h' := h_961) (cl' := 0) (sl' := 0) rfl ?_
  refine fw_gf rfl rfl g_961_66 rfl ?_
  refine ik_Wk 3 (pc' := 81) (loc' := [some (.ref 66), some (fI p), some (fI 3), some (fI pa), some (fI fa), some (fI pb), some (fI fb), some (fI 2), some (fI 0)]) (st' := [fI 0, fI p, fI 4, .ref 70]) (h' := h_961) (cl' := 0) (sl' := 0) rfl ?_
  refine fw_add rfl ?_
  refine fx_ias (z := 4) rfl g_961_70 (by decide) (Nat.le_of_ble_eq_true rfl) (by decide) ?_
  intro h_962 e_962 f_962 l_962
  have k_962 := l_962.trans k_961
  have fr_962 := hfr_w fr_961 f_962 l_962 (by decide)
  have g_962_66 := (f_962 66 (by decide)).trans g_961_66
  have g_962_67 := (f_962 67 (by decide)).trans g_961_67
  have g_962_68 := (f_962 68 (by decide)).trans g_961_68
  have g_962_69 := (f_962 69 (by decide)).trans g_961_69
  have g_962_77 := (f_962 77 (by decide)).trans g_961_77
  have g_962_78 := (f_962 78 (by decide)).trans g_961_78
  have g_962_79 := (f_962 79 (by decide)).trans g_961_79
  have g_962_80 := (f_962 80 (by decide)).trans g_961_80
  have g_962_81 := (f_962 81 (by decide)).trans g_961_81
  have g_962_82 := (f_962 82 (by decide)).trans g_961_82
  have g_962_83 := (f_962 83 (by decide)).trans g_961_83
  have g_962_70 : cE h_962 70 (.inl (.int, fA [ka, p + 2, 0, kb, p + 0, 0])) := e_962
  refine ik_Wk 1 (pc' := 84) (loc' := [some (.ref 66), some (fI p), some (fI 3), some (fI pa), some (fI fa), some (fI pb), some (fI fb), some (fI 2), some (fI 0)]) (st' := [.ref 66]) (h' := h_962) (cl' := 0) (sl' := 0) rfl ?_
  refine fw_gf rfl rfl g_962_66 rfl ?_
  refine ik_Wk 2 (pc' := 90) (loc' := [some (.ref 66), some (fI p), some (fI 3), some (fI pa), some (fI fa), some (fI pb), some (fI fb), some (fI 2), some (fI 0)]) (st' := [fI 2, fI 3, .ref 83]) (h' := h_962) (cl' := 0) (sl' := 0) rfl ?_
  refine fw_mul rfl ?_
  refine ik_Wk 1 (pc' := 93) (loc' := [some (.ref 66), some (fI p), some (fI 3), some (fI pa), some (fI fa), some (fI pb), some (fI fb), some (fI 2), some (fI 0)]) (st' := [fI 0, fI 6, .ref 83]) (h' := h_962) (cl' := 0) (sl' := 0) rfl ?_
  refine fw_add rfl ?_
  refine ik_Wk 2 (pc' := 96) (loc' := [some (.ref 66), some (fI p), some (fI 3), some (fI pa), some (fI fa), some (fI pb), some (fI fb), some (fI 2), some (fI 0)]) (st' := [fI 0, .ref 66, fI 6, .ref 83]) (h' := h_962) (cl' := 0) (sl' := 0) rfl ?_
  refine fw_call 169 2 0 [.ref 66, fI 0] [fI 6, .ref 83] rfl rfl rfl (by decide) rfl rfl (fw_rec k_962 rfl g_962_66 rfl (by decide)) (cr_laterOf (pl := pl) (f := fun j => ([0, 0, 0, 0, 0, 0, 0, (f 7), (f 8), 0, (f 10), (f 11), (f 12), (f 13), (f 14), (f 15), (f 16), (f 17), 0, 0, 0, 0, 0, 0, w'_959, 0, 0, 0, 0, 0, 0, 0, (f 32), (f 33), 0, 0, (f 36), 0, 0, 0, 0, 0, 0] : List Int).getD j 0) (s := s) (cn := cn) (go := go) (ch := ch) (gt := gt'_959) (gd := gd'_959) (xs := xs'_959) (ys := ys'_959) (ka := ka) (pa := p + 2) (fa := 0) (kb := kb) (pb := p + 0) (fb := 0) (r1 := r1'_959) (r2 := r2'_959) (wh := 0) (by omega) (by omega) q2 q3 q4 (by omega) (by omega) (by omega) (by omega) (by omega) (by omega) (by omega) g_962_66 g_962_67 n67 g_962_68 n68 g_962_69 n69 g_962_77 m_959_77 g_962_78 m_959_78 g_962_79 m_959_79 g_962_80 m_959_80 g_962_70 g_962_81 m_959_81 g_962_82 m_959_82 k_962) ?_
  rintro _ h_963 ⟨w'_963, gt'_963, gd'_963, xs'_963, ys'_963, r1'_963, r2'_963, rfl, e_963_66, e_963_77, m_963_77, e_963_78, m_963_78, e_963_79, m_963_79, e_963_80, m_963_80, e_963_81, m_963_81, e_963_82, m_963_82, F_963⟩
  have k_963 := F_963.1.trans k_962
  have fr_963 := hfr_c fr_962 F_963 (by decide)
  have g_963_67 := (F_963.2 67 (by decide +kernel)).trans g_962_67
  have g_963_68 := (F_963.2 68 (by decide +kernel)).trans g_962_68
  have g_963_69 := (F_963.2 69 (by decide +kernel)).trans g_962_69
  have g_963_70 := (F_963.2 70 (by decide +kernel)).trans g_962_70
  have g_963_83 := (F_963.2 83 (by decide +kernel)).trans g_962_83
  have g_963_66 : cE h_963 66 (.inr (10, [fI pl, .ref 67, .ref 68, .ref 69, fI ((s : Nat) : Int), .ref 70, .ref 71, fI (f 7), fI (f 8), .ref 72, fI (f 10), fI (f 11), fI (f 12), fJ (f 13), fI (f 14), fI (f 15), fI (f 16), fI (f 17), .ref 73, .ref 74, .ref 75, .ref 76, .ref 77, .ref 78, fI w'_963, .ref 79, .ref 80, .ref 81, .ref 82, .ref 83, .ref 84, .ref 85, fJ (f 32), fJ (f 33), .ref 86, .ref 87, fI (f 36), .ref 88, .ref 89, .ref 90, .ref 91, .ref 92, .ref 93])) := e_963_66
  have g_963_77 : cE h_963 77 (.inl (.int, fA gt'_963)) := e_963_77
  have g_963_78 : cE h_963 78 (.inl (.int, fA gd'_963)) := e_963_78
  have g_963_79 : cE h_963 79 (.inl (.long, fL xs'_963)) := e_963_79
  have g_963_80 : cE h_963 80 (.inl (.long, fL ys'_963)) := e_963_80
  have g_963_81 : cE h_963 81 (.inl (.long, fL r1'_963)) := e_963_81
  have g_963_82 : cE h_963 82 (.inl (.long, fL r2'_963)) := e_963_82
  refine ik_Wk 0 (pc' := 99) (loc' := [some (.ref 66), some (fI p), some (fI 3), some (fI pa), some (fI fa), some (fI pb), some (fI fb), some (fI 2), some (fI 0)]) (st' := [fI (mr_w (mf_cm (fun x => mx_w cn go ch s x) (pl - 1) ka (p + 2)) 0 (mf_cm (fun x => mx_w cn go ch s x) (pl - 1) kb (p + 0)) 0 0), fI 6, .ref 83]) (h' := h_963) (cl' := 0) (sl' := 0) rfl ?_
  have wb_963 : 0 ≤ mr_w (mf_cm (fun x => mx_w cn go ch s x) (pl - 1) ka (p + 2)) 0 (mf_cm (fun x => mx_w cn go ch s x) (pl - 1) kb (p + 0)) 0 0 ∧ mr_w (mf_cm (fun x => mx_w cn go ch s x) (pl - 1) ka (p + 2)) 0 (mf_cm (fun x => mx_w cn go ch s x) (pl - 1) kb (p + 0)) 0 0 ≤ 1000000 := mr_w_b (mr_ok_cm (W := (fun x => mx_w cn go ch s x)) (k := ka) q4 (show 0 ≤ p + 2 ∧ p + 2 < pl - 1 by omega)) (mr_ok_cm (W := (fun x => mx_w cn go ch s x)) (k := kb) q4 (show 0 ≤ p + 0 ∧ p + 0 < pl - 1 by omega)) (by decide) (by decide) 0
  refine fw_si rfl (by decide) ?_
  refine fx_idiv rfl (by omega) (by omega) (by omega) (by omega) ?_
  refine fw_i2l rfl (by omega) (by omega) ?_
  have hl19 : (((((((fr.set (0 : Int).toNat ((mr_w (mf_cm (fun x => mx_w cn go ch s x) (pl - 1) ka (p + 0)) 0 (mf_cm (fun x => mx_w cn go ch s x) (pl - 1) kb (p + 0)) 0 0) / 1000)).set (1 : Int).toNat ((mr_w (mf_cm (fun x => mx_w cn go ch s x) (pl - 1) ka (p + 0)) 0 (mf_cm (fun x => mx_w cn go ch s x) (pl - 1) kb (p + 1)) 0 0) / 1000)).set (2 : Int).toNat ((mr_w (mf_cm (fun x => mx_w cn go ch s x) (pl - 1) ka (p + 0)) 0 (mf_cm (fun x => mx_w cn go ch s x) (pl - 1) kb (p + 2)) 0 0) / 1000)).set (3 : Int).toNat ((mr_w (mf_cm (fun x => mx_w cn go ch s x) (pl - 1) ka (p + 1)) 0 (mf_cm (fun x => mx_w cn go ch s x) (pl - 1) kb (p + 0)) 0 0) / 1000)).set (4 : Int).toNat ((mr_w (mf_cm (fun x => mx_w cn go ch s x) (pl - 1) ka (p + 1)) 0 (mf_cm (fun x => mx_w cn go ch s x) (pl - 1) kb (p + 1)) 0 0) / 1000)).set (5 : Int).toNat ((mr_w (mf_cm (fun x => mx_w cn go ch s x) (pl - 1) ka (p + 1)) 0 (mf_cm (fun x => mx_w cn go ch s x) (pl - 1) kb (p + 2)) 0 0) / 1000)).set (6 : Int).toNat ((mr_w (mf_cm (fun x => mx_w cn go ch s x) (pl - 1) ka (p + 2)) 0 (mf_cm (fun x => mx_w cn go ch s x) (pl - 1) kb (p + 0)) 0 0) / 1000)).length = 9 := (List.length_set ..).trans hl15
  refine fx_las rfl g_963_83 (by omega) (by omega) (by omega) ?_
  intro h_964 e_964 f_964 l_964
  have k_964 := l_964.trans k_963
  have fr_964 := hfr_w fr_963 f_964 l_964 (by decide)
  have g_964_66 := (f_964 66 (by decide)).trans g_963_66
  have g_964_67 := (f_964 67 (by decide)).trans g_963_67
  have g_964_68 := (f_964 68 (by decide)).trans g_963_68
  have g_964_69 := (f_964 69 (by decide)).trans g_963_69
  have g_964_77 := (f_964 77 (by decide)).trans g_963_77
  have g_964_78 := (f_964 78 (by decide)).trans g_963_78
  have g_964_79 := (f_964 79 (by decide)).trans g_963_79
  have g_964_80 := (f_964 80 (by decide)).trans g_963_80
  have g_964_70 := (f_964 70 (by decide)).trans g_963_70
  have g_964_81 := (f_964 81 (by decide)).trans g_963_81
  have g_964_82 := (f_964 82 (by decide)).trans g_963_82
  have g_964_83 : cE h_964 83 (.inl (.long, fL (((((((fr.set (0 : Int).toNat ((mr_w (mf_cm (fun x => mx_w cn go ch s x) (pl - 1) ka (p + 0)) 0 (mf_cm (fun x => mx_w cn go ch s x) (pl - 1) kb (p + 0)) 0 0) / 1000)).set (1 : Int).toNat ((mr_w (mf_cm (fun x => mx_w cn go ch s x) (pl - 1) ka (p + 0)) 0 (mf_cm (fun x => mx_w cn go ch s x) (pl - 1) kb (p + 1)) 0 0) / 1000)).set (2 : Int).toNat ((mr_w (mf_cm (fun x => mx_w cn go ch s x) (pl - 1) ka (p + 0)) 0 (mf_cm (fun x => mx_w cn go ch s x) (pl - 1) kb (p + 2)) 0 0) / 1000)).set (3 : Int).toNat ((mr_w (mf_cm (fun x => mx_w cn go ch s x) (pl - 1) ka (p + 1)) 0 (mf_cm (fun x => mx_w cn go ch s x) (pl - 1) kb (p + 0)) 0 0) / 1000)).set (4 : Int).toNat ((mr_w (mf_cm (fun x => mx_w cn go ch s x) (pl - 1) ka (p + 1)) 0 (mf_cm (fun x => mx_w cn go ch s x) (pl - 1) kb (p + 1)) 0 0) / 1000)).set (5 : Int).toNat ((mr_w (mf_cm (fun x => mx_w cn go ch s x) (pl - 1) ka (p + 1)) 0 (mf_cm (fun x => mx_w cn go ch s x) (pl - 1) kb (p + 2)) 0 0) / 1000)).set (6 : Int).toNat ((mr_w (mf_cm (fun x => mx_w cn go ch s x) (pl - 1) ka (p + 2)) 0 (mf_cm (fun x => mx_w cn go ch s x) (pl - 1) kb (p + 0)) 0 0) / 1000)))) := e_964
  refine fw_inc (a := 0) (loc' := [some (.ref 66), some (fI p), some (fI 3), some (fI pa), some (fI fa), some (fI pb), some (fI fb), some (fI 2), some (fI 1)]) rfl rfl (Nat.le_of_ble_eq_true rfl) rfl ?_
  refine ik_Wk 3 (pc' := 60) (loc' := [some (.ref 66), some (fI p), some (fI 3), some (fI pa), some (fI fa), some (fI pb), some (fI fb), some (fI 2), some (fI 1)]) (st' := [fI 3, fI 1]) (h' := h_964) (cl' := 0) (sl' := 0) rfl ?_
  refine fw_ic_ge rfl rfl (by omega) (by omega) (by omega) (by omega) (fun hc20 => absurd hc20 (by omega)) (fun hc20 => ?_)
  refine ik_Wk 1 (pc' := 64) (loc' := [some (.ref 66), some (fI p), some (fI 3), some (fI pa), some (fI fa), some (fI pb), some (fI fb), some (fI 2), some (fI 1)]) (st' := [.ref 66]) (h' := h_964) (cl' := 0) (sl' := 0) rfl ?_
  refine fw_gf rfl rfl g_964_66 rfl ?_
  refine ik_Wk 3 (pc' := 71) (loc' := [some (.ref 66), some (fI p), some (fI 3), some (fI pa), some (fI fa), some (fI pb), some (fI fb), some (fI 2), some (fI 1)]) (st' := [fI 2, fI p, fI 1, .ref 70]) (h' := h_964) (cl' := 0) (sl' := 0) rfl ?_
  refine fw_add rfl ?_
  refine fx_ias (z := 1) rfl g_964_70 (by decide) (Nat.le_of_ble_eq_true rfl) (by decide) ?_
  intro h_965 e_965 f_965 l_965
  have k_965 := l_965.trans k_964
  have fr_965 := hfr_w fr_964 f_965 l_965 (by decide)
  have g_965_66 := (f_965 66 (by decide)).trans g_964_66
  have g_965_67 := (f_965 67 (by decide)).trans g_964_67
  have g_965_68 := (f_965 68 (by decide)).trans g_964_68
  have g_965_69 := (f_965 69 (by decide)).trans g_964_69
  have g_965_77 := (f_965 77 (by decide)).trans g_964_77
  have g_965_78 := (f_965 78 (by decide)).trans g_964_78
  have g_965_79 := (f_965 79 (by decide)).trans g_964_79
  have g_965_80 := (f_965 80 (by decide)).trans g_964_80
  have g_965_81 := (f_965 81 (by decide)).trans g_964_81
  have g_965_82 := (f_965 82 (by decide)).trans g_964_82
  have g_965_83 := (f_965 83 (by decide)).trans g_964_83
  have g_965_70 : cE h_965 70 (.inl (.int, fA [ka, p + 2, 0, kb, p + 0, 0])) := e_965
  refine ik_Wk 1 (pc' := 74) (loc' := [some (.ref 66), some (fI p), some (fI 3), some (fI pa), some (fI fa), some (fI pb), some (fI fb), some (fI 2), some (fI 1)]) (st' := [.ref 66]) (h' := h_965) (cl' := 0) (sl' := 0) rfl ?_
  refine fw_gf rfl rfl g_965_66 rfl ?_
  refine ik_Wk 3 (pc' := 81) (loc' := [some (.ref 66), some (fI p), some (fI 3), some (fI pa), some (fI fa), some (fI pb), some (fI fb), some (fI 2), some (fI 1)]) (st' := [fI 1, fI p, fI 4, .ref 70]) (h' := h_965) (cl' := 0) (sl' := 0) rfl ?_
  refine fw_add rfl ?_
  refine fx_ias (z := 4) rfl g_965_70 (by decide) (Nat.le_of_ble_eq_true rfl) (by decide) ?_
  intro h_966 e_966 f_966 l_966
  have k_966 := l_966.trans k_965
  have fr_966 := hfr_w fr_965 f_966 l_966 (by decide)
  have g_966_66 := (f_966 66 (by decide)).trans g_965_66
  have g_966_67 := (f_966 67 (by decide)).trans g_965_67
  have g_966_68 := (f_966 68 (by decide)).trans g_965_68
  have g_966_69 := (f_966 69 (by decide)).trans g_965_69
  have g_966_77 := (f_966 77 (by decide)).trans g_965_77
  have g_966_78 := (f_966 78 (by decide)).trans g_965_78
  have g_966_79 := (f_966 79 (by decide)).trans g_965_79
  have g_966_80 := (f_966 80 (by decide)).trans g_965_80
  have g_966_81 := (f_966 81 (by decide)).trans g_965_81
  have g_966_82 := (f_966 82 (by decide)).trans g_965_82
  have g_966_83 := (f_966 83 (by decide)).trans g_965_83
  have g_966_70 : cE h_966 70 (.inl (.int, fA [ka, p + 2, 0, kb, p + 1, 0])) := e_966
  refine ik_Wk 1 (pc' := 84) (loc' := [some (.ref 66), some (fI p), some (fI 3), some (fI pa), some (fI fa), some (fI pb), some (fI fb), some (fI 2), some (fI 1)]) (st' := [.ref 66]) (h' := h_966) (cl' := 0) (sl' := 0) rfl ?_
  refine fw_gf rfl rfl g_966_66 rfl ?_
  refine ik_Wk 2 (pc' := 90) (loc' := [some (.ref 66), some (fI p), some (fI 3), some (fI pa), some (fI fa), some (fI pb), some (fI fb), some (fI 2), some (fI 1)]) (st' := [fI 2, fI 3, .ref 83]) (h' := h_966) (cl' := 0) (sl' := 0) rfl ?_
  refine fw_mul rfl ?_
  refine ik_Wk 1 (pc' := 93) (loc' := [some (.ref 66), some (fI p), some (fI 3), some (fI pa), some (fI fa), some (fI pb), some (fI fb), some (fI 2), some (fI 1)]) (st' := [fI 1, fI 6, .ref 83]) (h' := h_966) (cl' := 0) (sl' := 0) rfl ?_
  refine fw_add rfl ?_
  refine ik_Wk 2 (pc' := 96) (loc' := [some (.ref 66), some (fI p), some (fI 3), some (fI pa), some (fI fa), some (fI pb), some (fI fb), some (fI 2), some (fI 1)]) (st' := [fI 0, .ref 66, fI 7, .ref 83]) (h' := h_966) (cl' := 0) (sl' := 0) rfl ?_
  refine fw_call 169 2 0 [.ref 66, fI 0] [fI 7, .ref 83] rfl rfl rfl (by decide) rfl rfl (fw_rec k_966 rfl g_966_66 rfl (by decide)) (cr_laterOf (pl := pl) (f := fun j => ([0, 0, 0, 0, 0, 0, 0, (f 7), (f 8), 0, (f 10), (f 11), (f 12), (f 13), (f 14), (f 15), (f 16), (f 17), 0, 0, 0, 0, 0, 0, w'_963, 0, 0, 0, 0, 0, 0, 0, (f 32), (f 33), 0, 0, (f 36), 0, 0, 0, 0, 0, 0] : List Int).getD j 0) (s := s) (cn := cn) (go := go) (ch := ch) (gt := gt'_963) (gd := gd'_963) (xs := xs'_963) (ys := ys'_963) (ka := ka) (pa := p + 2) (fa := 0) (kb := kb) (pb := p + 1) (fb := 0) (r1 := r1'_963) (r2 := r2'_963) (wh := 0) (by omega) (by omega) q2 q3 q4 (by omega) (by omega) (by omega) (by omega) (by omega) (by omega) (by omega) g_966_66 g_966_67 n67 g_966_68 n68 g_966_69 n69 g_966_77 m_963_77 g_966_78 m_963_78 g_966_79 m_963_79 g_966_80 m_963_80 g_966_70 g_966_81 m_963_81 g_966_82 m_963_82 k_966) ?_
  rintro _ h_967 ⟨w'_967, gt'_967, gd'_967, xs'_967, ys'_967, r1'_967, r2'_967, rfl, e_967_66, e_967_77, m_967_77, e_967_78, m_967_78, e_967_79, m_967_79, e_967_80, m_967_80, e_967_81, m_967_81, e_967_82, m_967_82, F_967⟩
  have k_967 := F_967.1.trans k_966
  have fr_967 := hfr_c fr_966 F_967 (by decide)
  have g_967_67 := (F_967.2 67 (by decide +kernel)).trans g_966_67
  have g_967_68 := (F_967.2 68 (by decide +kernel)).trans g_966_68
  have g_967_69 := (F_967.2 69 (by decide +kernel)).trans g_966_69
  have g_967_70 := (F_967.2 70 (by decide +kernel)).trans g_966_70
  have g_967_83 := (F_967.2 83 (by decide +kernel)).trans g_966_83
  have g_967_66 : cE h_967 66 (.inr (10, [fI pl, .ref 67, .ref 68, .ref 69, fI ((s : Nat) : Int), .ref 70, .ref 71, fI (f 7), fI (f 8), .ref 72, fI (f 10), fI (f 11), fI (f 12), fJ (f 13), fI (f 14), fI (f 15), fI (f 16), fI (f 17), .ref 73, .ref 74, .ref 75, .ref 76, .ref 77, .ref 78, fI w'_967, .ref 79, .ref 80, .ref 81, .ref 82, .ref 83, .ref 84, .ref 85, fJ (f 32), fJ (f 33), .ref 86, .ref 87, fI (f 36), .ref 88, .ref 89, .ref 90, .ref 91, .ref 92, .ref 93])) := e_967_66
  have g_967_77 : cE h_967 77 (.inl (.int, fA gt'_967)) := e_967_77
  have g_967_78 : cE h_967 78 (.inl (.int, fA gd'_967)) := e_967_78
  have g_967_79 : cE h_967 79 (.inl (.long, fL xs'_967)) := e_967_79
  have g_967_80 : cE h_967 80 (.inl (.long, fL ys'_967)) := e_967_80
  have g_967_81 : cE h_967 81 (.inl (.long, fL r1'_967)) := e_967_81
  have g_967_82 : cE h_967 82 (.inl (.long, fL r2'_967)) := e_967_82
  refine ik_Wk 0 (pc' := 99) (loc' := [some (.ref 66), some (fI p), some (fI 3), some (fI pa), some (fI fa), some (fI pb), some (fI fb), some (fI 2), some (fI 1)]) (st' := [fI (mr_w (mf_cm (fun x => mx_w cn go ch s x) (pl - 1) ka (p + 2)) 0 (mf_cm (fun x => mx_w cn go ch s x) (pl - 1) kb (p + 1)) 0 0), fI 7, .ref 83]) (h' := h_967) (cl' := 0) (sl' := 0) rfl ?_
  have wb_967 : 0 ≤ mr_w (mf_cm (fun x => mx_w cn go ch s x) (pl - 1) ka (p + 2)) 0 (mf_cm (fun x => mx_w cn go ch s x) (pl - 1) kb (p + 1)) 0 0 ∧ mr_w (mf_cm (fun x => mx_w cn go ch s x) (pl - 1) ka (p + 2)) 0 (mf_cm (fun x => mx_w cn go ch s x) (pl - 1) kb (p + 1)) 0 0 ≤ 1000000 := mr_w_b (mr_ok_cm (W := (fun x => mx_w cn go ch s x)) (k := ka) q4 (show 0 ≤ p + 2 ∧ p + 2 < pl - 1 by omega)) (mr_ok_cm (W := (fun x => mx_w cn go ch s x)) (k := kb) q4 (show 0 ≤ p + 1 ∧ p + 1 < pl - 1 by omega)) (by decide) (by decide) 0
  refine fw_si rfl (by decide) ?_
  refine fx_idiv rfl (by omega) (by omega) (by omega) (by omega) ?_
  refine fw_i2l rfl (by omega) (by omega) ?_
  have hl21 : ((((((((fr.set (0 : Int).toNat ((mr_w (mf_cm (fun x => mx_w cn go ch s x) (pl - 1) ka (p + 0)) 0 (mf_cm (fun x => mx_w cn go ch s x) (pl - 1) kb (p + 0)) 0 0) / 1000)).set (1 : Int).toNat ((mr_w (mf_cm (fun x => mx_w cn go ch s x) (pl - 1) ka (p + 0)) 0 (mf_cm (fun x => mx_w cn go ch s x) (pl - 1) kb (p + 1)) 0 0) / 1000)).set (2 : Int).toNat ((mr_w (mf_cm (fun x => mx_w cn go ch s x) (pl - 1) ka (p + 0)) 0 (mf_cm (fun x => mx_w cn go ch s x) (pl - 1) kb (p + 2)) 0 0) / 1000)).set (3 : Int).toNat ((mr_w (mf_cm (fun x => mx_w cn go ch s x) (pl - 1) ka (p + 1)) 0 (mf_cm (fun x => mx_w cn go ch s x) (pl - 1) kb (p + 0)) 0 0) / 1000)).set (4 : Int).toNat ((mr_w (mf_cm (fun x => mx_w cn go ch s x) (pl - 1) ka (p + 1)) 0 (mf_cm (fun x => mx_w cn go ch s x) (pl - 1) kb (p + 1)) 0 0) / 1000)).set (5 : Int).toNat ((mr_w (mf_cm (fun x => mx_w cn go ch s x) (pl - 1) ka (p + 1)) 0 (mf_cm (fun x => mx_w cn go ch s x) (pl - 1) kb (p + 2)) 0 0) / 1000)).set (6 : Int).toNat ((mr_w (mf_cm (fun x => mx_w cn go ch s x) (pl - 1) ka (p + 2)) 0 (mf_cm (fun x => mx_w cn go ch s x) (pl - 1) kb (p + 0)) 0 0) / 1000)).set (7 : Int).toNat ((mr_w (mf_cm (fun x => mx_w cn go ch s x) (pl - 1) ka (p + 2)) 0 (mf_cm (fun x => mx_w cn go ch s x) (pl - 1) kb (p + 1)) 0 0) / 1000)).length = 9 := (List.length_set ..).trans hl19
  refine fx_las rfl g_967_83 (by omega) (by omega) (by omega) ?_
  intro h_968 e_968 f_968 l_968
  have k_968 := l_968.trans k_967
  have fr_968 := hfr_w fr_967 f_968 l_968 (by decide)
  have g_968_66 := (f_968 66 (by decide)).trans g_967_66
  have g_968_67 := (f_968 67 (by decide)).trans g_967_67
  have g_968_68 := (f_968 68 (by decide)).trans g_967_68
  have g_968_69 := (f_968 69 (by decide)).trans g_967_69
  have g_968_77 := (f_968 77 (by decide)).trans g_967_77
  have g_968_78 := (f_968 78 (by decide)).trans g_967_78
  have g_968_79 := (f_968 79 (by decide)).trans g_967_79
  have g_968_80 := (f_968 80 (by decide)).trans g_967_80
  have g_968_70 := (f_968 70 (by decide)).trans g_967_70
  have g_968_81 := (f_968 81 (by decide)).trans g_967_81
  have g_968_82 := (f_968 82 (by decide)).trans g_967_82
  have g_968_83 : cE h_968 83 (.inl (.long, fL ((((((((fr.set (0 : Int).toNat ((mr_w (mf_cm (fun x => mx_w cn go ch s x) (pl - 1) ka (p + 0)) 0 (mf_cm (fun x => mx_w cn go ch s x) (pl - 1) kb (p + 0)) 0 0) / 1000)).set (1 : Int).toNat ((mr_w (mf_cm (fun x => mx_w cn go ch s x) (pl - 1) ka (p + 0)) 0 (mf_cm (fun x => mx_w cn go ch s x) (pl - 1) kb (p + 1)) 0 0) / 1000)).set (2 : Int).toNat ((mr_w (mf_cm (fun x => mx_w cn go ch s x) (pl - 1) ka (p + 0)) 0 (mf_cm (fun x => mx_w cn go ch s x) (pl - 1) kb (p + 2)) 0 0) / 1000)).set (3 : Int).toNat ((mr_w (mf_cm (fun x => mx_w cn go ch s x) (pl - 1) ka (p + 1)) 0 (mf_cm (fun x => mx_w cn go ch s x) (pl - 1) kb (p + 0)) 0 0) / 1000)).set (4 : Int).toNat ((mr_w (mf_cm (fun x => mx_w cn go ch s x) (pl - 1) ka (p + 1)) 0 (mf_cm (fun x => mx_w cn go ch s x) (pl - 1) kb (p + 1)) 0 0) / 1000)).set (5 : Int).toNat ((mr_w (mf_cm (fun x => mx_w cn go ch s x) (pl - 1) ka (p + 1)) 0 (mf_cm (fun x => mx_w cn go ch s x) (pl - 1) kb (p + 2)) 0 0) / 1000)).set (6 : Int).toNat ((mr_w (mf_cm (fun x => mx_w cn go ch s x) (pl - 1) ka (p + 2)) 0 (mf_cm (fun x => mx_w cn go ch s x) (pl - 1) kb (p + 0)) 0 0) / 1000)).set (7 : Int).toNat ((mr_w (mf_cm (fun x => mx_w cn go ch s x) (pl - 1) ka (p + 2)) 0 (mf_cm (fun x => mx_w cn go ch s x) (pl - 1) kb (p + 1)) 0 0) / 1000)))) := e_968
  refine fw_inc (a := 1) (loc' := [some (.ref 66), some (fI p), some (fI 3), some (fI pa), some (fI fa), some (fI pb), some (fI fb), some (fI 2), some (fI 2)]) rfl rfl (Nat.le_of_ble_eq_true rfl) rfl ?_
  refine ik_Wk 3 (pc' := 60) (loc' := [some (.ref 66), some (fI p), some (fI 3), some (fI pa), some (fI fa), some (fI pb), some (fI fb), some (fI 2), some (fI 2)]) (st' := [fI 3, fI 2]) (h' := h_968) (cl' := 0) (sl' := 0) rfl ?_
  refine fw_ic_ge rfl rfl (by omega) (by omega) (by omega) (by omega) (fun hc22 => absurd hc22 (by omega)) (fun hc22 => ?_)
  refine ik_Wk 1 (pc' := 64) (loc' := [some (.ref 66), some (fI p), some (fI 3), some (fI pa), some (fI fa), some (fI pb), some (fI fb), some (fI 2), some (fI 2)]) (st' := [.ref 66]) (h' := h_968) (cl' := 0) (sl' := 0) rfl ?_
  refine fw_gf rfl rfl g_968_66 rfl ?_
  refine ik_Wk 3 (pc' := 71) (loc' := [some (.ref 66), some (fI p), some (fI 3), some (fI pa), some (fI fa), some (fI pb), some (fI fb), some (fI 2), some (fI 2)]) (st' := [fI 2, fI p, fI 1, .ref 70]) (h' := h_968) (cl' := 0) (sl' := 0) rfl ?_
  refine fw_add rfl ?_
  refine fx_ias (z := 1) rfl g_968_70 (by decide) (Nat.le_of_ble_eq_true rfl) (by decide) ?_
  intro h_969 e_969 f_969 l_969
  have k_969 := l_969.trans k_968
  have fr_969 := hfr_w fr_968 f_969 l_969 (by decide)
  have g_969_66 := (f_969 66 (by decide)).trans g_968_66
  have g_969_67 := (f_969 67 (by decide)).trans g_968_67
  have g_969_68 := (f_969 68 (by decide)).trans g_968_68
  have g_969_69 := (f_969 69 (by decide)).trans g_968_69
  have g_969_77 := (f_969 77 (by decide)).trans g_968_77
  have g_969_78 := (f_969 78 (by decide)).trans g_968_78
  have g_969_79 := (f_969 79 (by decide)).trans g_968_79
  have g_969_80 := (f_969 80 (by decide)).trans g_968_80
  have g_969_81 := (f_969 81 (by decide)).trans g_968_81
  have g_969_82 := (f_969 82 (by decide)).trans g_968_82
  have g_969_83 := (f_969 83 (by decide)).trans g_968_83
  have g_969_70 : cE h_969 70 (.inl (.int, fA [ka, p + 2, 0, kb, p + 1, 0])) := e_969
  refine ik_Wk 1 (pc' := 74) (loc' := [some (.ref 66), some (fI p), some (fI 3), some (fI pa), some (fI fa), some (fI pb), some (fI fb), some (fI 2), some (fI 2)]) (st' := [.ref 66]) (h' := h_969) (cl' := 0) (sl' := 0) rfl ?_
  refine fw_gf rfl rfl g_969_66 rfl ?_
  refine ik_Wk 3 (pc' := 81) (loc' := [some (.ref 66), some (fI p), some (fI 3), some (fI pa), some (fI fa), some (fI pb), some (fI fb), some (fI 2), some (fI 2)]) (st' := [fI 2, fI p, fI 4, .ref 70]) (h' := h_969) (cl' := 0) (sl' := 0) rfl ?_
  refine fw_add rfl ?_
  refine fx_ias (z := 4) rfl g_969_70 (by decide) (Nat.le_of_ble_eq_true rfl) (by decide) ?_
  intro h_970 e_970 f_970 l_970
  have k_970 := l_970.trans k_969
  have fr_970 := hfr_w fr_969 f_970 l_970 (by decide)
  have g_970_66 := (f_970 66 (by decide)).trans g_969_66
  have g_970_67 := (f_970 67 (by decide)).trans g_969_67
  have g_970_68 := (f_970 68 (by decide)).trans g_969_68
  have g_970_69 := (f_970 69 (by decide)).trans g_969_69
  have g_970_77 := (f_970 77 (by decide)).trans g_969_77
  have g_970_78 := (f_970 78 (by decide)).trans g_969_78
  have g_970_79 := (f_970 79 (by decide)).trans g_969_79
  have g_970_80 := (f_970 80 (by decide)).trans g_969_80
  have g_970_81 := (f_970 81 (by decide)).trans g_969_81
  have g_970_82 := (f_970 82 (by decide)).trans g_969_82
  have g_970_83 := (f_970 83 (by decide)).trans g_969_83
  have g_970_70 : cE h_970 70 (.inl (.int, fA [ka, p + 2, 0, kb, p + 2, 0])) := e_970
  refine ik_Wk 1 (pc' := 84) (loc' := [some (.ref 66), some (fI p), some (fI 3), some (fI pa), some (fI fa), some (fI pb), some (fI fb), some (fI 2), some (fI 2)]) (st' := [.ref 66]) (h' := h_970) (cl' := 0) (sl' := 0) rfl ?_
  refine fw_gf rfl rfl g_970_66 rfl ?_
  refine ik_Wk 2 (pc' := 90) (loc' := [some (.ref 66), some (fI p), some (fI 3), some (fI pa), some (fI fa), some (fI pb), some (fI fb), some (fI 2), some (fI 2)]) (st' := [fI 2, fI 3, .ref 83]) (h' := h_970) (cl' := 0) (sl' := 0) rfl ?_
  refine fw_mul rfl ?_
  refine ik_Wk 1 (pc' := 93) (loc' := [some (.ref 66), some (fI p), some (fI 3), some (fI pa), some (fI fa), some (fI pb), some (fI fb), some (fI 2), some (fI 2)]) (st' := [fI 2, fI 6, .ref 83]) (h' := h_970) (cl' := 0) (sl' := 0) rfl ?_
  refine fw_add rfl ?_
  refine ik_Wk 2 (pc' := 96) (loc' := [some (.ref 66), some (fI p), some (fI 3), some (fI pa), some (fI fa), some (fI pb), some (fI fb), some (fI 2), some (fI 2)]) (st' := [fI 0, .ref 66, fI 8, .ref 83]) (h' := h_970) (cl' := 0) (sl' := 0) rfl ?_
  refine fw_call 169 2 0 [.ref 66, fI 0] [fI 8, .ref 83] rfl rfl rfl (by decide) rfl rfl (fw_rec k_970 rfl g_970_66 rfl (by decide)) (cr_laterOf (pl := pl) (f := fun j => ([0, 0, 0, 0, 0, 0, 0, (f 7), (f 8), 0, (f 10), (f 11), (f 12), (f 13), (f 14), (f 15), (f 16), (f 17), 0, 0, 0, 0, 0, 0, w'_967, 0, 0, 0, 0, 0, 0, 0, (f 32), (f 33), 0, 0, (f 36), 0, 0, 0, 0, 0, 0] : List Int).getD j 0) (s := s) (cn := cn) (go := go) (ch := ch) (gt := gt'_967) (gd := gd'_967) (xs := xs'_967) (ys := ys'_967) (ka := ka) (pa := p + 2) (fa := 0) (kb := kb) (pb := p + 2) (fb := 0) (r1 := r1'_967) (r2 := r2'_967) (wh := 0) (by omega) (by omega) q2 q3 q4 (by omega) (by omega) (by omega) (by omega) (by omega) (by omega) (by omega) g_970_66 g_970_67 n67 g_970_68 n68 g_970_69 n69 g_970_77 m_967_77 g_970_78 m_967_78 g_970_79 m_967_79 g_970_80 m_967_80 g_970_70 g_970_81 m_967_81 g_970_82 m_967_82 k_970) ?_
  rintro _ h_971 ⟨w'_971, gt'_971, gd'_971, xs'_971, ys'_971, r1'_971, r2'_971, rfl, e_971_66, e_971_77, m_971_77, e_971_78, m_971_78, e_971_79, m_971_79, e_971_80, m_971_80, e_971_81, m_971_81, e_971_82, m_971_82, F_971⟩
  have k_971 := F_971.1.trans k_970
  have fr_971 := hfr_c fr_970 F_971 (by decide)
  have g_971_67 := (F_971.2 67 (by decide +kernel)).trans g_970_67
  have g_971_68 := (F_971.2 68 (by decide +kernel)).trans g_970_68
  have g_971_69 := (F_971.2 69 (by decide +kernel)).trans g_970_69
  have g_971_70 := (F_971.2 70 (by decide +kernel)).trans g_970_70
  have g_971_83 := (F_971.2 83 (by decide +kernel)).trans g_970_83
  have g_971_66 : cE h_971 66 (.inr (10, [fI pl, .ref 67, .ref 68, .ref 69, fI ((s : Nat) : Int), .ref 70, .ref 71, fI (f 7), fI (f 8), .ref 72, fI (f 10), fI (f 11), fI (f 12), fJ (f 13), fI (f 14), fI (f 15), fI (f 16), fI (f 17), .ref 73, .ref 74, .ref 75, .ref 76, .ref 77, .ref 78, fI w'_971, .ref 79, .ref 80, .ref 81, .ref 82, .ref 83, .ref 84, .ref 85, fJ (f 32), fJ (f 33), .ref 86, .ref 87, fI (f 36), .ref 88, .ref 89, .ref 90, .ref 91, .ref 92, .ref 93])) := e_971_66
  have g_971_77 : cE h_971 77 (.inl (.int, fA gt'_971)) := e_971_77
  have g_971_78 : cE h_971 78 (.inl (.int, fA gd'_971)) := e_971_78
  have g_971_79 : cE h_971 79 (.inl (.long, fL xs'_971)) := e_971_79
  have g_971_80 : cE h_971 80 (.inl (.long, fL ys'_971)) := e_971_80
  have g_971_81 : cE h_971 81 (.inl (.long, fL r1'_971)) := e_971_81
  have g_971_82 : cE h_971 82 (.inl (.long, fL r2'_971)) := e_971_82
  refine ik_Wk 0 (pc' := 99) (loc' := [some (.ref 66), some (fI p), some (fI 3), some (fI pa), some (fI fa), some (fI pb), some (fI fb), some (fI 2), some (fI 2)]) (st' := [fI (mr_w (mf_cm (fun x => mx_w cn go ch s x) (pl - 1) ka (p + 2)) 0 (mf_cm (fun x => mx_w cn go ch s x) (pl - 1) kb (p + 2)) 0 0), fI 8, .ref 83]) (h' := h_971) (cl' := 0) (sl' := 0) rfl ?_
  have wb_971 : 0 ≤ mr_w (mf_cm (fun x => mx_w cn go ch s x) (pl - 1) ka (p + 2)) 0 (mf_cm (fun x => mx_w cn go ch s x) (pl - 1) kb (p + 2)) 0 0 ∧ mr_w (mf_cm (fun x => mx_w cn go ch s x) (pl - 1) ka (p + 2)) 0 (mf_cm (fun x => mx_w cn go ch s x) (pl - 1) kb (p + 2)) 0 0 ≤ 1000000 := mr_w_b (mr_ok_cm (W := (fun x => mx_w cn go ch s x)) (k := ka) q4 (show 0 ≤ p + 2 ∧ p + 2 < pl - 1 by omega)) (mr_ok_cm (W := (fun x => mx_w cn go ch s x)) (k := kb) q4 (show 0 ≤ p + 2 ∧ p + 2 < pl - 1 by omega)) (by decide) (by decide) 0
  refine fw_si rfl (by decide) ?_
  refine fx_idiv rfl (by omega) (by omega) (by omega) (by omega) ?_
  refine fw_i2l rfl (by omega) (by omega) ?_
  have hl23 : (((((((((fr.set (0 : Int).toNat ((mr_w (mf_cm (fun x => mx_w cn go ch s x) (pl - 1) ka (p + 0)) 0 (mf_cm (fun x => mx_w cn go ch s x) (pl - 1) kb (p + 0)) 0 0) / 1000)).set (1 : Int).toNat ((mr_w (mf_cm (fun x => mx_w cn go ch s x) (pl - 1) ka (p + 0)) 0 (mf_cm (fun x => mx_w cn go ch s x) (pl - 1) kb (p + 1)) 0 0) / 1000)).set (2 : Int).toNat ((mr_w (mf_cm (fun x => mx_w cn go ch s x) (pl - 1) ka (p + 0)) 0 (mf_cm (fun x => mx_w cn go ch s x) (pl - 1) kb (p + 2)) 0 0) / 1000)).set (3 : Int).toNat ((mr_w (mf_cm (fun x => mx_w cn go ch s x) (pl - 1) ka (p + 1)) 0 (mf_cm (fun x => mx_w cn go ch s x) (pl - 1) kb (p + 0)) 0 0) / 1000)).set (4 : Int).toNat ((mr_w (mf_cm (fun x => mx_w cn go ch s x) (pl - 1) ka (p + 1)) 0 (mf_cm (fun x => mx_w cn go ch s x) (pl - 1) kb (p + 1)) 0 0) / 1000)).set (5 : Int).toNat ((mr_w (mf_cm (fun x => mx_w cn go ch s x) (pl - 1) ka (p + 1)) 0 (mf_cm (fun x => mx_w cn go ch s x) (pl - 1) kb (p + 2)) 0 0) / 1000)).set (6 : Int).toNat ((mr_w (mf_cm (fun x => mx_w cn go ch s x) (pl - 1) ka (p + 2)) 0 (mf_cm (fun x => mx_w cn go ch s x) (pl - 1) kb (p + 0)) 0 0) / 1000)).set (7 : Int).toNat ((mr_w (mf_cm (fun x => mx_w cn go ch s x) (pl - 1) ka (p + 2)) 0 (mf_cm (fun x => mx_w cn go ch s x) (pl - 1) kb (p + 1)) 0 0) / 1000)).set (8 : Int).toNat ((mr_w (mf_cm (fun x => mx_w cn go ch s x) (pl - 1) ka (p + 2)) 0 (mf_cm (fun x => mx_w cn go ch s x) (pl - 1) kb (p + 2)) 0 0) / 1000)).length = 9 := (List.length_set ..).trans hl21
  refine fx_las rfl g_971_83 (by omega) (by omega) (by omega) ?_
  intro h_972 e_972 f_972 l_972
  have k_972 := l_972.trans k_971
  have fr_972 := hfr_w fr_971 f_972 l_972 (by decide)
  have g_972_66 := (f_972 66 (by decide)).trans g_971_66
  have g_972_67 := (f_972 67 (by decide)).trans g_971_67
  have g_972_68 := (f_972 68 (by decide)).trans g_971_68
  have g_972_69 := (f_972 69 (by decide)).trans g_971_69
  have g_972_77 := (f_972 77 (by decide)).trans g_971_77
  have g_972_78 := (f_972 78 (by decide)).trans g_971_78
  have g_972_79 := (f_972 79 (by decide)).trans g_971_79
  have g_972_80 := (f_972 80 (by decide)).trans g_971_80
  have g_972_70 := (f_972 70 (by decide)).trans g_971_70
  have g_972_81 := (f_972 81 (by decide)).trans g_971_81
  have g_972_82 := (f_972 82 (by decide)).trans g_971_82
  have g_972_83 : cE h_972 83 (.inl (.long, fL (((((((((fr.set (0 : Int).toNat ((mr_w (mf_cm (fun x => mx_w cn go ch s x) (pl - 1) ka (p + 0)) 0 (mf_cm (fun x => mx_w cn go ch s x) (pl - 1) kb (p + 0)) 0 0) / 1000)).set (1 : Int).toNat ((mr_w (mf_cm (fun x => mx_w cn go ch s x) (pl - 1) ka (p + 0)) 0 (mf_cm (fun x => mx_w cn go ch s x) (pl - 1) kb (p + 1)) 0 0) / 1000)).set (2 : Int).toNat ((mr_w (mf_cm (fun x => mx_w cn go ch s x) (pl - 1) ka (p + 0)) 0 (mf_cm (fun x => mx_w cn go ch s x) (pl - 1) kb (p + 2)) 0 0) / 1000)).set (3 : Int).toNat ((mr_w (mf_cm (fun x => mx_w cn go ch s x) (pl - 1) ka (p + 1)) 0 (mf_cm (fun x => mx_w cn go ch s x) (pl - 1) kb (p + 0)) 0 0) / 1000)).set (4 : Int).toNat ((mr_w (mf_cm (fun x => mx_w cn go ch s x) (pl - 1) ka (p + 1)) 0 (mf_cm (fun x => mx_w cn go ch s x) (pl - 1) kb (p + 1)) 0 0) / 1000)).set (5 : Int).toNat ((mr_w (mf_cm (fun x => mx_w cn go ch s x) (pl - 1) ka (p + 1)) 0 (mf_cm (fun x => mx_w cn go ch s x) (pl - 1) kb (p + 2)) 0 0) / 1000)).set (6 : Int).toNat ((mr_w (mf_cm (fun x => mx_w cn go ch s x) (pl - 1) ka (p + 2)) 0 (mf_cm (fun x => mx_w cn go ch s x) (pl - 1) kb (p + 0)) 0 0) / 1000)).set (7 : Int).toNat ((mr_w (mf_cm (fun x => mx_w cn go ch s x) (pl - 1) ka (p + 2)) 0 (mf_cm (fun x => mx_w cn go ch s x) (pl - 1) kb (p + 1)) 0 0) / 1000)).set (8 : Int).toNat ((mr_w (mf_cm (fun x => mx_w cn go ch s x) (pl - 1) ka (p + 2)) 0 (mf_cm (fun x => mx_w cn go ch s x) (pl - 1) kb (p + 2)) 0 0) / 1000)))) := e_972
  refine fw_inc (a := 2) (loc' := [some (.ref 66), some (fI p), some (fI 3), some (fI pa), some (fI fa), some (fI pb), some (fI fb), some (fI 2), some (fI 3)]) rfl rfl (Nat.le_of_ble_eq_true rfl) rfl ?_
  refine ik_Wk 3 (pc' := 60) (loc' := [some (.ref 66), some (fI p), some (fI 3), some (fI pa), some (fI fa), some (fI pb), some (fI fb), some (fI 2), some (fI 3)]) (st' := [fI 3, fI 3]) (h' := h_972) (cl' := 0) (sl' := 0) rfl ?_
  refine fw_ic_ge rfl rfl (by omega) (by omega) (by omega) (by omega) (fun hc24 => ?_) (fun hc24 => absurd hc24 (by omega))
  refine fw_inc (a := 2) (loc' := [some (.ref 66), some (fI p), some (fI 3), some (fI pa), some (fI fa), some (fI pb), some (fI fb), some (fI 3), some (fI 3)]) rfl rfl (Nat.le_of_ble_eq_true rfl) rfl ?_
  refine ik_Wk 3 (pc' := 51) (loc' := [some (.ref 66), some (fI p), some (fI 3), some (fI pa), some (fI fa), some (fI pb), some (fI fb), some (fI 3), some (fI 3)]) (st' := [fI 3, fI 3]) (h' := h_972) (cl' := 0) (sl' := 0) rfl ?_
  refine fw_ic_ge rfl rfl (by omega) (by omega) (by omega) (by omega) (fun hc25 => ?_) (fun hc25 => absurd hc25 (by omega))
  refine ik_Wk 1 (pc' := 118) (loc' := [some (.ref 66), some (fI p), some (fI 3), some (fI pa), some (fI fa), some (fI pb), some (fI fb), some (fI 3), some (fI 3)]) (st' := [.ref 66]) (h' := h_972) (cl' := 0) (sl' := 0) rfl ?_
  refine fw_gf rfl rfl g_972_66 rfl ?_
  refine ik_Wk 2 (pc' := 123) (loc' := [some (.ref 66), some (fI p), some (fI 3), some (fI pa), some (fI fa), some (fI pb), some (fI fb), some (fI 3), some (fI 3)]) (st' := [fI pa, fI 1, .ref 70]) (h' := h_972) (cl' := 0) (sl' := 0) rfl ?_
  refine fx_ias (z := 1) rfl g_972_70 (by decide) (Nat.le_of_ble_eq_true rfl) (by decide) ?_
  intro h_973 e_973 f_973 l_973
  have k_973 := l_973.trans k_972
  have fr_973 := hfr_w fr_972 f_973 l_973 (by decide)
  have g_973_66 := (f_973 66 (by decide)).trans g_972_66
  have g_973_67 := (f_973 67 (by decide)).trans g_972_67
  have g_973_68 := (f_973 68 (by decide)).trans g_972_68
  have g_973_69 := (f_973 69 (by decide)).trans g_972_69
  have g_973_77 := (f_973 77 (by decide)).trans g_972_77
  have g_973_78 := (f_973 78 (by decide)).trans g_972_78
  have g_973_79 := (f_973 79 (by decide)).trans g_972_79
  have g_973_80 := (f_973 80 (by decide)).trans g_972_80
  have g_973_81 := (f_973 81 (by decide)).trans g_972_81
  have g_973_82 := (f_973 82 (by decide)).trans g_972_82
  have g_973_83 := (f_973 83 (by decide)).trans g_972_83
  have g_973_70 : cE h_973 70 (.inl (.int, fA [ka, pa, 0, kb, p + 2, 0])) := e_973
  refine ik_Wk 1 (pc' := 125) (loc' := [some (.ref 66), some (fI p), some (fI 3), some (fI pa), some (fI fa), some (fI pb), some (fI fb), some (fI 3), some (fI 3)]) (st' := [.ref 66]) (h' := h_973) (cl' := 0) (sl' := 0) rfl ?_
  refine fw_gf rfl rfl g_973_66 rfl ?_
  refine ik_Wk 2 (pc' := 131) (loc' := [some (.ref 66), some (fI p), some (fI 3), some (fI pa), some (fI fa), some (fI pb), some (fI fb), some (fI 3), some (fI 3)]) (st' := [fI fa, fI 2, .ref 70]) (h' := h_973) (cl' := 0) (sl' := 0) rfl ?_
  refine fx_ias (z := 2) rfl g_973_70 (by decide) (Nat.le_of_ble_eq_true rfl) (by decide) ?_
  intro h_974 e_974 f_974 l_974
  have k_974 := l_974.trans k_973
  have fr_974 := hfr_w fr_973 f_974 l_974 (by decide)
  have g_974_66 := (f_974 66 (by decide)).trans g_973_66
  have g_974_67 := (f_974 67 (by decide)).trans g_973_67
  have g_974_68 := (f_974 68 (by decide)).trans g_973_68
  have g_974_69 := (f_974 69 (by decide)).trans g_973_69
  have g_974_77 := (f_974 77 (by decide)).trans g_973_77
  have g_974_78 := (f_974 78 (by decide)).trans g_973_78
  have g_974_79 := (f_974 79 (by decide)).trans g_973_79
  have g_974_80 := (f_974 80 (by decide)).trans g_973_80
  have g_974_81 := (f_974 81 (by decide)).trans g_973_81
  have g_974_82 := (f_974 82 (by decide)).trans g_973_82
  have g_974_83 := (f_974 83 (by decide)).trans g_973_83
  have g_974_70 : cE h_974 70 (.inl (.int, fA [ka, pa, fa, kb, p + 2, 0])) := e_974
  refine ik_Wk 1 (pc' := 133) (loc' := [some (.ref 66), some (fI p), some (fI 3), some (fI pa), some (fI fa), some (fI pb), some (fI fb), some (fI 3), some (fI 3)]) (st' := [.ref 66]) (h' := h_974) (cl' := 0) (sl' := 0) rfl ?_
  refine fw_gf rfl rfl g_974_66 rfl ?_
  refine ik_Wk 2 (pc' := 139) (loc' := [some (.ref 66), some (fI p), some (fI 3), some (fI pa), some (fI fa), some (fI pb), some (fI fb), some (fI 3), some (fI 3)]) (st' := [fI pb, fI 4, .ref 70]) (h' := h_974) (cl' := 0) (sl' := 0) rfl ?_
  refine fx_ias (z := 4) rfl g_974_70 (by decide) (Nat.le_of_ble_eq_true rfl) (by decide) ?_
  intro h_975 e_975 f_975 l_975
  have k_975 := l_975.trans k_974
  have fr_975 := hfr_w fr_974 f_975 l_975 (by decide)
  have g_975_66 := (f_975 66 (by decide)).trans g_974_66
  have g_975_67 := (f_975 67 (by decide)).trans g_974_67
  have g_975_68 := (f_975 68 (by decide)).trans g_974_68
  have g_975_69 := (f_975 69 (by decide)).trans g_974_69
  have g_975_77 := (f_975 77 (by decide)).trans g_974_77
  have g_975_78 := (f_975 78 (by decide)).trans g_974_78
  have g_975_79 := (f_975 79 (by decide)).trans g_974_79
  have g_975_80 := (f_975 80 (by decide)).trans g_974_80
  have g_975_81 := (f_975 81 (by decide)).trans g_974_81
  have g_975_82 := (f_975 82 (by decide)).trans g_974_82
  have g_975_83 := (f_975 83 (by decide)).trans g_974_83
  have g_975_70 : cE h_975 70 (.inl (.int, fA [ka, pa, fa, kb, pb, 0])) := e_975
  refine ik_Wk 1 (pc' := 141) (loc' := [some (.ref 66), some (fI p), some (fI 3), some (fI pa), some (fI fa), some (fI pb), some (fI fb), some (fI 3), some (fI 3)]) (st' := [.ref 66]) (h' := h_975) (cl' := 0) (sl' := 0) rfl ?_
  refine fw_gf rfl rfl g_975_66 rfl ?_
  refine ik_Wk 2 (pc' := 147) (loc' := [some (.ref 66), some (fI p), some (fI 3), some (fI pa), some (fI fa), some (fI pb), some (fI fb), some (fI 3), some (fI 3)]) (st' := [fI fb, fI 5, .ref 70]) (h' := h_975) (cl' := 0) (sl' := 0) rfl ?_
  refine fx_ias (z := 5) rfl g_975_70 (by decide) (Nat.le_of_ble_eq_true rfl) (by decide) ?_
  intro h_976 e_976 f_976 l_976
  have k_976 := l_976.trans k_975
  have fr_976 := hfr_w fr_975 f_976 l_976 (by decide)
  have g_976_66 := (f_976 66 (by decide)).trans g_975_66
  have g_976_67 := (f_976 67 (by decide)).trans g_975_67
  have g_976_68 := (f_976 68 (by decide)).trans g_975_68
  have g_976_69 := (f_976 69 (by decide)).trans g_975_69
  have g_976_77 := (f_976 77 (by decide)).trans g_975_77
  have g_976_78 := (f_976 78 (by decide)).trans g_975_78
  have g_976_79 := (f_976 79 (by decide)).trans g_975_79
  have g_976_80 := (f_976 80 (by decide)).trans g_975_80
  have g_976_81 := (f_976 81 (by decide)).trans g_975_81
  have g_976_82 := (f_976 82 (by decide)).trans g_975_82
  have g_976_83 := (f_976 83 (by decide)).trans g_975_83
  have g_976_70 : cE h_976 70 (.inl (.int, fA [ka, pa, fa, kb, pb, fb])) := e_976
  exact ik_Wret rfl rfl ⟨_, _, rfl, rfl, rfl, rfl, ⟨w'_971, gt'_971, gd'_971, xs'_971, ys'_971, r1'_971, r2'_971, (((((((((fr.set (0 : Int).toNat ((mr_w (mf_cm (fun x => mx_w cn go ch s x) (pl - 1) ka (p + 0)) 0 (mf_cm (fun x => mx_w cn go ch s x) (pl - 1) kb (p + 0)) 0 0) / 1000)).set (1 : Int).toNat ((mr_w (mf_cm (fun x => mx_w cn go ch s x) (pl - 1) ka (p + 0)) 0 (mf_cm (fun x => mx_w cn go ch s x) (pl - 1) kb (p + 1)) 0 0) / 1000)).set (2 : Int).toNat ((mr_w (mf_cm (fun x => mx_w cn go ch s x) (pl - 1) ka (p + 0)) 0 (mf_cm (fun x => mx_w cn go ch s x) (pl - 1) kb (p + 2)) 0 0) / 1000)).set (3 : Int).toNat ((mr_w (mf_cm (fun x => mx_w cn go ch s x) (pl - 1) ka (p + 1)) 0 (mf_cm (fun x => mx_w cn go ch s x) (pl - 1) kb (p + 0)) 0 0) / 1000)).set (4 : Int).toNat ((mr_w (mf_cm (fun x => mx_w cn go ch s x) (pl - 1) ka (p + 1)) 0 (mf_cm (fun x => mx_w cn go ch s x) (pl - 1) kb (p + 1)) 0 0) / 1000)).set (5 : Int).toNat ((mr_w (mf_cm (fun x => mx_w cn go ch s x) (pl - 1) ka (p + 1)) 0 (mf_cm (fun x => mx_w cn go ch s x) (pl - 1) kb (p + 2)) 0 0) / 1000)).set (6 : Int).toNat ((mr_w (mf_cm (fun x => mx_w cn go ch s x) (pl - 1) ka (p + 2)) 0 (mf_cm (fun x => mx_w cn go ch s x) (pl - 1) kb (p + 0)) 0 0) / 1000)).set (7 : Int).toNat ((mr_w (mf_cm (fun x => mx_w cn go ch s x) (pl - 1) ka (p + 2)) 0 (mf_cm (fun x => mx_w cn go ch s x) (pl - 1) kb (p + 1)) 0 0) / 1000)).set (8 : Int).toNat ((mr_w (mf_cm (fun x => mx_w cn go ch s x) (pl - 1) ka (p + 2)) 0 (mf_cm (fun x => mx_w cn go ch s x) (pl - 1) kb (p + 2)) 0 0) / 1000)), rfl, g_976_66, g_976_77, m_971_77, g_976_78, m_971_78, g_976_79, m_971_79, g_976_80, m_971_80, g_976_81, m_971_81, g_976_82, m_971_82, g_976_70, g_976_83, hl23, fr_976⟩⟩
end
